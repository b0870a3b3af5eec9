section
-- ===== PART A: goes FIRST, ahead of the names: the tables' words, and 'selects' of the private methods out of them =====
/-- a private method of a class that the tables say can be made, by its rows of tables_1 -/
def lw_okq (q : MethodName × Nat) : Prop := (q.1.cls ≠ "java/lang/invoke/MethodHandle" ∧ q.1.cls ≠ "java/lang/invoke/VarHandle") ∧ Cond.instantiable q.1.cls q.2 ∈ tables_1 ∧ Cond.privateMethod q.1 ∈ tables_1 ∧ Cond.instanceMethod q.1 ∈ tables_1
theorem lw_p0 : lw_okq (⟨"PetitionBox$Petitions", "countBefore", "(I)I"⟩, 2) := ⟨⟨by decide +kernel, by decide +kernel⟩, List.mem_of_getElem? (i := 33) (by decide +kernel), List.mem_of_getElem? (i := 208) (by decide +kernel), List.mem_of_getElem? (i := 209) (by decide +kernel)⟩
theorem lw_p1 : lw_okq (⟨"PetitionBox$Petitions", "isBefore", "(II)Z"⟩, 2) := ⟨⟨by decide +kernel, by decide +kernel⟩, List.mem_of_getElem? (i := 33) (by decide +kernel), List.mem_of_getElem? (i := 212) (by decide +kernel), List.mem_of_getElem? (i := 213) (by decide +kernel)⟩
theorem lw_p2 : lw_okq (⟨"PetitionBox$Petitions", "kindOf", "(I)I"⟩, 2) := ⟨⟨by decide +kernel, by decide +kernel⟩, List.mem_of_getElem? (i := 33) (by decide +kernel), List.mem_of_getElem? (i := 216) (by decide +kernel), List.mem_of_getElem? (i := 217) (by decide +kernel)⟩
theorem lw_p3 : lw_okq (⟨"PetitionBox$OrderReader", "readSending", "()V"⟩, 9) := ⟨⟨by decide +kernel, by decide +kernel⟩, List.mem_of_getElem? (i := 124) (by decide +kernel), List.mem_of_getElem? (i := 257) (by decide +kernel), List.mem_of_getElem? (i := 258) (by decide +kernel)⟩
theorem lw_p4 : lw_okq (⟨"PetitionBox$OrderReader", "readDigit", "(I)I"⟩, 9) := ⟨⟨by decide +kernel, by decide +kernel⟩, List.mem_of_getElem? (i := 124) (by decide +kernel), List.mem_of_getElem? (i := 261) (by decide +kernel), List.mem_of_getElem? (i := 262) (by decide +kernel)⟩
theorem lw_p5 : lw_okq (⟨"PetitionBox$OrderReader", "readSign", "(I)V"⟩, 9) := ⟨⟨by decide +kernel, by decide +kernel⟩, List.mem_of_getElem? (i := 124) (by decide +kernel), List.mem_of_getElem? (i := 265) (by decide +kernel), List.mem_of_getElem? (i := 266) (by decide +kernel)⟩
theorem lw_p6 : lw_okq (⟨"PetitionBox$OrderReader", "readNumber", "(II)I"⟩, 9) := ⟨⟨by decide +kernel, by decide +kernel⟩, List.mem_of_getElem? (i := 124) (by decide +kernel), List.mem_of_getElem? (i := 269) (by decide +kernel), List.mem_of_getElem? (i := 270) (by decide +kernel)⟩
theorem lw_p7 : lw_okq (⟨"PetitionBox$OrderReader", "isDigitNext", "()Z"⟩, 9) := ⟨⟨by decide +kernel, by decide +kernel⟩, List.mem_of_getElem? (i := 124) (by decide +kernel), List.mem_of_getElem? (i := 273) (by decide +kernel), List.mem_of_getElem? (i := 274) (by decide +kernel)⟩
theorem lw_p8 : lw_okq (⟨"PetitionBox", "carryOutOrder", "()Z"⟩, 5) := ⟨⟨by decide +kernel, by decide +kernel⟩, List.mem_of_getElem? (i := 19) (by decide +kernel), List.mem_of_getElem? (i := 301) (by decide +kernel), List.mem_of_getElem? (i := 302) (by decide +kernel)⟩
theorem lw_p9 : lw_okq (⟨"PetitionBox$State", "quotaAllows", "(I)Z"⟩, 11) := ⟨⟨by decide +kernel, by decide +kernel⟩, List.mem_of_getElem? (i := 27) (by decide +kernel), List.mem_of_getElem? (i := 309) (by decide +kernel), List.mem_of_getElem? (i := 310) (by decide +kernel)⟩
theorem lw_p10 : lw_okq (⟨"PetitionBox$State", "bribeGivenBack", "(II)I"⟩, 11) := ⟨⟨by decide +kernel, by decide +kernel⟩, List.mem_of_getElem? (i := 27) (by decide +kernel), List.mem_of_getElem? (i := 346) (by decide +kernel), List.mem_of_getElem? (i := 347) (by decide +kernel)⟩
theorem lw_p11 : lw_okq (⟨"PetitionBox$State", "letOneTickPass", "()I"⟩, 11) := ⟨⟨by decide +kernel, by decide +kernel⟩, List.mem_of_getElem? (i := 27) (by decide +kernel), List.mem_of_getElem? (i := 367) (by decide +kernel), List.mem_of_getElem? (i := 368) (by decide +kernel)⟩
theorem lw_p12 : lw_okq (⟨"PetitionBox$State", "sumGivenBack", "()I"⟩, 11) := ⟨⟨by decide +kernel, by decide +kernel⟩, List.mem_of_getElem? (i := 27) (by decide +kernel), List.mem_of_getElem? (i := 389) (by decide +kernel), List.mem_of_getElem? (i := 390) (by decide +kernel)⟩
theorem lw_p13 : lw_okq (⟨"PetitionBox", "mixPetitions", "(J)J"⟩, 5) := ⟨⟨by decide +kernel, by decide +kernel⟩, List.mem_of_getElem? (i := 19) (by decide +kernel), List.mem_of_getElem? (i := 408) (by decide +kernel), List.mem_of_getElem? (i := 409) (by decide +kernel)⟩
theorem lw_p14 : lw_okq (⟨"PetitionBox", "mixLog", "(J)J"⟩, 5) := ⟨⟨by decide +kernel, by decide +kernel⟩, List.mem_of_getElem? (i := 19) (by decide +kernel), List.mem_of_getElem? (i := 416) (by decide +kernel), List.mem_of_getElem? (i := 417) (by decide +kernel)⟩
theorem lw_p15 : lw_okq (⟨"java/lang/Throwable", "fillInStackTrace", "(I)Ljava/lang/Throwable;"⟩, 6) := ⟨⟨by decide +kernel, by decide +kernel⟩, List.mem_of_getElem? (i := 472) (by decide +kernel), List.mem_of_getElem? (i := 470) (by decide +kernel), List.mem_of_getElem? (i := 471) (by decide +kernel)⟩
def lw_privs_1 : List (MethodName × Nat) := [(⟨"PetitionBox$Petitions", "countBefore", "(I)I"⟩, 2), (⟨"PetitionBox$Petitions", "isBefore", "(II)Z"⟩, 2), (⟨"PetitionBox$Petitions", "kindOf", "(I)I"⟩, 2), (⟨"PetitionBox$OrderReader", "readSending", "()V"⟩, 9), (⟨"PetitionBox$OrderReader", "readDigit", "(I)I"⟩, 9), (⟨"PetitionBox$OrderReader", "readSign", "(I)V"⟩, 9), (⟨"PetitionBox$OrderReader", "readNumber", "(II)I"⟩, 9), (⟨"PetitionBox$OrderReader", "isDigitNext", "()Z"⟩, 9), (⟨"PetitionBox", "carryOutOrder", "()Z"⟩, 5), (⟨"PetitionBox$State", "quotaAllows", "(I)Z"⟩, 11), (⟨"PetitionBox$State", "bribeGivenBack", "(II)I"⟩, 11), (⟨"PetitionBox$State", "letOneTickPass", "()I"⟩, 11), (⟨"PetitionBox$State", "sumGivenBack", "()I"⟩, 11), (⟨"PetitionBox", "mixPetitions", "(J)J"⟩, 5), (⟨"PetitionBox", "mixLog", "(J)J"⟩, 5), (⟨"java/lang/Throwable", "fillInStackTrace", "(I)Ljava/lang/Throwable;"⟩, 6)]
theorem lw_r1 : ∀ q ∈ lw_privs_1, lw_okq q := List.forall_mem_cons.mpr ⟨lw_p0, List.forall_mem_cons.mpr ⟨lw_p1, List.forall_mem_cons.mpr ⟨lw_p2, List.forall_mem_cons.mpr ⟨lw_p3, List.forall_mem_cons.mpr ⟨lw_p4, List.forall_mem_cons.mpr ⟨lw_p5, List.forall_mem_cons.mpr ⟨lw_p6, List.forall_mem_cons.mpr ⟨lw_p7, List.forall_mem_cons.mpr ⟨lw_p8, List.forall_mem_cons.mpr ⟨lw_p9, List.forall_mem_cons.mpr ⟨lw_p10, List.forall_mem_cons.mpr ⟨lw_p11, List.forall_mem_cons.mpr ⟨lw_p12, List.forall_mem_cons.mpr ⟨lw_p13, List.forall_mem_cons.mpr ⟨lw_p14, List.forall_mem_cons.mpr ⟨lw_p15, fun _ h => absurd h List.not_mem_nil⟩⟩⟩⟩⟩⟩⟩⟩⟩⟩⟩⟩⟩⟩⟩⟩
theorem lw_p16 : lw_okq (⟨"PetitionBox", "checkRoom", "(II)V"⟩, 5) := ⟨⟨by decide +kernel, by decide +kernel⟩, List.mem_of_getElem? (i := 19) (by decide +kernel), List.mem_of_getElem? (i := 546) (by decide +kernel), List.mem_of_getElem? (i := 547) (by decide +kernel)⟩
theorem lw_p17 : lw_okq (⟨"PetitionBox", "findRow", "(I)I"⟩, 5) := ⟨⟨by decide +kernel, by decide +kernel⟩, List.mem_of_getElem? (i := 19) (by decide +kernel), List.mem_of_getElem? (i := 588) (by decide +kernel), List.mem_of_getElem? (i := 589) (by decide +kernel)⟩
theorem lw_p18 : lw_okq (⟨"PetitionBoxModel", "fails", "(I)I"⟩, 10) := ⟨⟨by decide +kernel, by decide +kernel⟩, List.mem_of_getElem? (i := 734) (by decide +kernel), List.mem_of_getElem? (i := 782) (by decide +kernel), List.mem_of_getElem? (i := 783) (by decide +kernel)⟩
theorem lw_p19 : lw_okq (⟨"PetitionBoxModel", "sets", "(II)I"⟩, 10) := ⟨⟨by decide +kernel, by decide +kernel⟩, List.mem_of_getElem? (i := 734) (by decide +kernel), List.mem_of_getElem? (i := 786) (by decide +kernel), List.mem_of_getElem? (i := 787) (by decide +kernel)⟩
theorem lw_p20 : lw_okq (⟨"PetitionBoxModel", "keeps", "()V"⟩, 10) := ⟨⟨by decide +kernel, by decide +kernel⟩, List.mem_of_getElem? (i := 734) (by decide +kernel), List.mem_of_getElem? (i := 790) (by decide +kernel), List.mem_of_getElem? (i := 791) (by decide +kernel)⟩
theorem lw_p21 : lw_okq (⟨"PetitionBoxModel", "tells", "(I)I"⟩, 10) := ⟨⟨by decide +kernel, by decide +kernel⟩, List.mem_of_getElem? (i := 734) (by decide +kernel), List.mem_of_getElem? (i := 794) (by decide +kernel), List.mem_of_getElem? (i := 795) (by decide +kernel)⟩
theorem lw_p22 : lw_okq (⟨"PetitionBoxModel", "puts", "(IIIII)I"⟩, 10) := ⟨⟨by decide +kernel, by decide +kernel⟩, List.mem_of_getElem? (i := 734) (by decide +kernel), List.mem_of_getElem? (i := 816) (by decide +kernel), List.mem_of_getElem? (i := 817) (by decide +kernel)⟩
theorem lw_p23 : lw_okq (⟨"PetitionBoxModel", "isRoom", "(II)Z"⟩, 10) := ⟨⟨by decide +kernel, by decide +kernel⟩, List.mem_of_getElem? (i := 734) (by decide +kernel), List.mem_of_getElem? (i := 820) (by decide +kernel), List.mem_of_getElem? (i := 821) (by decide +kernel)⟩
theorem lw_p24 : lw_okq (⟨"PetitionBoxModel", "sentOf", "(I)I"⟩, 10) := ⟨⟨by decide +kernel, by decide +kernel⟩, List.mem_of_getElem? (i := 734) (by decide +kernel), List.mem_of_getElem? (i := 824) (by decide +kernel), List.mem_of_getElem? (i := 825) (by decide +kernel)⟩
theorem lw_p25 : lw_okq (⟨"PetitionBoxModel", "of", "(II)I"⟩, 10) := ⟨⟨by decide +kernel, by decide +kernel⟩, List.mem_of_getElem? (i := 734) (by decide +kernel), List.mem_of_getElem? (i := 828) (by decide +kernel), List.mem_of_getElem? (i := 829) (by decide +kernel)⟩
theorem lw_p26 : lw_okq (⟨"PetitionBoxModel", "comes", "(IIIII)I"⟩, 10) := ⟨⟨by decide +kernel, by decide +kernel⟩, List.mem_of_getElem? (i := 734) (by decide +kernel), List.mem_of_getElem? (i := 832) (by decide +kernel), List.mem_of_getElem? (i := 833) (by decide +kernel)⟩
theorem lw_p27 : lw_okq (⟨"PetitionBoxModel", "put", "(III)V"⟩, 10) := ⟨⟨by decide +kernel, by decide +kernel⟩, List.mem_of_getElem? (i := 734) (by decide +kernel), List.mem_of_getElem? (i := 836) (by decide +kernel), List.mem_of_getElem? (i := 837) (by decide +kernel)⟩
theorem lw_p28 : lw_okq (⟨"PetitionBoxModel", "find", "(I)I"⟩, 10) := ⟨⟨by decide +kernel, by decide +kernel⟩, List.mem_of_getElem? (i := 734) (by decide +kernel), List.mem_of_getElem? (i := 855) (by decide +kernel), List.mem_of_getElem? (i := 856) (by decide +kernel)⟩
theorem lw_p29 : lw_okq (⟨"PetitionBoxModel", "leaves", "(II)I"⟩, 10) := ⟨⟨by decide +kernel, by decide +kernel⟩, List.mem_of_getElem? (i := 734) (by decide +kernel), List.mem_of_getElem? (i := 859) (by decide +kernel), List.mem_of_getElem? (i := 860) (by decide +kernel)⟩
theorem lw_p30 : lw_okq (⟨"PetitionBoxModel", "backOf", "(II)I"⟩, 10) := ⟨⟨by decide +kernel, by decide +kernel⟩, List.mem_of_getElem? (i := 734) (by decide +kernel), List.mem_of_getElem? (i := 863) (by decide +kernel), List.mem_of_getElem? (i := 864) (by decide +kernel)⟩
theorem lw_p31 : lw_okq (⟨"PetitionBoxModel", "servesFirst", "()I"⟩, 10) := ⟨⟨by decide +kernel, by decide +kernel⟩, List.mem_of_getElem? (i := 734) (by decide +kernel), List.mem_of_getElem? (i := 871) (by decide +kernel), List.mem_of_getElem? (i := 872) (by decide +kernel)⟩
def lw_privs_2 : List (MethodName × Nat) := [(⟨"PetitionBox", "checkRoom", "(II)V"⟩, 5), (⟨"PetitionBox", "findRow", "(I)I"⟩, 5), (⟨"PetitionBoxModel", "fails", "(I)I"⟩, 10), (⟨"PetitionBoxModel", "sets", "(II)I"⟩, 10), (⟨"PetitionBoxModel", "keeps", "()V"⟩, 10), (⟨"PetitionBoxModel", "tells", "(I)I"⟩, 10), (⟨"PetitionBoxModel", "puts", "(IIIII)I"⟩, 10), (⟨"PetitionBoxModel", "isRoom", "(II)Z"⟩, 10), (⟨"PetitionBoxModel", "sentOf", "(I)I"⟩, 10), (⟨"PetitionBoxModel", "of", "(II)I"⟩, 10), (⟨"PetitionBoxModel", "comes", "(IIIII)I"⟩, 10), (⟨"PetitionBoxModel", "put", "(III)V"⟩, 10), (⟨"PetitionBoxModel", "find", "(I)I"⟩, 10), (⟨"PetitionBoxModel", "leaves", "(II)I"⟩, 10), (⟨"PetitionBoxModel", "backOf", "(II)I"⟩, 10), (⟨"PetitionBoxModel", "servesFirst", "()I"⟩, 10)]
theorem lw_r2 : ∀ q ∈ lw_privs_2, lw_okq q := List.forall_mem_cons.mpr ⟨lw_p16, List.forall_mem_cons.mpr ⟨lw_p17, List.forall_mem_cons.mpr ⟨lw_p18, List.forall_mem_cons.mpr ⟨lw_p19, List.forall_mem_cons.mpr ⟨lw_p20, List.forall_mem_cons.mpr ⟨lw_p21, List.forall_mem_cons.mpr ⟨lw_p22, List.forall_mem_cons.mpr ⟨lw_p23, List.forall_mem_cons.mpr ⟨lw_p24, List.forall_mem_cons.mpr ⟨lw_p25, List.forall_mem_cons.mpr ⟨lw_p26, List.forall_mem_cons.mpr ⟨lw_p27, List.forall_mem_cons.mpr ⟨lw_p28, List.forall_mem_cons.mpr ⟨lw_p29, List.forall_mem_cons.mpr ⟨lw_p30, List.forall_mem_cons.mpr ⟨lw_p31, fun _ h => absurd h List.not_mem_nil⟩⟩⟩⟩⟩⟩⟩⟩⟩⟩⟩⟩⟩⟩⟩⟩
theorem lw_p32 : lw_okq (⟨"PetitionBoxModel", "atPlace", "(I)I"⟩, 10) := ⟨⟨by decide +kernel, by decide +kernel⟩, List.mem_of_getElem? (i := 734) (by decide +kernel), List.mem_of_getElem? (i := 875) (by decide +kernel), List.mem_of_getElem? (i := 876) (by decide +kernel)⟩
theorem lw_p33 : lw_okq (⟨"PetitionBoxModel", "placeOf", "(I)I"⟩, 10) := ⟨⟨by decide +kernel, by decide +kernel⟩, List.mem_of_getElem? (i := 734) (by decide +kernel), List.mem_of_getElem? (i := 879) (by decide +kernel), List.mem_of_getElem? (i := 880) (by decide +kernel)⟩
theorem lw_p34 : lw_okq (⟨"PetitionBoxModel", "isAhead", "(II)Z"⟩, 10) := ⟨⟨by decide +kernel, by decide +kernel⟩, List.mem_of_getElem? (i := 734) (by decide +kernel), List.mem_of_getElem? (i := 883) (by decide +kernel), List.mem_of_getElem? (i := 884) (by decide +kernel)⟩
theorem lw_p35 : lw_okq (⟨"PetitionBoxModel", "ticks", "(I)I"⟩, 10) := ⟨⟨by decide +kernel, by decide +kernel⟩, List.mem_of_getElem? (i := 734) (by decide +kernel), List.mem_of_getElem? (i := 892) (by decide +kernel), List.mem_of_getElem? (i := 893) (by decide +kernel)⟩
theorem lw_p36 : lw_okq (⟨"PetitionBoxModel", "tick", "()I"⟩, 10) := ⟨⟨by decide +kernel, by decide +kernel⟩, List.mem_of_getElem? (i := 734) (by decide +kernel), List.mem_of_getElem? (i := 896) (by decide +kernel), List.mem_of_getElem? (i := 897) (by decide +kernel)⟩
theorem lw_p37 : lw_okq (⟨"PetitionBoxModel", "told", "(II)I"⟩, 10) := ⟨⟨by decide +kernel, by decide +kernel⟩, List.mem_of_getElem? (i := 734) (by decide +kernel), List.mem_of_getElem? (i := 904) (by decide +kernel), List.mem_of_getElem? (i := 905) (by decide +kernel)⟩
theorem lw_p38 : lw_okq (⟨"PetitionBoxModel", "valueTold", "(I)I"⟩, 10) := ⟨⟨by decide +kernel, by decide +kernel⟩, List.mem_of_getElem? (i := 734) (by decide +kernel), List.mem_of_getElem? (i := 928) (by decide +kernel), List.mem_of_getElem? (i := 929) (by decide +kernel)⟩
theorem lw_p39 : lw_okq (⟨"PetitionBoxModel", "bribes", "()I"⟩, 10) := ⟨⟨by decide +kernel, by decide +kernel⟩, List.mem_of_getElem? (i := 734) (by decide +kernel), List.mem_of_getElem? (i := 932) (by decide +kernel), List.mem_of_getElem? (i := 933) (by decide +kernel)⟩
theorem lw_p40 : lw_okq (⟨"PetitionBoxModel", "loudest", "()I"⟩, 10) := ⟨⟨by decide +kernel, by decide +kernel⟩, List.mem_of_getElem? (i := 734) (by decide +kernel), List.mem_of_getElem? (i := 936) (by decide +kernel), List.mem_of_getElem? (i := 937) (by decide +kernel)⟩
theorem lw_p41 : lw_okq (⟨"PetitionBoxModel", "laysAside", "()V"⟩, 10) := ⟨⟨by decide +kernel, by decide +kernel⟩, List.mem_of_getElem? (i := 734) (by decide +kernel), List.mem_of_getElem? (i := 956) (by decide +kernel), List.mem_of_getElem? (i := 957) (by decide +kernel)⟩
theorem lw_p42 : lw_okq (⟨"PetitionBoxModel", "bringsBack", "()V"⟩, 10) := ⟨⟨by decide +kernel, by decide +kernel⟩, List.mem_of_getElem? (i := 734) (by decide +kernel), List.mem_of_getElem? (i := 960) (by decide +kernel), List.mem_of_getElem? (i := 961) (by decide +kernel)⟩
theorem lw_p43 : lw_okq (⟨"PetitionBoxModel", "takesOrder", "()Z"⟩, 10) := ⟨⟨by decide +kernel, by decide +kernel⟩, List.mem_of_getElem? (i := 734) (by decide +kernel), List.mem_of_getElem? (i := 984) (by decide +kernel), List.mem_of_getElem? (i := 985) (by decide +kernel)⟩
theorem lw_p44 : lw_okq (⟨"PetitionBoxModel", "takesDigit", "(II)Z"⟩, 10) := ⟨⟨by decide +kernel, by decide +kernel⟩, List.mem_of_getElem? (i := 734) (by decide +kernel), List.mem_of_getElem? (i := 988) (by decide +kernel), List.mem_of_getElem? (i := 989) (by decide +kernel)⟩
theorem lw_p45 : lw_okq (⟨"PetitionBoxModel", "isAt", "(II)Z"⟩, 10) := ⟨⟨by decide +kernel, by decide +kernel⟩, List.mem_of_getElem? (i := 734) (by decide +kernel), List.mem_of_getElem? (i := 992) (by decide +kernel), List.mem_of_getElem? (i := 993) (by decide +kernel)⟩
theorem lw_p46 : lw_okq (⟨"PetitionBoxModel", "takes", "(I)Z"⟩, 10) := ⟨⟨by decide +kernel, by decide +kernel⟩, List.mem_of_getElem? (i := 734) (by decide +kernel), List.mem_of_getElem? (i := 996) (by decide +kernel), List.mem_of_getElem? (i := 997) (by decide +kernel)⟩
theorem lw_p47 : lw_okq (⟨"PetitionBoxModel", "takesNumber", "(III)Z"⟩, 10) := ⟨⟨by decide +kernel, by decide +kernel⟩, List.mem_of_getElem? (i := 734) (by decide +kernel), List.mem_of_getElem? (i := 1000) (by decide +kernel), List.mem_of_getElem? (i := 1001) (by decide +kernel)⟩
def lw_privs_3 : List (MethodName × Nat) := [(⟨"PetitionBoxModel", "atPlace", "(I)I"⟩, 10), (⟨"PetitionBoxModel", "placeOf", "(I)I"⟩, 10), (⟨"PetitionBoxModel", "isAhead", "(II)Z"⟩, 10), (⟨"PetitionBoxModel", "ticks", "(I)I"⟩, 10), (⟨"PetitionBoxModel", "tick", "()I"⟩, 10), (⟨"PetitionBoxModel", "told", "(II)I"⟩, 10), (⟨"PetitionBoxModel", "valueTold", "(I)I"⟩, 10), (⟨"PetitionBoxModel", "bribes", "()I"⟩, 10), (⟨"PetitionBoxModel", "loudest", "()I"⟩, 10), (⟨"PetitionBoxModel", "laysAside", "()V"⟩, 10), (⟨"PetitionBoxModel", "bringsBack", "()V"⟩, 10), (⟨"PetitionBoxModel", "takesOrder", "()Z"⟩, 10), (⟨"PetitionBoxModel", "takesDigit", "(II)Z"⟩, 10), (⟨"PetitionBoxModel", "isAt", "(II)Z"⟩, 10), (⟨"PetitionBoxModel", "takes", "(I)Z"⟩, 10), (⟨"PetitionBoxModel", "takesNumber", "(III)Z"⟩, 10)]
theorem lw_r3 : ∀ q ∈ lw_privs_3, lw_okq q := List.forall_mem_cons.mpr ⟨lw_p32, List.forall_mem_cons.mpr ⟨lw_p33, List.forall_mem_cons.mpr ⟨lw_p34, List.forall_mem_cons.mpr ⟨lw_p35, List.forall_mem_cons.mpr ⟨lw_p36, List.forall_mem_cons.mpr ⟨lw_p37, List.forall_mem_cons.mpr ⟨lw_p38, List.forall_mem_cons.mpr ⟨lw_p39, List.forall_mem_cons.mpr ⟨lw_p40, List.forall_mem_cons.mpr ⟨lw_p41, List.forall_mem_cons.mpr ⟨lw_p42, List.forall_mem_cons.mpr ⟨lw_p43, List.forall_mem_cons.mpr ⟨lw_p44, List.forall_mem_cons.mpr ⟨lw_p45, List.forall_mem_cons.mpr ⟨lw_p46, List.forall_mem_cons.mpr ⟨lw_p47, fun _ h => absurd h List.not_mem_nil⟩⟩⟩⟩⟩⟩⟩⟩⟩⟩⟩⟩⟩⟩⟩⟩
theorem lw_p48 : lw_okq (⟨"PetitionBoxModel", "does", "(I)Z"⟩, 10) := ⟨⟨by decide +kernel, by decide +kernel⟩, List.mem_of_getElem? (i := 734) (by decide +kernel), List.mem_of_getElem? (i := 1004) (by decide +kernel), List.mem_of_getElem? (i := 1005) (by decide +kernel)⟩
theorem lw_p49 : lw_okq (⟨"PetitionBoxModel", "mix", "(I)V"⟩, 10) := ⟨⟨by decide +kernel, by decide +kernel⟩, List.mem_of_getElem? (i := 734) (by decide +kernel), List.mem_of_getElem? (i := 1017) (by decide +kernel), List.mem_of_getElem? (i := 1018) (by decide +kernel)⟩
def lw_privs_4 : List (MethodName × Nat) := [(⟨"PetitionBoxModel", "does", "(I)Z"⟩, 10), (⟨"PetitionBoxModel", "mix", "(I)V"⟩, 10)]
theorem lw_r4 : ∀ q ∈ lw_privs_4, lw_okq q := List.forall_mem_cons.mpr ⟨lw_p48, List.forall_mem_cons.mpr ⟨lw_p49, fun _ h => absurd h List.not_mem_nil⟩⟩
def lw_privs : List (MethodName × Nat) := lw_privs_1 ++ (lw_privs_2 ++ (lw_privs_3 ++ (lw_privs_4)))
def lw_tbl : List Cond := k2_sels lw_privs ++ tables_1
theorem lw_privs_ok : ∀ q ∈ lw_privs, lw_okq q := by
  show ∀ q ∈ lw_privs_1 ++ (lw_privs_2 ++ (lw_privs_3 ++ (lw_privs_4))), lw_okq q
  exact List.forall_mem_append.mpr ⟨lw_r1, List.forall_mem_append.mpr ⟨lw_r2, List.forall_mem_append.mpr ⟨lw_r3, lw_r4⟩⟩⟩
/-- the streams that the claim lets the run draw from -/
abbrev lw_cs : List Choice := [Jvm.Choice.named "NaN.bits"]
theorem lw_bits : nanBits ∈ lw_cs := by first | decide | exact List.mem_cons_self | simp [lw_cs, nanBits]
end
section
/-! ===== BEGIN words of one list among another's, by their places ===== -/
theorem goodIn_r {big : List Cond} (ws : List Cond) (ps : List Nat) (hp : ws = ps.filterMap (fun i => big[i]?)) (h : ws.all goodWord = true) : GoodIn big ws := by
  intro w hw
  have h1 := List.all_eq_true.mp h w hw
  rw [hp] at hw
  obtain ⟨i, -, hi⟩ := List.mem_filterMap.mp hw
  have hm : w ∈ big := by first | exact List.mem_of_getElem? hi | exact List.getElem?_mem hi
  exact ⟨hm, good_of_word h1⟩
theorem goodIn_app {big a b : List Cond} (ha : GoodIn big a) (hb : GoodIn big b) : GoodIn big (a ++ b) := fun w h => (List.mem_append.mp h).elim (ha w) (hb w)
theorem goodIn_ca {big a b : List Cond} {c : Cond} (ha : GoodIn big (c :: a)) (hb : GoodIn big b) : GoodIn big (c :: (a ++ b)) := fun w h => (List.mem_cons.mp h).elim (fun e => ha w (List.mem_cons.mpr (Or.inl e))) (fun h => (List.mem_append.mp h).elim (fun h => ha w (List.mem_cons.mpr (Or.inr h))) (hb w))
theorem goodIn_sub {big ws : List Cond} (hm : ∀ w ∈ ws, w ∈ big) (h : ws.all goodWord = true) : GoodIn big ws := fun w hw => ⟨hm w hw, good_of_word (List.all_eq_true.mp h w hw)⟩
/-! ===== END ===== -/

/-! ===== BEGIN exceptions that leave a method, and their catching by the caller (launches without stack traces) ===== -/
section VXA
/-! The laws vx_back, vx_callV, vx_callS, vx_callSW, vx_throw0, vx_throwS follow proofs of the library, with one case more: JvmDerived/Free/Laws.lean (Back.of_free), Shelf42/LK1.lean (callV, callS), Shelf/KitTraced.lean (throwNew0V, throwNewS). -/
/-- where a method has thrown q: the class by its name, the cell, what was written, the world -/
def vx_T (XC : String → State → State → Prop) (st : State) (q : Addr) (t : State) (mc ms : Nat) (free : Addr → Prop) : Prop :=
  ∃ (E : String) (ce : Cell) (L : List Loc), XC E st t ∧ t.heap[q]? = some ce ∧ ce.vm = .none ∧ st.vm.findClass E = some ce.cls ∧ st.WarmedH t.vm ∧ st.sameButNew ({ t with vm := st.vm } : State) L mc ms ∧ ∀ z ∈ L, free z.base
def vx_Q (Qc : Array Value → State → Outcome → State → Prop) (XC : String → State → State → Prop) (mc ms : Nat) (free : Addr → Prop) : Array Value → State → Outcome → State → Prop := fun a st o t =>
  (Qc a st o t ∧ ∃ L, FrameEnd st o t L mc ms ∧ ∀ q ∈ L, free q.base) ∨ ∃ q, o = .threw q ∧ vx_T XC st q t mc ms free
/-- a callee that returns or throws -/
def vx_Met (l : Launch) (y : MethodName) (ws : List Cond) (rm : Room) (Pc : Array Value → State → Prop) (Qc : Array Value → State → Outcome → State → Prop) (XC : String → State → State → Prop) (mc ms : Nat) (free : Addr → Prop) : Prop :=
  MetFree l y (headSpec ws rm) Pc (fun _ _ _ _ _ => True) (vx_Q Qc XC mc ms free)
def vx_Post (XC : String → State → State → Prop) (mc ms : Nat) (free : Addr → Prop) : Pt → Array Value → Addr → Pt → Prop := fun A a q B =>
  ∃ (g : JFrame) (mk : MethodId) (t : State) (L : List Loc) (E : String) (ce : Cell), B.U.heap = t.heap ∧ B.U.vm = t.vm ∧ XC E (A.U.calling g mk a) t ∧ t.heap[q]? = some ce ∧ ce.vm = .none ∧ A.U.vm.findClass E = some ce.cls ∧ B.locs = A.locs ++ L ∧ (∀ z ∈ L, free z.base) ∧ B.cells = A.cells + mc ∧ B.slots = A.slots + ms
def vx_Back (l : Launch) (R : Room) (p : Program) (e : Env) (below : List Frame) (s : State) (sargs : Array Value) (y : MethodName) (len W9 : Nat)
    (Pre : Pt → Array Value → Prop) (Post : Pt → Array Value → Option Value → Pt → Prop) (PostX : Pt → Array Value → Addr → Pt → Prop) : Prop :=
  ∀ (m : MethodId) (meth : Method) (c : Code) (A : Pt) (g : JFrame) (ig : Instr) (mk : MethodId) (a : Array Value),
    Stand p l e R s m sargs below meth c A.U A.locs A.cells A.slots → g.method = m → g.locals.size = c.maxLocals → decode c.code g.pc = .ok (ig, len) →
    2 * g.monitorRoom + (g.stack.map fun v => v.category).sum ≤ W9 → A.U.methodNamed? y = some mk → Pre A a →
    (∃ (v : Option Value) (B : Pt), Stand p l e R s m sargs below meth c B.U B.locs B.cells B.slots ∧ Post A a v B ∧
      Steps p.tables e below (doInvoke e (A.U.setTop g) [] mk a).1 (B.U.setTop { g with pc := g.pc + len, stack := v.toList ++ g.stack })) ∨
    (∃ (q : Addr) (B : Pt), Stand p l e R s m sargs below meth c B.U B.locs B.cells B.slots ∧ PostX A a q B ∧
      Steps p.tables e below (doInvoke e (A.U.setTop g) [] mk a).1 ((B.U.setTop g).pushFrame (.throwing q)))
section Payer
variable {l : Launch} {R : Room} {p : Program} {e : Env} {below : List Frame} {s : State} {sargs : Array Value} {y : MethodName} {len W9 : Nat}
theorem vx_back {ws : List Cond} {rm : Room} {Pc : Array Value → State → Prop} {Qc : Array Value → State → Outcome → State → Prop} {XC : String → State → State → Prop} {mc ms : Nat} {free : Addr → Prop} {bytes : ByteArray} {maxL : Nat} {ret : Option FieldType}
    (hM : vx_Met l y ws rm Pc Qc XC mc ms free) (hblind : FrameBlind Pc) (hrc : rm.cells = mc) (hrs : rm.slots = ms)
    (hframes : rm.frames + 1 ≤ R.frames) (hlocals : W9 + (maxL + 11) + rm.locals ≤ R.locals)
    (hws : ∀ w ∈ ws, ∀ a' U, s.WarmedH U.vm → w.before a' U = true) (hcode : Cond.code y bytes maxL ret ∈ ws) (hinit : ∀ a' U, s.WarmedH U.vm → (Cond.initialized y.cls).before a' U = true) :
    vx_Back l R p e below s sargs y len W9 (PreOf R mc ms Pc) (PostOf Qc mc ms free) (vx_Post XC mc ms free) := by
  intro m meth c A g ig mk a X hg hsize hdg hW hn hp
  have h1 : (headSpec ws rm).pre.before a A.U = true := atoms_intro fun w hw => hws w hw _ _ X.warmed
  have h2 : (Cond.code y bytes maxL ret).before a A.U = true := hws _ hcode _ _ X.warmed
  have h3 : (Cond.initialized y.cls).before a A.U = true := hinit _ _ X.warmed
  have h4 : A.cells + (headSpec ws rm).room.cells ≤ R.cells := by rw [show (headSpec ws rm).room.cells = mc from hrc]; exact hp.1
  have h5 : A.slots + (headSpec ws rm).room.slots ≤ R.slots := by rw [show (headSpec ws rm).room.slots = ms from hrs]; exact hp.2.1
  have hPc : Pc a (A.U.calling g mk a) := hblind _ _ _ _ hp.2.2
  obtain ⟨U, Ls, c0, s0⟩ := A
  dsimp only [Pt.U, Pt.locs, Pt.cells, Pt.slots] at h1 h2 h3 h4 h5 X hn hPc ⊢
  obtain ⟨methY, cY, hmY, hcY, -, hlY, -, -, -, -⟩ := Cond.code_spec hn h2
  obtain ⟨kY, hkY, -⟩ := className_of_methodNamed hn
  have hinitY : kY.init = .initialized := Cond.initialized_spec (findClass_of_methodNamed hn) hkY h3
  have h : At U g.method c below := by rw [hg]; exact X.here
  have hlocals9 : W9 + (maxL + 11) + (headSpec ws rm).room.locals ≤ R.locals := hlocals
  have happ : (headSpec ws rm).appliesLoose y e.platform (U.calling g mk a) = true :=
    Spec.appliesLoose_calling (g := g) h hdg hn hkY hinitY
      (X.room_calling (g := g) (R' := (headSpec ws rm).room) hsize hmY hcY hframes (by rw [hlY]; omega) h4 h5) h1
  obtain ⟨mid, hmid⟩ := h.above
  have hfr : (U.setTop g).frames = (.java g :: mid) ++ below := by rw [State.frames_setTop' g h.top, hmid]; rfl
  obtain ⟨o, s₂, hsteps, -, hend, hq⟩ := Steps.callFree hM p X.admits X.cas X.clock (acts := []) hfr happ hPc trivial
  have hq' : vx_Q Qc XC mc ms free a (U.calling g mk a) o s₂ := hq
  rw [State.frames_setTop' g h.top] at hend
  obtain ⟨g₀, hg0⟩ := Option.isSome_iff_exists.mp h.top
  obtain ⟨r, hr⟩ := State.topJava?_eq_some.mp hg0
  have hr' : (({ U with heap := s₂.heap, slotsUsed := s₂.slotsUsed } : State).setVm s₂.vm).frames = .java g₀ :: r := hr
  rcases hq' with ⟨hqc, L, hfe, hL⟩ | ⟨q, rfl, E, ce, L, hx, hce, hcv, hcl, hW₂, hsm, hL⟩
  · obtain ⟨⟨v, rfl⟩, hW₂, e2, q2, q3, q4, q5, q6⟩ := id hfe
    have e3 : s₂ = ({ (U.calling g mk a).setFrames s₂.frames with heap := s₂.heap, slotsUsed := s₂.slotsUsed } : State).setVm s₂.vm := by
      have : s₂ = ({ s₂ with vm := (U.calling g mk a).vm } : State).setVm s₂.vm := rfl
      rw [e2] at this
      exact this
    obtain ⟨c₂, i₂, len₂, hc₂, hd₂, hf₂⟩ := hend
    have hW' : U.WarmedH s₂.vm := hW₂
    have hcc : c₂ = c := by
      have h1 : s₂.code? g.method = U.code? g.method := by
        rw [State.code?_eq, State.code?_eq, hW'.alike.method?]
      exact Option.some.inj (hc₂.symm.trans (h1.trans h.code))
    subst hcc
    have hlen : len₂ = len := by rw [hdg] at hd₂; cases hd₂; rfl
    subst hlen
    have hs₂ : s₂ = (({ U with heap := s₂.heap, slotsUsed := s₂.slotsUsed } : State).setVm s₂.vm).setTop { g with pc := g.pc + len₂, stack := v.toList ++ g.stack } := by
      refine e3.trans ?_
      rw [hf₂, State.calling_eq h.top, State.setFrames_setFrames, State.setTop_of_frames _ hr', hr]
      rfl
    have hsame : U.sameButNew ({ U with heap := s₂.heap, slotsUsed := s₂.slotsUsed } : State) L mc ms := by
      refine ⟨?_, q2, q3, q4, q5, q6⟩
      obtain ⟨t, ht, -⟩ := State.frames_cons hr
      show ({ U with heap := s₂.heap, slotsUsed := s₂.slotsUsed } : State) = { U.setFrames U.frames with heap := s₂.heap, slotsUsed := s₂.slotsUsed }
      rw [State.setFrames_self ht]
    subst hg
    refine Or.inl ⟨v, ⟨(({ U with heap := s₂.heap, slotsUsed := s₂.slotsUsed } : State).setVm s₂.vm), Ls ++ L, c0 + mc, s0 + ms⟩,
      ⟨X.admits, X.cas, X.clock, X.frames, X.room, X.hears, X.method, X.code, (X.here.setHeapUsed s₂.heap s₂.slotsUsed).setVm hW'.alike, X.tail, State.WarmedH.trans X.warmed hW', X.limits, X.bytes, X.same.trans (hsame.setVm s.vm)⟩,
      ⟨g, mk, s₂, L, rfl, rfl, hqc, rfl, hL, rfl, rfl⟩, ?_⟩
    show Steps p.tables e below _ ((({ U with heap := s₂.heap, slotsUsed := s₂.slotsUsed } : State).setVm s₂.vm).setTop { g with pc := g.pc + len₂, stack := v.toList ++ g.stack })
    rw [← hs₂]
    exact hsteps
  · obtain ⟨e2, q2, q3, q4, q5, q6⟩ := id hsm
    have e3 : s₂ = ({ (U.calling g mk a).setFrames s₂.frames with heap := s₂.heap, slotsUsed := s₂.slotsUsed } : State).setVm s₂.vm := by
      have : s₂ = ({ s₂ with vm := (U.calling g mk a).vm } : State).setVm s₂.vm := rfl
      rw [e2] at this
      exact this
    have hf₂ : s₂.frames = .throwing q :: .java g :: U.frames.tail := hend
    have hW' : U.WarmedH s₂.vm := hW₂
    have hs₂ : s₂ = ((({ U with heap := s₂.heap, slotsUsed := s₂.slotsUsed } : State).setVm s₂.vm).setTop g).pushFrame (.throwing q) := by
      refine e3.trans ?_
      rw [hf₂, State.calling_eq h.top, State.setFrames_setFrames, State.pushFrame, State.frames_setTop _ hr', State.setTop_of_frames _ hr', State.setFrames_setFrames, hr]
      rfl
    have hsame : U.sameButNew ({ U with heap := s₂.heap, slotsUsed := s₂.slotsUsed } : State) L mc ms := by
      refine ⟨?_, q2, q3, q4, q5, q6⟩
      obtain ⟨t, ht, -⟩ := State.frames_cons hr
      show ({ U with heap := s₂.heap, slotsUsed := s₂.slotsUsed } : State) = { U.setFrames U.frames with heap := s₂.heap, slotsUsed := s₂.slotsUsed }
      rw [State.setFrames_self ht]
    subst hg
    refine Or.inr ⟨q, ⟨(({ U with heap := s₂.heap, slotsUsed := s₂.slotsUsed } : State).setVm s₂.vm), Ls ++ L, c0 + mc, s0 + ms⟩,
      ⟨X.admits, X.cas, X.clock, X.frames, X.room, X.hears, X.method, X.code, (X.here.setHeapUsed s₂.heap s₂.slotsUsed).setVm hW'.alike, X.tail, State.WarmedH.trans X.warmed hW', X.limits, X.bytes, X.same.trans (hsame.setVm s.vm)⟩,
      ⟨g, mk, s₂, L, E, ce, rfl, rfl, hx, hce, hcv, hcl, rfl, hL, rfl, rfl⟩, ?_⟩
    show Steps p.tables e below _ (((({ U with heap := s₂.heap, slotsUsed := s₂.slotsUsed } : State).setVm s₂.vm).setTop g).pushFrame (.throwing q))
    rw [← hs₂]
    exact hsteps
end Payer
section Calls
variable {p : Program} {l : Launch} {e : Env} {R : Room} {s : State} {m : MethodId} {args : Array Value} {below : List Frame} {meth : Method} {c : Code} {T : State} {locs : List Loc} {cells slots : Nat}
theorem vx_callV (X : Stand p l e R s m args below meth c T locs cells slots) (hexec : p.tables.exec = Jvm.exec) {own C : String} {index : Nat} {y : MethodName} {bytes : ByteArray} {maxL : Nat} {ret : Option FieldType}
    (hown : s.vm.findClass own = some m.cls) (hlink : (Cond.methodLink own index y).before args s = true) (hinst : (Cond.instanceMethod y).before args s = true) (hsel : (Cond.selects C y y).before args s = true)
    (hcode : (Cond.code y bytes maxL ret).before args s = true) (hy : y.cls ≠ "java/lang/invoke/MethodHandle" ∧ y.cls ≠ "java/lang/invoke/VarHandle")
    {W9 : Nat} {Pre : Pt → Array Value → Prop} {Post : Pt → Array Value → Option Value → Pt → Prop} {PostX : Pt → Array Value → Addr → Pt → Prop} (hK : vx_Back l R p e below s args y 3 W9 Pre Post PostX)
    {b : Addr} {cellB : Cell} (hcell : T.heap[b]? = some cellB) (hobj : cellB.vm.isStatics = false) (hcls : s.vm.findClass C = some cellB.cls)
    {g : JFrame} (hg : g.method = m) (hsize : g.locals.size = c.maxLocals) {argsL rest : List Value} (hlen : ∀ sig, parseMethodDescriptor y.desc = some sig → argsL.length = sig.parameters.length)
    (hstack : g.stack = argsL.reverse ++ .ref b :: rest) (hW : 2 * g.monitorRoom + (rest.map fun v => v.category).sum ≤ W9) (hdg : decode c.code g.pc = .ok (.invokevirtual index, 3))
    (hpre : ∀ vm₁, s.WarmedH vm₁ → Pre ⟨T.setVm vm₁, locs, cells, slots⟩ (Value.ref b :: argsL).toArray) :
    (∃ (v : Option Value) (vm₁ : Vm) (B : Pt), s.WarmedH vm₁ ∧ Stand p l e R s m args below meth c B.U B.locs B.cells B.slots ∧ Post ⟨T.setVm vm₁, locs, cells, slots⟩ (Value.ref b :: argsL).toArray v B ∧
      ∀ target, Steps p.tables e below (B.U.setTop { g with pc := g.pc + 3, stack := v.toList ++ rest }) target → Steps p.tables e below (T.setTop g) target) ∨
    (∃ (q : Addr) (vm₁ : Vm) (B : Pt), s.WarmedH vm₁ ∧ Stand p l e R s m args below meth c B.U B.locs B.cells B.slots ∧ PostX ⟨T.setVm vm₁, locs, cells, slots⟩ (Value.ref b :: argsL).toArray q B ∧
      Steps p.tables e below (T.setTop g) ((B.U.setTop { g with stack := rest }).pushFrame (.throwing q))) := by
  obtain ⟨mk, methM, hnamed, hmethM, hstM, habM⟩ := Cond.instanceMethod_spec hinst
  obtain ⟨methM', cM, hmethM', -, -, -, -, -, -, hsigM⟩ := Cond.code_spec hnamed hcode
  cases hmethM.symm.trans hmethM'
  obtain ⟨c2, r2, m2, q1, q2, q3, q4, kP, hkP, hkPi⟩ := Cond.selects_spec hsel
  cases hcls.symm.trans q1
  cases (State.methodFound?_of_named hnamed hy).symm.trans q2
  cases hnamed.symm.trans q3
  have hselP : selectMethod e.platform s.vm cellB.cls mk = .method mk := by rw [Launch.admits_selectMethod X.admits]; exact q4
  obtain ⟨vm₁, X₁, hstep₁⟩ := X.invokevirtual hexec hown hlink hnamed hmethM hstM hkP hkPi hy (a := b) (cell := cellB) hcell
    (fun z h => by rw [h] at hobj; cases hobj) hselP hmethM habM hkP hkPi (g := g) hg (argsL := argsL) (rest := rest) (hlen _ hsigM) hstack hdg
  rcases hK m meth c ⟨T.setVm vm₁, locs, cells, slots⟩ { g with stack := rest } (.invokevirtual index) mk (Value.ref b :: argsL).toArray X₁ hg hsize hdg hW (X₁.named hnamed) (hpre vm₁ X₁.warmed) with ⟨v, B, X', hpost, hsteps⟩ | ⟨q, B, X', hpost, hsteps⟩
  · exact Or.inl ⟨v, vm₁, B, X₁.warmed, X', hpost, fun target h => hstep₁ _ fun acts => by rw [doInvoke_state]; exact hsteps.trans h⟩
  · exact Or.inr ⟨q, vm₁, B, X₁.warmed, X', hpost, hstep₁ _ fun acts => by rw [doInvoke_state]; exact hsteps⟩
theorem vx_callS (X : Stand p l e R s m args below meth c T locs cells slots) (hexec : p.tables.exec = Jvm.exec) {own : String} {index : Nat} {y : MethodName} {bytes : ByteArray} {maxL : Nat} {ret : Option FieldType}
    (hown : s.vm.findClass own = some m.cls) (hlink : (Cond.methodLink own index y).before args s = true) (hstat : (Cond.static y).before args s = true) (hinit : (Cond.initialized y.cls).before args s = true)
    (hcode : (Cond.code y bytes maxL ret).before args s = true) (hy : y.cls ≠ "java/lang/invoke/MethodHandle" ∧ y.cls ≠ "java/lang/invoke/VarHandle")
    {W9 : Nat} {Pre : Pt → Array Value → Prop} {Post : Pt → Array Value → Option Value → Pt → Prop} {PostX : Pt → Array Value → Addr → Pt → Prop} (hK : vx_Back l R p e below s args y 3 W9 Pre Post PostX)
    {g : JFrame} (hg : g.method = m) (hsize : g.locals.size = c.maxLocals) {argsL rest : List Value} (hlen : ∀ sig, parseMethodDescriptor y.desc = some sig → argsL.length = sig.parameters.length)
    (hstack : g.stack = argsL.reverse ++ rest) (hW : 2 * g.monitorRoom + (rest.map fun v => v.category).sum ≤ W9) (hdg : decode c.code g.pc = .ok (.invokestatic index, 3))
    (hpre : ∀ vm₁, s.WarmedH vm₁ → Pre ⟨T.setVm vm₁, locs, cells, slots⟩ argsL.toArray) :
    (∃ (v : Option Value) (vm₁ : Vm) (B : Pt), s.WarmedH vm₁ ∧ Stand p l e R s m args below meth c B.U B.locs B.cells B.slots ∧ Post ⟨T.setVm vm₁, locs, cells, slots⟩ argsL.toArray v B ∧
      ∀ target, Steps p.tables e below (B.U.setTop { g with pc := g.pc + 3, stack := v.toList ++ rest }) target → Steps p.tables e below (T.setTop g) target) ∨
    (∃ (q : Addr) (vm₁ : Vm) (B : Pt), s.WarmedH vm₁ ∧ Stand p l e R s m args below meth c B.U B.locs B.cells B.slots ∧ PostX ⟨T.setVm vm₁, locs, cells, slots⟩ argsL.toArray q B ∧
      Steps p.tables e below (T.setTop g) ((B.U.setTop { g with stack := rest }).pushFrame (.throwing q))) := by
  obtain ⟨mk, hnamed⟩ := Cond.code_named hcode
  obtain ⟨methM, cM, hmethM, -, -, -, -, -, -, hsigM⟩ := Cond.code_spec hnamed hcode
  have hstatic : methM.isStatic = true := Cond.static_spec hnamed hmethM hstat
  obtain ⟨kP, hkP, -⟩ := className_of_methodNamed hnamed
  have hinitP : kP.init = .initialized := Cond.initialized_spec (findClass_of_methodNamed hnamed) hkP hinit
  obtain ⟨vm₁, X₁, hstep₁⟩ := X.invokestatic hexec hown hlink hnamed hmethM hstatic hkP hinitP hy (g := g) hg (argsL := argsL) (rest := rest) (hlen _ hsigM) hstack hdg
  rcases hK m meth c ⟨T.setVm vm₁, locs, cells, slots⟩ { g with stack := rest } (.invokestatic index) mk argsL.toArray X₁ hg hsize hdg hW (X₁.named hnamed) (hpre vm₁ X₁.warmed) with ⟨v, B, X', hpost, hsteps⟩ | ⟨q, B, X', hpost, hsteps⟩
  · exact Or.inl ⟨v, vm₁, B, X₁.warmed, X', hpost, fun target h => hstep₁ _ fun acts => by rw [doInvoke_state]; exact hsteps.trans h⟩
  · exact Or.inr ⟨q, vm₁, B, X₁.warmed, X', hpost, hstep₁ _ fun acts => by rw [doInvoke_state]; exact hsteps⟩
end Calls
theorem vx_cls {s : State} {T : State} {vm₁ : Vm} {E : String} {k : ClassId} (hW : s.WarmedH vm₁) (h : (T.setVm vm₁).vm.findClass E = some k) : s.vm.findClass E = some k := by
  have h1 : vm₁.findClass E = some k := h
  rw [hW.alike.findClass] at h1
  exact h1
/-- the method's frame g, with q thrown over it -/
def vx_W (p : Program) (l : Launch) (e : Env) (R : Room) (s : State) (m : MethodId) (args : Array Value) (below : List Frame) (meth : Method) (c : Code) (H : Heap) (locs : List Loc) (cells slots : Nat) (Q : State → Prop) (g : JFrame) (q : Addr) : Prop :=
  ∀ T : State, T.heap = H → Stand p l e R s m args below meth c T locs cells slots → ∃ t, Steps p.tables e below ((T.setTop g).pushFrame (.throwing q)) t ∧ Q t
def vx_Run (p : Program) (l : Launch) (e : Env) (R : Room) (s : State) (m : MethodId) (args : Array Value) (below : List Frame) (meth : Method) (c : Code) (H : Heap) (locs : List Loc) (cells slots mc ms : Nat) (g : JFrame) (rest : List Value) (Qa : State → Outcome → State → Prop) (XC : String → State → State → Prop) (free : Addr → Prop) : Prop :=
  ∀ T : State, T.heap = H → Stand p l e R s m args below meth c T locs cells slots →
    (∃ (v : Option Value) (st₀ t T' : State) (L : List Loc), st₀.heap = H ∧ Stand p l e R s m args below meth c T' (locs ++ L) (cells + mc) (slots + ms) ∧ (∀ q ∈ L, free q.base) ∧ T'.heap = t.heap ∧ T'.vm = t.vm ∧ Qa st₀ (.returned v) t ∧
      Goes p e below T g T' { g with pc := g.pc + 3, stack := v.toList ++ rest }) ∨
    (∃ (q : Addr) (st₀ t T' : State) (L : List Loc) (E : String) (ce : Cell), st₀.heap = H ∧ Stand p l e R s m args below meth c T' (locs ++ L) (cells + mc) (slots + ms) ∧ (∀ z ∈ L, free z.base) ∧ T'.heap = t.heap ∧ T'.vm = t.vm ∧ XC E st₀ t ∧ t.heap[q]? = some ce ∧ ce.vm = .none ∧ s.vm.findClass E = some ce.cls ∧
      Steps p.tables e below (T.setTop g) ((T'.setTop { g with stack := rest }).pushFrame (.throwing q)))
def vx_X {S : Type} (px : S → Prop) (B : String → S → State → Prop) (A : Nat → Prop) : String → State → State → Prop := fun E st t => ∃ u : S, px u ∧ B E u t ∧ va_F A st t
section Runs
variable {p : Program} {l : Launch} {e : Env} {R : Room} {s : State} {m : MethodId} {args : Array Value} {below : List Frame} {meth : Method} {c : Code} {H : Heap} {locs : List Loc} {cells slots : Nat}
variable {y : MethodName} {bytes cc : ByteArray} {maxL nL mc ms n index : Nat} {ret : Option FieldType} {ws : List Cond} {rm : Room} {Pc : Array Value → State → Prop} {Qc : Array Value → State → Outcome → State → Prop} {XC : String → State → State → Prop} {free : Addr → Prop} {Ts : List Cond} {own C : String} {b : Addr} {As rest : List Value} {g : JFrame}
theorem vx_callBack (cb : CallB R s args own index y bytes maxL ret ws rm mc ms n) (hM : vx_Met l y ws rm Pc Qc XC mc ms free) (hbl : FrameBlind Pc) : vx_Back l R p e below s args y 3 8 (PreOf R mc ms Pc) (PostOf Qc mc ms free) (vx_Post XC mc ms free) := by
  obtain ⟨hrc, hrs, hfr, hlo, hws, hcw, -, hini, -⟩ := cb
  exact vx_back (bytes := bytes) (maxL := maxL) (ret := ret) hM hbl hrc hrs hfr hlo hws hcw (fun a' U hW => word_at hW (Or.inl (by first | rfl | simp [Cond.onTables, Cond.keeps, Cond.steady])) hini)
theorem vx_runV (S : CallFix p m c cc nL s args Ts own) (hM : vx_Met l y ws rm Pc Qc XC mc ms free) (cw : CallW R s args own C index y bytes maxL ret ws rm mc ms n) (hp : PreV s H C b Pc As)
    (hg : g.method = m) (hn : As.length = n) (hsize : g.locals.size = nL) (hstack : g.stack = As.reverse ++ .ref b :: rest) (hW : 2 * g.monitorRoom + (rest.map fun v => v.category).sum ≤ 8) (hdg : decode cc g.pc = .ok (.invokevirtual index, 3)) (hf : cells + mc ≤ R.cells ∧ slots + ms ≤ R.slots) :
    vx_Run p l e R s m args below meth c H locs cells slots mc ms g rest (Qc (Value.ref b :: As).toArray) XC free := by
  have hK : vx_Back l R p e below s args y 3 8 (PreOf R mc ms Pc) (PostOf Qc mc ms free) (vx_Post XC mc ms free) := vx_callBack cw.1 hM hp.1
  obtain ⟨⟨-, -, -, -, -, -, hcode, -, hy, hlen, hl⟩, hin, hse⟩ := cw
  obtain ⟨hx, hb, hml, ho, -⟩ := S
  obtain ⟨-, ⟨cellB, hcB, hoB, hclB⟩, hPc⟩ := hp
  intro T hT X
  rcases vx_callV X hx (C := C) (bytes := bytes) (maxL := maxL) (ret := ret) ho hl hin hse hcode hy hK (by rw [hT]; exact hcB) hoB hclB hg (hsize.trans hml.symm) (argsL := As) (rest := rest) (fun sig h => hn.trans (hlen sig h)) hstack hW (by rw [hb]; exact hdg)
    (fun vm₁ hW₁ => ⟨hf.1, hf.2, hPc (T.setVm vm₁) hT hW₁⟩) with ⟨v, vm₁, ⟨U', l2, c2, s2⟩, hW₁, X', ⟨g', mk, t, L, e1, e2, hq, h1, hL, h2, h3⟩, st⟩ | ⟨q, vm₁, ⟨U', l2, c2, s2⟩, hW₁, X', ⟨g', mk, t, L, E, ce, e1, e2, hq, hce, hcv, hcl, h1, hL, h2, h3⟩, st⟩
  · dsimp only [Pt.U, Pt.locs, Pt.cells, Pt.slots] at X' e1 e2 h1 h2 h3 st
    subst h1; subst h2; subst h3
    exact Or.inl ⟨v, (T.setVm vm₁).calling g' mk (Value.ref b :: As).toArray, t, U', L, hT, X', hL, e1, e2, hq, st⟩
  · dsimp only [Pt.U, Pt.locs, Pt.cells, Pt.slots] at X' e1 e2 h1 h2 h3 st hcl
    subst h1; subst h2; subst h3
    exact Or.inr ⟨q, (T.setVm vm₁).calling g' mk (Value.ref b :: As).toArray, t, U', L, E, ce, hT, X', hL, e1, e2, hq, hce, hcv, vx_cls hW₁ hcl, st⟩
theorem vx_runS (S : CallFix p m c cc nL s args Ts own) (hM : vx_Met l y ws rm Pc Qc XC mc ms free) (cw : CallB R s args own index y bytes maxL ret ws rm mc ms n ∧ (Cond.static y).before args s = true) (hp : PreS s H Pc As)
    (hg : g.method = m) (hn : As.length = n) (hsize : g.locals.size = nL) (hstack : g.stack = As.reverse ++ rest) (hW : 2 * g.monitorRoom + (rest.map fun v => v.category).sum ≤ 8) (hdg : decode cc g.pc = .ok (.invokestatic index, 3)) (hf : cells + mc ≤ R.cells ∧ slots + ms ≤ R.slots) :
    vx_Run p l e R s m args below meth c H locs cells slots mc ms g rest (Qc As.toArray) XC free := by
  have hK : vx_Back l R p e below s args y 3 8 (PreOf R mc ms Pc) (PostOf Qc mc ms free) (vx_Post XC mc ms free) := vx_callBack cw.1 hM hp.1
  obtain ⟨⟨-, -, -, -, -, -, hcode, hini, hy, hlen, hl⟩, hstt⟩ := cw
  obtain ⟨hx, hb, hml, ho, -⟩ := S
  intro T hT X
  rcases vx_callS X hx (bytes := bytes) (maxL := maxL) (ret := ret) ho hl hstt hini hcode hy hK hg (hsize.trans hml.symm) (argsL := As) (rest := rest) (fun sig h => hn.trans (hlen sig h)) hstack hW (by rw [hb]; exact hdg)
    (fun vm₁ hW₁ => ⟨hf.1, hf.2, hp.2 (T.setVm vm₁) hT hW₁⟩) with ⟨v, vm₁, ⟨U', l2, c2, s2⟩, hW₁, X', ⟨g', mk, t, L, e1, e2, hq, h1, hL, h2, h3⟩, st⟩ | ⟨q, vm₁, ⟨U', l2, c2, s2⟩, hW₁, X', ⟨g', mk, t, L, E, ce, e1, e2, hq, hce, hcv, hcl, h1, hL, h2, h3⟩, st⟩
  · dsimp only [Pt.U, Pt.locs, Pt.cells, Pt.slots] at X' e1 e2 h1 h2 h3 st
    subst h1; subst h2; subst h3
    exact Or.inl ⟨v, (T.setVm vm₁).calling g' mk As.toArray, t, U', L, hT, X', hL, e1, e2, hq, st⟩
  · dsimp only [Pt.U, Pt.locs, Pt.cells, Pt.slots] at X' e1 e2 h1 h2 h3 st hcl
    subst h1; subst h2; subst h3
    exact Or.inr ⟨q, (T.setVm vm₁).calling g' mk As.toArray, t, U', L, E, ce, hT, X', hL, e1, e2, hq, hce, hcv, vx_cls hW₁ hcl, st⟩
end Runs
section Rows
variable {p : Program} {l : Launch} {e : Env} {R : Room} {s : State} {m : MethodId} {args : Array Value} {below : List Frame} {meth : Method} {c : Code} {H : Heap} {locs : List Loc} {cells slots : Nat} {Q : State → Prop}
variable {mc ms : Nat} {free : Addr → Prop} {A0 A1 : Nat → Prop} {H0 : Heap} {a : Array Value} {pc : Nat} {ls : Array Slot} {st0 rest : List Value}
theorem vx_keep {st₀ t T' : State} {L : List Loc} (h0 : st₀.heap = H) (e1 : T'.heap = t.heap) (hS : va_S A0 H0 H locs) (hA : ∀ q, q < H.size → A1 q → A0 q) (hf : ∀ q, free q → A0 q) (hL : ∀ q ∈ L, free q.base) (hF : va_F A1 st₀ t) :
    H.size ≤ T'.heap.size ∧ (∀ q : Nat, q < H.size → ¬ A1 q → T'.heap[q]? = H[q]?) ∧ va_S A0 H0 T'.heap (locs ++ L) := by
  obtain ⟨hz, hk⟩ := hF
  rw [h0] at hz hk
  exact ⟨by rw [e1]; exact hz, fun q h1 h2 => by rw [e1]; exact hk q h1 h2,
    ⟨Nat.le_trans hS.1 (by rw [e1]; exact hz), fun q h1 h2 => by rw [e1, hk q (Nat.lt_of_lt_of_le h1 hS.1) (fun z => h2 (hA q (Nat.lt_of_lt_of_le h1 hS.1) z))]; exact hS.2.1 q h1 h2, fun q hq => by
      rcases List.mem_append.mp hq with h | h
      · exact hS.2.2 q h
      · exact hf _ (hL q h)⟩⟩
theorem vx_calli {S SX : Type} {post : Int32 → S → Prop} {px : SX → Prop} {B : S → State → Prop} {BX : String → SX → State → Prop} {AX : Nat → Prop} (hr : vx_Run p l e R s m args below meth c H locs cells slots mc ms (F0 m pc ls st0) rest (va_Qi post B A1 a) (vx_X px BX AX) free) (hS : va_S A0 H0 H locs) (hA : ∀ q, q < H.size → A1 q → A0 q) (hf : ∀ q, free q → A0 q) (hAX : ∀ q, q < H.size → AX q → A0 q)
    (kx : ∀ (E : String) (ce : Cell) (q9 : Addr) (u : SX) (t : State) (H1 : Heap) (locs1 : List Loc), t.heap = H1 → s.vm.Alike t.vm → px u → BX E u t → H.size ≤ H1.size → (∀ q : Nat, q < H.size → ¬ AX q → H1[q]? = H[q]?) → va_S A0 H0 H1 locs1 → H1[q9]? = some ce → ce.vm = .none → s.vm.findClass E = some ce.cls → vx_W p l e R s m args below meth c H1 locs1 (cells + mc) (slots + ms) Q (F0 m pc ls rest) q9)
    (kk : ∀ (r : Int32) (u : S) (t : State) (H1 : Heap) (locs1 : List Loc), t.heap = H1 → s.vm.Alike t.vm → post r u → B u t → H.size ≤ H1.size → (∀ q : Nat, q < H.size → ¬ A1 q → H1[q]? = H[q]?) → va_S A0 H0 H1 locs1 → W p l e R s m args below meth c H1 locs1 (cells + mc) (slots + ms) Q (F0 m (pc + 3) ls (.int r :: rest))) : W p l e R s m args below meth c H locs cells slots Q (F0 m pc ls st0) := by
  intro T hT X
  rcases hr T hT X with ⟨v, st₀, t, T', L, h0, X', hL, e1, e2, ⟨⟨r, u, hv, hp, hb⟩, hF⟩, st⟩ | ⟨q, st₀, t, T', L, E, ce, h0, X', hL, e1, e2, ⟨u, hp, hb, hF⟩, hce, hcv, hcl, st⟩
  · cases hv
    obtain ⟨k1, k2, k3⟩ := vx_keep h0 e1 hS hA hf hL hF
    obtain ⟨t2, a1, b1⟩ := kk r u t T'.heap (locs ++ L) e1.symm (by rw [← e2]; exact X'.warmed.alike) hp hb k1 k2 k3 T' rfl X'
    exact ⟨t2, st t2 a1, b1⟩
  · obtain ⟨k1, k2, k3⟩ := vx_keep h0 e1 hS hAX hf hL hF
    obtain ⟨t2, a1, b1⟩ := kx E ce q u t T'.heap (locs ++ L) e1.symm (by rw [← e2]; exact X'.warmed.alike) hp hb k1 k2 k3 (by rw [e1]; exact hce) hcv hcl T' rfl X'
    exact ⟨t2, st.trans a1, b1⟩
theorem vx_calll {S SX : Type} {post : Int64 → S → Prop} {px : SX → Prop} {B : S → State → Prop} {BX : String → SX → State → Prop} {AX : Nat → Prop} (hr : vx_Run p l e R s m args below meth c H locs cells slots mc ms (F0 m pc ls st0) rest (va_Ql post B A1 a) (vx_X px BX AX) free) (hS : va_S A0 H0 H locs) (hA : ∀ q, q < H.size → A1 q → A0 q) (hf : ∀ q, free q → A0 q) (hAX : ∀ q, q < H.size → AX q → A0 q)
    (kx : ∀ (E : String) (ce : Cell) (q9 : Addr) (u : SX) (t : State) (H1 : Heap) (locs1 : List Loc), t.heap = H1 → s.vm.Alike t.vm → px u → BX E u t → H.size ≤ H1.size → (∀ q : Nat, q < H.size → ¬ AX q → H1[q]? = H[q]?) → va_S A0 H0 H1 locs1 → H1[q9]? = some ce → ce.vm = .none → s.vm.findClass E = some ce.cls → vx_W p l e R s m args below meth c H1 locs1 (cells + mc) (slots + ms) Q (F0 m pc ls rest) q9)
    (kk : ∀ (r : Int64) (u : S) (t : State) (H1 : Heap) (locs1 : List Loc), t.heap = H1 → s.vm.Alike t.vm → post r u → B u t → H.size ≤ H1.size → (∀ q : Nat, q < H.size → ¬ A1 q → H1[q]? = H[q]?) → va_S A0 H0 H1 locs1 → W p l e R s m args below meth c H1 locs1 (cells + mc) (slots + ms) Q (F0 m (pc + 3) ls (.long r :: rest))) : W p l e R s m args below meth c H locs cells slots Q (F0 m pc ls st0) := by
  intro T hT X
  rcases hr T hT X with ⟨v, st₀, t, T', L, h0, X', hL, e1, e2, ⟨⟨r, u, hv, hp, hb⟩, hF⟩, st⟩ | ⟨q, st₀, t, T', L, E, ce, h0, X', hL, e1, e2, ⟨u, hp, hb, hF⟩, hce, hcv, hcl, st⟩
  · cases hv
    obtain ⟨k1, k2, k3⟩ := vx_keep h0 e1 hS hA hf hL hF
    obtain ⟨t2, a1, b1⟩ := kk r u t T'.heap (locs ++ L) e1.symm (by rw [← e2]; exact X'.warmed.alike) hp hb k1 k2 k3 T' rfl X'
    exact ⟨t2, st t2 a1, b1⟩
  · obtain ⟨k1, k2, k3⟩ := vx_keep h0 e1 hS hAX hf hL hF
    obtain ⟨t2, a1, b1⟩ := kx E ce q u t T'.heap (locs ++ L) e1.symm (by rw [← e2]; exact X'.warmed.alike) hp hb k1 k2 k3 (by rw [e1]; exact hce) hcv hcl T' rfl X'
    exact ⟨t2, st.trans a1, b1⟩
theorem vx_callf {S SX : Type} {post : UInt32 → S → Prop} {px : SX → Prop} {B : S → State → Prop} {BX : String → SX → State → Prop} {AX : Nat → Prop} (hr : vx_Run p l e R s m args below meth c H locs cells slots mc ms (F0 m pc ls st0) rest (va_Qf post B A1 a) (vx_X px BX AX) free) (hS : va_S A0 H0 H locs) (hA : ∀ q, q < H.size → A1 q → A0 q) (hf : ∀ q, free q → A0 q) (hAX : ∀ q, q < H.size → AX q → A0 q)
    (kx : ∀ (E : String) (ce : Cell) (q9 : Addr) (u : SX) (t : State) (H1 : Heap) (locs1 : List Loc), t.heap = H1 → s.vm.Alike t.vm → px u → BX E u t → H.size ≤ H1.size → (∀ q : Nat, q < H.size → ¬ AX q → H1[q]? = H[q]?) → va_S A0 H0 H1 locs1 → H1[q9]? = some ce → ce.vm = .none → s.vm.findClass E = some ce.cls → vx_W p l e R s m args below meth c H1 locs1 (cells + mc) (slots + ms) Q (F0 m pc ls rest) q9)
    (kk : ∀ (r : UInt32) (u : S) (t : State) (H1 : Heap) (locs1 : List Loc), t.heap = H1 → s.vm.Alike t.vm → post r u → B u t → H.size ≤ H1.size → (∀ q : Nat, q < H.size → ¬ A1 q → H1[q]? = H[q]?) → va_S A0 H0 H1 locs1 → W p l e R s m args below meth c H1 locs1 (cells + mc) (slots + ms) Q (F0 m (pc + 3) ls (.float r :: rest))) : W p l e R s m args below meth c H locs cells slots Q (F0 m pc ls st0) := by
  intro T hT X
  rcases hr T hT X with ⟨v, st₀, t, T', L, h0, X', hL, e1, e2, ⟨⟨r, u, hv, hp, hb⟩, hF⟩, st⟩ | ⟨q, st₀, t, T', L, E, ce, h0, X', hL, e1, e2, ⟨u, hp, hb, hF⟩, hce, hcv, hcl, st⟩
  · cases hv
    obtain ⟨k1, k2, k3⟩ := vx_keep h0 e1 hS hA hf hL hF
    obtain ⟨t2, a1, b1⟩ := kk r u t T'.heap (locs ++ L) e1.symm (by rw [← e2]; exact X'.warmed.alike) hp hb k1 k2 k3 T' rfl X'
    exact ⟨t2, st t2 a1, b1⟩
  · obtain ⟨k1, k2, k3⟩ := vx_keep h0 e1 hS hAX hf hL hF
    obtain ⟨t2, a1, b1⟩ := kx E ce q u t T'.heap (locs ++ L) e1.symm (by rw [← e2]; exact X'.warmed.alike) hp hb k1 k2 k3 (by rw [e1]; exact hce) hcv hcl T' rfl X'
    exact ⟨t2, st.trans a1, b1⟩
theorem vx_calld {S SX : Type} {post : UInt64 → S → Prop} {px : SX → Prop} {B : S → State → Prop} {BX : String → SX → State → Prop} {AX : Nat → Prop} (hr : vx_Run p l e R s m args below meth c H locs cells slots mc ms (F0 m pc ls st0) rest (va_Qd post B A1 a) (vx_X px BX AX) free) (hS : va_S A0 H0 H locs) (hA : ∀ q, q < H.size → A1 q → A0 q) (hf : ∀ q, free q → A0 q) (hAX : ∀ q, q < H.size → AX q → A0 q)
    (kx : ∀ (E : String) (ce : Cell) (q9 : Addr) (u : SX) (t : State) (H1 : Heap) (locs1 : List Loc), t.heap = H1 → s.vm.Alike t.vm → px u → BX E u t → H.size ≤ H1.size → (∀ q : Nat, q < H.size → ¬ AX q → H1[q]? = H[q]?) → va_S A0 H0 H1 locs1 → H1[q9]? = some ce → ce.vm = .none → s.vm.findClass E = some ce.cls → vx_W p l e R s m args below meth c H1 locs1 (cells + mc) (slots + ms) Q (F0 m pc ls rest) q9)
    (kk : ∀ (r : UInt64) (u : S) (t : State) (H1 : Heap) (locs1 : List Loc), t.heap = H1 → s.vm.Alike t.vm → post r u → B u t → H.size ≤ H1.size → (∀ q : Nat, q < H.size → ¬ A1 q → H1[q]? = H[q]?) → va_S A0 H0 H1 locs1 → W p l e R s m args below meth c H1 locs1 (cells + mc) (slots + ms) Q (F0 m (pc + 3) ls (.double r :: rest))) : W p l e R s m args below meth c H locs cells slots Q (F0 m pc ls st0) := by
  intro T hT X
  rcases hr T hT X with ⟨v, st₀, t, T', L, h0, X', hL, e1, e2, ⟨⟨r, u, hv, hp, hb⟩, hF⟩, st⟩ | ⟨q, st₀, t, T', L, E, ce, h0, X', hL, e1, e2, ⟨u, hp, hb, hF⟩, hce, hcv, hcl, st⟩
  · cases hv
    obtain ⟨k1, k2, k3⟩ := vx_keep h0 e1 hS hA hf hL hF
    obtain ⟨t2, a1, b1⟩ := kk r u t T'.heap (locs ++ L) e1.symm (by rw [← e2]; exact X'.warmed.alike) hp hb k1 k2 k3 T' rfl X'
    exact ⟨t2, st t2 a1, b1⟩
  · obtain ⟨k1, k2, k3⟩ := vx_keep h0 e1 hS hAX hf hL hF
    obtain ⟨t2, a1, b1⟩ := kx E ce q u t T'.heap (locs ++ L) e1.symm (by rw [← e2]; exact X'.warmed.alike) hp hb k1 k2 k3 (by rw [e1]; exact hce) hcv hcl T' rfl X'
    exact ⟨t2, st.trans a1, b1⟩
theorem vx_callv {S SX : Type} {post : S → Prop} {px : SX → Prop} {B : S → State → Prop} {BX : String → SX → State → Prop} {AX : Nat → Prop} (hr : vx_Run p l e R s m args below meth c H locs cells slots mc ms (F0 m pc ls st0) rest (va_Qv post B A1 a) (vx_X px BX AX) free) (hS : va_S A0 H0 H locs) (hA : ∀ q, q < H.size → A1 q → A0 q) (hf : ∀ q, free q → A0 q) (hAX : ∀ q, q < H.size → AX q → A0 q)
    (kx : ∀ (E : String) (ce : Cell) (q9 : Addr) (u : SX) (t : State) (H1 : Heap) (locs1 : List Loc), t.heap = H1 → s.vm.Alike t.vm → px u → BX E u t → H.size ≤ H1.size → (∀ q : Nat, q < H.size → ¬ AX q → H1[q]? = H[q]?) → va_S A0 H0 H1 locs1 → H1[q9]? = some ce → ce.vm = .none → s.vm.findClass E = some ce.cls → vx_W p l e R s m args below meth c H1 locs1 (cells + mc) (slots + ms) Q (F0 m pc ls rest) q9)
    (kk : ∀ (u : S) (t : State) (H1 : Heap) (locs1 : List Loc), t.heap = H1 → s.vm.Alike t.vm → post u → B u t → H.size ≤ H1.size → (∀ q : Nat, q < H.size → ¬ A1 q → H1[q]? = H[q]?) → va_S A0 H0 H1 locs1 → W p l e R s m args below meth c H1 locs1 (cells + mc) (slots + ms) Q (F0 m (pc + 3) ls (rest))) : W p l e R s m args below meth c H locs cells slots Q (F0 m pc ls st0) := by
  intro T hT X
  rcases hr T hT X with ⟨v, st₀, t, T', L, h0, X', hL, e1, e2, ⟨⟨u, hv, hp, hb⟩, hF⟩, st⟩ | ⟨q, st₀, t, T', L, E, ce, h0, X', hL, e1, e2, ⟨u, hp, hb, hF⟩, hce, hcv, hcl, st⟩
  · cases hv
    obtain ⟨k1, k2, k3⟩ := vx_keep h0 e1 hS hA hf hL hF
    obtain ⟨t2, a1, b1⟩ := kk u t T'.heap (locs ++ L) e1.symm (by rw [← e2]; exact X'.warmed.alike) hp hb k1 k2 k3 T' rfl X'
    exact ⟨t2, st t2 a1, b1⟩
  · obtain ⟨k1, k2, k3⟩ := vx_keep h0 e1 hS hAX hf hL hF
    obtain ⟨t2, a1, b1⟩ := kx E ce q u t T'.heap (locs ++ L) e1.symm (by rw [← e2]; exact X'.warmed.alike) hp hb k1 k2 k3 (by rw [e1]; exact hce) hcv hcl T' rfl X'
    exact ⟨t2, st.trans a1, b1⟩
/-- caught by the row x of this method's table; the rows ahead don't take it -/
theorem vx_catch {own name : String} {E : String} {ce : Cell} {q : Addr} (hown : s.vm.findClass own = some m.cls) (pre : List ExceptionTableEntry) (x : ExceptionTableEntry) (suf : List ExceptionTableEntry) (hsplit : c.exceptionTable.toList = pre ++ x :: suf)
    (hpass : ∀ z ∈ pre, covers z pc = false ∨ (z.catchType ≠ 0 ∧ ∃ nm : String, (Cond.classLink own z.catchType nm).before args s = true ∧ va_Nc E nm s)) (hx : covers x pc = true) (h0 : x.catchType ≠ 0)
    (hlink : (Cond.classLink own x.catchType name).before args s = true) (hcast : (Cond.castable E name).before args s = true) (hcell : H[q]? = some ce) (hv : ce.vm = .none) (hcl : s.vm.findClass E = some ce.cls)
    (kk : W p l e R s m args below meth c H locs cells slots Q (F0 m x.handlerPc ls [.ref q])) : vx_W p l e R s m args below meth c H locs cells slots Q (F0 m pc ls rest) q := by
  intro T hT X
  have hpl : e.platform.magicAccessors = ({} : Platform).magicAccessors := by rw [X.admits.platform]
  obtain ⟨c3, c4, hc3, hc4, hasg⟩ := Cond.castable_spec hcast
  cases Option.some.inj (hc3.symm.trans hcl)
  obtain ⟨c5, hc5, hcl5⟩ := Cond.classLink_spec hown hlink e.platform hpl
  cases Option.some.inj (hc4.symm.trans hc5)
  obtain ⟨vm', X', st⟩ := X.thenCaughtThrough q (g := F0 m pc ls rest) rfl (Steps.refl _) (by rw [hT]; exact hcell) (by rw [hv]; rfl) (by obtain ⟨k9, h9, -⟩ := Vm.findClass_spec hcl; exact ⟨k9, h9⟩) pre x suf hsplit
    (fun z hz => by
      rcases hpass z hz with h | ⟨hz0, nm, hl1, hn1⟩
      · exact Or.inl h
      · obtain ⟨c6, hc6, hcl6⟩ := Cond.classLink_spec hown hl1 e.platform hpl
        obtain ⟨a8, b8, h1, h2, h3⟩ := hn1
        cases Option.some.inj (h1.symm.trans hcl)
        cases Option.some.inj (h2.symm.trans hc6)
        exact Or.inr ⟨hz0, _, hcl6, h3⟩) hx (Or.inr ⟨h0, c4, hcl5, hasg⟩)
  obtain ⟨t, a1, b1⟩ := kk (T.setVm vm') hT X'
  exact ⟨t, st.trans a1, b1⟩
end Rows
section Ends
variable {p : Program} {l : Launch} {e : Env} {R : Room} {s : State} {m : MethodId} {args : Array Value} {below : List Frame} {meth : Method} {c : Code} {H : Heap} {locs : List Loc} {cells slots : Nat} {Q : State → Prop}
variable {mc ms : Nat} {free : Addr → Prop} {A0 A1 : Nat → Prop} {H0 : Heap} {a : Array Value} {ls : Array Slot} {st0 rest : List Value}
variable {Qc : Array Value → State → Outcome → State → Prop} {XC : String → State → State → Prop}
/-- what a body that may throw owes at its end -/
def vx_MQ (below : List Frame) (Qc : Array Value → State → Outcome → State → Prop) (XC : String → State → State → Prop) (a : Array Value) (s : State) (mc ms : Nat) (free : Addr → Prop) : State → Prop := fun t =>
  ∃ o, t.status = .running ∧ Ended t below o ∧ vx_Q Qc XC mc ms free a s o t
theorem vx_ret {g : JFrame} {mc ms : Nat} (k : W p l e R s m args below meth c H locs cells slots (MQ below Qc args s mc ms free) g) : W p l e R s m args below meth c H locs cells slots (vx_MQ below Qc XC args s mc ms free) g := by
  intro T hT X
  obtain ⟨t, a1, o, b1, b2, b3, b4⟩ := k T hT X
  exact ⟨t, a1, o, b1, b2, Or.inl ⟨b3, b4⟩⟩
/-- not caught here: it goes on to the caller -/
theorem vx_widen {g : JFrame} {q : Addr} {k n : Nat} (h1 : cells ≤ k) (h2 : slots ≤ n) (kk : vx_W p l e R s m args below meth c H locs k n Q g q) : vx_W p l e R s m args below meth c H locs cells slots Q g q := fun T hT X => kk T hT (stand_widen X h1 h2)
theorem vx_out {pc : Nat} {E : String} {ce : Cell} {q : Addr} {mc ms : Nat} (hout : ∀ x ∈ c.exceptionTable.toList, covers x pc = false) (hlocks : meth.locks = false) (hcell : H[q]? = some ce) (hv : ce.vm = .none) (hcl : s.vm.findClass E = some ce.cls)
    (hx : ∀ t : State, t.heap = H → s.vm.Alike t.vm → XC E s t) (hf : ∀ z ∈ locs, free z.base) (hc : cells ≤ mc) (hs : slots ≤ ms) :
    vx_W p l e R s m args below meth c H locs cells slots (vx_MQ below Qc XC args s mc ms free) (F0 m pc ls rest) q := by
  intro T hT X
  obtain ⟨st1, hrun, hend, hW, hsm⟩ := X.leaveThrown q (g := F0 m pc ls rest) rfl rfl rfl hout hlocks
  have hcell9 : (T.setFrames (.throwing q :: below)).heap[q]? = some ce := by
    show T.heap[q]? = some ce
    rw [hT]; exact hcell
  exact ⟨_, st1, .threw q, hrun, hend, Or.inr ⟨q, rfl, E, ce, locs, hx _ hT hW.alike, hcell9, hv, hcl, hW, hsm.mono hc hs, hf⟩⟩
theorem vx_frame {U : State} {k n : Nat} (h : s.sameButNew ({ U with vm := s.vm } : State) locs k n) : s.heap.size ≤ U.heap.size ∧ ∀ q : Nat, q < s.heap.size → (∀ z ∈ locs, z.base ≠ q) → U.heap[q]? = s.heap[q]? := by
  obtain ⟨-, h2, -, -, -, h6⟩ := h
  refine ⟨h2, fun q hq hz => ?_⟩
  obtain ⟨c9, e1, e2, e3, e4⟩ := h6 q _ (Array.getElem?_eq_getElem hq)
  have hs : c9.slots = (s.heap[q]).slots := Array.ext_getElem? fun i => e4 i fun hm => hz _ hm rfl
  have h9 : c9 = s.heap[q] := by
    rw [hs] at e2
    exact e2
  have e5 : U.heap[q]? = some c9 := e1
  rw [e5, h9, Array.getElem?_eq_getElem hq]
/-- the words of a throw but the four that speak of the heap -/
def vx_no (w : Cond) : Bool := decide (w ≠ .isRef (.static Bundle.tN "UNASSIGNED_STACK" Bundle.steD)) && decide (w ≠ .isRef (.static Bundle.tN "SUPPRESSED_SENTINEL" Bundle.listD)) && decide (w ≠ .laysStatic Bundle.tN "UNASSIGNED_STACK" Bundle.steD) && decide (w ≠ .laysStatic Bundle.tN "SUPPRESSED_SENTINEL" Bundle.listD)
def vx_at0 (own : String) (ic : Nat) (X : String) (names : List String) : List Cond := (Bundle.ownAtoms0 own ic X names).filter vx_no
def vx_atS (own : String) (ic : Nat) (X : String) (names : List String) : List Cond := (Bundle.ownAtoms own ic X names).filter vx_no
/-- a word that the tables alone decide, or a good one -/
def vx_ot (w : Cond) : Bool := w.onTables || goodWord w
theorem vx_ot_at {args a' : Array Value} {s U : State} {w : Cond} (hW : s.WarmedH U.vm) (hvm : s.vm = U.vm) (hg : vx_ot w = true) (h : w.before args s = true) : w.before a' U = true := by
  simp only [vx_ot, Bool.or_eq_true] at hg
  rcases hg with hg | hg
  · exact va_tabs hg hvm h
  · exact word_at hW (good_of_word hg) h
/-- a list's words: the good ones out of the method's own list, the others by premises of their own -/
theorem vx_hat {args : Array Value} {s : State} {L B : List Cond} (h1 : ∀ w ∈ L.filter goodWord, w.before args s = true) (h2 : ∀ w ∈ L.filter (fun w => !goodWord w), w ∈ B) (h3 : ∀ w ∈ B, w.before args s = true) : ∀ w ∈ L, w.before args s = true := by
  intro w hw
  by_cases g : goodWord w = true
  · exact h1 w (List.mem_filter.mpr ⟨hw, g⟩)
  · refine h3 w (h2 w (List.mem_filter.mpr ⟨hw, ?_⟩))
    show (!goodWord w) = true
    cases hgw : goodWord w
    · rfl
    · exact absurd hgw g
theorem vx_c {args : Array Value} {s : State} {w : Cond} {B : List Cond} (h : w.before args s = true) (t : ∀ w ∈ B, w.before args s = true) : ∀ w' ∈ w :: B, w'.before args s = true := fun w' h' => (List.mem_cons.mp h').elim (fun e => by rw [e]; exact h) (t w')
theorem vx_n {args : Array Value} {s : State} : ∀ w ∈ ([] : List Cond), w.before args s = true := fun _ h => nomatch h
theorem vx_own {args : Array Value} {s : State} {L : List Cond} (h1 : ∀ w ∈ L.filter vx_no, w.before args s = true)
    (hU : (Cond.isRef (.static Bundle.tN "UNASSIGNED_STACK" Bundle.steD)).before args s = true) (hN : (Cond.isRef (.static Bundle.tN "SUPPRESSED_SENTINEL" Bundle.listD)).before args s = true)
    (lU : (Cond.laysStatic Bundle.tN "UNASSIGNED_STACK" Bundle.steD).before args s = true) (lN : (Cond.laysStatic Bundle.tN "SUPPRESSED_SENTINEL" Bundle.listD).before args s = true) : ∀ w ∈ L, w.before args s = true := by
  intro w hw
  by_cases e1 : w = .isRef (.static Bundle.tN "UNASSIGNED_STACK" Bundle.steD)
  · rw [e1]; exact hU
  · by_cases e2 : w = .isRef (.static Bundle.tN "SUPPRESSED_SENTINEL" Bundle.listD)
    · rw [e2]; exact hN
    · by_cases e3 : w = .laysStatic Bundle.tN "UNASSIGNED_STACK" Bundle.steD
      · rw [e3]; exact lU
      · by_cases e4 : w = .laysStatic Bundle.tN "SUPPRESSED_SENTINEL" Bundle.listD
        · rw [e4]; exact lN
        · exact h1 w (List.mem_filter.mpr ⟨hw, by unfold vx_no; rw [decide_eq_true e1, decide_eq_true e2, decide_eq_true e3, decide_eq_true e4]; rfl⟩)
/-- where a static field lies, its class's statics cell in H -/
def vx_L (C n d : String) (A : Nat → Prop) (U : State) (H : Heap) : Prop := ∃ (c : ClassId) (k : Class) (i : Nat) (f : Field) (a : Nat) (cell : Cell), U.vm.findClass C = some c ∧ U.fieldFound? C n d = some (c, k, i, f) ∧ f.isStatic = true ∧ k.statics = some a ∧ H[a]? = some cell ∧ cell.vm.isStatics = true ∧ cell.cls = c ∧ f.slot < cell.slots.size ∧ k.staticTypes[f.slot]? = some f.type ∧ ¬ A a
theorem vx_L.moved {C n d : String} {A : Nat → Prop} {u U : State} {H : Heap} (hvm : u.vm.Alike U.vm) (h : vx_L C n d A u H) : vx_L C n d A U H := by
  obtain ⟨c, k, i, f, a, cell, h1, h2, h3, h4, h5, h6, h7, h8, h9, h10⟩ := h
  obtain ⟨k', hi', he⟩ := State.fieldFound?_setVm hvm h2
  exact ⟨c, k', i, f, a, cell, by rw [hvm.findClass]; exact h1, hi', h3, by rw [he]; exact h4, h5, h6, h7, h8, by rw [he]; exact h9, h10⟩
theorem vx_L.kept {C n d : String} {A : Nat → Prop} {U : State} {H H1 : Heap} (h : vx_L C n d A U H) (hq : ∀ a : Nat, a < H.size → ¬ A a → H1[a]? = H[a]?) : vx_L C n d A U H1 := by
  obtain ⟨c, k, i, f, a, cell, h1, h2, h3, h4, h5, h6, h7, h8, h9, h10⟩ := h
  exact ⟨c, k, i, f, a, cell, h1, h2, h3, h4, by rw [hq a (Array.getElem?_eq_some_iff.mp h5).1 h10]; exact h5, h6, h7, h8, h9, h10⟩
theorem vx_L.narrow {C n d : String} {A B : Nat → Prop} {U : State} {H : Heap} (h : vx_L C n d A U H) (hAB : ∀ q, B q → A q) : vx_L C n d B U H := by
  obtain ⟨c, k, i, f, a, cell, h1, h2, h3, h4, h5, h6, h7, h8, h9, h10⟩ := h
  exact ⟨c, k, i, f, a, cell, h1, h2, h3, h4, h5, h6, h7, h8, h9, fun z => h10 (hAB _ z)⟩
theorem vx_L.word {C n d : String} {A : Nat → Prop} {s : State} {args : Array Value} (h : vx_L C n d A s s.heap) : (Cond.laysStatic C n d).before args s = true := by
  obtain ⟨c, k, i, f, a, cell, h1, h2, h3, h4, h5, h6, h7, h8, h9, -⟩ := h
  show (Cond.laysStatic C n d).holds args s none s [] = true
  exact Cond.laysStatic_of h1 h2 h3 h4 h5 h6 h7 h8 h9
/-- .. and what it holds: null or some reference -/
def vx_Zq (C n d : String) (A : Nat → Prop) (U : State) (H : Heap) : Prop := va_Zq C n d A U H ∧ vx_L C n d A U H
theorem vx_Zq.moved {C n d : String} {A : Nat → Prop} {u U : State} {H : Heap} (hvm : u.vm.Alike U.vm) (h : vx_Zq C n d A u H) : vx_Zq C n d A U H := ⟨va_Zq.moved hvm h.1, vx_L.moved hvm h.2⟩
theorem vx_Zq.kept {C n d : String} {A : Nat → Prop} {U : State} {H H1 : Heap} (h : vx_Zq C n d A U H) (hq : ∀ a : Nat, a < H.size → ¬ A a → H1[a]? = H[a]?) : vx_Zq C n d A U H1 := ⟨va_Zq.kept h.1 hq, vx_L.kept h.2 hq⟩
theorem vx_Zq.narrow {C n d : String} {A B : Nat → Prop} {U : State} {H : Heap} (h : vx_Zq C n d A U H) (hAB : ∀ q, B q → A q) : vx_Zq C n d B U H := ⟨va_Zq.narrow h.1 hAB, vx_L.narrow h.2 hAB⟩
theorem vx_Zqof {args : Array Value} {s : State} {C n d : String} {A : Nat → Prop} (hl : (Cond.laysStatic C n d).before args s = true) (hini : (Cond.initialized C).before args s = true) (h : (Cond.isRef (.static C n d)).before args s = true) (hA : ∀ a : Nat, a < s.heap.size → ¬ A a) : vx_Zq C n d A s s.heap := by
  refine ⟨va_Zqof hl hini h hA, ?_⟩
  obtain ⟨c, k, i, f, a, cell, h1, h2, h3, h4, h5, h6, h7, h8, h9⟩ := Cond.laysStatic_spec hl
  exact ⟨c, k, i, f, a, cell, h1, h2, h3, h4, h5, h6, h7, h8, h9, hA a (Array.getElem?_eq_some_iff.mp h5).1⟩
theorem vx_isRef {C n d : String} {v : Value} {A : Nat → Prop} {s : State} {args : Array Value} (h : va_Z C n d v A s s.heap) (hv : v.isRef = true) : (Cond.isRef (.static C n d)).before args s = true := by
  obtain ⟨cf, kf, fi, f, a, cell, h1, h2, h3, h4, h5, h6, h7, -⟩ := h
  have he : (Term.static C n d).eval args s none [] s = some v := by
    simp [Term.eval, State.fieldNamed?, h1, h2, h4, h5, h6, h7]
  simp only [Cond.before, Cond.holds, Cond.value, he]
  cases v <;> simp_all [Value.isRef]
theorem vx_isRefq {C n d : String} {A : Nat → Prop} {s : State} {args : Array Value} (h : va_Zq C n d A s s.heap) : (Cond.isRef (.static C n d)).before args s = true := by
  rcases h with h | ⟨t, h⟩
  · exact vx_isRef h rfl
  · exact vx_isRef h rfl
/-- the same frame, seen from here: as if the method were called anew in this heap -/
theorem vx_rebase {T : State} (X : Stand p l e R s m args below meth c T locs cells slots) {R' : Room} (hf : R'.frames ≤ R.frames) (hl : R'.locals ≤ R.locals) (hc : cells + R'.cells ≤ R.cells) (hs : slots + R'.slots ≤ R.slots) :
    Stand p l e R' ((T.setVm s.vm).setFrames (.invoking m args :: below)) m args below meth c T [] 0 0 := by
  have htop : (T.setVm s.vm).topJava?.isSome := X.here.top
  have hF : ((T.setVm s.vm).setFrames (.invoking m args :: below)).frames = .invoking m args :: below := State.frames_setFrames _ (State.cur_lt_of_top htop)
  obtain ⟨g₀, hg0⟩ := Option.isSome_iff_exists.mp htop
  obtain ⟨r, hr⟩ := State.topJava?_eq_some.mp hg0
  have hl9 : e.platform.stackLimits (T.setVm s.vm).me = e.platform.stackLimits s.me := X.limits
  have hb9 : (T.setVm s.vm).me.stackBytes = s.me.stackBytes := X.bytes
  refine ⟨X.admits, X.cas, X.clock, hF, ?_, X.hears, X.method, X.code, X.here, X.tail, X.warmed, ?_, ?_, ?_⟩
  · have h := X.room
    have hU : ((T.setVm s.vm).setFrames (.invoking m args :: below)).localsInUse = s.localsInUse := by
      rw [State.localsInUse_invoking hF (meth := meth) (c := c) X.method X.code, State.localsInUse_invoking X.frames X.method X.code]
    simp only [State.hasRoom, Bool.and_eq_true, decide_eq_true_eq] at h ⊢
    obtain ⟨⟨⟨⟨h1, h2, h3, h4, h5, h6⟩, h7⟩, h8⟩, h9⟩ := h
    rw [X.frames, List.length_cons] at h2 h3
    have q1 := X.heapSize
    have q2 := X.used
    simp only [hF, hU, List.length_cons, State.stackLimits_setFrames, State.stackBytes_setFrames, hl9, hb9]
    refine ⟨⟨⟨⟨by omega, by omega, by omega, by omega, by omega, h6⟩, ?_⟩, ?_⟩, X.book⟩
    · show T.heap.size + R'.cells ≤ e.platform.maxCells
      omega
    · show T.slotsUsed + R'.slots ≤ e.platform.maxSlots
      omega
  · rw [State.stackLimits_setFrames]; rfl
  · rw [State.stackBytes_setFrames]; rfl
  · refine ⟨?_, Nat.le_refl _, Nat.le_refl _, ?_, ?_, fun a c9 h9 => ⟨c9, h9, rfl, rfl, fun _ _ => rfl⟩⟩
    · obtain ⟨t, ht, -⟩ := State.frames_cons hr
      show T.setVm s.vm = { ((T.setVm s.vm).setFrames (.invoking m args :: below)).setFrames (T.setVm s.vm).frames with heap := T.heap, slotsUsed := T.slotsUsed }
      rw [State.setFrames_setFrames, State.setFrames_self ht]
      rfl
    · show T.slotsUsed = T.slotsUsed + ((T.heap.toList.drop T.heap.size).map (·.slots.size)).sum
      rw [List.drop_eq_nil_of_le (Nat.le_of_eq Array.length_toList)]
      rfl
    · show ((T.heap.toList.drop T.heap.size).map (·.slots.size)).sum ≤ 0
      rw [List.drop_eq_nil_of_le (Nat.le_of_eq Array.length_toList)]
      exact Nat.le_refl _
/-- 'throw new E()': new; dup; invokespecial; athrow -/
theorem vx_throw0 {cc : ByteArray} {pc : Nat} (hexec : p.tables.exec = Jvm.exec) (hb : c.code = cc) (hl : l.stackTraces = false) {own cls : String} {names : List String} {ik ic mc ms : Nat} {A : Nat → Prop}
    (hown : s.vm.findClass own = some m.cls) (hcls : Bundle.fit cls = true) (hnames : ∀ n ∈ names, Bundle.fit n = true)
    (hk : (Cond.classLink own ik cls).before args s = true) (hini : (Cond.initialized cls).before args s = true) (hat : ∀ w ∈ vx_at0 own ic cls names, w.before args s = true)
    (hgood : ∀ w ∈ Cond.classLink own ik cls :: Cond.initialized cls :: vx_at0 own ic cls names, vx_ot w = true)
    (hU : vx_Zq Bundle.tN "UNASSIGNED_STACK" Bundle.steD A s s.heap) (hN : vx_Zq Bundle.tN "SUPPRESSED_SENTINEL" Bundle.listD A s s.heap) (hS : va_S A s.heap H locs) (hsize : ls.size = c.maxLocals)
    (d0 : decode cc pc = .ok (.new ik, 3)) (d3 : decode cc (pc + 3) = .ok (.dup, 1)) (d4 : decode cc (pc + 4) = .ok (.invokespecial ic, 3)) (d7 : decode cc (pc + 7) = .ok (.athrow, 1))
    (hout : ∀ x ∈ c.exceptionTable.toList, covers x (pc + 7) = false)
    (hRframes : names.length + 3 < R.frames) (hRlocals : (rest.map fun v => v.category).sum + (13 * (names.length + 1) + 42) ≤ R.locals) (hRcells : cells + 1 ≤ R.cells) (hRslots : slots + 6 ≤ R.slots) (hlocks : meth.locks = false)
    (hx : ∀ t : State, s.vm.Alike t.vm → H.size ≤ t.heap.size → (∀ q : Nat, q < H.size → t.heap[q]? = H[q]?) → XC cls s t)
    (hf : ∀ z ∈ locs, free z.base) (hc : cells + 1 ≤ mc) (hs : slots + 6 ≤ ms) :
    W p l e R s m args below meth c H locs cells slots (vx_MQ below Qc XC args s mc ms free) (F0 m pc ls rest) := by
  intro T hT X
  have htr : e.platform.stackTraces = false := (show e.platform.stackTraces = l.stackTraces by rw [X.admits.platform]).trans hl
  have Y := vx_rebase X (R' := { frames := R.frames, locals := R.locals, cells := 1, slots := 6 }) (Nat.le_refl _) (Nat.le_refl _) hRcells hRslots
  obtain ⟨s', hA⟩ : ∃ z, z = (T.setVm s.vm).setFrames (.invoking m args :: below) := ⟨_, rfl⟩
  rw [← hA] at Y
  have hvm : s'.vm = s.vm := by rw [hA]; rfl
  have hhp : s'.heap = H := by rw [hA]; exact hT
  have hW0 : s.WarmedH s'.vm := by rw [hvm]; exact State.WarmedH.refl s
  have hat' : ∀ w ∈ vx_at0 own ic cls names, w.before args s' = true := fun w hw => vx_ot_at hW0 hvm.symm (hgood w (List.mem_cons_of_mem _ (List.mem_cons_of_mem _ hw))) (hat w hw)
  have hk' : (Cond.classLink own ik cls).before args s' = true := vx_ot_at hW0 hvm.symm (hgood _ List.mem_cons_self) hk
  have hini' : (Cond.initialized cls).before args s' = true := vx_ot_at hW0 hvm.symm (hgood _ (List.mem_cons_of_mem _ List.mem_cons_self)) hini
  have hU' : vx_Zq Bundle.tN "UNASSIGNED_STACK" Bundle.steD A s' s'.heap := by rw [hhp]; exact vx_Zq.moved hW0.alike (hU.kept hS.2.1)
  have hN' : vx_Zq Bundle.tN "SUPPRESSED_SENTINEL" Bundle.listD A s' s'.heap := by rw [hhp]; exact vx_Zq.moved hW0.alike (hN.kept hS.2.1)
  have h : ∀ w ∈ Bundle.ownAtoms0 own ic cls names, w.before args s' = true := vx_own hat' (vx_isRefq hU'.1) (vx_isRefq hN'.1) hU'.2.word hN'.2.word
  have hown' : s'.vm.findClass own = some m.cls := by rw [hvm]; exact hown
  have hins : (Cond.instantiable cls 6).before args s' = true := h _ (by simp [Bundle.ownAtoms0])
  obtain ⟨vm₁, cX, kX, hfX, hkX, -, -, X₁, st1⟩ := Y.newCold hexec (own := own) (C := cls) (index := ik) (n := 6) hown' hk' hins hini'
    (g := F0 m pc ls rest) rfl (by rw [hb]; exact d0) (Nat.le_refl _) (Nat.le_refl _)
  generalize hT1 : (T.setVm vm₁).pushCell { cls := cX, slots := kX.instanceTypes.map defaultValue, vm := .none } = T1 at X₁ st1
  have hcat : (Value.ref T.heap.size).category = 1 := rfl
  have hcellA : T1.heap[T.heap.size]? = some (freshCell cX kX) := by rw [← hT1]; exact State.heap_pushCell_size _ _
  have d3' : decode c.code (pc + 3) = .ok (.dup, 1) := by rw [hb]; exact d3
  obtain ⟨U, hsteps, hrun, hend, hW, hsame, ce, hce, hO⟩ := X₁.ctorThrow0 hexec htr (own := own) (cls := cls) (names := names) (ic := ic) hown' hcls hnames h (fun x hx => nomatch hx) hfX hkX hcellA (by rw [hhp, hT]; exact Nat.le_refl _)
    (g := { method := m, pc := pc + 4, locals := ls, stack := .ref T.heap.size :: .ref T.heap.size :: rest, locked := none }) rfl hsize rfl rfl (rest := rest) rfl
    (by rw [hb]; exact d4) (by rw [hb]; exact d7) hout hRframes (by simp only [List.map_cons, List.sum_cons, hcat]; omega) hlocks
  obtain ⟨f1, f2⟩ := vx_frame hsame
  rw [hhp] at f1 f2
  have hWs : s.WarmedH U.vm := State.WarmedH.trans hW0 hW
  have hcl : s.vm.findClass cls = some ce.cls := by
    have h9 := hO.cls
    rw [hvm] at h9
    exact h9
  have hall : s.sameButNew ({ U with vm := s.vm } : State) locs mc ms := by
    subst hA
    obtain ⟨e1, e2⟩ := hsame
    rw [State.setFrames_setFrames] at e1
    have h2 : (T.setVm s.vm).sameButNew ({ U with vm := s.vm } : State) [] (0 + 1) (0 + 6) := ⟨e1, e2⟩
    have h3 := X.same.trans h2
    rw [List.append_nil] at h3
    exact h3.mono hc hs
  refine ⟨U, ?_, .threw T.heap.size, hrun, hend, Or.inr ⟨T.heap.size, rfl, cls, ce, locs, hx U hWs.alike f1 (fun q hq => f2 q hq (fun z hz => nomatch hz)), hce, hO.vm, hcl, hWs, hall, hf⟩⟩
  refine st1 _ ?_
  show Steps p.tables e below (T1.setTop { method := m, pc := pc + 3, locals := ls, stack := .ref T.heap.size :: rest, locked := none }) _
  jvm_step X₁.here [X₁.here.top, hexec, d3', Value.category]
  exact hsteps
/-- 'throw new E("text")': new; dup; ldc; invokespecial; athrow -/
theorem vx_throwS {cc : ByteArray} {pc : Nat} (hexec : p.tables.exec = Jvm.exec) (hb : c.code = cc) (hl : l.stackTraces = false) {own cls text : String} {names : List String} {ik is ic mc ms sa : Nat} {A : Nat → Prop}
    (hown : s.vm.findClass own = some m.cls) (hcls : Bundle.fit cls = true) (hnames : ∀ n ∈ names, Bundle.fit n = true)
    (hk : (Cond.classLink own ik cls).before args s = true) (hini : (Cond.initialized cls).before args s = true) (hstr : vk_R own is text sa s) (hat : ∀ w ∈ vx_atS own ic cls names, w.before args s = true)
    (hgood : ∀ w ∈ Cond.classLink own ik cls :: Cond.initialized cls :: vx_atS own ic cls names, vx_ot w = true)
    (hU : vx_Zq Bundle.tN "UNASSIGNED_STACK" Bundle.steD A s s.heap) (hN : vx_Zq Bundle.tN "SUPPRESSED_SENTINEL" Bundle.listD A s s.heap) (hS : va_S A s.heap H locs) (hsize : ls.size = c.maxLocals)
    (d0 : decode cc pc = .ok (.new ik, 3)) (d3 : decode cc (pc + 3) = .ok (.dup, 1)) (d4 : decode cc (pc + 4) = .ok (.ldc is, 2)) (d6 : decode cc (pc + 6) = .ok (.invokespecial ic, 3)) (d9 : decode cc (pc + 9) = .ok (.athrow, 1))
    (hout : ∀ x ∈ c.exceptionTable.toList, covers x (pc + 9) = false)
    (hRframes : names.length + 3 < R.frames) (hRlocals : (rest.map fun v => v.category).sum + (13 * (names.length + 1) + 43) ≤ R.locals) (hRcells : cells + 1 ≤ R.cells) (hRslots : slots + 6 ≤ R.slots) (hlocks : meth.locks = false)
    (hx : ∀ t : State, s.vm.Alike t.vm → H.size ≤ t.heap.size → (∀ q : Nat, q < H.size → t.heap[q]? = H[q]?) → XC cls s t)
    (hf : ∀ z ∈ locs, free z.base) (hc : cells + 1 ≤ mc) (hs : slots + 6 ≤ ms) :
    W p l e R s m args below meth c H locs cells slots (vx_MQ below Qc XC args s mc ms free) (F0 m pc ls rest) := by
  intro T hT X
  have htr : e.platform.stackTraces = false := (show e.platform.stackTraces = l.stackTraces by rw [X.admits.platform]).trans hl
  have Y := vx_rebase X (R' := { frames := R.frames, locals := R.locals, cells := 1, slots := 6 }) (Nat.le_refl _) (Nat.le_refl _) hRcells hRslots
  obtain ⟨s', hA⟩ : ∃ z, z = (T.setVm s.vm).setFrames (.invoking m args :: below) := ⟨_, rfl⟩
  rw [← hA] at Y
  have hvm : s'.vm = s.vm := by rw [hA]; rfl
  have hhp : s'.heap = H := by rw [hA]; exact hT
  have hW0 : s.WarmedH s'.vm := by rw [hvm]; exact State.WarmedH.refl s
  have hat' : ∀ w ∈ vx_atS own ic cls names, w.before args s' = true := fun w hw => vx_ot_at hW0 hvm.symm (hgood w (List.mem_cons_of_mem _ (List.mem_cons_of_mem _ hw))) (hat w hw)
  have hk' : (Cond.classLink own ik cls).before args s' = true := vx_ot_at hW0 hvm.symm (hgood _ List.mem_cons_self) hk
  have hini' : (Cond.initialized cls).before args s' = true := vx_ot_at hW0 hvm.symm (hgood _ (List.mem_cons_of_mem _ List.mem_cons_self)) hini
  have hU' : vx_Zq Bundle.tN "UNASSIGNED_STACK" Bundle.steD A s' s'.heap := by rw [hhp]; exact vx_Zq.moved hW0.alike (hU.kept hS.2.1)
  have hN' : vx_Zq Bundle.tN "SUPPRESSED_SENTINEL" Bundle.listD A s' s'.heap := by rw [hhp]; exact vx_Zq.moved hW0.alike (hN.kept hS.2.1)
  have h : ∀ w ∈ Bundle.ownAtoms own ic cls names, w.before args s' = true := vx_own hat' (vx_isRefq hU'.1) (vx_isRefq hN'.1) hU'.2.word hN'.2.word
  have hown' : s'.vm.findClass own = some m.cls := by rw [hvm]; exact hown
  have hins : (Cond.instantiable cls 6).before args s' = true := h _ (by simp [Bundle.ownAtoms])
  obtain ⟨vm₁, cX, kX, hfX, hkX, -, -, X₁, st1⟩ := Y.newCold hexec (own := own) (C := cls) (index := ik) (n := 6) hown' hk' hins hini'
    (g := F0 m pc ls rest) rfl (by rw [hb]; exact d0) (Nat.le_refl _) (Nat.le_refl _)
  generalize hT1 : (T.setVm vm₁).pushCell { cls := cX, slots := kX.instanceTypes.map defaultValue, vm := .none } = T1 at X₁ st1
  have hcat : (Value.ref T.heap.size).category = 1 := rfl
  have hcellA : T1.heap[T.heap.size]? = some (freshCell cX kX) := by rw [← hT1]; exact State.heap_pushCell_size _ _
  have d3' : decode c.code (pc + 3) = .ok (.dup, 1) := by rw [hb]; exact d3
  have d4' : decode c.code (pc + 4) = .ok (.ldc is, 2) := by rw [hb]; exact d4
  have hstr' : vk_R own is text sa s' := vk_R.warm hW0 hstr
  obtain ⟨U, hsteps, hrun, hend, hW, hsame, ce, hce, hO⟩ := X₁.ctorThrowS hexec htr (own := own) (cls := cls) (names := names) (ic := ic) hown' hcls hnames h (fun x hx => nomatch hx) hfX hkX hcellA (by rw [hhp, hT]; exact Nat.le_refl _) (msg := .ref sa) rfl
    (g := { method := m, pc := pc + 6, locals := ls, stack := .ref sa :: .ref T.heap.size :: .ref T.heap.size :: rest, locked := none }) rfl hsize rfl rfl (rest := rest) rfl
    (by rw [hb]; exact d6) (by rw [hb]; exact d9) hout hRframes (by simp only [List.map_cons, List.sum_cons, hcat]; omega) hlocks
  obtain ⟨f1, f2⟩ := vx_frame hsame
  rw [hhp] at f1 f2
  have hWs : s.WarmedH U.vm := State.WarmedH.trans hW0 hW
  have hcl : s.vm.findClass cls = some ce.cls := by
    have h9 := hO.cls
    rw [hvm] at h9
    exact h9
  have hall : s.sameButNew ({ U with vm := s.vm } : State) locs mc ms := by
    subst hA
    obtain ⟨e1, e2⟩ := hsame
    rw [State.setFrames_setFrames] at e1
    have h2 : (T.setVm s.vm).sameButNew ({ U with vm := s.vm } : State) [] (0 + 1) (0 + 6) := ⟨e1, e2⟩
    have h3 := X.same.trans h2
    rw [List.append_nil] at h3
    exact h3.mono hc hs
  refine ⟨U, ?_, .threw T.heap.size, hrun, hend, Or.inr ⟨T.heap.size, rfl, cls, ce, locs, hx U hWs.alike f1 (fun q hq => f2 q hq (fun z hz => nomatch hz)), hce, hO.vm, hcl, hWs, hall, hf⟩⟩
  refine st1 _ ?_
  show Steps p.tables e below (T1.setTop { method := m, pc := pc + 3, locals := ls, stack := .ref T.heap.size :: rest, locked := none }) _
  jvm_step X₁.here [X₁.here.top, hexec, d3', Value.category]
  exact X₁.ldcString hexec (own := own) (text := text) (index := is) (a := sa) hown' hstr'.1 hstr'.2
    (g := { method := m, pc := pc + 4, locals := ls, stack := .ref T.heap.size :: .ref T.heap.size :: rest, locked := none }) rfl d4' _ hsteps
/-- 'throw new E("text")', the text by a wide index -/
theorem vx_throwSW {cc : ByteArray} {pc : Nat} (hexec : p.tables.exec = Jvm.exec) (hb : c.code = cc) (hl : l.stackTraces = false) {own cls text : String} {names : List String} {ik is ic mc ms sa : Nat} {A : Nat → Prop}
    (hown : s.vm.findClass own = some m.cls) (hcls : Bundle.fit cls = true) (hnames : ∀ n ∈ names, Bundle.fit n = true)
    (hk : (Cond.classLink own ik cls).before args s = true) (hini : (Cond.initialized cls).before args s = true) (hstr : vk_R own is text sa s) (hat : ∀ w ∈ vx_atS own ic cls names, w.before args s = true)
    (hgood : ∀ w ∈ Cond.classLink own ik cls :: Cond.initialized cls :: vx_atS own ic cls names, vx_ot w = true)
    (hU : vx_Zq Bundle.tN "UNASSIGNED_STACK" Bundle.steD A s s.heap) (hN : vx_Zq Bundle.tN "SUPPRESSED_SENTINEL" Bundle.listD A s s.heap) (hS : va_S A s.heap H locs) (hsize : ls.size = c.maxLocals)
    (d0 : decode cc pc = .ok (.new ik, 3)) (d3 : decode cc (pc + 3) = .ok (.dup, 1)) (d4 : decode cc (pc + 4) = .ok (.ldc_w is, 3)) (d7 : decode cc (pc + 7) = .ok (.invokespecial ic, 3)) (d10 : decode cc (pc + 10) = .ok (.athrow, 1))
    (hout : ∀ x ∈ c.exceptionTable.toList, covers x (pc + 10) = false)
    (hRframes : names.length + 3 < R.frames) (hRlocals : (rest.map fun v => v.category).sum + (13 * (names.length + 1) + 43) ≤ R.locals) (hRcells : cells + 1 ≤ R.cells) (hRslots : slots + 6 ≤ R.slots) (hlocks : meth.locks = false)
    (hx : ∀ t : State, s.vm.Alike t.vm → H.size ≤ t.heap.size → (∀ q : Nat, q < H.size → t.heap[q]? = H[q]?) → XC cls s t)
    (hf : ∀ z ∈ locs, free z.base) (hc : cells + 1 ≤ mc) (hs : slots + 6 ≤ ms) :
    W p l e R s m args below meth c H locs cells slots (vx_MQ below Qc XC args s mc ms free) (F0 m pc ls rest) := by
  intro T hT X
  have htr : e.platform.stackTraces = false := (show e.platform.stackTraces = l.stackTraces by rw [X.admits.platform]).trans hl
  have Y := vx_rebase X (R' := { frames := R.frames, locals := R.locals, cells := 1, slots := 6 }) (Nat.le_refl _) (Nat.le_refl _) hRcells hRslots
  obtain ⟨s', hA⟩ : ∃ z, z = (T.setVm s.vm).setFrames (.invoking m args :: below) := ⟨_, rfl⟩
  rw [← hA] at Y
  have hvm : s'.vm = s.vm := by rw [hA]; rfl
  have hhp : s'.heap = H := by rw [hA]; exact hT
  have hW0 : s.WarmedH s'.vm := by rw [hvm]; exact State.WarmedH.refl s
  have hat' : ∀ w ∈ vx_atS own ic cls names, w.before args s' = true := fun w hw => vx_ot_at hW0 hvm.symm (hgood w (List.mem_cons_of_mem _ (List.mem_cons_of_mem _ hw))) (hat w hw)
  have hk' : (Cond.classLink own ik cls).before args s' = true := vx_ot_at hW0 hvm.symm (hgood _ List.mem_cons_self) hk
  have hini' : (Cond.initialized cls).before args s' = true := vx_ot_at hW0 hvm.symm (hgood _ (List.mem_cons_of_mem _ List.mem_cons_self)) hini
  have hU' : vx_Zq Bundle.tN "UNASSIGNED_STACK" Bundle.steD A s' s'.heap := by rw [hhp]; exact vx_Zq.moved hW0.alike (hU.kept hS.2.1)
  have hN' : vx_Zq Bundle.tN "SUPPRESSED_SENTINEL" Bundle.listD A s' s'.heap := by rw [hhp]; exact vx_Zq.moved hW0.alike (hN.kept hS.2.1)
  have h : ∀ w ∈ Bundle.ownAtoms own ic cls names, w.before args s' = true := vx_own hat' (vx_isRefq hU'.1) (vx_isRefq hN'.1) hU'.2.word hN'.2.word
  have hown' : s'.vm.findClass own = some m.cls := by rw [hvm]; exact hown
  have hins : (Cond.instantiable cls 6).before args s' = true := h _ (by simp [Bundle.ownAtoms])
  obtain ⟨vm₁, cX, kX, hfX, hkX, -, -, X₁, st1⟩ := Y.newCold hexec (own := own) (C := cls) (index := ik) (n := 6) hown' hk' hins hini'
    (g := F0 m pc ls rest) rfl (by rw [hb]; exact d0) (Nat.le_refl _) (Nat.le_refl _)
  generalize hT1 : (T.setVm vm₁).pushCell { cls := cX, slots := kX.instanceTypes.map defaultValue, vm := .none } = T1 at X₁ st1
  have hcat : (Value.ref T.heap.size).category = 1 := rfl
  have hcellA : T1.heap[T.heap.size]? = some (freshCell cX kX) := by rw [← hT1]; exact State.heap_pushCell_size _ _
  have d3' : decode c.code (pc + 3) = .ok (.dup, 1) := by rw [hb]; exact d3
  have d4' : decode c.code (pc + 4) = .ok (.ldc_w is, 3) := by rw [hb]; exact d4
  have hstr' : vk_R own is text sa s' := vk_R.warm hW0 hstr
  obtain ⟨U, hsteps, hrun, hend, hW, hsame, ce, hce, hO⟩ := X₁.ctorThrowS hexec htr (own := own) (cls := cls) (names := names) (ic := ic) hown' hcls hnames h (fun x hx => nomatch hx) hfX hkX hcellA (by rw [hhp, hT]; exact Nat.le_refl _) (msg := .ref sa) rfl
    (g := { method := m, pc := pc + 7, locals := ls, stack := .ref sa :: .ref T.heap.size :: .ref T.heap.size :: rest, locked := none }) rfl hsize rfl rfl (rest := rest) rfl
    (by rw [hb]; exact d7) (by rw [hb]; exact d10) hout hRframes (by simp only [List.map_cons, List.sum_cons, hcat]; omega) hlocks
  obtain ⟨f1, f2⟩ := vx_frame hsame
  rw [hhp] at f1 f2
  have hWs : s.WarmedH U.vm := State.WarmedH.trans hW0 hW
  have hcl : s.vm.findClass cls = some ce.cls := by
    have h9 := hO.cls
    rw [hvm] at h9
    exact h9
  have hall : s.sameButNew ({ U with vm := s.vm } : State) locs mc ms := by
    subst hA
    obtain ⟨e1, e2⟩ := hsame
    rw [State.setFrames_setFrames] at e1
    have h2 : (T.setVm s.vm).sameButNew ({ U with vm := s.vm } : State) [] (0 + 1) (0 + 6) := ⟨e1, e2⟩
    have h3 := X.same.trans h2
    rw [List.append_nil] at h3
    exact h3.mono hc hs
  refine ⟨U, ?_, .threw T.heap.size, hrun, hend, Or.inr ⟨T.heap.size, rfl, cls, ce, locs, hx U hWs.alike f1 (fun q hq => f2 q hq (fun z hz => nomatch hz)), hce, hO.vm, hcl, hWs, hall, hf⟩⟩
  refine st1 _ ?_
  show Steps p.tables e below (T1.setTop { method := m, pc := pc + 3, locals := ls, stack := .ref T.heap.size :: rest, locked := none }) _
  jvm_step X₁.here [X₁.here.top, hexec, d3', Value.category]
  exact X₁.ldcStringW hexec (own := own) (text := text) (index := is) (a := sa) hown' hstr'.1 hstr'.2
    (g := { method := m, pc := pc + 4, locals := ls, stack := .ref T.heap.size :: .ref T.heap.size :: rest, locked := none }) rfl d4' _ hsteps
end Ends
section Bodies
variable {l : Launch}
theorem vx_ofW {y : MethodName} {ws ws' : List Cond} {rm : Room} {Pc : Array Value → State → Prop} {Qc : Array Value → State → Outcome → State → Prop} {XC : String → State → State → Prop} {mc ms : Nat} {free : Addr → Prop} {cc : ByteArray} {maxL : Nat} {ret : Option FieldType}
    (hy : plainName y.cls = true) (hw : ws = Cond.code y cc maxL ret :: ws')
    (body : ∀ p e s m args below meth c s₁, BodyLoose p l y (headSpec ws rm) cc maxL ret e s m args below meth c s₁ → c.maxLocals = maxL → (∀ x ∈ c.exceptionTable.toList, False) → Pc args s →
      W p l e (headSpec ws rm).room s m args below meth c s.heap [] 0 0 (vx_MQ below Qc XC args s mc ms free) (entryFrame m args maxL)) : vx_Met l y ws rm Pc Qc XC mc ms free := by
  refine MetFree.of_bodyS (code := cc) (maxLocals := maxL) (ret := ret) hy ?_ ?_
  · intro args s m h hn
    obtain ⟨meth, c, h1, h2, h3, h4, h5, h6, -, -⟩ := Cond.code_spec hn (atoms_spec (ws := ws) h _ (by rw [hw]; exact List.mem_cons_self))
    exact ⟨meth, c, h1, h2, h3, h4, h5, h6⟩
  · intro p e s m args below meth c s₁ B hml hP _
    have hh0 : s₁.heap = s.heap := by rw [B.state]; rfl
    have ht : ∀ x ∈ c.exceptionTable.toList, False := by
      obtain ⟨meth9, c9, h1, h2, -, -, -, -, h7, -⟩ := Cond.code_spec B.named (atoms_spec (ws := ws) B.pre _ (by rw [hw]; exact List.mem_cons_self))
      cases Option.some.inj (h1.symm.trans B.method)
      cases Option.some.inj (h2.symm.trans (Stand.of_body B).code)
      intro x hx
      rw [Array.isEmpty_iff.mp h7] at hx
      cases hx
    obtain ⟨t, a1, o, b1, b2, b3⟩ := body p e s m args below meth c s₁ B hml ht hP s₁ hh0 (Stand.of_body B)
    exact ⟨t, o, a1, b1, b2, b3⟩
/-- the table of a body with handlers -/
theorem vx_table {p : Program} {x y : MethodName} {S : Spec} {cc bytes : ByteArray} {maxL maxL' : Nat} {ret ret' : Option FieldType} {e : Env} {s s₁ : State} {m : MethodId} {args : Array Value} {below : List Frame} {meth : Method} {c : Code} {hh : List (Nat × Nat × Nat × Nat)}
    (B : BodyLoose p l y S cc maxL ret e s m args below meth c s₁) (h : (Cond.codeWith y bytes maxL' ret' hh).before args s = true) : c.exceptionTable.toList = tableOf hh := by
  obtain ⟨m9, meth9, c9, hn9, h1, h2, -, -, h6, -⟩ := Cond.codeWith_spec h
  cases Option.some.inj (hn9.symm.trans B.named)
  cases Option.some.inj (h1.symm.trans B.method)
  cases Option.some.inj (h2.symm.trans (Stand.of_body B).code)
  rw [← h6, table_eq]
end Bodies
end VXA
/-! ===== END ===== -/
/-! ===== BEGIN a static call of a method with an exception table ===== -/
section VXS
variable {p : Program} {l : Launch} {e : Env} {R : Room} {s : State} {m : MethodId} {args : Array Value} {below : List Frame} {meth : Method} {c : Code} {T : State} {H : Heap} {locs : List Loc} {cells slots : Nat}
abbrev vx_CSW (R : Room) (s : State) (args : Array Value) (own : String) (index : Nat) (y : MethodName) (bytes : ByteArray) (maxL : Nat) (ret : Option FieldType) (hh : List (Nat × Nat × Nat × Nat)) (ws : List Cond) (rm : Room) (mc ms n : Nat) : Prop :=
  (rm.cells = mc ∧ rm.slots = ms ∧ rm.frames + 1 ≤ R.frames ∧ 8 + (maxL + 11) + rm.locals ≤ R.locals ∧ (∀ w ∈ ws, ∀ (a' : Array Value) (U : State), s.WarmedH U.vm → w.before a' U = true) ∧ Cond.codeWith y bytes maxL ret hh ∈ ws) ∧
  (Cond.codeWith y bytes maxL ret hh).before args s = true ∧ (Cond.initialized y.cls).before args s = true ∧ (y.cls ≠ "java/lang/invoke/MethodHandle" ∧ y.cls ≠ "java/lang/invoke/VarHandle") ∧
  (∀ sig, parseMethodDescriptor y.desc = some sig → n = sig.parameters.length) ∧ (Cond.methodLink own index y).before args s = true ∧ (Cond.static y).before args s = true
theorem vx_cwSW {own : String} {index maxL mc ms : Nat} {y : MethodName} {bytes : ByteArray} {ret : Option FieldType} {hh : List (Nat × Nat × Nat × Nat)} {Ts ws ws' : List Cond} {rm : Room} (n : Nat) (ht : ∀ w ∈ Ts, w.before args s = true) (hT : GoodIn Ts (va_wsS own index y ws)) (hw : ws = Cond.codeWith y bytes maxL ret hh :: ws') (hrc : rm.cells = mc) (hrs : rm.slots = ms)
    (hd : y.cls ≠ "java/lang/invoke/MethodHandle" ∧ y.cls ≠ "java/lang/invoke/VarHandle" ∧ (parseMethodDescriptor y.desc).map (fun d => d.parameters.length) = some n) (hR : rm.frames + 1 ≤ R.frames ∧ 8 + (maxL + 11) + rm.locals ≤ R.locals) :
    vx_CSW R s args own index y bytes maxL ret hh ws rm mc ms n := by
  have ok : ∀ w ∈ va_wsS own index y ws, w.before args s = true := fun w h => ht w (hT w h).1
  have hG : GoodIn Ts ws := fun w h => hT w (by unfold va_wsS; exact List.mem_append_right _ h)
  have hc : Cond.codeWith y bytes maxL ret hh ∈ ws := by rw [hw]; exact List.mem_cons_self
  refine ⟨⟨hrc, hrs, hR.1, hR.2, pay_in ht hG, hc⟩, ht _ (hG _ hc).1, ok _ (by simp [va_wsS]), ⟨hd.1, hd.2.1⟩, fun sig h => ?_, ok _ (by simp [va_wsS]), ok _ (by simp [va_wsS])⟩
  have h2 := hd.2.2
  rw [h] at h2
  exact (Option.some.inj h2).symm
theorem vx_callSW (X : Stand p l e R s m args below meth c T locs cells slots) (hexec : p.tables.exec = Jvm.exec) {own : String} {index : Nat} {y : MethodName} {bytes : ByteArray} {maxL : Nat} {ret : Option FieldType} {hh : List (Nat × Nat × Nat × Nat)}
    (hown : s.vm.findClass own = some m.cls) (hlink : (Cond.methodLink own index y).before args s = true) (hstat : (Cond.static y).before args s = true) (hinit : (Cond.initialized y.cls).before args s = true)
    (hcode : (Cond.codeWith y bytes maxL ret hh).before args s = true) (hy : y.cls ≠ "java/lang/invoke/MethodHandle" ∧ y.cls ≠ "java/lang/invoke/VarHandle")
    {W9 : Nat} {Pre : Pt → Array Value → Prop} {Post : Pt → Array Value → Option Value → Pt → Prop} (hK : Back l R p e below s args y 3 W9 Pre Post)
    {g : JFrame} (hg : g.method = m) (hsize : g.locals.size = c.maxLocals) {argsL rest : List Value} (hlen : ∀ sig, parseMethodDescriptor y.desc = some sig → argsL.length = sig.parameters.length)
    (hstack : g.stack = argsL.reverse ++ rest) (hW : 2 * g.monitorRoom + (rest.map fun v => v.category).sum ≤ W9) (hdg : decode c.code g.pc = .ok (.invokestatic index, 3))
    (hpre : ∀ vm₁, s.WarmedH vm₁ → Pre ⟨T.setVm vm₁, locs, cells, slots⟩ argsL.toArray) :
    ∃ (v : Option Value) (vm₁ : Vm) (B : Pt), s.WarmedH vm₁ ∧ Stand p l e R s m args below meth c B.U B.locs B.cells B.slots ∧ Post ⟨T.setVm vm₁, locs, cells, slots⟩ argsL.toArray v B ∧
      ∀ target, Steps p.tables e below (B.U.setTop { g with pc := g.pc + 3, stack := v.toList ++ rest }) target → Steps p.tables e below (T.setTop g) target := by
  obtain ⟨mk, methM, cM, hnamed, hmethM, -, -, -, -, -, -, hsigM⟩ := Cond.codeWith_spec hcode
  have hstatic : methM.isStatic = true := Cond.static_spec hnamed hmethM hstat
  obtain ⟨kP, hkP, -⟩ := className_of_methodNamed hnamed
  have hinitP : kP.init = .initialized := Cond.initialized_spec (findClass_of_methodNamed hnamed) hkP hinit
  obtain ⟨vm₁, X₁, hstep₁⟩ := X.invokestatic hexec hown hlink hnamed hmethM hstatic hkP hinitP hy (g := g) hg (argsL := argsL) (rest := rest) (hlen _ hsigM) hstack hdg
  obtain ⟨v, B, X', hpost, hsteps⟩ := hK m meth c ⟨T.setVm vm₁, locs, cells, slots⟩ { g with stack := rest } (.invokestatic index) mk argsL.toArray X₁ hg hsize hdg hW (X₁.named hnamed) (hpre vm₁ X₁.warmed)
  exact ⟨v, vm₁, B, X₁.warmed, X', hpost, fun target h => hstep₁ _ fun acts => by rw [doInvoke_state]; exact hsteps.trans h⟩
theorem vx_runSW {y : MethodName} {bytes cc : ByteArray} {maxL nL mc ms n index : Nat} {ret : Option FieldType} {hh : List (Nat × Nat × Nat × Nat)} {ws : List Cond} {rm : Room} {Pc : Array Value → State → Prop} {Qc : Array Value → State → Outcome → State → Prop} {free : Addr → Prop} {Ts : List Cond} {own : String} {As rest : List Value} {g : JFrame}
    (S : CallFix p m c cc nL s args Ts own) (hM : Met l y ws rm Pc Qc mc ms free) (cw : vx_CSW R s args own index y bytes maxL ret hh ws rm mc ms n) (hp : PreS s H Pc As)
    (hg : g.method = m) (hn : As.length = n) (hsize : g.locals.size = nL) (hstack : g.stack = As.reverse ++ rest) (hW : 2 * g.monitorRoom + (rest.map fun v => v.category).sum ≤ 8) (hdg : decode cc g.pc = .ok (.invokestatic index, 3)) (hf : cells + mc ≤ R.cells ∧ slots + ms ≤ R.slots) :
    va_Run p l e R s m args below meth c H locs cells slots mc ms g rest (Qc As.toArray) (free) := by
  obtain ⟨⟨hrc, hrs, hfr, hlo, hws, hcw⟩, hcode, hini, hy, hlen, hl, hstt⟩ := cw
  have hK : Back l R p e below s args y 3 8 (PreOf R mc ms Pc) (PostOf Qc mc ms free) := va_backW (hh := hh) (bytes := bytes) (maxL := maxL) (ret := ret) hM hp.1 hrc hrs hfr hlo hws hcw (fun a' U hW => word_at hW (Or.inl (by first | rfl | simp [Cond.onTables, Cond.keeps, Cond.steady])) hini)
  obtain ⟨hx, hb, hml, ho, -⟩ := S
  intro T hT X
  obtain ⟨v, vm₁, ⟨U', l2, c2, s2⟩, hW₁, X', ⟨g', mk, t, L, e1, e2, hq, h1, hL, h2, h3⟩, st⟩ := vx_callSW X hx (hh := hh) (bytes := bytes) (maxL := maxL) (ret := ret) ho hl hstt hini hcode hy hK hg (hsize.trans hml.symm) (argsL := As) (rest := rest) (fun sig h => hn.trans (hlen sig h)) hstack hW (by rw [hb]; exact hdg)
    (fun vm₁ hW₁ => ⟨hf.1, hf.2, hp.2 (T.setVm vm₁) hT hW₁⟩)
  dsimp only [Pt.U, Pt.locs, Pt.cells, Pt.slots] at X' e1 e2 h1 h2 h3 st
  subst h1; subst h2; subst h3
  exact ⟨v, (T.setVm vm₁).calling g' mk As.toArray, t, U', L, hT, X', hL, e1, e2, hq, st⟩
/-- not caught here, past rows that name other classes: it goes on to the caller -/
theorem vx_outP {p : Program} {l : Launch} {e : Env} {R : Room} {s : State} {m : MethodId} {args : Array Value} {below : List Frame} {meth : Method} {c : Code} {H : Heap} {locs : List Loc} {cells slots : Nat} {free : Addr → Prop} {ls : Array Slot} {rest : List Value} {Qc : Array Value → State → Outcome → State → Prop} {XC : String → State → State → Prop}
    {pc : Nat} {own E : String} {ce : Cell} {q : Addr} {mc ms : Nat} (hown : s.vm.findClass own = some m.cls) (hlocks : meth.locks = false)
    (hpass : ∀ z ∈ c.exceptionTable.toList, covers z pc = false ∨ (z.catchType ≠ 0 ∧ ∃ nm : String, (Cond.classLink own z.catchType nm).before args s = true ∧ va_Nc E nm s)) (hcell : H[q]? = some ce) (hv : ce.vm = .none) (hcl : s.vm.findClass E = some ce.cls)
    (hx : ∀ t : State, t.heap = H → s.vm.Alike t.vm → XC E s t) (hf : ∀ z ∈ locs, free z.base) (hc : cells ≤ mc) (hs : slots ≤ ms) :
    vx_W p l e R s m args below meth c H locs cells slots (vx_MQ below Qc XC args s mc ms free) (F0 m pc ls rest) q := by
  intro T hT X
  have hpl : e.platform.magicAccessors = ({} : Platform).magicAccessors := by rw [X.admits.platform]
  obtain ⟨vm', hW', X', st⟩ := X.outThrough hlocks q (g := F0 m pc ls rest) rfl rfl rfl (cell := ce) (by rw [hT]; exact hcell) (by rw [hv]; rfl)
    (by obtain ⟨k9, h9, -⟩ := Vm.findClass_spec hcl; exact ⟨k9, h9⟩) (fun z hz => by
      rcases hpass z hz with h | ⟨hz0, nm, hl1, hn1⟩
      · exact Or.inl h
      · obtain ⟨c6, hc6, hcl6⟩ := Cond.classLink_spec hown hl1 e.platform hpl
        obtain ⟨a8, b8, h1, h2, h3⟩ := hn1
        cases Option.some.inj (h1.symm.trans hcl)
        cases Option.some.inj (h2.symm.trans hc6)
        exact Or.inr ⟨hz0, _, hcl6, h3⟩)
  obtain ⟨g₀, hfr⟩ := X'.frames_eq
  have hcell9 : ((T.setVm vm').setFrames (.throwing q :: below)).heap[q]? = some ce := by
    show T.heap[q]? = some ce
    rw [hT]; exact hcell
  have hend : Ended ((T.setVm vm').setFrames (.throwing q :: below)) below (.threw q) := State.frames_setFrames _ (State.cur_lt_of_frames hfr)
  refine ⟨(T.setVm vm').setFrames (.throwing q :: below), ?_, .threw q, X'.here.running, hend, Or.inr ⟨q, rfl, E, ce, locs, hx _ hT (X'.ends _).1.alike, hcell9, hv, hcl, (X'.ends _).1, (X'.ends _).2.mono hc hs, hf⟩⟩
  rw [X.pushThrowing_eq]
  exact st
/-- a thing of a world lies in the heap -/
theorem vx_lt {D : va_G} {cl : List vw_C} {ws : va_W} {H1 : Heap} (h : va_P D cl ws H1) {k : Nat} {q : Nat × va_E} (hk : ws[k]? = some q) : q.1 < H1.size := (h k q hk).lt
end VXS
/-! ===== END ===== -/
/-! ===== BEGIN methods with a table of their own: called by a name, returning or throwing ===== -/
section VXH
/-! vx_backW, vx_callVX, vx_callSX, vx_callVW, vx_runVW, vx_runVX, vx_runSX, vx_ofWH follow the same proofs as their sisters above (Free/Laws.lean, Shelf42/LK1.lean); vx_outP calls Shelf42/NT130.lean (outThrough). -/
section
variable {l : Launch} {R : Room} {p : Program} {e : Env} {below : List Frame} {s : State} {sargs : Array Value} {y : MethodName} {len W9 : Nat}
theorem vx_backW {ws : List Cond} {rm : Room} {Pc : Array Value → State → Prop} {Qc : Array Value → State → Outcome → State → Prop} {XC : String → State → State → Prop} {mc ms : Nat} {free : Addr → Prop} {bytes : ByteArray} {maxL : Nat} {ret : Option FieldType} {hh : List (Nat × Nat × Nat × Nat)}
    (hM : vx_Met l y ws rm Pc Qc XC mc ms free) (hblind : FrameBlind Pc) (hrc : rm.cells = mc) (hrs : rm.slots = ms)
    (hframes : rm.frames + 1 ≤ R.frames) (hlocals : W9 + (maxL + 11) + rm.locals ≤ R.locals)
    (hws : ∀ w ∈ ws, ∀ a' U, s.WarmedH U.vm → w.before a' U = true) (hcode : Cond.codeWith y bytes maxL ret hh ∈ ws) (hinit : ∀ a' U, s.WarmedH U.vm → (Cond.initialized y.cls).before a' U = true) :
    vx_Back l R p e below s sargs y len W9 (PreOf R mc ms Pc) (PostOf Qc mc ms free) (vx_Post XC mc ms free) := by
  intro m meth c A g ig mk a X hg hsize hdg hW hn hp
  have h1 : (headSpec ws rm).pre.before a A.U = true := atoms_intro fun w hw => hws w hw _ _ X.warmed
  have h2 : (Cond.codeWith y bytes maxL ret hh).before a A.U = true := hws _ hcode _ _ X.warmed
  have h3 : (Cond.initialized y.cls).before a A.U = true := hinit _ _ X.warmed
  have h4 : A.cells + (headSpec ws rm).room.cells ≤ R.cells := by rw [show (headSpec ws rm).room.cells = mc from hrc]; exact hp.1
  have h5 : A.slots + (headSpec ws rm).room.slots ≤ R.slots := by rw [show (headSpec ws rm).room.slots = ms from hrs]; exact hp.2.1
  have hPc : Pc a (A.U.calling g mk a) := hblind _ _ _ _ hp.2.2
  obtain ⟨U, Ls, c0, s0⟩ := A
  dsimp only [Pt.U, Pt.locs, Pt.cells, Pt.slots] at h1 h2 h3 h4 h5 X hn hPc ⊢
  obtain ⟨m9, methY, cY, hn9, hmY, hcY, -, hlY, -⟩ := Cond.codeWith_spec h2
  cases Option.some.inj (hn9.symm.trans hn)
  obtain ⟨kY, hkY, -⟩ := className_of_methodNamed hn
  have hinitY : kY.init = .initialized := Cond.initialized_spec (findClass_of_methodNamed hn) hkY h3
  have h : At U g.method c below := by rw [hg]; exact X.here
  have hlocals9 : W9 + (maxL + 11) + (headSpec ws rm).room.locals ≤ R.locals := hlocals
  have happ : (headSpec ws rm).appliesLoose y e.platform (U.calling g mk a) = true :=
    Spec.appliesLoose_calling (g := g) h hdg hn hkY hinitY
      (X.room_calling (g := g) (R' := (headSpec ws rm).room) hsize hmY hcY hframes (by rw [hlY]; omega) h4 h5) h1
  obtain ⟨mid, hmid⟩ := h.above
  have hfr : (U.setTop g).frames = (.java g :: mid) ++ below := by rw [State.frames_setTop' g h.top, hmid]; rfl
  obtain ⟨o, s₂, hsteps, -, hend, hq⟩ := Steps.callFree hM p X.admits X.cas X.clock (acts := []) hfr happ hPc trivial
  have hq' : vx_Q Qc XC mc ms free a (U.calling g mk a) o s₂ := hq
  rw [State.frames_setTop' g h.top] at hend
  obtain ⟨g₀, hg0⟩ := Option.isSome_iff_exists.mp h.top
  obtain ⟨r, hr⟩ := State.topJava?_eq_some.mp hg0
  have hr' : (({ U with heap := s₂.heap, slotsUsed := s₂.slotsUsed } : State).setVm s₂.vm).frames = .java g₀ :: r := hr
  rcases hq' with ⟨hqc, L, hfe, hL⟩ | ⟨q, rfl, E, ce, L, hx, hce, hcv, hcl, hW₂, hsm, hL⟩
  · obtain ⟨⟨v, rfl⟩, hW₂, e2, q2, q3, q4, q5, q6⟩ := id hfe
    have e3 : s₂ = ({ (U.calling g mk a).setFrames s₂.frames with heap := s₂.heap, slotsUsed := s₂.slotsUsed } : State).setVm s₂.vm := by
      have : s₂ = ({ s₂ with vm := (U.calling g mk a).vm } : State).setVm s₂.vm := rfl
      rw [e2] at this
      exact this
    obtain ⟨c₂, i₂, len₂, hc₂, hd₂, hf₂⟩ := hend
    have hW' : U.WarmedH s₂.vm := hW₂
    have hcc : c₂ = c := by
      have h1 : s₂.code? g.method = U.code? g.method := by
        rw [State.code?_eq, State.code?_eq, hW'.alike.method?]
      exact Option.some.inj (hc₂.symm.trans (h1.trans h.code))
    subst hcc
    have hlen : len₂ = len := by rw [hdg] at hd₂; cases hd₂; rfl
    subst hlen
    have hs₂ : s₂ = (({ U with heap := s₂.heap, slotsUsed := s₂.slotsUsed } : State).setVm s₂.vm).setTop { g with pc := g.pc + len₂, stack := v.toList ++ g.stack } := by
      refine e3.trans ?_
      rw [hf₂, State.calling_eq h.top, State.setFrames_setFrames, State.setTop_of_frames _ hr', hr]
      rfl
    have hsame : U.sameButNew ({ U with heap := s₂.heap, slotsUsed := s₂.slotsUsed } : State) L mc ms := by
      refine ⟨?_, q2, q3, q4, q5, q6⟩
      obtain ⟨t, ht, -⟩ := State.frames_cons hr
      show ({ U with heap := s₂.heap, slotsUsed := s₂.slotsUsed } : State) = { U.setFrames U.frames with heap := s₂.heap, slotsUsed := s₂.slotsUsed }
      rw [State.setFrames_self ht]
    subst hg
    refine Or.inl ⟨v, ⟨(({ U with heap := s₂.heap, slotsUsed := s₂.slotsUsed } : State).setVm s₂.vm), Ls ++ L, c0 + mc, s0 + ms⟩,
      ⟨X.admits, X.cas, X.clock, X.frames, X.room, X.hears, X.method, X.code, (X.here.setHeapUsed s₂.heap s₂.slotsUsed).setVm hW'.alike, X.tail, State.WarmedH.trans X.warmed hW', X.limits, X.bytes, X.same.trans (hsame.setVm s.vm)⟩,
      ⟨g, mk, s₂, L, rfl, rfl, hqc, rfl, hL, rfl, rfl⟩, ?_⟩
    show Steps p.tables e below _ ((({ U with heap := s₂.heap, slotsUsed := s₂.slotsUsed } : State).setVm s₂.vm).setTop { g with pc := g.pc + len₂, stack := v.toList ++ g.stack })
    rw [← hs₂]
    exact hsteps
  · obtain ⟨e2, q2, q3, q4, q5, q6⟩ := id hsm
    have e3 : s₂ = ({ (U.calling g mk a).setFrames s₂.frames with heap := s₂.heap, slotsUsed := s₂.slotsUsed } : State).setVm s₂.vm := by
      have : s₂ = ({ s₂ with vm := (U.calling g mk a).vm } : State).setVm s₂.vm := rfl
      rw [e2] at this
      exact this
    have hf₂ : s₂.frames = .throwing q :: .java g :: U.frames.tail := hend
    have hW' : U.WarmedH s₂.vm := hW₂
    have hs₂ : s₂ = ((({ U with heap := s₂.heap, slotsUsed := s₂.slotsUsed } : State).setVm s₂.vm).setTop g).pushFrame (.throwing q) := by
      refine e3.trans ?_
      rw [hf₂, State.calling_eq h.top, State.setFrames_setFrames, State.pushFrame, State.frames_setTop _ hr', State.setTop_of_frames _ hr', State.setFrames_setFrames, hr]
      rfl
    have hsame : U.sameButNew ({ U with heap := s₂.heap, slotsUsed := s₂.slotsUsed } : State) L mc ms := by
      refine ⟨?_, q2, q3, q4, q5, q6⟩
      obtain ⟨t, ht, -⟩ := State.frames_cons hr
      show ({ U with heap := s₂.heap, slotsUsed := s₂.slotsUsed } : State) = { U.setFrames U.frames with heap := s₂.heap, slotsUsed := s₂.slotsUsed }
      rw [State.setFrames_self ht]
    subst hg
    refine Or.inr ⟨q, ⟨(({ U with heap := s₂.heap, slotsUsed := s₂.slotsUsed } : State).setVm s₂.vm), Ls ++ L, c0 + mc, s0 + ms⟩,
      ⟨X.admits, X.cas, X.clock, X.frames, X.room, X.hears, X.method, X.code, (X.here.setHeapUsed s₂.heap s₂.slotsUsed).setVm hW'.alike, X.tail, State.WarmedH.trans X.warmed hW', X.limits, X.bytes, X.same.trans (hsame.setVm s.vm)⟩,
      ⟨g, mk, s₂, L, E, ce, rfl, rfl, hx, hce, hcv, hcl, rfl, hL, rfl, rfl⟩, ?_⟩
    show Steps p.tables e below _ (((({ U with heap := s₂.heap, slotsUsed := s₂.slotsUsed } : State).setVm s₂.vm).setTop g).pushFrame (.throwing q))
    rw [← hs₂]
    exact hsteps
end
variable {p : Program} {l : Launch} {e : Env} {R : Room} {s : State} {m : MethodId} {args : Array Value} {below : List Frame} {meth : Method} {c : Code} {T : State} {H : Heap} {locs : List Loc} {cells slots : Nat}
theorem vx_callVX (X : Stand p l e R s m args below meth c T locs cells slots) (hexec : p.tables.exec = Jvm.exec) {own C : String} {index : Nat} {y : MethodName} {bytes : ByteArray} {maxL : Nat} {ret : Option FieldType} {hh : List (Nat × Nat × Nat × Nat)}
    (hown : s.vm.findClass own = some m.cls) (hlink : (Cond.methodLink own index y).before args s = true) (hinst : (Cond.instanceMethod y).before args s = true) (hsel : (Cond.selects C y y).before args s = true)
    (hcode : (Cond.codeWith y bytes maxL ret hh).before args s = true) (hy : y.cls ≠ "java/lang/invoke/MethodHandle" ∧ y.cls ≠ "java/lang/invoke/VarHandle")
    {W9 : Nat} {Pre : Pt → Array Value → Prop} {Post : Pt → Array Value → Option Value → Pt → Prop} {PostX : Pt → Array Value → Addr → Pt → Prop} (hK : vx_Back l R p e below s args y 3 W9 Pre Post PostX)
    {b : Addr} {cellB : Cell} (hcell : T.heap[b]? = some cellB) (hobj : cellB.vm.isStatics = false) (hcls : s.vm.findClass C = some cellB.cls)
    {g : JFrame} (hg : g.method = m) (hsize : g.locals.size = c.maxLocals) {argsL rest : List Value} (hlen : ∀ sig, parseMethodDescriptor y.desc = some sig → argsL.length = sig.parameters.length)
    (hstack : g.stack = argsL.reverse ++ .ref b :: rest) (hW : 2 * g.monitorRoom + (rest.map fun v => v.category).sum ≤ W9) (hdg : decode c.code g.pc = .ok (.invokevirtual index, 3))
    (hpre : ∀ vm₁, s.WarmedH vm₁ → Pre ⟨T.setVm vm₁, locs, cells, slots⟩ (Value.ref b :: argsL).toArray) :
    (∃ (v : Option Value) (vm₁ : Vm) (B : Pt), s.WarmedH vm₁ ∧ Stand p l e R s m args below meth c B.U B.locs B.cells B.slots ∧ Post ⟨T.setVm vm₁, locs, cells, slots⟩ (Value.ref b :: argsL).toArray v B ∧
      ∀ target, Steps p.tables e below (B.U.setTop { g with pc := g.pc + 3, stack := v.toList ++ rest }) target → Steps p.tables e below (T.setTop g) target) ∨
    (∃ (q : Addr) (vm₁ : Vm) (B : Pt), s.WarmedH vm₁ ∧ Stand p l e R s m args below meth c B.U B.locs B.cells B.slots ∧ PostX ⟨T.setVm vm₁, locs, cells, slots⟩ (Value.ref b :: argsL).toArray q B ∧
      Steps p.tables e below (T.setTop g) ((B.U.setTop { g with stack := rest }).pushFrame (.throwing q))) := by
  obtain ⟨mk, methM, hnamed, hmethM, hstM, habM⟩ := Cond.instanceMethod_spec hinst
  obtain ⟨m8, methM', cM, hn8, hmethM', -, -, -, -, -, -, hsigM⟩ := Cond.codeWith_spec hcode
  cases Option.some.inj (hn8.symm.trans hnamed)
  cases hmethM.symm.trans hmethM'
  obtain ⟨c2, r2, m2, q1, q2, q3, q4, kP, hkP, hkPi⟩ := Cond.selects_spec hsel
  cases hcls.symm.trans q1
  cases (State.methodFound?_of_named hnamed hy).symm.trans q2
  cases hnamed.symm.trans q3
  have hselP : selectMethod e.platform s.vm cellB.cls mk = .method mk := by rw [Launch.admits_selectMethod X.admits]; exact q4
  obtain ⟨vm₁, X₁, hstep₁⟩ := X.invokevirtual hexec hown hlink hnamed hmethM hstM hkP hkPi hy (a := b) (cell := cellB) hcell
    (fun z h => by rw [h] at hobj; cases hobj) hselP hmethM habM hkP hkPi (g := g) hg (argsL := argsL) (rest := rest) (hlen _ hsigM) hstack hdg
  rcases hK m meth c ⟨T.setVm vm₁, locs, cells, slots⟩ { g with stack := rest } (.invokevirtual index) mk (Value.ref b :: argsL).toArray X₁ hg hsize hdg hW (X₁.named hnamed) (hpre vm₁ X₁.warmed) with ⟨v, B, X', hpost, hsteps⟩ | ⟨q, B, X', hpost, hsteps⟩
  · exact Or.inl ⟨v, vm₁, B, X₁.warmed, X', hpost, fun target h => hstep₁ _ fun acts => by rw [doInvoke_state]; exact hsteps.trans h⟩
  · exact Or.inr ⟨q, vm₁, B, X₁.warmed, X', hpost, hstep₁ _ fun acts => by rw [doInvoke_state]; exact hsteps⟩
theorem vx_callSX (X : Stand p l e R s m args below meth c T locs cells slots) (hexec : p.tables.exec = Jvm.exec) {own : String} {index : Nat} {y : MethodName} {bytes : ByteArray} {maxL : Nat} {ret : Option FieldType} {hh : List (Nat × Nat × Nat × Nat)}
    (hown : s.vm.findClass own = some m.cls) (hlink : (Cond.methodLink own index y).before args s = true) (hstat : (Cond.static y).before args s = true) (hinit : (Cond.initialized y.cls).before args s = true)
    (hcode : (Cond.codeWith y bytes maxL ret hh).before args s = true) (hy : y.cls ≠ "java/lang/invoke/MethodHandle" ∧ y.cls ≠ "java/lang/invoke/VarHandle")
    {W9 : Nat} {Pre : Pt → Array Value → Prop} {Post : Pt → Array Value → Option Value → Pt → Prop} {PostX : Pt → Array Value → Addr → Pt → Prop} (hK : vx_Back l R p e below s args y 3 W9 Pre Post PostX)
    {g : JFrame} (hg : g.method = m) (hsize : g.locals.size = c.maxLocals) {argsL rest : List Value} (hlen : ∀ sig, parseMethodDescriptor y.desc = some sig → argsL.length = sig.parameters.length)
    (hstack : g.stack = argsL.reverse ++ rest) (hW : 2 * g.monitorRoom + (rest.map fun v => v.category).sum ≤ W9) (hdg : decode c.code g.pc = .ok (.invokestatic index, 3))
    (hpre : ∀ vm₁, s.WarmedH vm₁ → Pre ⟨T.setVm vm₁, locs, cells, slots⟩ argsL.toArray) :
    (∃ (v : Option Value) (vm₁ : Vm) (B : Pt), s.WarmedH vm₁ ∧ Stand p l e R s m args below meth c B.U B.locs B.cells B.slots ∧ Post ⟨T.setVm vm₁, locs, cells, slots⟩ argsL.toArray v B ∧
      ∀ target, Steps p.tables e below (B.U.setTop { g with pc := g.pc + 3, stack := v.toList ++ rest }) target → Steps p.tables e below (T.setTop g) target) ∨
    (∃ (q : Addr) (vm₁ : Vm) (B : Pt), s.WarmedH vm₁ ∧ Stand p l e R s m args below meth c B.U B.locs B.cells B.slots ∧ PostX ⟨T.setVm vm₁, locs, cells, slots⟩ argsL.toArray q B ∧
      Steps p.tables e below (T.setTop g) ((B.U.setTop { g with stack := rest }).pushFrame (.throwing q))) := by
  obtain ⟨mk, methM, cM, hnamed, hmethM, -, -, -, -, -, -, hsigM⟩ := Cond.codeWith_spec hcode
  have hstatic : methM.isStatic = true := Cond.static_spec hnamed hmethM hstat
  obtain ⟨kP, hkP, -⟩ := className_of_methodNamed hnamed
  have hinitP : kP.init = .initialized := Cond.initialized_spec (findClass_of_methodNamed hnamed) hkP hinit
  obtain ⟨vm₁, X₁, hstep₁⟩ := X.invokestatic hexec hown hlink hnamed hmethM hstatic hkP hinitP hy (g := g) hg (argsL := argsL) (rest := rest) (hlen _ hsigM) hstack hdg
  rcases hK m meth c ⟨T.setVm vm₁, locs, cells, slots⟩ { g with stack := rest } (.invokestatic index) mk argsL.toArray X₁ hg hsize hdg hW (X₁.named hnamed) (hpre vm₁ X₁.warmed) with ⟨v, B, X', hpost, hsteps⟩ | ⟨q, B, X', hpost, hsteps⟩
  · exact Or.inl ⟨v, vm₁, B, X₁.warmed, X', hpost, fun target h => hstep₁ _ fun acts => by rw [doInvoke_state]; exact hsteps.trans h⟩
  · exact Or.inr ⟨q, vm₁, B, X₁.warmed, X', hpost, hstep₁ _ fun acts => by rw [doInvoke_state]; exact hsteps⟩
theorem vx_callVW (X : Stand p l e R s m args below meth c T locs cells slots) (hexec : p.tables.exec = Jvm.exec) {own C : String} {index : Nat} {y : MethodName} {bytes : ByteArray} {maxL : Nat} {ret : Option FieldType} {hh : List (Nat × Nat × Nat × Nat)}
    (hown : s.vm.findClass own = some m.cls) (hlink : (Cond.methodLink own index y).before args s = true) (hinst : (Cond.instanceMethod y).before args s = true) (hsel : (Cond.selects C y y).before args s = true)
    (hcode : (Cond.codeWith y bytes maxL ret hh).before args s = true) (hy : y.cls ≠ "java/lang/invoke/MethodHandle" ∧ y.cls ≠ "java/lang/invoke/VarHandle")
    {W9 : Nat} {Pre : Pt → Array Value → Prop} {Post : Pt → Array Value → Option Value → Pt → Prop} (hK : Back l R p e below s args y 3 W9 Pre Post)
    {b : Addr} {cellB : Cell} (hcell : T.heap[b]? = some cellB) (hobj : cellB.vm.isStatics = false) (hcls : s.vm.findClass C = some cellB.cls)
    {g : JFrame} (hg : g.method = m) (hsize : g.locals.size = c.maxLocals) {argsL rest : List Value} (hlen : ∀ sig, parseMethodDescriptor y.desc = some sig → argsL.length = sig.parameters.length)
    (hstack : g.stack = argsL.reverse ++ .ref b :: rest) (hW : 2 * g.monitorRoom + (rest.map fun v => v.category).sum ≤ W9) (hdg : decode c.code g.pc = .ok (.invokevirtual index, 3))
    (hpre : ∀ vm₁, s.WarmedH vm₁ → Pre ⟨T.setVm vm₁, locs, cells, slots⟩ (Value.ref b :: argsL).toArray) :
    ∃ (v : Option Value) (vm₁ : Vm) (B : Pt), s.WarmedH vm₁ ∧ Stand p l e R s m args below meth c B.U B.locs B.cells B.slots ∧ Post ⟨T.setVm vm₁, locs, cells, slots⟩ (Value.ref b :: argsL).toArray v B ∧
      ∀ target, Steps p.tables e below (B.U.setTop { g with pc := g.pc + 3, stack := v.toList ++ rest }) target → Steps p.tables e below (T.setTop g) target := by
  obtain ⟨mk, methM, hnamed, hmethM, hstM, habM⟩ := Cond.instanceMethod_spec hinst
  obtain ⟨m8, methM', cM, hn8, hmethM', -, -, -, -, -, -, hsigM⟩ := Cond.codeWith_spec hcode
  cases Option.some.inj (hn8.symm.trans hnamed)
  cases hmethM.symm.trans hmethM'
  obtain ⟨c2, r2, m2, q1, q2, q3, q4, kP, hkP, hkPi⟩ := Cond.selects_spec hsel
  cases hcls.symm.trans q1
  cases (State.methodFound?_of_named hnamed hy).symm.trans q2
  cases hnamed.symm.trans q3
  have hselP : selectMethod e.platform s.vm cellB.cls mk = .method mk := by rw [Launch.admits_selectMethod X.admits]; exact q4
  obtain ⟨vm₁, X₁, hstep₁⟩ := X.invokevirtual hexec hown hlink hnamed hmethM hstM hkP hkPi hy (a := b) (cell := cellB) hcell
    (fun z h => by rw [h] at hobj; cases hobj) hselP hmethM habM hkP hkPi (g := g) hg (argsL := argsL) (rest := rest) (hlen _ hsigM) hstack hdg
  obtain ⟨v, B, X', hpost, hsteps⟩ := hK m meth c ⟨T.setVm vm₁, locs, cells, slots⟩ { g with stack := rest } (.invokevirtual index) mk (Value.ref b :: argsL).toArray X₁ hg hsize hdg hW (X₁.named hnamed) (hpre vm₁ X₁.warmed)
  exact ⟨v, vm₁, B, X₁.warmed, X', hpost, fun target h => hstep₁ _ fun acts => by rw [doInvoke_state]; exact hsteps.trans h⟩
abbrev vx_CVW (R : Room) (s : State) (args : Array Value) (own C : String) (index : Nat) (y : MethodName) (bytes : ByteArray) (maxL : Nat) (ret : Option FieldType) (hh : List (Nat × Nat × Nat × Nat)) (ws : List Cond) (rm : Room) (mc ms n : Nat) : Prop :=
  (rm.cells = mc ∧ rm.slots = ms ∧ rm.frames + 1 ≤ R.frames ∧ 8 + (maxL + 11) + rm.locals ≤ R.locals ∧ (∀ w ∈ ws, ∀ (a' : Array Value) (U : State), s.WarmedH U.vm → w.before a' U = true) ∧ Cond.codeWith y bytes maxL ret hh ∈ ws) ∧
  (Cond.codeWith y bytes maxL ret hh).before args s = true ∧ (Cond.initialized y.cls).before args s = true ∧ (y.cls ≠ "java/lang/invoke/MethodHandle" ∧ y.cls ≠ "java/lang/invoke/VarHandle") ∧
  (∀ sig, parseMethodDescriptor y.desc = some sig → n = sig.parameters.length) ∧ (Cond.methodLink own index y).before args s = true ∧ (Cond.instanceMethod y).before args s = true ∧ (Cond.selects C y y).before args s = true
theorem vx_cwVW {own C : String} {index maxL mc ms : Nat} {y : MethodName} {bytes : ByteArray} {ret : Option FieldType} {hh : List (Nat × Nat × Nat × Nat)} {Ts ws ws' : List Cond} {rm : Room} (n : Nat) (ht : ∀ w ∈ Ts, w.before args s = true) (hT : GoodIn Ts (wsV own index C y ws)) (hw : ws = Cond.codeWith y bytes maxL ret hh :: ws') (hrc : rm.cells = mc) (hrs : rm.slots = ms)
    (hd : y.cls = C ∧ y.cls ≠ "java/lang/invoke/MethodHandle" ∧ y.cls ≠ "java/lang/invoke/VarHandle" ∧ (parseMethodDescriptor y.desc).map (fun d => d.parameters.length) = some n) (hR : rm.frames + 1 ≤ R.frames ∧ 8 + (maxL + 11) + rm.locals ≤ R.locals) :
    vx_CVW R s args own C index y bytes maxL ret hh ws rm mc ms n := by
  obtain ⟨hC, hd⟩ := hd
  subst hC
  have ok : ∀ w ∈ wsV own index y.cls y ws, w.before args s = true := fun w h => ht w (hT w h).1
  have hG : GoodIn Ts ws := fun w h => hT w (by unfold wsV; exact List.mem_append_right _ h)
  have hc : Cond.codeWith y bytes maxL ret hh ∈ ws := by rw [hw]; exact List.mem_cons_self
  refine ⟨⟨hrc, hrs, hR.1, hR.2, pay_in ht hG, hc⟩, ht _ (hG _ hc).1, ok _ (by simp [wsV]), ⟨hd.1, hd.2.1⟩, fun sig h => ?_, ok _ (by simp [wsV]), ok _ (by simp [wsV]), ok _ (by simp [wsV])⟩
  have h2 := hd.2.2
  rw [h] at h2
  exact (Option.some.inj h2).symm
theorem vx_runVW {y : MethodName} {bytes cc : ByteArray} {maxL nL mc ms n index : Nat} {ret : Option FieldType} {hh : List (Nat × Nat × Nat × Nat)} {ws : List Cond} {rm : Room} {Pc : Array Value → State → Prop} {Qc : Array Value → State → Outcome → State → Prop} {free : Addr → Prop} {Ts : List Cond} {own C : String} {b : Addr} {As rest : List Value} {g : JFrame}
    (S : CallFix p m c cc nL s args Ts own) (hM : Met l y ws rm Pc Qc mc ms free) (cw : vx_CVW R s args own C index y bytes maxL ret hh ws rm mc ms n) (hp : PreV s H C b Pc As)
    (hg : g.method = m) (hn : As.length = n) (hsize : g.locals.size = nL) (hstack : g.stack = As.reverse ++ .ref b :: rest) (hW : 2 * g.monitorRoom + (rest.map fun v => v.category).sum ≤ 8) (hdg : decode cc g.pc = .ok (.invokevirtual index, 3)) (hf : cells + mc ≤ R.cells ∧ slots + ms ≤ R.slots) :
    va_Run p l e R s m args below meth c H locs cells slots mc ms g rest (Qc (Value.ref b :: As).toArray) free := by
  obtain ⟨⟨hrc, hrs, hfr, hlo, hws, hcw⟩, hcode, hini, hy, hlen, hl, hin, hse⟩ := cw
  have hK : Back l R p e below s args y 3 8 (PreOf R mc ms Pc) (PostOf Qc mc ms free) := va_backW (hh := hh) (bytes := bytes) (maxL := maxL) (ret := ret) hM hp.1 hrc hrs hfr hlo hws hcw (fun a' U hW => word_at hW (Or.inl (by first | rfl | simp [Cond.onTables, Cond.keeps, Cond.steady])) hini)
  obtain ⟨hx, hb, hml, ho, -⟩ := S
  obtain ⟨-, ⟨cellB, hcB, hoB, hclB⟩, hPc⟩ := hp
  intro T hT X
  obtain ⟨v, vm₁, ⟨U', l2, c2, s2⟩, hW₁, X', ⟨g', mk, t, L, e1, e2, hq, h1, hL, h2, h3⟩, st⟩ := vx_callVW X hx (C := C) (hh := hh) (bytes := bytes) (maxL := maxL) (ret := ret) ho hl hin hse hcode hy hK (by rw [hT]; exact hcB) hoB hclB hg (hsize.trans hml.symm) (argsL := As) (rest := rest) (fun sig h => hn.trans (hlen sig h)) hstack hW (by rw [hb]; exact hdg)
    (fun vm₁ hW₁ => ⟨hf.1, hf.2, hPc (T.setVm vm₁) hT hW₁⟩)
  dsimp only [Pt.U, Pt.locs, Pt.cells, Pt.slots] at X' e1 e2 h1 h2 h3 st
  subst h1; subst h2; subst h3
  exact ⟨v, (T.setVm vm₁).calling g' mk (Value.ref b :: As).toArray, t, U', L, hT, X', hL, e1, e2, hq, st⟩
section
variable {y : MethodName} {bytes cc : ByteArray} {maxL nL mc ms n index : Nat} {ret : Option FieldType} {ws : List Cond} {rm : Room} {Pc : Array Value → State → Prop} {Qc : Array Value → State → Outcome → State → Prop} {XC : String → State → State → Prop} {free : Addr → Prop} {Ts : List Cond} {own C : String} {b : Addr} {As rest : List Value} {g : JFrame}
theorem vx_runVX {hh : List (Nat × Nat × Nat × Nat)} (S : CallFix p m c cc nL s args Ts own) (hM : vx_Met l y ws rm Pc Qc XC mc ms free) (cw : vx_CVW R s args own C index y bytes maxL ret hh ws rm mc ms n) (hp : PreV s H C b Pc As)
    (hg : g.method = m) (hn : As.length = n) (hsize : g.locals.size = nL) (hstack : g.stack = As.reverse ++ .ref b :: rest) (hW : 2 * g.monitorRoom + (rest.map fun v => v.category).sum ≤ 8) (hdg : decode cc g.pc = .ok (.invokevirtual index, 3)) (hf : cells + mc ≤ R.cells ∧ slots + ms ≤ R.slots) :
    vx_Run p l e R s m args below meth c H locs cells slots mc ms g rest (Qc (Value.ref b :: As).toArray) XC free := by
  obtain ⟨⟨hrc, hrs, hfr, hlo, hws, hcw⟩, hcode, hini, hy, hlen, hl, hin, hse⟩ := cw
  have hK : vx_Back l R p e below s args y 3 8 (PreOf R mc ms Pc) (PostOf Qc mc ms free) (vx_Post XC mc ms free) := vx_backW (hh := hh) (bytes := bytes) (maxL := maxL) (ret := ret) hM hp.1 hrc hrs hfr hlo hws hcw (fun a' U hW => word_at hW (Or.inl (by first | rfl | simp [Cond.onTables, Cond.keeps, Cond.steady])) hini)
  obtain ⟨hx, hb, hml, ho, -⟩ := S
  obtain ⟨-, ⟨cellB, hcB, hoB, hclB⟩, hPc⟩ := hp
  intro T hT X
  rcases vx_callVX X hx (C := C) (hh := hh) (bytes := bytes) (maxL := maxL) (ret := ret) ho hl hin hse hcode hy hK (by rw [hT]; exact hcB) hoB hclB hg (hsize.trans hml.symm) (argsL := As) (rest := rest) (fun sig h => hn.trans (hlen sig h)) hstack hW (by rw [hb]; exact hdg)
    (fun vm₁ hW₁ => ⟨hf.1, hf.2, hPc (T.setVm vm₁) hT hW₁⟩) with ⟨v, vm₁, ⟨U', l2, c2, s2⟩, hW₁, X', ⟨g', mk, t, L, e1, e2, hq, h1, hL, h2, h3⟩, st⟩ | ⟨q, vm₁, ⟨U', l2, c2, s2⟩, hW₁, X', ⟨g', mk, t, L, E, ce, e1, e2, hq, hce, hcv, hcl, h1, hL, h2, h3⟩, st⟩
  · dsimp only [Pt.U, Pt.locs, Pt.cells, Pt.slots] at X' e1 e2 h1 h2 h3 st
    subst h1; subst h2; subst h3
    exact Or.inl ⟨v, (T.setVm vm₁).calling g' mk (Value.ref b :: As).toArray, t, U', L, hT, X', hL, e1, e2, hq, st⟩
  · dsimp only [Pt.U, Pt.locs, Pt.cells, Pt.slots] at X' e1 e2 h1 h2 h3 st hcl
    subst h1; subst h2; subst h3
    exact Or.inr ⟨q, (T.setVm vm₁).calling g' mk (Value.ref b :: As).toArray, t, U', L, E, ce, hT, X', hL, e1, e2, hq, hce, hcv, vx_cls hW₁ hcl, st⟩
theorem vx_runSX {hh : List (Nat × Nat × Nat × Nat)} (S : CallFix p m c cc nL s args Ts own) (hM : vx_Met l y ws rm Pc Qc XC mc ms free) (cw : vx_CSW R s args own index y bytes maxL ret hh ws rm mc ms n) (hp : PreS s H Pc As)
    (hg : g.method = m) (hn : As.length = n) (hsize : g.locals.size = nL) (hstack : g.stack = As.reverse ++ rest) (hW : 2 * g.monitorRoom + (rest.map fun v => v.category).sum ≤ 8) (hdg : decode cc g.pc = .ok (.invokestatic index, 3)) (hf : cells + mc ≤ R.cells ∧ slots + ms ≤ R.slots) :
    vx_Run p l e R s m args below meth c H locs cells slots mc ms g rest (Qc As.toArray) XC free := by
  obtain ⟨⟨hrc, hrs, hfr, hlo, hws, hcw⟩, hcode, hini, hy, hlen, hl, hstt⟩ := cw
  have hK : vx_Back l R p e below s args y 3 8 (PreOf R mc ms Pc) (PostOf Qc mc ms free) (vx_Post XC mc ms free) := vx_backW (hh := hh) (bytes := bytes) (maxL := maxL) (ret := ret) hM hp.1 hrc hrs hfr hlo hws hcw (fun a' U hW => word_at hW (Or.inl (by first | rfl | simp [Cond.onTables, Cond.keeps, Cond.steady])) hini)
  obtain ⟨hx, hb, hml, ho, -⟩ := S
  intro T hT X
  rcases vx_callSX X hx (hh := hh) (bytes := bytes) (maxL := maxL) (ret := ret) ho hl hstt hini hcode hy hK hg (hsize.trans hml.symm) (argsL := As) (rest := rest) (fun sig h => hn.trans (hlen sig h)) hstack hW (by rw [hb]; exact hdg)
    (fun vm₁ hW₁ => ⟨hf.1, hf.2, hp.2 (T.setVm vm₁) hT hW₁⟩) with ⟨v, vm₁, ⟨U', l2, c2, s2⟩, hW₁, X', ⟨g', mk, t, L, e1, e2, hq, h1, hL, h2, h3⟩, st⟩ | ⟨q, vm₁, ⟨U', l2, c2, s2⟩, hW₁, X', ⟨g', mk, t, L, E, ce, e1, e2, hq, hce, hcv, hcl, h1, hL, h2, h3⟩, st⟩
  · dsimp only [Pt.U, Pt.locs, Pt.cells, Pt.slots] at X' e1 e2 h1 h2 h3 st
    subst h1; subst h2; subst h3
    exact Or.inl ⟨v, (T.setVm vm₁).calling g' mk As.toArray, t, U', L, hT, X', hL, e1, e2, hq, st⟩
  · dsimp only [Pt.U, Pt.locs, Pt.cells, Pt.slots] at X' e1 e2 h1 h2 h3 st hcl
    subst h1; subst h2; subst h3
    exact Or.inr ⟨q, (T.setVm vm₁).calling g' mk As.toArray, t, U', L, E, ce, hT, X', hL, e1, e2, hq, hce, hcv, vx_cls hW₁ hcl, st⟩
end
end VXH
theorem vx_ofWH {l : Launch} {y : MethodName} {ws ws' : List Cond} {rm : Room} {Pc : Array Value → State → Prop} {Qc : Array Value → State → Outcome → State → Prop} {XC : String → State → State → Prop} {mc ms : Nat} {free : Addr → Prop} {cc : ByteArray} {maxL : Nat} {ret : Option FieldType} {hh : List (Nat × Nat × Nat × Nat)}
    (hy : plainName y.cls = true) (hw : ws = Cond.codeWith y cc maxL ret hh :: ws')
    (body : ∀ p e s m args below meth c s₁, BodyLoose p l y (headSpec ws rm) cc maxL ret e s m args below meth c s₁ → c.maxLocals = maxL → Pc args s →
      W p l e (headSpec ws rm).room s m args below meth c s.heap [] 0 0 (vx_MQ below Qc XC args s mc ms free) (entryFrame m args maxL)) : vx_Met l y ws rm Pc Qc XC mc ms free := by
  refine MetFree.of_bodyS (code := cc) (maxLocals := maxL) (ret := ret) hy ?_ ?_
  · intro args s m h hn
    obtain ⟨m9, meth, c, hn9, h1, h2, h3, h4, -, h5, h6, -⟩ := Cond.codeWith_spec (atoms_spec (ws := ws) h _ (by rw [hw]; exact List.mem_cons_self))
    cases hn.symm.trans hn9
    exact ⟨meth, c, h1, h2, h3, h4, h5, h6⟩
  · intro p e s m args below meth c s₁ B hml hP _
    have hh0 : s₁.heap = s.heap := by rw [B.state]; rfl
    obtain ⟨t, a1, o, b1, b2, b3⟩ := body p e s m args below meth c s₁ B hml hP s₁ hh0 (Stand.of_body B)
    exact ⟨t, o, a1, b1, b2, b3⟩
/-! ===== END ===== -/
end
section
/-! names: classes, fields, methods; the words, each with its place in the tables -/
/-! ===== BEGIN printed: names, fields, word lists, decode rows ===== -/
def RX0 : String := "PetitionBox$Log"
def TX0 : u_T := fun k => match k with
  | 0 => ("PetitionBox$Log", "count", "I", false)
  | _ => ("PetitionBox$Log", "cells", "[I", true)
def tyX0 : Nat → FieldType := fun k => match k with
  | 0 => .int
  | _ => .array .int
abbrev wsX00 : List Cond := u_ws RX0 TX0 2
theorem nmX0 : ∀ a, a < 2 → ∀ b, b < 2 → a ≠ b → (TX0 a).2.1 ≠ (TX0 b).2.1 := by decide +kernel
theorem tyX0_ok : ∀ k, k < 2 → parseFieldDescriptor (TX0 k).2.2.1 = some (tyX0 k) := by decide +kernel
abbrev cX0_init : ByteArray := prog_2_method_1_code
def yX0_init : MethodName := ⟨RX0, "<init>", "()V"⟩
abbrev cX0_at : ByteArray := prog_2_method_2_code
def yX0_at : MethodName := ⟨RX0, "at", "(II)I"⟩
abbrev cX0_add : ByteArray := prog_2_method_3_code
def yX0_add : MethodName := ⟨RX0, "add", "(IIIII)V"⟩
abbrev cX0_copyFrom : ByteArray := prog_2_method_4_code
def yX0_copyFrom : MethodName := ⟨RX0, "copyFrom", "(LPetitionBox$Log;)V"⟩
def RX1 : String := "PetitionBox$OrderReader"
def TX1 : u_T := fun k => match k with
  | 0 => ("PetitionBox$OrderReader", "text", "LPetitionBox$Text;", true)
  | 1 => ("PetitionBox$OrderReader", "sign", "I", false)
  | 2 => ("PetitionBox$OrderReader", "sender", "I", false)
  | 3 => ("PetitionBox$OrderReader", "rank", "I", false)
  | 4 => ("PetitionBox$OrderReader", "bound", "I", false)
  | 5 => ("PetitionBox$OrderReader", "bribe", "I", false)
  | 6 => ("PetitionBox$OrderReader", "ticks", "I", false)
  | 7 => ("PetitionBox$OrderReader", "position", "I", false)
  | _ => ("PetitionBox$OrderReader", "error", "I", false)
def tyX1 : Nat → FieldType := fun k => match k with
  | 0 => .object "PetitionBox$Text"
  | 1 => .int
  | 2 => .int
  | 3 => .int
  | 4 => .int
  | 5 => .int
  | 6 => .int
  | 7 => .int
  | _ => .int
abbrev wsX10 : List Cond := u_ws RX1 TX1 9
theorem nmX1 : ∀ a, a < 9 → ∀ b, b < 9 → a ≠ b → (TX1 a).2.1 ≠ (TX1 b).2.1 := by decide +kernel
theorem tyX1_ok : ∀ k, k < 9 → parseFieldDescriptor (TX1 k).2.2.1 = some (tyX1 k) := by decide +kernel
abbrev cX1_init : ByteArray := prog_3_method_1_code
def yX1_init : MethodName := ⟨RX1, "<init>", "()V"⟩
abbrev cX1_startAnew : ByteArray := prog_3_method_2_code
def yX1_startAnew : MethodName := ⟨RX1, "startAnew", "()V"⟩
abbrev cX1_isAtEnd : ByteArray := prog_3_method_3_code
def yX1_isAtEnd : MethodName := ⟨RX1, "isAtEnd", "()Z"⟩
abbrev cX1_findError : ByteArray := prog_3_method_4_code
def yX1_findError : MethodName := ⟨RX1, "findError", "()I"⟩
abbrev cX1_readOrder : ByteArray := prog_3_method_5_code
def yX1_readOrder : MethodName := ⟨RX1, "readOrder", "()V"⟩
abbrev cX1_readSending : ByteArray := prog_3_method_6_code
def yX1_readSending : MethodName := ⟨RX1, "readSending", "()V"⟩
abbrev cX1_readSign : ByteArray := prog_3_method_7_code
def yX1_readSign : MethodName := ⟨RX1, "readSign", "(I)V"⟩
abbrev cX1_readDigit : ByteArray := prog_3_method_8_code
def yX1_readDigit : MethodName := ⟨RX1, "readDigit", "(I)I"⟩
abbrev cX1_readNumber : ByteArray := prog_3_method_9_code
def yX1_readNumber : MethodName := ⟨RX1, "readNumber", "(II)I"⟩
abbrev cX1_isDigitNext : ByteArray := prog_3_method_10_code
def yX1_isDigitNext : MethodName := ⟨RX1, "isDigitNext", "()Z"⟩
def RX2 : String := "PetitionBox$Petitions"
def TX2 : u_T := fun k => match k with
  | 0 => ("PetitionBox$Petitions", "count", "I", false)
  | _ => ("PetitionBox$Petitions", "cells", "[I", true)
def tyX2 : Nat → FieldType := fun k => match k with
  | 0 => .int
  | _ => .array .int
abbrev wsX20 : List Cond := u_ws RX2 TX2 2
theorem nmX2 : ∀ a, a < 2 → ∀ b, b < 2 → a ≠ b → (TX2 a).2.1 ≠ (TX2 b).2.1 := by decide +kernel
theorem tyX2_ok : ∀ k, k < 2 → parseFieldDescriptor (TX2 k).2.2.1 = some (tyX2 k) := by decide +kernel
abbrev cX2_init : ByteArray := prog_4_method_1_code
def yX2_init : MethodName := ⟨RX2, "<init>", "()V"⟩
abbrev cX2_at : ByteArray := prog_4_method_2_code
def yX2_at : MethodName := ⟨RX2, "at", "(II)I"⟩
abbrev cX2_set : ByteArray := prog_4_method_3_code
def yX2_set : MethodName := ⟨RX2, "set", "(III)V"⟩
abbrev cX2_addRow : ByteArray := prog_4_method_4_code
def yX2_addRow : MethodName := ⟨RX2, "addRow", "()I"⟩
abbrev cX2_removeRow : ByteArray := prog_4_method_5_code
def yX2_removeRow : MethodName := ⟨RX2, "removeRow", "(I)V"⟩
abbrev cX2_rowOf : ByteArray := prog_4_method_6_code
def yX2_rowOf : MethodName := ⟨RX2, "rowOf", "(I)I"⟩
abbrev cX2_tell : ByteArray := prog_4_method_7_code
def yX2_tell : MethodName := ⟨RX2, "tell", "(II)I"⟩
abbrev cX2_kindOf : ByteArray := prog_4_method_8_code
def yX2_kindOf : MethodName := ⟨RX2, "kindOf", "(I)I"⟩
abbrev cX2_isBefore : ByteArray := prog_4_method_9_code
def yX2_isBefore : MethodName := ⟨RX2, "isBefore", "(II)Z"⟩
abbrev cX2_countBefore : ByteArray := prog_4_method_10_code
def yX2_countBefore : MethodName := ⟨RX2, "countBefore", "(I)I"⟩
abbrev cX2_firstRow : ByteArray := prog_4_method_11_code
def yX2_firstRow : MethodName := ⟨RX2, "firstRow", "()I"⟩
abbrev cX2_arrange : ByteArray := prog_4_method_12_code
def yX2_arrange : MethodName := ⟨RX2, "arrange", "([I)V"⟩
abbrev cX2_countOfSender : ByteArray := prog_4_method_13_code
def yX2_countOfSender : MethodName := ⟨RX2, "countOfSender", "(I)I"⟩
abbrev cX2_countOfRank : ByteArray := prog_4_method_14_code
def yX2_countOfRank : MethodName := ⟨RX2, "countOfRank", "(I)I"⟩
abbrev cX2_loudestRank : ByteArray := prog_4_method_15_code
def yX2_loudestRank : MethodName := ⟨RX2, "loudestRank", "()I"⟩
abbrev cX2_sumOfBribes : ByteArray := prog_4_method_16_code
def yX2_sumOfBribes : MethodName := ⟨RX2, "sumOfBribes", "()I"⟩
abbrev cX2_copyFrom : ByteArray := prog_4_method_17_code
def yX2_copyFrom : MethodName := ⟨RX2, "copyFrom", "(LPetitionBox$Petitions;)V"⟩
def RX3 : String := "PetitionBox$SavedStates"
def TX3 : u_T := fun k => match k with
  | 0 => ("PetitionBox$SavedStates", "count", "I", false)
  | 1 => ("PetitionBox$SavedStates", "oldest", "I", false)
  | _ => ("PetitionBox$SavedStates", "ring", "[LPetitionBox$State;", true)
def tyX3 : Nat → FieldType := fun k => match k with
  | 0 => .int
  | 1 => .int
  | _ => .array (.object "PetitionBox$State")
abbrev wsX30 : List Cond := u_ws RX3 TX3 3
theorem nmX3 : ∀ a, a < 3 → ∀ b, b < 3 → a ≠ b → (TX3 a).2.1 ≠ (TX3 b).2.1 := by decide +kernel
theorem tyX3_ok : ∀ k, k < 3 → parseFieldDescriptor (TX3 k).2.2.1 = some (tyX3 k) := by decide +kernel
abbrev cX3_init : ByteArray := prog_5_method_1_code
def yX3_init : MethodName := ⟨RX3, "<init>", "()V"⟩
abbrev cX3_add : ByteArray := prog_5_method_2_code
def yX3_add : MethodName := ⟨RX3, "add", "(LPetitionBox$State;)V"⟩
abbrev cX3_takeLatest : ByteArray := prog_5_method_3_code
def yX3_takeLatest : MethodName := ⟨RX3, "takeLatest", "(LPetitionBox$State;)V"⟩
def RX4 : String := "PetitionBox$State"
def TX4 : u_T := fun k => match k with
  | 0 => ("PetitionBox$State", "quota", "I", false)
  | 1 => ("PetitionBox$State", "grace", "I", false)
  | 2 => ("PetitionBox$State", "servedWait", "I", false)
  | 3 => ("PetitionBox$State", "patience", "[I", true)
  | 4 => ("PetitionBox$State", "petitions", "LPetitionBox$Petitions;", true)
  | 5 => ("PetitionBox$State", "log", "LPetitionBox$Log;", true)
  | 6 => ("PetitionBox$State", "time", "I", false)
  | 7 => ("PetitionBox$State", "putSoFar", "I", false)
  | 8 => ("PetitionBox$State", "coinsKept", "I", false)
  | 9 => ("PetitionBox$State", "leavings", "[I", true)
  | _ => ("PetitionBox$State", "coinsGivenBack", "[I", true)
def tyX4 : Nat → FieldType := fun k => match k with
  | 0 => .int
  | 1 => .int
  | 2 => .int
  | 3 => .array .int
  | 4 => .object "PetitionBox$Petitions"
  | 5 => .object "PetitionBox$Log"
  | 6 => .int
  | 7 => .int
  | 8 => .int
  | 9 => .array .int
  | _ => .array .int
abbrev wsX40 : List Cond := u_ws RX4 TX4 11
theorem nmX4 : ∀ a, a < 11 → ∀ b, b < 11 → a ≠ b → (TX4 a).2.1 ≠ (TX4 b).2.1 := by decide +kernel
theorem tyX4_ok : ∀ k, k < 11 → parseFieldDescriptor (TX4 k).2.2.1 = some (tyX4 k) := by decide +kernel
abbrev cX4_init : ByteArray := prog_6_method_1_code
def yX4_init : MethodName := ⟨RX4, "<init>", "()V"⟩
abbrev cX4_copyFrom : ByteArray := prog_6_method_2_code
def yX4_copyFrom : MethodName := ⟨RX4, "copyFrom", "(LPetitionBox$State;)V"⟩
abbrev cX4_hasRoomFor : ByteArray := prog_6_method_3_code
def yX4_hasRoomFor : MethodName := ⟨RX4, "hasRoomFor", "(II)Z"⟩
abbrev cX4_quotaAllows : ByteArray := prog_6_method_4_code
def yX4_quotaAllows : MethodName := ⟨RX4, "quotaAllows", "(I)Z"⟩
abbrev cX4_putIn : ByteArray := prog_6_method_5_code
def yX4_putIn : MethodName := ⟨RX4, "putIn", "(IIIII)I"⟩
abbrev cX4_serveFirst : ByteArray := prog_6_method_6_code
def yX4_serveFirst : MethodName := ⟨RX4, "serveFirst", "()I"⟩
abbrev cX4_letLeave : ByteArray := prog_6_method_7_code
def yX4_letLeave : MethodName := ⟨RX4, "letLeave", "(II)I"⟩
abbrev cX4_bribeGivenBack : ByteArray := prog_6_method_8_code
def yX4_bribeGivenBack : MethodName := ⟨RX4, "bribeGivenBack", "(II)I"⟩
abbrev cX4_hasTimeFor : ByteArray := prog_6_method_9_code
def yX4_hasTimeFor : MethodName := ⟨RX4, "hasTimeFor", "(I)Z"⟩
abbrev cX4_letPass : ByteArray := prog_6_method_10_code
def yX4_letPass : MethodName := ⟨RX4, "letPass", "(I)I"⟩
abbrev cX4_letOneTickPass : ByteArray := prog_6_method_11_code
def yX4_letOneTickPass : MethodName := ⟨RX4, "letOneTickPass", "()I"⟩
abbrev cX4_growOlder : ByteArray := prog_6_method_12_code
def yX4_growOlder : MethodName := ⟨RX4, "growOlder", "(I)Z"⟩
abbrev cX4_givenBackTo : ByteArray := prog_6_method_13_code
def yX4_givenBackTo : MethodName := ⟨RX4, "givenBackTo", "(I)I"⟩
abbrev cX4_sumGivenBack : ByteArray := prog_6_method_14_code
def yX4_sumGivenBack : MethodName := ⟨RX4, "sumGivenBack", "()I"⟩
abbrev cX4_leftBy : ByteArray := prog_6_method_15_code
def yX4_leftBy : MethodName := ⟨RX4, "leftBy", "(I)I"⟩
abbrev cX4_figure : ByteArray := prog_6_method_16_code
def yX4_figure : MethodName := ⟨RX4, "figure", "(I)I"⟩
def RX5 : String := "PetitionBox$Text"
def TX5 : u_T := fun k => match k with
  | 0 => ("PetitionBox$Text", "length", "I", false)
  | _ => ("PetitionBox$Text", "bytes", "[I", true)
def tyX5 : Nat → FieldType := fun k => match k with
  | 0 => .int
  | _ => .array .int
abbrev wsX50 : List Cond := u_ws RX5 TX5 2
theorem nmX5 : ∀ a, a < 2 → ∀ b, b < 2 → a ≠ b → (TX5 a).2.1 ≠ (TX5 b).2.1 := by decide +kernel
theorem tyX5_ok : ∀ k, k < 2 → parseFieldDescriptor (TX5 k).2.2.1 = some (tyX5 k) := by decide +kernel
abbrev cX5_init : ByteArray := prog_7_method_1_code
def yX5_init : MethodName := ⟨RX5, "<init>", "()V"⟩
abbrev cX5_at : ByteArray := prog_7_method_2_code
def yX5_at : MethodName := ⟨RX5, "at", "(I)I"⟩
abbrev cX5_add : ByteArray := prog_7_method_3_code
def yX5_add : MethodName := ⟨RX5, "add", "(I)Z"⟩
def RX6 : String := "PetitionBox"
def TX6 : u_T := fun k => match k with
  | 0 => ("PetitionBox", "now", "LPetitionBox$State;", true)
  | 1 => ("PetitionBox", "trial", "LPetitionBox$State;", true)
  | 2 => ("PetitionBox", "saved", "LPetitionBox$SavedStates;", true)
  | 3 => ("PetitionBox", "reader", "LPetitionBox$OrderReader;", true)
  | _ => ("PetitionBox", "rowAtPlace", "[I", true)
def tyX6 : Nat → FieldType := fun k => match k with
  | 0 => .object "PetitionBox$State"
  | 1 => .object "PetitionBox$State"
  | 2 => .object "PetitionBox$SavedStates"
  | 3 => .object "PetitionBox$OrderReader"
  | _ => .array .int
abbrev wsX60 : List Cond := u_ws RX6 TX6 5
theorem nmX6 : ∀ a, a < 5 → ∀ b, b < 5 → a ≠ b → (TX6 a).2.1 ≠ (TX6 b).2.1 := by decide +kernel
theorem tyX6_ok : ∀ k, k < 5 → parseFieldDescriptor (TX6 k).2.2.1 = some (tyX6 k) := by decide +kernel
abbrev cX6_init : ByteArray := prog_1_method_1_code
def yX6_init : MethodName := ⟨RX6, "<init>", "()V"⟩
abbrev cX6_setPatience : ByteArray := prog_1_method_2_code
def yX6_setPatience : MethodName := ⟨RX6, "setPatience", "(II)I"⟩
abbrev cX6_setQuota : ByteArray := prog_1_method_3_code
def yX6_setQuota : MethodName := ⟨RX6, "setQuota", "(I)I"⟩
abbrev cX6_setGrace : ByteArray := prog_1_method_4_code
def yX6_setGrace : MethodName := ⟨RX6, "setGrace", "(I)I"⟩
abbrev cX6_send : ByteArray := prog_1_method_5_code
def yX6_send : MethodName := ⟨RX6, "send", "(III)I"⟩
abbrev cX6_sendBribed : ByteArray := prog_1_method_6_code
def yX6_sendBribed : MethodName := ⟨RX6, "sendBribed", "(IIII)I"⟩
abbrev cX6_sendJoint : ByteArray := prog_1_method_7_code
def yX6_sendJoint : MethodName := ⟨RX6, "sendJoint", "(IIII)I"⟩
abbrev cX6_withdraw : ByteArray := prog_1_method_8_code
def yX6_withdraw : MethodName := ⟨RX6, "withdraw", "(I)I"⟩
abbrev cX6_serve : ByteArray := prog_1_method_9_code
def yX6_serve : MethodName := ⟨RX6, "serve", "()I"⟩
abbrev cX6_pass : ByteArray := prog_1_method_10_code
def yX6_pass : MethodName := ⟨RX6, "pass", "(I)I"⟩
abbrev cX6_petition : ByteArray := prog_1_method_11_code
def yX6_petition : MethodName := ⟨RX6, "petition", "(II)I"⟩
abbrev cX6_peek : ByteArray := prog_1_method_12_code
def yX6_peek : MethodName := ⟨RX6, "peek", "(I)I"⟩
abbrev cX6_sentBy : ByteArray := prog_1_method_13_code
def yX6_sentBy : MethodName := ⟨RX6, "sentBy", "(I)I"⟩
abbrev cX6_returned : ByteArray := prog_1_method_14_code
def yX6_returned : MethodName := ⟨RX6, "returned", "(I)I"⟩
abbrev cX6_entry : ByteArray := prog_1_method_15_code
def yX6_entry : MethodName := ⟨RX6, "entry", "(II)I"⟩
abbrev cX6_value : ByteArray := prog_1_method_16_code
def yX6_value : MethodName := ⟨RX6, "value", "(I)I"⟩
abbrev cX6_ofRank : ByteArray := prog_1_method_17_code
def yX6_ofRank : MethodName := ⟨RX6, "ofRank", "(I)I"⟩
abbrev cX6_rankIn : ByteArray := prog_1_method_18_code
def yX6_rankIn : MethodName := ⟨RX6, "rankIn", "(II)I"⟩
abbrev cX6_firstToExpire : ByteArray := prog_1_method_19_code
def yX6_firstToExpire : MethodName := ⟨RX6, "firstToExpire", "()I"⟩
abbrev cX6_servedIn : ByteArray := prog_1_method_20_code
def yX6_servedIn : MethodName := ⟨RX6, "servedIn", "(I)I"⟩
abbrev cX6_bribeToLead : ByteArray := prog_1_method_21_code
def yX6_bribeToLead : MethodName := ⟨RX6, "bribeToLead", "(I)I"⟩
abbrev cX6_meanWait : ByteArray := prog_1_method_22_code
def yX6_meanWait : MethodName := ⟨RX6, "meanWait", "()D"⟩
abbrev cX6_append : ByteArray := prog_1_method_23_code
def yX6_append : MethodName := ⟨RX6, "append", "(I)I"⟩
abbrev cX6_clearText : ByteArray := prog_1_method_24_code
def yX6_clearText : MethodName := ⟨RX6, "clearText", "()I"⟩
abbrev cX6_carryOut : ByteArray := prog_1_method_25_code
def yX6_carryOut : MethodName := ⟨RX6, "carryOut", "()I"⟩
abbrev cX6_undo : ByteArray := prog_1_method_26_code
def yX6_undo : MethodName := ⟨RX6, "undo", "()I"⟩
abbrev cX6_digest : ByteArray := prog_1_method_27_code
def yX6_digest : MethodName := ⟨RX6, "digest", "()J"⟩
abbrev cX6_checkRange : ByteArray := prog_1_method_28_code
def yX6_checkRange : MethodName := ⟨RX6, "checkRange", "(III)V"⟩
abbrev cX6_checkSending : ByteArray := prog_1_method_29_code
def yX6_checkSending : MethodName := ⟨RX6, "checkSending", "(III)V"⟩
abbrev cX6_checkRoom : ByteArray := prog_1_method_30_code
def yX6_checkRoom : MethodName := ⟨RX6, "checkRoom", "(II)V"⟩
abbrev cX6_findRow : ByteArray := prog_1_method_31_code
def yX6_findRow : MethodName := ⟨RX6, "findRow", "(I)I"⟩
abbrev cX6_carryOutOrder : ByteArray := prog_1_method_32_code
def yX6_carryOutOrder : MethodName := ⟨RX6, "carryOutOrder", "()Z"⟩
abbrev cX6_mix : ByteArray := prog_1_method_33_code
def yX6_mix : MethodName := ⟨RX6, "mix", "(JI)J"⟩
abbrev cX6_mixPetitions : ByteArray := prog_1_method_34_code
def yX6_mixPetitions : MethodName := ⟨RX6, "mixPetitions", "(J)J"⟩
abbrev cX6_mixLog : ByteArray := prog_1_method_35_code
def yX6_mixLog : MethodName := ⟨RX6, "mixLog", "(J)J"⟩
def RX7 : String := "PetitionBoxModel"
def TX7 : u_T := fun k => match k with
  | 0 => ("PetitionBoxModel", "s", "[I", true)
  | 1 => ("PetitionBoxModel", "past", "[I", true)
  | 2 => ("PetitionBoxModel", "aside", "[I", true)
  | 3 => ("PetitionBoxModel", "kept", "I", false)
  | 4 => ("PetitionBoxModel", "thrown", "I", false)
  | 5 => ("PetitionBoxModel", "text", "[I", true)
  | 6 => ("PetitionBoxModel", "typed", "I", false)
  | 7 => ("PetitionBoxModel", "at", "I", false)
  | 8 => ("PetitionBoxModel", "number", "[I", true)
  | _ => ("PetitionBoxModel", "h", "J", false)
def tyX7 : Nat → FieldType := fun k => match k with
  | 0 => .array .int
  | 1 => .array .int
  | 2 => .array .int
  | 3 => .int
  | 4 => .int
  | 5 => .array .int
  | 6 => .int
  | 7 => .int
  | 8 => .array .int
  | _ => .long
abbrev wsX70 : List Cond := u_ws RX7 TX7 10
theorem nmX7 : ∀ a, a < 10 → ∀ b, b < 10 → a ≠ b → (TX7 a).2.1 ≠ (TX7 b).2.1 := by decide +kernel
theorem tyX7_ok : ∀ k, k < 10 → parseFieldDescriptor (TX7 k).2.2.1 = some (tyX7 k) := by decide +kernel
abbrev cX7_init : ByteArray := prog_9_method_1_code
def yX7_init : MethodName := ⟨RX7, "<init>", "()V"⟩
abbrev cX7_thrown : ByteArray := prog_9_method_2_code
def yX7_thrown : MethodName := ⟨RX7, "thrown", "()I"⟩
abbrev cX7_in : ByteArray := prog_9_method_3_code
def yX7_in : MethodName := ⟨RX7, "in", "(III)Z"⟩
abbrev cX7_fails : ByteArray := prog_9_method_4_code
def yX7_fails : MethodName := ⟨RX7, "fails", "(I)I"⟩
abbrev cX7_tells : ByteArray := prog_9_method_5_code
def yX7_tells : MethodName := ⟨RX7, "tells", "(I)I"⟩
abbrev cX7_laysAside : ByteArray := prog_9_method_6_code
def yX7_laysAside : MethodName := ⟨RX7, "laysAside", "()V"⟩
abbrev cX7_bringsBack : ByteArray := prog_9_method_7_code
def yX7_bringsBack : MethodName := ⟨RX7, "bringsBack", "()V"⟩
abbrev cX7_keeps : ByteArray := prog_9_method_8_code
def yX7_keeps : MethodName := ⟨RX7, "keeps", "()V"⟩
abbrev cX7_of : ByteArray := prog_9_method_9_code
def yX7_of : MethodName := ⟨RX7, "of", "(II)I"⟩
abbrev cX7_put : ByteArray := prog_9_method_10_code
def yX7_put : MethodName := ⟨RX7, "put", "(III)V"⟩
abbrev cX7_find : ByteArray := prog_9_method_11_code
def yX7_find : MethodName := ⟨RX7, "find", "(I)I"⟩
abbrev cX7_isAhead : ByteArray := prog_9_method_12_code
def yX7_isAhead : MethodName := ⟨RX7, "isAhead", "(II)Z"⟩
abbrev cX7_placeOf : ByteArray := prog_9_method_13_code
def yX7_placeOf : MethodName := ⟨RX7, "placeOf", "(I)I"⟩
abbrev cX7_atPlace : ByteArray := prog_9_method_14_code
def yX7_atPlace : MethodName := ⟨RX7, "atPlace", "(I)I"⟩
abbrev cX7_sentOf : ByteArray := prog_9_method_15_code
def yX7_sentOf : MethodName := ⟨RX7, "sentOf", "(I)I"⟩
abbrev cX7_isRoom : ByteArray := prog_9_method_16_code
def yX7_isRoom : MethodName := ⟨RX7, "isRoom", "(II)Z"⟩
abbrev cX7_louder : ByteArray := prog_9_method_17_code
def yX7_louder : MethodName := ⟨RX7, "louder", "(II)I"⟩
abbrev cX7_comes : ByteArray := prog_9_method_18_code
def yX7_comes : MethodName := ⟨RX7, "comes", "(IIIII)I"⟩
abbrev cX7_backOf : ByteArray := prog_9_method_19_code
def yX7_backOf : MethodName := ⟨RX7, "backOf", "(II)I"⟩
abbrev cX7_leaves : ByteArray := prog_9_method_20_code
def yX7_leaves : MethodName := ⟨RX7, "leaves", "(II)I"⟩
abbrev cX7_servesFirst : ByteArray := prog_9_method_21_code
def yX7_servesFirst : MethodName := ⟨RX7, "servesFirst", "()I"⟩
abbrev cX7_tick : ByteArray := prog_9_method_22_code
def yX7_tick : MethodName := ⟨RX7, "tick", "()I"⟩
abbrev cX7_ticks : ByteArray := prog_9_method_23_code
def yX7_ticks : MethodName := ⟨RX7, "ticks", "(I)I"⟩
abbrev cX7_sets : ByteArray := prog_9_method_24_code
def yX7_sets : MethodName := ⟨RX7, "sets", "(II)I"⟩
abbrev cX7_setPatience : ByteArray := prog_9_method_25_code
def yX7_setPatience : MethodName := ⟨RX7, "setPatience", "(II)I"⟩
abbrev cX7_setQuota : ByteArray := prog_9_method_26_code
def yX7_setQuota : MethodName := ⟨RX7, "setQuota", "(I)I"⟩
abbrev cX7_setGrace : ByteArray := prog_9_method_27_code
def yX7_setGrace : MethodName := ⟨RX7, "setGrace", "(I)I"⟩
abbrev cX7_isSender : ByteArray := prog_9_method_28_code
def yX7_isSender : MethodName := ⟨RX7, "isSender", "(I)Z"⟩
abbrev cX7_isPetition : ByteArray := prog_9_method_29_code
def yX7_isPetition : MethodName := ⟨RX7, "isPetition", "(III)Z"⟩
abbrev cX7_puts : ByteArray := prog_9_method_30_code
def yX7_puts : MethodName := ⟨RX7, "puts", "(IIIII)I"⟩
abbrev cX7_send : ByteArray := prog_9_method_31_code
def yX7_send : MethodName := ⟨RX7, "send", "(III)I"⟩
abbrev cX7_sendBribed : ByteArray := prog_9_method_32_code
def yX7_sendBribed : MethodName := ⟨RX7, "sendBribed", "(IIII)I"⟩
abbrev cX7_sendJoint : ByteArray := prog_9_method_33_code
def yX7_sendJoint : MethodName := ⟨RX7, "sendJoint", "(IIII)I"⟩
abbrev cX7_withdraw : ByteArray := prog_9_method_34_code
def yX7_withdraw : MethodName := ⟨RX7, "withdraw", "(I)I"⟩
abbrev cX7_serve : ByteArray := prog_9_method_35_code
def yX7_serve : MethodName := ⟨RX7, "serve", "()I"⟩
abbrev cX7_pass : ByteArray := prog_9_method_36_code
def yX7_pass : MethodName := ⟨RX7, "pass", "(I)I"⟩
abbrev cX7_told : ByteArray := prog_9_method_37_code
def yX7_told : MethodName := ⟨RX7, "told", "(II)I"⟩
abbrev cX7_petition : ByteArray := prog_9_method_38_code
def yX7_petition : MethodName := ⟨RX7, "petition", "(II)I"⟩
abbrev cX7_peek : ByteArray := prog_9_method_39_code
def yX7_peek : MethodName := ⟨RX7, "peek", "(I)I"⟩
abbrev cX7_sentBy : ByteArray := prog_9_method_40_code
def yX7_sentBy : MethodName := ⟨RX7, "sentBy", "(I)I"⟩
abbrev cX7_returned : ByteArray := prog_9_method_41_code
def yX7_returned : MethodName := ⟨RX7, "returned", "(I)I"⟩
abbrev cX7_entry : ByteArray := prog_9_method_42_code
def yX7_entry : MethodName := ⟨RX7, "entry", "(II)I"⟩
abbrev cX7_loudest : ByteArray := prog_9_method_43_code
def yX7_loudest : MethodName := ⟨RX7, "loudest", "()I"⟩
abbrev cX7_bribes : ByteArray := prog_9_method_44_code
def yX7_bribes : MethodName := ⟨RX7, "bribes", "()I"⟩
abbrev cX7_valueTold : ByteArray := prog_9_method_45_code
def yX7_valueTold : MethodName := ⟨RX7, "valueTold", "(I)I"⟩
abbrev cX7_value : ByteArray := prog_9_method_46_code
def yX7_value : MethodName := ⟨RX7, "value", "(I)I"⟩
abbrev cX7_ofRank : ByteArray := prog_9_method_47_code
def yX7_ofRank : MethodName := ⟨RX7, "ofRank", "(I)I"⟩
abbrev cX7_rankIn : ByteArray := prog_9_method_48_code
def yX7_rankIn : MethodName := ⟨RX7, "rankIn", "(II)I"⟩
abbrev cX7_firstToExpire : ByteArray := prog_9_method_49_code
def yX7_firstToExpire : MethodName := ⟨RX7, "firstToExpire", "()I"⟩
abbrev cX7_servedIn : ByteArray := prog_9_method_50_code
def yX7_servedIn : MethodName := ⟨RX7, "servedIn", "(I)I"⟩
abbrev cX7_bribeToLead : ByteArray := prog_9_method_51_code
def yX7_bribeToLead : MethodName := ⟨RX7, "bribeToLead", "(I)I"⟩
abbrev cX7_meanWait : ByteArray := prog_9_method_52_code
def yX7_meanWait : MethodName := ⟨RX7, "meanWait", "()D"⟩
abbrev cX7_append : ByteArray := prog_9_method_53_code
def yX7_append : MethodName := ⟨RX7, "append", "(I)I"⟩
abbrev cX7_clearText : ByteArray := prog_9_method_54_code
def yX7_clearText : MethodName := ⟨RX7, "clearText", "()I"⟩
abbrev cX7_isAt : ByteArray := prog_9_method_55_code
def yX7_isAt : MethodName := ⟨RX7, "isAt", "(II)Z"⟩
abbrev cX7_takes : ByteArray := prog_9_method_56_code
def yX7_takes : MethodName := ⟨RX7, "takes", "(I)Z"⟩
abbrev cX7_takesDigit : ByteArray := prog_9_method_57_code
def yX7_takesDigit : MethodName := ⟨RX7, "takesDigit", "(II)Z"⟩
abbrev cX7_takesNumber : ByteArray := prog_9_method_58_code
def yX7_takesNumber : MethodName := ⟨RX7, "takesNumber", "(III)Z"⟩
abbrev cX7_takesOrder : ByteArray := prog_9_method_59_code
def yX7_takesOrder : MethodName := ⟨RX7, "takesOrder", "()Z"⟩
abbrev cX7_does : ByteArray := prog_9_method_60_code
def yX7_does : MethodName := ⟨RX7, "does", "(I)Z"⟩
abbrev cX7_carryOut : ByteArray := prog_9_method_61_code
def yX7_carryOut : MethodName := ⟨RX7, "carryOut", "()I"⟩
abbrev cX7_undo : ByteArray := prog_9_method_62_code
def yX7_undo : MethodName := ⟨RX7, "undo", "()I"⟩
abbrev cX7_mix : ByteArray := prog_9_method_63_code
def yX7_mix : MethodName := ⟨RX7, "mix", "(I)V"⟩
abbrev cX7_digest : ByteArray := prog_9_method_64_code
def yX7_digest : MethodName := ⟨RX7, "digest", "()J"⟩
def RJx145de : String := "java/io/Serializable"
def TJx145de : u_T := fun k => match k with
  | _ => ("", "", "", false)
def tyJx145de : Nat → FieldType := fun k => match k with
  | _ => .int
abbrev wsJx145de0 : List Cond := u_ws RJx145de TJx145de 0
theorem nmJx145de : ∀ a, a < 0 → ∀ b, b < 0 → a ≠ b → (TJx145de a).2.1 ≠ (TJx145de b).2.1 := by decide +kernel
theorem tyJx145de_ok : ∀ k, k < 0 → parseFieldDescriptor (TJx145de k).2.2.1 = some (tyJx145de k) := by decide +kernel
def RJ9 : String := "java/lang/Math"
def TJ9 : u_T := fun k => match k with
  | _ => ("", "", "", false)
def tyJ9 : Nat → FieldType := fun k => match k with
  | _ => .int
abbrev wsJ90 : List Cond := u_ws RJ9 TJ9 0
theorem nmJ9 : ∀ a, a < 0 → ∀ b, b < 0 → a ≠ b → (TJ9 a).2.1 ≠ (TJ9 b).2.1 := by decide +kernel
theorem tyJ9_ok : ∀ k, k < 0 → parseFieldDescriptor (TJ9 k).2.2.1 = some (tyJ9 k) := by decide +kernel
abbrev cJ9_max_7cf53 : ByteArray := prog_15_method_65_code
def yJ9_max_7cf53 : MethodName := ⟨RJ9, "max", "(II)I"⟩
abbrev cJ9_min_7cf53 : ByteArray := prog_15_method_69_code
def yJ9_min_7cf53 : MethodName := ⟨RJ9, "min", "(II)I"⟩
def RJ0 : String := "java/lang/String"
def TJ0 : u_T := fun k => match k with
  | _ => ("", "", "", false)
def tyJ0 : Nat → FieldType := fun k => match k with
  | _ => .int
abbrev wsJ00 : List Cond := u_ws RJ0 TJ0 0
theorem nmJ0 : ∀ a, a < 0 → ∀ b, b < 0 → a ≠ b → (TJ0 a).2.1 ≠ (TJ0 b).2.1 := by decide +kernel
theorem tyJ0_ok : ∀ k, k < 0 → parseFieldDescriptor (TJ0 k).2.2.1 = some (tyJ0 k) := by decide +kernel
def RJ10 : String := "java/lang/System"
def TJ10 : u_T := fun k => match k with
  | _ => ("", "", "", false)
def tyJ10 : Nat → FieldType := fun k => match k with
  | _ => .int
abbrev wsJ100 : List Cond := u_ws RJ10 TJ10 0
theorem nmJ10 : ∀ a, a < 0 → ∀ b, b < 0 → a ≠ b → (TJ10 a).2.1 ≠ (TJ10 b).2.1 := by decide +kernel
theorem tyJ10_ok : ∀ k, k < 0 → parseFieldDescriptor (TJ10 k).2.2.1 = some (tyJ10 k) := by decide +kernel
def RL : String := "PetitionBoxLaw"
abbrev cL_setPatience : ByteArray := method_3_code
def yL_setPatience : MethodName := ⟨RL, "setPatience", "(LPetitionBox;II[J)I"⟩
abbrev cL_setQuota : ByteArray := method_4_code
def yL_setQuota : MethodName := ⟨RL, "setQuota", "(LPetitionBox;I[J)I"⟩
abbrev cL_setGrace : ByteArray := method_5_code
def yL_setGrace : MethodName := ⟨RL, "setGrace", "(LPetitionBox;I[J)I"⟩
abbrev cL_send : ByteArray := method_6_code
def yL_send : MethodName := ⟨RL, "send", "(LPetitionBox;III[J)I"⟩
abbrev cL_sendBribed : ByteArray := method_7_code
def yL_sendBribed : MethodName := ⟨RL, "sendBribed", "(LPetitionBox;IIII[J)I"⟩
abbrev cL_sendJoint : ByteArray := method_8_code
def yL_sendJoint : MethodName := ⟨RL, "sendJoint", "(LPetitionBox;IIII[J)I"⟩
abbrev cL_withdraw : ByteArray := method_9_code
def yL_withdraw : MethodName := ⟨RL, "withdraw", "(LPetitionBox;I[J)I"⟩
abbrev cL_serve : ByteArray := method_10_code
def yL_serve : MethodName := ⟨RL, "serve", "(LPetitionBox;[J)I"⟩
abbrev cL_pass : ByteArray := method_11_code
def yL_pass : MethodName := ⟨RL, "pass", "(LPetitionBox;I[J)I"⟩
abbrev cL_petition : ByteArray := method_12_code
def yL_petition : MethodName := ⟨RL, "petition", "(LPetitionBox;II[J)I"⟩
abbrev cL_peek : ByteArray := method_13_code
def yL_peek : MethodName := ⟨RL, "peek", "(LPetitionBox;I[J)I"⟩
abbrev cL_sentBy : ByteArray := method_14_code
def yL_sentBy : MethodName := ⟨RL, "sentBy", "(LPetitionBox;I[J)I"⟩
abbrev cL_returned : ByteArray := method_15_code
def yL_returned : MethodName := ⟨RL, "returned", "(LPetitionBox;I[J)I"⟩
abbrev cL_entry : ByteArray := method_16_code
def yL_entry : MethodName := ⟨RL, "entry", "(LPetitionBox;II[J)I"⟩
abbrev cL_value : ByteArray := method_17_code
def yL_value : MethodName := ⟨RL, "value", "(LPetitionBox;I[J)I"⟩
abbrev cL_ofRank : ByteArray := method_18_code
def yL_ofRank : MethodName := ⟨RL, "ofRank", "(LPetitionBox;I[J)I"⟩
abbrev cL_rankIn : ByteArray := method_19_code
def yL_rankIn : MethodName := ⟨RL, "rankIn", "(LPetitionBox;II[J)I"⟩
abbrev cL_servedIn : ByteArray := method_20_code
def yL_servedIn : MethodName := ⟨RL, "servedIn", "(LPetitionBox;I[J)I"⟩
abbrev cL_bribeToLead : ByteArray := method_21_code
def yL_bribeToLead : MethodName := ⟨RL, "bribeToLead", "(LPetitionBox;I[J)I"⟩
abbrev cL_append : ByteArray := method_22_code
def yL_append : MethodName := ⟨RL, "append", "(LPetitionBox;I[J)I"⟩
abbrev cL_undo : ByteArray := method_23_code
def yL_undo : MethodName := ⟨RL, "undo", "(LPetitionBox;[J)I"⟩
abbrev cL_law : ByteArray := code
def yL_law : MethodName := ⟨RL, "law", "([I)Z"⟩
abbrev vwCl : List vw_C := [(RX0, TX0, 2), (RX1, TX1, 9), (RX2, TX2, 2), (RX3, TX3, 3), (RX4, TX4, 11), (RX5, TX5, 2), (RX6, TX6, 5), (RX7, TX7, 10)]
def lw_all : List Cond := lw_tbl.filter goodWord
theorem lw_mem (i : Nat) {w : Cond} (h : lw_tbl[i]? = some w) (hg : goodWord w = true) : w ∈ lw_all := List.mem_filter.mpr ⟨List.mem_of_getElem? h, hg⟩
theorem wS_X2_X2_countBefore : Cond.selects RX2 yX2_countBefore yX2_countBefore ∈ lw_all := lw_mem 0 (by decide +kernel) (by decide +kernel)
theorem wS_X2_X2_isBefore : Cond.selects RX2 yX2_isBefore yX2_isBefore ∈ lw_all := lw_mem 1 (by decide +kernel) (by decide +kernel)
theorem wS_X2_X2_kindOf : Cond.selects RX2 yX2_kindOf yX2_kindOf ∈ lw_all := lw_mem 2 (by decide +kernel) (by decide +kernel)
theorem wS_X1_X1_readSending : Cond.selects RX1 yX1_readSending yX1_readSending ∈ lw_all := lw_mem 3 (by decide +kernel) (by decide +kernel)
theorem wS_X1_X1_readDigit : Cond.selects RX1 yX1_readDigit yX1_readDigit ∈ lw_all := lw_mem 4 (by decide +kernel) (by decide +kernel)
theorem wS_X1_X1_readSign : Cond.selects RX1 yX1_readSign yX1_readSign ∈ lw_all := lw_mem 5 (by decide +kernel) (by decide +kernel)
theorem wS_X1_X1_readNumber : Cond.selects RX1 yX1_readNumber yX1_readNumber ∈ lw_all := lw_mem 6 (by decide +kernel) (by decide +kernel)
theorem wS_X1_X1_isDigitNext : Cond.selects RX1 yX1_isDigitNext yX1_isDigitNext ∈ lw_all := lw_mem 7 (by decide +kernel) (by decide +kernel)
theorem wS_X6_X6_carryOutOrder : Cond.selects RX6 yX6_carryOutOrder yX6_carryOutOrder ∈ lw_all := lw_mem 8 (by decide +kernel) (by decide +kernel)
theorem wS_X4_X4_quotaAllows : Cond.selects RX4 yX4_quotaAllows yX4_quotaAllows ∈ lw_all := lw_mem 9 (by decide +kernel) (by decide +kernel)
theorem wS_X4_X4_bribeGivenBack : Cond.selects RX4 yX4_bribeGivenBack yX4_bribeGivenBack ∈ lw_all := lw_mem 10 (by decide +kernel) (by decide +kernel)
theorem wS_X4_X4_letOneTickPass : Cond.selects RX4 yX4_letOneTickPass yX4_letOneTickPass ∈ lw_all := lw_mem 11 (by decide +kernel) (by decide +kernel)
theorem wS_X4_X4_sumGivenBack : Cond.selects RX4 yX4_sumGivenBack yX4_sumGivenBack ∈ lw_all := lw_mem 12 (by decide +kernel) (by decide +kernel)
theorem wS_X6_X6_mixPetitions : Cond.selects RX6 yX6_mixPetitions yX6_mixPetitions ∈ lw_all := lw_mem 13 (by decide +kernel) (by decide +kernel)
theorem wS_X6_X6_mixLog : Cond.selects RX6 yX6_mixLog yX6_mixLog ∈ lw_all := lw_mem 14 (by decide +kernel) (by decide +kernel)
theorem wS_Throwable_Throwable_fillInStackTrace__I_Ljava_lang_Throwable_ : Cond.selects "java/lang/Throwable" ⟨"java/lang/Throwable", "fillInStackTrace", "(I)Ljava/lang/Throwable;"⟩ ⟨"java/lang/Throwable", "fillInStackTrace", "(I)Ljava/lang/Throwable;"⟩ ∈ lw_all := lw_mem 15 (by decide +kernel) (by decide +kernel)
theorem wS_X6_X6_checkRoom : Cond.selects RX6 yX6_checkRoom yX6_checkRoom ∈ lw_all := lw_mem 16 (by decide +kernel) (by decide +kernel)
theorem wS_X6_X6_findRow : Cond.selects RX6 yX6_findRow yX6_findRow ∈ lw_all := lw_mem 17 (by decide +kernel) (by decide +kernel)
theorem wS_X7_X7_fails : Cond.selects RX7 yX7_fails yX7_fails ∈ lw_all := lw_mem 18 (by decide +kernel) (by decide +kernel)
theorem wS_X7_X7_sets : Cond.selects RX7 yX7_sets yX7_sets ∈ lw_all := lw_mem 19 (by decide +kernel) (by decide +kernel)
theorem wS_X7_X7_keeps : Cond.selects RX7 yX7_keeps yX7_keeps ∈ lw_all := lw_mem 20 (by decide +kernel) (by decide +kernel)
theorem wS_X7_X7_tells : Cond.selects RX7 yX7_tells yX7_tells ∈ lw_all := lw_mem 21 (by decide +kernel) (by decide +kernel)
theorem wS_X7_X7_puts : Cond.selects RX7 yX7_puts yX7_puts ∈ lw_all := lw_mem 22 (by decide +kernel) (by decide +kernel)
theorem wS_X7_X7_isRoom : Cond.selects RX7 yX7_isRoom yX7_isRoom ∈ lw_all := lw_mem 23 (by decide +kernel) (by decide +kernel)
theorem wS_X7_X7_sentOf : Cond.selects RX7 yX7_sentOf yX7_sentOf ∈ lw_all := lw_mem 24 (by decide +kernel) (by decide +kernel)
theorem wS_X7_X7_of : Cond.selects RX7 yX7_of yX7_of ∈ lw_all := lw_mem 25 (by decide +kernel) (by decide +kernel)
theorem wS_X7_X7_comes : Cond.selects RX7 yX7_comes yX7_comes ∈ lw_all := lw_mem 26 (by decide +kernel) (by decide +kernel)
theorem wS_X7_X7_put : Cond.selects RX7 yX7_put yX7_put ∈ lw_all := lw_mem 27 (by decide +kernel) (by decide +kernel)
theorem wS_X7_X7_find : Cond.selects RX7 yX7_find yX7_find ∈ lw_all := lw_mem 28 (by decide +kernel) (by decide +kernel)
theorem wS_X7_X7_leaves : Cond.selects RX7 yX7_leaves yX7_leaves ∈ lw_all := lw_mem 29 (by decide +kernel) (by decide +kernel)
theorem wS_X7_X7_backOf : Cond.selects RX7 yX7_backOf yX7_backOf ∈ lw_all := lw_mem 30 (by decide +kernel) (by decide +kernel)
theorem wS_X7_X7_servesFirst : Cond.selects RX7 yX7_servesFirst yX7_servesFirst ∈ lw_all := lw_mem 31 (by decide +kernel) (by decide +kernel)
theorem wS_X7_X7_atPlace : Cond.selects RX7 yX7_atPlace yX7_atPlace ∈ lw_all := lw_mem 32 (by decide +kernel) (by decide +kernel)
theorem wS_X7_X7_placeOf : Cond.selects RX7 yX7_placeOf yX7_placeOf ∈ lw_all := lw_mem 33 (by decide +kernel) (by decide +kernel)
theorem wS_X7_X7_isAhead : Cond.selects RX7 yX7_isAhead yX7_isAhead ∈ lw_all := lw_mem 34 (by decide +kernel) (by decide +kernel)
theorem wS_X7_X7_ticks : Cond.selects RX7 yX7_ticks yX7_ticks ∈ lw_all := lw_mem 35 (by decide +kernel) (by decide +kernel)
theorem wS_X7_X7_tick : Cond.selects RX7 yX7_tick yX7_tick ∈ lw_all := lw_mem 36 (by decide +kernel) (by decide +kernel)
theorem wS_X7_X7_told : Cond.selects RX7 yX7_told yX7_told ∈ lw_all := lw_mem 37 (by decide +kernel) (by decide +kernel)
theorem wS_X7_X7_valueTold : Cond.selects RX7 yX7_valueTold yX7_valueTold ∈ lw_all := lw_mem 38 (by decide +kernel) (by decide +kernel)
theorem wS_X7_X7_bribes : Cond.selects RX7 yX7_bribes yX7_bribes ∈ lw_all := lw_mem 39 (by decide +kernel) (by decide +kernel)
theorem wS_X7_X7_loudest : Cond.selects RX7 yX7_loudest yX7_loudest ∈ lw_all := lw_mem 40 (by decide +kernel) (by decide +kernel)
theorem wS_X7_X7_laysAside : Cond.selects RX7 yX7_laysAside yX7_laysAside ∈ lw_all := lw_mem 41 (by decide +kernel) (by decide +kernel)
theorem wS_X7_X7_bringsBack : Cond.selects RX7 yX7_bringsBack yX7_bringsBack ∈ lw_all := lw_mem 42 (by decide +kernel) (by decide +kernel)
theorem wS_X7_X7_takesOrder : Cond.selects RX7 yX7_takesOrder yX7_takesOrder ∈ lw_all := lw_mem 43 (by decide +kernel) (by decide +kernel)
theorem wS_X7_X7_takesDigit : Cond.selects RX7 yX7_takesDigit yX7_takesDigit ∈ lw_all := lw_mem 44 (by decide +kernel) (by decide +kernel)
theorem wS_X7_X7_isAt : Cond.selects RX7 yX7_isAt yX7_isAt ∈ lw_all := lw_mem 45 (by decide +kernel) (by decide +kernel)
theorem wS_X7_X7_takes : Cond.selects RX7 yX7_takes yX7_takes ∈ lw_all := lw_mem 46 (by decide +kernel) (by decide +kernel)
theorem wS_X7_X7_takesNumber : Cond.selects RX7 yX7_takesNumber yX7_takesNumber ∈ lw_all := lw_mem 47 (by decide +kernel) (by decide +kernel)
theorem wS_X7_X7_does : Cond.selects RX7 yX7_does yX7_does ∈ lw_all := lw_mem 48 (by decide +kernel) (by decide +kernel)
theorem wS_X7_X7_mix : Cond.selects RX7 yX7_mix yX7_mix ∈ lw_all := lw_mem 49 (by decide +kernel) (by decide +kernel)
theorem wI_L : Cond.initialized RL ∈ lw_all := lw_mem 50 (by decide +kernel) (by decide +kernel)
theorem wI_X6 : Cond.initialized RX6 ∈ lw_all := lw_mem 51 (by decide +kernel) (by decide +kernel)
theorem wI_X4 : Cond.initialized RX4 ∈ lw_all := lw_mem 52 (by decide +kernel) (by decide +kernel)
theorem wI_X2 : Cond.initialized RX2 ∈ lw_all := lw_mem 53 (by decide +kernel) (by decide +kernel)
theorem wI_X0 : Cond.initialized RX0 ∈ lw_all := lw_mem 54 (by decide +kernel) (by decide +kernel)
theorem wI_X3 : Cond.initialized RX3 ∈ lw_all := lw_mem 55 (by decide +kernel) (by decide +kernel)
theorem wI_X1 : Cond.initialized RX1 ∈ lw_all := lw_mem 56 (by decide +kernel) (by decide +kernel)
theorem wI_X5 : Cond.initialized RX5 ∈ lw_all := lw_mem 57 (by decide +kernel) (by decide +kernel)
theorem wI_X7 : Cond.initialized RX7 ∈ lw_all := lw_mem 58 (by decide +kernel) (by decide +kernel)
theorem wI_Throwable : Cond.initialized "java/lang/Throwable" ∈ lw_all := lw_mem 59 (by decide +kernel) (by decide +kernel)
theorem wI_Exception : Cond.initialized "java/lang/Exception" ∈ lw_all := lw_mem 60 (by decide +kernel) (by decide +kernel)
theorem wI_RuntimeException : Cond.initialized "java/lang/RuntimeException" ∈ lw_all := lw_mem 61 (by decide +kernel) (by decide +kernel)
theorem wI_IndexOutOfBoundsException : Cond.initialized "java/lang/IndexOutOfBoundsException" ∈ lw_all := lw_mem 62 (by decide +kernel) (by decide +kernel)
theorem wI_IllegalArgumentException : Cond.initialized "java/lang/IllegalArgumentException" ∈ lw_all := lw_mem 63 (by decide +kernel) (by decide +kernel)
theorem wI_J10 : Cond.initialized RJ10 ∈ lw_all := lw_mem 64 (by decide +kernel) (by decide +kernel)
theorem wI_IllegalStateException : Cond.initialized "java/lang/IllegalStateException" ∈ lw_all := lw_mem 65 (by decide +kernel) (by decide +kernel)
theorem wI_J9 : Cond.initialized RJ9 ∈ lw_all := lw_mem 66 (by decide +kernel) (by decide +kernel)
theorem wI_NoSuchElementException : Cond.initialized "java/util/NoSuchElementException" ∈ lw_all := lw_mem 67 (by decide +kernel) (by decide +kernel)
theorem wC_L_8 : Cond.classLink RL 8 RX6 ∈ lw_all := lw_mem 68 (by decide +kernel) (by decide +kernel)
theorem wZ_X6 : Cond.instantiable RX6 5 ∈ lw_all := lw_mem 69 (by decide +kernel) (by decide +kernel)
theorem wM_L_85 : Cond.methodLink RL 85 yX6_init ∈ lw_all := lw_mem 70 (by decide +kernel) (by decide +kernel)
theorem wN_X6_init : Cond.instanceMethod yX6_init ∈ lw_all := lw_mem 71 (by decide +kernel) (by decide +kernel)
theorem wK_X6_init : Cond.code yX6_init cX6_init 1 none ∈ lw_all := lw_mem 72 (by decide +kernel) (by decide +kernel)
theorem wM_X6_1 : Cond.methodLink RX6 1 ⟨"java/lang/Object", "<init>", "()V"⟩ ∈ lw_all := lw_mem 73 (by decide +kernel) (by decide +kernel)
theorem wN_Object_init___V : Cond.instanceMethod ⟨"java/lang/Object", "<init>", "()V"⟩ ∈ lw_all := lw_mem 74 (by decide +kernel) (by decide +kernel)
theorem wK_Object_init___V : Cond.code ⟨"java/lang/Object", "<init>", "()V"⟩ object_method_1_code 1 none ∈ lw_all := lw_mem 75 (by decide +kernel) (by decide +kernel)
theorem wC_X6_7 : Cond.classLink RX6 7 RX4 ∈ lw_all := lw_mem 76 (by decide +kernel) (by decide +kernel)
theorem wZ_X4 : Cond.instantiable RX4 11 ∈ lw_all := lw_mem 77 (by decide +kernel) (by decide +kernel)
theorem wMN_X6_9 : Cond.methodLinkNest RX6 9 yX4_init RX6 ∈ lw_tbl := List.mem_of_getElem? (i := 78) (by decide +kernel)
theorem wN_X4_init : Cond.instanceMethod yX4_init ∈ lw_all := lw_mem 79 (by decide +kernel) (by decide +kernel)
theorem wK_X4_init : Cond.code yX4_init cX4_init 1 none ∈ lw_all := lw_mem 80 (by decide +kernel) (by decide +kernel)
theorem wM_X4_3 : Cond.methodLink RX4 3 ⟨"java/lang/Object", "<init>", "()V"⟩ ∈ lw_all := lw_mem 81 (by decide +kernel) (by decide +kernel)
theorem wC_X4_22 : Cond.classLink RX4 22 RX2 ∈ lw_all := lw_mem 82 (by decide +kernel) (by decide +kernel)
theorem wZ_X2 : Cond.instantiable RX2 2 ∈ lw_all := lw_mem 83 (by decide +kernel) (by decide +kernel)
theorem wMN_X4_24 : Cond.methodLinkNest RX4 24 yX2_init RX6 ∈ lw_tbl := List.mem_of_getElem? (i := 84) (by decide +kernel)
theorem wN_X2_init : Cond.instanceMethod yX2_init ∈ lw_all := lw_mem 85 (by decide +kernel) (by decide +kernel)
theorem wK_X2_init : Cond.code yX2_init cX2_init 1 none ∈ lw_all := lw_mem 86 (by decide +kernel) (by decide +kernel)
theorem wM_X2_3 : Cond.methodLink RX2 3 ⟨"java/lang/Object", "<init>", "()V"⟩ ∈ lw_all := lw_mem 87 (by decide +kernel) (by decide +kernel)
theorem wF_X2_15 : Cond.fieldLink RX2 15 "PetitionBox$Petitions" "count" "I" ∈ lw_all := lw_mem 88 (by decide +kernel) (by decide +kernel)
theorem wF_X4_67 : Cond.fieldLink RX4 67 "PetitionBox$Petitions" "count" "I" ∈ lw_all := lw_mem 89 (by decide +kernel) (by decide +kernel)
theorem wF_X6_90 : Cond.fieldLink RX6 90 "PetitionBox$Petitions" "count" "I" ∈ lw_all := lw_mem 90 (by decide +kernel) (by decide +kernel)
theorem wF_X2_9 : Cond.fieldLink RX2 9 "PetitionBox$Petitions" "cells" "[I" ∈ lw_all := lw_mem 91 (by decide +kernel) (by decide +kernel)
theorem wA_int : Cond.arrayClass .int ∈ lw_all := lw_mem 97 (by decide +kernel) (by decide +kernel)
theorem wC_X4_29 : Cond.classLink RX4 29 RX0 ∈ lw_all := lw_mem 98 (by decide +kernel) (by decide +kernel)
theorem wZ_X0 : Cond.instantiable RX0 2 ∈ lw_all := lw_mem 99 (by decide +kernel) (by decide +kernel)
theorem wMN_X4_31 : Cond.methodLinkNest RX4 31 yX0_init RX6 ∈ lw_tbl := List.mem_of_getElem? (i := 100) (by decide +kernel)
theorem wN_X0_init : Cond.instanceMethod yX0_init ∈ lw_all := lw_mem 101 (by decide +kernel) (by decide +kernel)
theorem wK_X0_init : Cond.code yX0_init cX0_init 1 none ∈ lw_all := lw_mem 102 (by decide +kernel) (by decide +kernel)
theorem wM_X0_3 : Cond.methodLink RX0 3 ⟨"java/lang/Object", "<init>", "()V"⟩ ∈ lw_all := lw_mem 103 (by decide +kernel) (by decide +kernel)
theorem wF_X0_15 : Cond.fieldLink RX0 15 "PetitionBox$Log" "count" "I" ∈ lw_all := lw_mem 104 (by decide +kernel) (by decide +kernel)
theorem wF_X6_138 : Cond.fieldLink RX6 138 "PetitionBox$Log" "count" "I" ∈ lw_all := lw_mem 105 (by decide +kernel) (by decide +kernel)
theorem wF_X4_131 : Cond.fieldLink RX4 131 "PetitionBox$Log" "count" "I" ∈ lw_all := lw_mem 106 (by decide +kernel) (by decide +kernel)
theorem wF_X0_9 : Cond.fieldLink RX0 9 "PetitionBox$Log" "cells" "[I" ∈ lw_all := lw_mem 107 (by decide +kernel) (by decide +kernel)
theorem wF_X4_9 : Cond.fieldLink RX4 9 "PetitionBox$State" "quota" "I" ∈ lw_all := lw_mem 113 (by decide +kernel) (by decide +kernel)
theorem wF_X6_55 : Cond.fieldLink RX6 55 "PetitionBox$State" "quota" "I" ∈ lw_all := lw_mem 114 (by decide +kernel) (by decide +kernel)
theorem wF_X4_15 : Cond.fieldLink RX4 15 "PetitionBox$State" "grace" "I" ∈ lw_all := lw_mem 115 (by decide +kernel) (by decide +kernel)
theorem wF_X6_59 : Cond.fieldLink RX6 59 "PetitionBox$State" "grace" "I" ∈ lw_all := lw_mem 116 (by decide +kernel) (by decide +kernel)
theorem wF_X4_42 : Cond.fieldLink RX4 42 "PetitionBox$State" "servedWait" "I" ∈ lw_all := lw_mem 117 (by decide +kernel) (by decide +kernel)
theorem wF_X6_165 : Cond.fieldLink RX6 165 "PetitionBox$State" "servedWait" "I" ∈ lw_all := lw_mem 118 (by decide +kernel) (by decide +kernel)
theorem wF_X4_18 : Cond.fieldLink RX4 18 "PetitionBox$State" "patience" "[I" ∈ lw_all := lw_mem 119 (by decide +kernel) (by decide +kernel)
theorem wF_X6_52 : Cond.fieldLink RX6 52 "PetitionBox$State" "patience" "[I" ∈ lw_all := lw_mem 120 (by decide +kernel) (by decide +kernel)
theorem wF_X4_25 : Cond.fieldLink RX4 25 "PetitionBox$State" "petitions" "LPetitionBox$Petitions;" ∈ lw_all := lw_mem 121 (by decide +kernel) (by decide +kernel)
theorem wF_X6_86 : Cond.fieldLink RX6 86 "PetitionBox$State" "petitions" "LPetitionBox$Petitions;" ∈ lw_all := lw_mem 122 (by decide +kernel) (by decide +kernel)
theorem wF_X4_32 : Cond.fieldLink RX4 32 "PetitionBox$State" "log" "LPetitionBox$Log;" ∈ lw_all := lw_mem 123 (by decide +kernel) (by decide +kernel)
theorem wF_X6_134 : Cond.fieldLink RX6 134 "PetitionBox$State" "log" "LPetitionBox$Log;" ∈ lw_all := lw_mem 124 (by decide +kernel) (by decide +kernel)
theorem wF_X4_45 : Cond.fieldLink RX4 45 "PetitionBox$State" "time" "I" ∈ lw_all := lw_mem 125 (by decide +kernel) (by decide +kernel)
theorem wF_X4_48 : Cond.fieldLink RX4 48 "PetitionBox$State" "putSoFar" "I" ∈ lw_all := lw_mem 126 (by decide +kernel) (by decide +kernel)
theorem wF_X4_51 : Cond.fieldLink RX4 51 "PetitionBox$State" "coinsKept" "I" ∈ lw_all := lw_mem 127 (by decide +kernel) (by decide +kernel)
theorem wF_X4_36 : Cond.fieldLink RX4 36 "PetitionBox$State" "leavings" "[I" ∈ lw_all := lw_mem 128 (by decide +kernel) (by decide +kernel)
theorem wF_X4_39 : Cond.fieldLink RX4 39 "PetitionBox$State" "coinsGivenBack" "[I" ∈ lw_all := lw_mem 129 (by decide +kernel) (by decide +kernel)
theorem wC_X6_19 : Cond.classLink RX6 19 RX3 ∈ lw_all := lw_mem 153 (by decide +kernel) (by decide +kernel)
theorem wZ_X3 : Cond.instantiable RX3 3 ∈ lw_all := lw_mem 154 (by decide +kernel) (by decide +kernel)
theorem wM_X6_21 : Cond.methodLink RX6 21 yX3_init ∈ lw_all := lw_mem 155 (by decide +kernel) (by decide +kernel)
theorem wN_X3_init : Cond.instanceMethod yX3_init ∈ lw_all := lw_mem 156 (by decide +kernel) (by decide +kernel)
theorem wK_X3_init : Cond.code yX3_init cX3_init 2 none ∈ lw_all := lw_mem 157 (by decide +kernel) (by decide +kernel)
theorem wM_X3_3 : Cond.methodLink RX3 3 ⟨"java/lang/Object", "<init>", "()V"⟩ ∈ lw_all := lw_mem 158 (by decide +kernel) (by decide +kernel)
theorem wC_X3_9 : Cond.classLink RX3 9 RX4 ∈ lw_all := lw_mem 159 (by decide +kernel) (by decide +kernel)
theorem wAO_State : Cond.arrayOver (Jvm.ClassFile.FieldType.object "PetitionBox$State") ∈ lw_tbl := List.mem_of_getElem? (i := 160) (by decide +kernel)
theorem wMN_X3_17 : Cond.methodLinkNest RX3 17 yX4_init RX6 ∈ lw_tbl := List.mem_of_getElem? (i := 161) (by decide +kernel)
theorem wF_X3_18 : Cond.fieldLink RX3 18 "PetitionBox$SavedStates" "count" "I" ∈ lw_all := lw_mem 162 (by decide +kernel) (by decide +kernel)
theorem wF_X6_197 : Cond.fieldLink RX6 197 "PetitionBox$SavedStates" "count" "I" ∈ lw_all := lw_mem 163 (by decide +kernel) (by decide +kernel)
theorem wF_X3_22 : Cond.fieldLink RX3 22 "PetitionBox$SavedStates" "oldest" "I" ∈ lw_all := lw_mem 164 (by decide +kernel) (by decide +kernel)
theorem wF_X3_11 : Cond.fieldLink RX3 11 "PetitionBox$SavedStates" "ring" "[LPetitionBox$State;" ∈ lw_all := lw_mem 165 (by decide +kernel) (by decide +kernel)
theorem wC_X6_26 : Cond.classLink RX6 26 RX1 ∈ lw_all := lw_mem 173 (by decide +kernel) (by decide +kernel)
theorem wZ_X1 : Cond.instantiable RX1 9 ∈ lw_all := lw_mem 174 (by decide +kernel) (by decide +kernel)
theorem wMN_X6_28 : Cond.methodLinkNest RX6 28 yX1_init RX6 ∈ lw_tbl := List.mem_of_getElem? (i := 175) (by decide +kernel)
theorem wN_X1_init : Cond.instanceMethod yX1_init ∈ lw_all := lw_mem 176 (by decide +kernel) (by decide +kernel)
theorem wK_X1_init : Cond.code yX1_init cX1_init 1 none ∈ lw_all := lw_mem 177 (by decide +kernel) (by decide +kernel)
theorem wM_X1_3 : Cond.methodLink RX1 3 ⟨"java/lang/Object", "<init>", "()V"⟩ ∈ lw_all := lw_mem 178 (by decide +kernel) (by decide +kernel)
theorem wC_X1_9 : Cond.classLink RX1 9 RX5 ∈ lw_all := lw_mem 179 (by decide +kernel) (by decide +kernel)
theorem wZ_X5 : Cond.instantiable RX5 2 ∈ lw_all := lw_mem 180 (by decide +kernel) (by decide +kernel)
theorem wMN_X1_11 : Cond.methodLinkNest RX1 11 yX5_init RX6 ∈ lw_tbl := List.mem_of_getElem? (i := 181) (by decide +kernel)
theorem wN_X5_init : Cond.instanceMethod yX5_init ∈ lw_all := lw_mem 182 (by decide +kernel) (by decide +kernel)
theorem wK_X5_init : Cond.code yX5_init cX5_init 1 none ∈ lw_all := lw_mem 183 (by decide +kernel) (by decide +kernel)
theorem wM_X5_3 : Cond.methodLink RX5 3 ⟨"java/lang/Object", "<init>", "()V"⟩ ∈ lw_all := lw_mem 184 (by decide +kernel) (by decide +kernel)
theorem wF_X5_15 : Cond.fieldLink RX5 15 "PetitionBox$Text" "length" "I" ∈ lw_all := lw_mem 185 (by decide +kernel) (by decide +kernel)
theorem wF_X1_25 : Cond.fieldLink RX1 25 "PetitionBox$Text" "length" "I" ∈ lw_all := lw_mem 186 (by decide +kernel) (by decide +kernel)
theorem wF_X6_178 : Cond.fieldLink RX6 178 "PetitionBox$Text" "length" "I" ∈ lw_all := lw_mem 187 (by decide +kernel) (by decide +kernel)
theorem wF_X5_9 : Cond.fieldLink RX5 9 "PetitionBox$Text" "bytes" "[I" ∈ lw_all := lw_mem 188 (by decide +kernel) (by decide +kernel)
theorem wF_X1_12 : Cond.fieldLink RX1 12 "PetitionBox$OrderReader" "text" "LPetitionBox$Text;" ∈ lw_all := lw_mem 194 (by decide +kernel) (by decide +kernel)
theorem wF_X6_168 : Cond.fieldLink RX6 168 "PetitionBox$OrderReader" "text" "LPetitionBox$Text;" ∈ lw_all := lw_mem 195 (by decide +kernel) (by decide +kernel)
theorem wF_X1_42 : Cond.fieldLink RX1 42 "PetitionBox$OrderReader" "sign" "I" ∈ lw_all := lw_mem 196 (by decide +kernel) (by decide +kernel)
theorem wF_X6_226 : Cond.fieldLink RX6 226 "PetitionBox$OrderReader" "sign" "I" ∈ lw_all := lw_mem 197 (by decide +kernel) (by decide +kernel)
theorem wF_X1_45 : Cond.fieldLink RX1 45 "PetitionBox$OrderReader" "sender" "I" ∈ lw_all := lw_mem 198 (by decide +kernel) (by decide +kernel)
theorem wF_X6_229 : Cond.fieldLink RX6 229 "PetitionBox$OrderReader" "sender" "I" ∈ lw_all := lw_mem 199 (by decide +kernel) (by decide +kernel)
theorem wF_X1_48 : Cond.fieldLink RX1 48 "PetitionBox$OrderReader" "rank" "I" ∈ lw_all := lw_mem 200 (by decide +kernel) (by decide +kernel)
theorem wF_X6_232 : Cond.fieldLink RX6 232 "PetitionBox$OrderReader" "rank" "I" ∈ lw_all := lw_mem 201 (by decide +kernel) (by decide +kernel)
theorem wF_X1_51 : Cond.fieldLink RX1 51 "PetitionBox$OrderReader" "bound" "I" ∈ lw_all := lw_mem 202 (by decide +kernel) (by decide +kernel)
theorem wF_X6_235 : Cond.fieldLink RX6 235 "PetitionBox$OrderReader" "bound" "I" ∈ lw_all := lw_mem 203 (by decide +kernel) (by decide +kernel)
theorem wF_X1_54 : Cond.fieldLink RX1 54 "PetitionBox$OrderReader" "bribe" "I" ∈ lw_all := lw_mem 204 (by decide +kernel) (by decide +kernel)
theorem wF_X6_238 : Cond.fieldLink RX6 238 "PetitionBox$OrderReader" "bribe" "I" ∈ lw_all := lw_mem 205 (by decide +kernel) (by decide +kernel)
theorem wF_X1_57 : Cond.fieldLink RX1 57 "PetitionBox$OrderReader" "ticks" "I" ∈ lw_all := lw_mem 206 (by decide +kernel) (by decide +kernel)
theorem wF_X6_241 : Cond.fieldLink RX6 241 "PetitionBox$OrderReader" "ticks" "I" ∈ lw_all := lw_mem 207 (by decide +kernel) (by decide +kernel)
theorem wF_X1_22 : Cond.fieldLink RX1 22 "PetitionBox$OrderReader" "position" "I" ∈ lw_all := lw_mem 208 (by decide +kernel) (by decide +kernel)
theorem wF_X1_18 : Cond.fieldLink RX1 18 "PetitionBox$OrderReader" "error" "I" ∈ lw_all := lw_mem 209 (by decide +kernel) (by decide +kernel)
theorem wF_X6_10 : Cond.fieldLink RX6 10 "PetitionBox" "now" "LPetitionBox$State;" ∈ lw_all := lw_mem 229 (by decide +kernel) (by decide +kernel)
theorem wF_X6_16 : Cond.fieldLink RX6 16 "PetitionBox" "trial" "LPetitionBox$State;" ∈ lw_all := lw_mem 230 (by decide +kernel) (by decide +kernel)
theorem wF_X6_22 : Cond.fieldLink RX6 22 "PetitionBox" "saved" "LPetitionBox$SavedStates;" ∈ lw_all := lw_mem 231 (by decide +kernel) (by decide +kernel)
theorem wF_X6_29 : Cond.fieldLink RX6 29 "PetitionBox" "reader" "LPetitionBox$OrderReader;" ∈ lw_all := lw_mem 232 (by decide +kernel) (by decide +kernel)
theorem wF_X6_33 : Cond.fieldLink RX6 33 "PetitionBox" "rowAtPlace" "[I" ∈ lw_all := lw_mem 233 (by decide +kernel) (by decide +kernel)
theorem wM_L_150 : Cond.methodLink RL 150 yX6_firstToExpire ∈ lw_all := lw_mem 245 (by decide +kernel) (by decide +kernel)
theorem wN_X6_firstToExpire : Cond.instanceMethod yX6_firstToExpire ∈ lw_all := lw_mem 246 (by decide +kernel) (by decide +kernel)
theorem wS_X6_X6_firstToExpire : Cond.selects RX6 yX6_firstToExpire yX6_firstToExpire ∈ lw_all := lw_mem 247 (by decide +kernel) (by decide +kernel)
theorem wK_X6_firstToExpire : Cond.code yX6_firstToExpire cX6_firstToExpire 5 (some .int) ∈ lw_all := lw_mem 248 (by decide +kernel) (by decide +kernel)
theorem wM_X6_116 : Cond.methodLink RX6 116 yX2_tell ∈ lw_all := lw_mem 249 (by decide +kernel) (by decide +kernel)
theorem wN_X2_tell : Cond.instanceMethod yX2_tell ∈ lw_all := lw_mem 250 (by decide +kernel) (by decide +kernel)
theorem wS_X2_X2_tell : Cond.selects RX2 yX2_tell yX2_tell ∈ lw_all := lw_mem 251 (by decide +kernel) (by decide +kernel)
theorem wK_X2_tell : Cond.code yX2_tell cX2_tell 3 (some .int) ∈ lw_all := lw_mem 252 (by decide +kernel) (by decide +kernel)
theorem wM_X2_29 : Cond.methodLink RX2 29 yX2_at ∈ lw_all := lw_mem 253 (by decide +kernel) (by decide +kernel)
theorem wN_X2_at : Cond.instanceMethod yX2_at ∈ lw_all := lw_mem 254 (by decide +kernel) (by decide +kernel)
theorem wS_X2_X2_at : Cond.selects RX2 yX2_at yX2_at ∈ lw_all := lw_mem 255 (by decide +kernel) (by decide +kernel)
theorem wK_X2_at : Cond.code yX2_at cX2_at 3 (some .int) ∈ lw_all := lw_mem 256 (by decide +kernel) (by decide +kernel)
theorem wM_X2_33 : Cond.methodLink RX2 33 yX2_countBefore ∈ lw_all := lw_mem 257 (by decide +kernel) (by decide +kernel)
theorem wN_X2_countBefore : Cond.instanceMethod yX2_countBefore ∈ lw_all := lw_mem 259 (by decide +kernel) (by decide +kernel)
theorem wK_X2_countBefore : Cond.code yX2_countBefore cX2_countBefore 4 (some .int) ∈ lw_all := lw_mem 260 (by decide +kernel) (by decide +kernel)
theorem wM_X2_40 : Cond.methodLink RX2 40 yX2_isBefore ∈ lw_all := lw_mem 261 (by decide +kernel) (by decide +kernel)
theorem wN_X2_isBefore : Cond.instanceMethod yX2_isBefore ∈ lw_all := lw_mem 263 (by decide +kernel) (by decide +kernel)
theorem wK_X2_isBefore : Cond.code yX2_isBefore cX2_isBefore 7 (some .boolean) ∈ lw_all := lw_mem 264 (by decide +kernel) (by decide +kernel)
theorem wM_X2_37 : Cond.methodLink RX2 37 yX2_kindOf ∈ lw_all := lw_mem 265 (by decide +kernel) (by decide +kernel)
theorem wN_X2_kindOf : Cond.instanceMethod yX2_kindOf ∈ lw_all := lw_mem 267 (by decide +kernel) (by decide +kernel)
theorem wK_X2_kindOf : Cond.code yX2_kindOf cX2_kindOf 2 (some .int) ∈ lw_all := lw_mem 268 (by decide +kernel) (by decide +kernel)
theorem wM_X6_125 : Cond.methodLink RX6 125 yX2_at ∈ lw_all := lw_mem 269 (by decide +kernel) (by decide +kernel)
theorem wM_L_160 : Cond.methodLink RL 160 yX6_meanWait ∈ lw_all := lw_mem 270 (by decide +kernel) (by decide +kernel)
theorem wN_X6_meanWait : Cond.instanceMethod yX6_meanWait ∈ lw_all := lw_mem 271 (by decide +kernel) (by decide +kernel)
theorem wS_X6_X6_meanWait : Cond.selects RX6 yX6_meanWait yX6_meanWait ∈ lw_all := lw_mem 272 (by decide +kernel) (by decide +kernel)
theorem wK_X6_meanWait : Cond.code yX6_meanWait cX6_meanWait 2 (some .double) ∈ lw_all := lw_mem 273 (by decide +kernel) (by decide +kernel)
theorem wM_X6_162 : Cond.methodLink RX6 162 yX4_leftBy ∈ lw_all := lw_mem 274 (by decide +kernel) (by decide +kernel)
theorem wN_X4_leftBy : Cond.instanceMethod yX4_leftBy ∈ lw_all := lw_mem 275 (by decide +kernel) (by decide +kernel)
theorem wS_X4_X4_leftBy : Cond.selects RX4 yX4_leftBy yX4_leftBy ∈ lw_all := lw_mem 276 (by decide +kernel) (by decide +kernel)
theorem wK_X4_leftBy : Cond.code yX4_leftBy cX4_leftBy 2 (some .int) ∈ lw_all := lw_mem 277 (by decide +kernel) (by decide +kernel)
theorem wM_L_168 : Cond.methodLink RL 168 yX6_clearText ∈ lw_all := lw_mem 278 (by decide +kernel) (by decide +kernel)
theorem wN_X6_clearText : Cond.instanceMethod yX6_clearText ∈ lw_all := lw_mem 279 (by decide +kernel) (by decide +kernel)
theorem wS_X6_X6_clearText : Cond.selects RX6 yX6_clearText yX6_clearText ∈ lw_all := lw_mem 280 (by decide +kernel) (by decide +kernel)
theorem wK_X6_clearText : Cond.code yX6_clearText cX6_clearText 2 (some .int) ∈ lw_all := lw_mem 281 (by decide +kernel) (by decide +kernel)
theorem wM_L_172 : Cond.methodLink RL 172 yX6_carryOut ∈ lw_all := lw_mem 282 (by decide +kernel) (by decide +kernel)
theorem wN_X6_carryOut : Cond.instanceMethod yX6_carryOut ∈ lw_all := lw_mem 283 (by decide +kernel) (by decide +kernel)
theorem wS_X6_X6_carryOut : Cond.selects RX6 yX6_carryOut yX6_carryOut ∈ lw_all := lw_mem 284 (by decide +kernel) (by decide +kernel)
theorem wK_X6_carryOut : Cond.code yX6_carryOut cX6_carryOut 3 (some .int) ∈ lw_all := lw_mem 285 (by decide +kernel) (by decide +kernel)
theorem wM_X6_181 : Cond.methodLink RX6 181 yX1_findError ∈ lw_all := lw_mem 286 (by decide +kernel) (by decide +kernel)
theorem wN_X1_findError : Cond.instanceMethod yX1_findError ∈ lw_all := lw_mem 287 (by decide +kernel) (by decide +kernel)
theorem wS_X1_X1_findError : Cond.selects RX1 yX1_findError yX1_findError ∈ lw_all := lw_mem 288 (by decide +kernel) (by decide +kernel)
theorem wK_X1_findError : Cond.code yX1_findError cX1_findError 2 (some .int) ∈ lw_all := lw_mem 289 (by decide +kernel) (by decide +kernel)
theorem wM_X1_28 : Cond.methodLink RX1 28 yX1_startAnew ∈ lw_all := lw_mem 290 (by decide +kernel) (by decide +kernel)
theorem wN_X1_startAnew : Cond.instanceMethod yX1_startAnew ∈ lw_all := lw_mem 291 (by decide +kernel) (by decide +kernel)
theorem wS_X1_X1_startAnew : Cond.selects RX1 yX1_startAnew yX1_startAnew ∈ lw_all := lw_mem 292 (by decide +kernel) (by decide +kernel)
theorem wK_X1_startAnew : Cond.code yX1_startAnew cX1_startAnew 1 none ∈ lw_all := lw_mem 293 (by decide +kernel) (by decide +kernel)
theorem wM_X1_31 : Cond.methodLink RX1 31 yX1_isAtEnd ∈ lw_all := lw_mem 294 (by decide +kernel) (by decide +kernel)
theorem wN_X1_isAtEnd : Cond.instanceMethod yX1_isAtEnd ∈ lw_all := lw_mem 295 (by decide +kernel) (by decide +kernel)
theorem wS_X1_X1_isAtEnd : Cond.selects RX1 yX1_isAtEnd yX1_isAtEnd ∈ lw_all := lw_mem 296 (by decide +kernel) (by decide +kernel)
theorem wK_X1_isAtEnd : Cond.code yX1_isAtEnd cX1_isAtEnd 1 (some .boolean) ∈ lw_all := lw_mem 297 (by decide +kernel) (by decide +kernel)
theorem wM_X1_35 : Cond.methodLink RX1 35 yX1_readOrder ∈ lw_all := lw_mem 298 (by decide +kernel) (by decide +kernel)
theorem wN_X1_readOrder : Cond.instanceMethod yX1_readOrder ∈ lw_all := lw_mem 299 (by decide +kernel) (by decide +kernel)
theorem wS_X1_X1_readOrder : Cond.selects RX1 yX1_readOrder yX1_readOrder ∈ lw_all := lw_mem 300 (by decide +kernel) (by decide +kernel)
theorem wK_X1_readOrder : Cond.code yX1_readOrder cX1_readOrder 1 none ∈ lw_all := lw_mem 301 (by decide +kernel) (by decide +kernel)
theorem wM_X1_38 : Cond.methodLink RX1 38 yX5_at ∈ lw_all := lw_mem 302 (by decide +kernel) (by decide +kernel)
theorem wN_X5_at : Cond.instanceMethod yX5_at ∈ lw_all := lw_mem 303 (by decide +kernel) (by decide +kernel)
theorem wS_X5_X5_at : Cond.selects RX5 yX5_at yX5_at ∈ lw_all := lw_mem 304 (by decide +kernel) (by decide +kernel)
theorem wK_X5_at : Cond.code yX5_at cX5_at 2 (some .int) ∈ lw_all := lw_mem 305 (by decide +kernel) (by decide +kernel)
theorem wM_X1_60 : Cond.methodLink RX1 60 yX1_readSending ∈ lw_all := lw_mem 306 (by decide +kernel) (by decide +kernel)
theorem wN_X1_readSending : Cond.instanceMethod yX1_readSending ∈ lw_all := lw_mem 308 (by decide +kernel) (by decide +kernel)
theorem wK_X1_readSending : Cond.code yX1_readSending cX1_readSending 1 none ∈ lw_all := lw_mem 309 (by decide +kernel) (by decide +kernel)
theorem wM_X1_71 : Cond.methodLink RX1 71 yX1_readDigit ∈ lw_all := lw_mem 310 (by decide +kernel) (by decide +kernel)
theorem wN_X1_readDigit : Cond.instanceMethod yX1_readDigit ∈ lw_all := lw_mem 312 (by decide +kernel) (by decide +kernel)
theorem wK_X1_readDigit : Cond.code yX1_readDigit cX1_readDigit 3 (some .int) ∈ lw_all := lw_mem 313 (by decide +kernel) (by decide +kernel)
theorem wM_X1_63 : Cond.methodLink RX1 63 yX1_readSign ∈ lw_all := lw_mem 314 (by decide +kernel) (by decide +kernel)
theorem wN_X1_readSign : Cond.instanceMethod yX1_readSign ∈ lw_all := lw_mem 316 (by decide +kernel) (by decide +kernel)
theorem wK_X1_readSign : Cond.code yX1_readSign cX1_readSign 2 none ∈ lw_all := lw_mem 317 (by decide +kernel) (by decide +kernel)
theorem wM_X1_67 : Cond.methodLink RX1 67 yX1_readNumber ∈ lw_all := lw_mem 318 (by decide +kernel) (by decide +kernel)
theorem wN_X1_readNumber : Cond.instanceMethod yX1_readNumber ∈ lw_all := lw_mem 320 (by decide +kernel) (by decide +kernel)
theorem wK_X1_readNumber : Cond.code yX1_readNumber cX1_readNumber 6 (some .int) ∈ lw_all := lw_mem 321 (by decide +kernel) (by decide +kernel)
theorem wM_X1_74 : Cond.methodLink RX1 74 yX1_isDigitNext ∈ lw_all := lw_mem 322 (by decide +kernel) (by decide +kernel)
theorem wN_X1_isDigitNext : Cond.instanceMethod yX1_isDigitNext ∈ lw_all := lw_mem 324 (by decide +kernel) (by decide +kernel)
theorem wK_X1_isDigitNext : Cond.code yX1_isDigitNext cX1_isDigitNext 2 (some .boolean) ∈ lw_all := lw_mem 325 (by decide +kernel) (by decide +kernel)
theorem wM_X6_48 : Cond.methodLink RX6 48 yX3_add ∈ lw_all := lw_mem 326 (by decide +kernel) (by decide +kernel)
theorem wN_X3_add : Cond.instanceMethod yX3_add ∈ lw_all := lw_mem 327 (by decide +kernel) (by decide +kernel)
theorem wS_X3_X3_add : Cond.selects RX3 yX3_add yX3_add ∈ lw_all := lw_mem 328 (by decide +kernel) (by decide +kernel)
theorem wK_X3_add : Cond.code yX3_add cX3_add 3 none ∈ lw_all := lw_mem 329 (by decide +kernel) (by decide +kernel)
theorem wM_X3_25 : Cond.methodLink RX3 25 yX4_copyFrom ∈ lw_all := lw_mem 330 (by decide +kernel) (by decide +kernel)
theorem wN_X4_copyFrom : Cond.instanceMethod yX4_copyFrom ∈ lw_all := lw_mem 331 (by decide +kernel) (by decide +kernel)
theorem wS_X4_X4_copyFrom : Cond.selects RX4 yX4_copyFrom yX4_copyFrom ∈ lw_all := lw_mem 332 (by decide +kernel) (by decide +kernel)
theorem wK_X4_copyFrom : Cond.code yX4_copyFrom cX4_copyFrom 2 none ∈ lw_all := lw_mem 333 (by decide +kernel) (by decide +kernel)
theorem wM_X4_54 : Cond.methodLink RX4 54 ⟨"java/lang/System", "arraycopy", "(Ljava/lang/Object;ILjava/lang/Object;II)V"⟩ ∈ lw_all := lw_mem 334 (by decide +kernel) (by decide +kernel)
theorem wT_J10_arraycopy__Ljava_lang_Object_ILjava_lang_Object_II_V : Cond.static ⟨"java/lang/System", "arraycopy", "(Ljava/lang/Object;ILjava/lang/Object;II)V"⟩ ∈ lw_all := lw_mem 335 (by decide +kernel) (by decide +kernel)
theorem wNat_J10_arraycopy__Ljava_lang_Object_ILjava_lang_Object_II_V : Cond.native ⟨"java/lang/System", "arraycopy", "(Ljava/lang/Object;ILjava/lang/Object;II)V"⟩ ∈ lw_all := lw_mem 336 (by decide +kernel) (by decide +kernel)
theorem wM_X4_60 : Cond.methodLink RX4 60 yX2_copyFrom ∈ lw_all := lw_mem 337 (by decide +kernel) (by decide +kernel)
theorem wN_X2_copyFrom : Cond.instanceMethod yX2_copyFrom ∈ lw_all := lw_mem 338 (by decide +kernel) (by decide +kernel)
theorem wS_X2_X2_copyFrom : Cond.selects RX2 yX2_copyFrom yX2_copyFrom ∈ lw_all := lw_mem 339 (by decide +kernel) (by decide +kernel)
theorem wK_X2_copyFrom : Cond.code yX2_copyFrom cX2_copyFrom 2 none ∈ lw_all := lw_mem 340 (by decide +kernel) (by decide +kernel)
theorem wM_X2_23 : Cond.methodLink RX2 23 ⟨"java/lang/System", "arraycopy", "(Ljava/lang/Object;ILjava/lang/Object;II)V"⟩ ∈ lw_all := lw_mem 341 (by decide +kernel) (by decide +kernel)
theorem wM_X4_64 : Cond.methodLink RX4 64 yX0_copyFrom ∈ lw_all := lw_mem 342 (by decide +kernel) (by decide +kernel)
theorem wN_X0_copyFrom : Cond.instanceMethod yX0_copyFrom ∈ lw_all := lw_mem 343 (by decide +kernel) (by decide +kernel)
theorem wS_X0_X0_copyFrom : Cond.selects RX0 yX0_copyFrom yX0_copyFrom ∈ lw_all := lw_mem 344 (by decide +kernel) (by decide +kernel)
theorem wK_X0_copyFrom : Cond.code yX0_copyFrom cX0_copyFrom 2 none ∈ lw_all := lw_mem 345 (by decide +kernel) (by decide +kernel)
theorem wM_X0_19 : Cond.methodLink RX0 19 ⟨"java/lang/System", "arraycopy", "(Ljava/lang/Object;ILjava/lang/Object;II)V"⟩ ∈ lw_all := lw_mem 346 (by decide +kernel) (by decide +kernel)
theorem wM_X6_184 : Cond.methodLink RX6 184 yX1_startAnew ∈ lw_all := lw_mem 347 (by decide +kernel) (by decide +kernel)
theorem wM_X6_187 : Cond.methodLink RX6 187 yX1_isAtEnd ∈ lw_all := lw_mem 348 (by decide +kernel) (by decide +kernel)
theorem wM_X6_191 : Cond.methodLink RX6 191 yX1_readOrder ∈ lw_all := lw_mem 349 (by decide +kernel) (by decide +kernel)
theorem wM_X6_194 : Cond.methodLink RX6 194 yX6_carryOutOrder ∈ lw_all := lw_mem 350 (by decide +kernel) (by decide +kernel)
theorem wN_X6_carryOutOrder : Cond.instanceMethod yX6_carryOutOrder ∈ lw_all := lw_mem 352 (by decide +kernel) (by decide +kernel)
theorem wK_X6_carryOutOrder : Cond.code yX6_carryOutOrder cX6_carryOutOrder 1 (some .boolean) ∈ lw_all := lw_mem 353 (by decide +kernel) (by decide +kernel)
theorem wM_X6_218 : Cond.methodLink RX6 218 yX4_hasRoomFor ∈ lw_all := lw_mem 354 (by decide +kernel) (by decide +kernel)
theorem wN_X4_hasRoomFor : Cond.instanceMethod yX4_hasRoomFor ∈ lw_all := lw_mem 355 (by decide +kernel) (by decide +kernel)
theorem wS_X4_X4_hasRoomFor : Cond.selects RX4 yX4_hasRoomFor yX4_hasRoomFor ∈ lw_all := lw_mem 356 (by decide +kernel) (by decide +kernel)
theorem wK_X4_hasRoomFor : Cond.code yX4_hasRoomFor cX4_hasRoomFor 3 (some .boolean) ∈ lw_all := lw_mem 357 (by decide +kernel) (by decide +kernel)
theorem wM_X4_70 : Cond.methodLink RX4 70 yX4_quotaAllows ∈ lw_all := lw_mem 358 (by decide +kernel) (by decide +kernel)
theorem wN_X4_quotaAllows : Cond.instanceMethod yX4_quotaAllows ∈ lw_all := lw_mem 360 (by decide +kernel) (by decide +kernel)
theorem wK_X4_quotaAllows : Cond.code yX4_quotaAllows cX4_quotaAllows 2 (some .boolean) ∈ lw_all := lw_mem 361 (by decide +kernel) (by decide +kernel)
theorem wM_X4_74 : Cond.methodLink RX4 74 yX2_countOfSender ∈ lw_all := lw_mem 362 (by decide +kernel) (by decide +kernel)
theorem wN_X2_countOfSender : Cond.instanceMethod yX2_countOfSender ∈ lw_all := lw_mem 363 (by decide +kernel) (by decide +kernel)
theorem wS_X2_X2_countOfSender : Cond.selects RX2 yX2_countOfSender yX2_countOfSender ∈ lw_all := lw_mem 364 (by decide +kernel) (by decide +kernel)
theorem wK_X2_countOfSender : Cond.code yX2_countOfSender cX2_countOfSender 4 (some .int) ∈ lw_all := lw_mem 365 (by decide +kernel) (by decide +kernel)
theorem wM_X6_69 : Cond.methodLink RX6 69 yX4_putIn ∈ lw_all := lw_mem 366 (by decide +kernel) (by decide +kernel)
theorem wN_X4_putIn : Cond.instanceMethod yX4_putIn ∈ lw_all := lw_mem 367 (by decide +kernel) (by decide +kernel)
theorem wS_X4_X4_putIn : Cond.selects RX4 yX4_putIn yX4_putIn ∈ lw_all := lw_mem 368 (by decide +kernel) (by decide +kernel)
theorem wK_X4_putIn : Cond.code yX4_putIn cX4_putIn 8 (some .int) ∈ lw_all := lw_mem 369 (by decide +kernel) (by decide +kernel)
theorem wM_X4_78 : Cond.methodLink RX4 78 yX2_addRow ∈ lw_all := lw_mem 370 (by decide +kernel) (by decide +kernel)
theorem wN_X2_addRow : Cond.instanceMethod yX2_addRow ∈ lw_all := lw_mem 371 (by decide +kernel) (by decide +kernel)
theorem wS_X2_X2_addRow : Cond.selects RX2 yX2_addRow yX2_addRow ∈ lw_all := lw_mem 372 (by decide +kernel) (by decide +kernel)
theorem wK_X2_addRow : Cond.code yX2_addRow cX2_addRow 3 (some .int) ∈ lw_all := lw_mem 373 (by decide +kernel) (by decide +kernel)
theorem wM_X2_19 : Cond.methodLink RX2 19 yX2_set ∈ lw_all := lw_mem 374 (by decide +kernel) (by decide +kernel)
theorem wN_X2_set : Cond.instanceMethod yX2_set ∈ lw_all := lw_mem 375 (by decide +kernel) (by decide +kernel)
theorem wS_X2_X2_set : Cond.selects RX2 yX2_set yX2_set ∈ lw_all := lw_mem 376 (by decide +kernel) (by decide +kernel)
theorem wK_X2_set : Cond.code yX2_set cX2_set 4 none ∈ lw_all := lw_mem 377 (by decide +kernel) (by decide +kernel)
theorem wM_X4_82 : Cond.methodLink RX4 82 yX2_set ∈ lw_all := lw_mem 378 (by decide +kernel) (by decide +kernel)
theorem wM_X4_86 : Cond.methodLink RX4 86 yJ9_min_7cf53 ∈ lw_all := lw_mem 379 (by decide +kernel) (by decide +kernel)
theorem wT_J9_min_7cf53 : Cond.static yJ9_min_7cf53 ∈ lw_all := lw_mem 380 (by decide +kernel) (by decide +kernel)
theorem wK_J9_min_7cf53 : Cond.code yJ9_min_7cf53 cJ9_min_7cf53 2 (some .int) ∈ lw_all := lw_mem 381 (by decide +kernel) (by decide +kernel)
theorem wM_X6_100 : Cond.methodLink RX6 100 yX4_serveFirst ∈ lw_all := lw_mem 382 (by decide +kernel) (by decide +kernel)
theorem wN_X4_serveFirst : Cond.instanceMethod yX4_serveFirst ∈ lw_all := lw_mem 383 (by decide +kernel) (by decide +kernel)
theorem wS_X4_X4_serveFirst : Cond.selects RX4 yX4_serveFirst yX4_serveFirst ∈ lw_all := lw_mem 384 (by decide +kernel) (by decide +kernel)
theorem wK_X4_serveFirst : Cond.code yX4_serveFirst cX4_serveFirst 3 (some .int) ∈ lw_all := lw_mem 385 (by decide +kernel) (by decide +kernel)
theorem wM_X4_92 : Cond.methodLink RX4 92 yX2_firstRow ∈ lw_all := lw_mem 386 (by decide +kernel) (by decide +kernel)
theorem wN_X2_firstRow : Cond.instanceMethod yX2_firstRow ∈ lw_all := lw_mem 387 (by decide +kernel) (by decide +kernel)
theorem wS_X2_X2_firstRow : Cond.selects RX2 yX2_firstRow yX2_firstRow ∈ lw_all := lw_mem 388 (by decide +kernel) (by decide +kernel)
theorem wK_X2_firstRow : Cond.code yX2_firstRow cX2_firstRow 3 (some .int) ∈ lw_all := lw_mem 389 (by decide +kernel) (by decide +kernel)
theorem wM_X4_95 : Cond.methodLink RX4 95 yX2_at ∈ lw_all := lw_mem 390 (by decide +kernel) (by decide +kernel)
theorem wM_X4_98 : Cond.methodLink RX4 98 yX4_letLeave ∈ lw_all := lw_mem 391 (by decide +kernel) (by decide +kernel)
theorem wN_X4_letLeave : Cond.instanceMethod yX4_letLeave ∈ lw_all := lw_mem 392 (by decide +kernel) (by decide +kernel)
theorem wS_X4_X4_letLeave : Cond.selects RX4 yX4_letLeave yX4_letLeave ∈ lw_all := lw_mem 393 (by decide +kernel) (by decide +kernel)
theorem wK_X4_letLeave : Cond.code yX4_letLeave cX4_letLeave 6 (some .int) ∈ lw_all := lw_mem 394 (by decide +kernel) (by decide +kernel)
theorem wM_X4_101 : Cond.methodLink RX4 101 yX4_bribeGivenBack ∈ lw_all := lw_mem 395 (by decide +kernel) (by decide +kernel)
theorem wN_X4_bribeGivenBack : Cond.instanceMethod yX4_bribeGivenBack ∈ lw_all := lw_mem 397 (by decide +kernel) (by decide +kernel)
theorem wK_X4_bribeGivenBack : Cond.code yX4_bribeGivenBack cX4_bribeGivenBack 4 (some .int) ∈ lw_all := lw_mem 398 (by decide +kernel) (by decide +kernel)
theorem wM_X4_104 : Cond.methodLink RX4 104 yX0_add ∈ lw_all := lw_mem 399 (by decide +kernel) (by decide +kernel)
theorem wN_X0_add : Cond.instanceMethod yX0_add ∈ lw_all := lw_mem 400 (by decide +kernel) (by decide +kernel)
theorem wS_X0_X0_add : Cond.selects RX0 yX0_add yX0_add ∈ lw_all := lw_mem 401 (by decide +kernel) (by decide +kernel)
theorem wK_X0_add : Cond.code yX0_add cX0_add 6 none ∈ lw_all := lw_mem 402 (by decide +kernel) (by decide +kernel)
theorem wM_X4_108 : Cond.methodLink RX4 108 yX2_removeRow ∈ lw_all := lw_mem 403 (by decide +kernel) (by decide +kernel)
theorem wN_X2_removeRow : Cond.instanceMethod yX2_removeRow ∈ lw_all := lw_mem 404 (by decide +kernel) (by decide +kernel)
theorem wS_X2_X2_removeRow : Cond.selects RX2 yX2_removeRow yX2_removeRow ∈ lw_all := lw_mem 405 (by decide +kernel) (by decide +kernel)
theorem wK_X2_removeRow : Cond.code yX2_removeRow cX2_removeRow 4 none ∈ lw_all := lw_mem 406 (by decide +kernel) (by decide +kernel)
theorem wM_X6_104 : Cond.methodLink RX6 104 yX4_hasTimeFor ∈ lw_all := lw_mem 407 (by decide +kernel) (by decide +kernel)
theorem wN_X4_hasTimeFor : Cond.instanceMethod yX4_hasTimeFor ∈ lw_all := lw_mem 408 (by decide +kernel) (by decide +kernel)
theorem wS_X4_X4_hasTimeFor : Cond.selects RX4 yX4_hasTimeFor yX4_hasTimeFor ∈ lw_all := lw_mem 409 (by decide +kernel) (by decide +kernel)
theorem wK_X4_hasTimeFor : Cond.code yX4_hasTimeFor cX4_hasTimeFor 2 (some .boolean) ∈ lw_all := lw_mem 410 (by decide +kernel) (by decide +kernel)
theorem wQ_X4_112 : Cond.constant RX4 112 (100000 : Int32) ∈ lw_all := lw_mem 411 (by decide +kernel) (by decide +kernel)
theorem wM_X6_113 : Cond.methodLink RX6 113 yX4_letPass ∈ lw_all := lw_mem 412 (by decide +kernel) (by decide +kernel)
theorem wN_X4_letPass : Cond.instanceMethod yX4_letPass ∈ lw_all := lw_mem 413 (by decide +kernel) (by decide +kernel)
theorem wS_X4_X4_letPass : Cond.selects RX4 yX4_letPass yX4_letPass ∈ lw_all := lw_mem 414 (by decide +kernel) (by decide +kernel)
theorem wK_X4_letPass : Cond.code yX4_letPass cX4_letPass 4 (some .int) ∈ lw_all := lw_mem 415 (by decide +kernel) (by decide +kernel)
theorem wM_X4_113 : Cond.methodLink RX4 113 yX4_letOneTickPass ∈ lw_all := lw_mem 416 (by decide +kernel) (by decide +kernel)
theorem wN_X4_letOneTickPass : Cond.instanceMethod yX4_letOneTickPass ∈ lw_all := lw_mem 418 (by decide +kernel) (by decide +kernel)
theorem wK_X4_letOneTickPass : Cond.code yX4_letOneTickPass cX4_letOneTickPass 4 (some .int) ∈ lw_all := lw_mem 419 (by decide +kernel) (by decide +kernel)
theorem wM_X4_116 : Cond.methodLink RX4 116 yX4_growOlder ∈ lw_all := lw_mem 420 (by decide +kernel) (by decide +kernel)
theorem wN_X4_growOlder : Cond.instanceMethod yX4_growOlder ∈ lw_all := lw_mem 421 (by decide +kernel) (by decide +kernel)
theorem wS_X4_X4_growOlder : Cond.selects RX4 yX4_growOlder yX4_growOlder ∈ lw_all := lw_mem 422 (by decide +kernel) (by decide +kernel)
theorem wK_X4_growOlder : Cond.code yX4_growOlder cX4_growOlder 5 (some .boolean) ∈ lw_all := lw_mem 423 (by decide +kernel) (by decide +kernel)
theorem wM_L_179 : Cond.methodLink RL 179 yX6_digest ∈ lw_all := lw_mem 424 (by decide +kernel) (by decide +kernel)
theorem wN_X6_digest : Cond.instanceMethod yX6_digest ∈ lw_all := lw_mem 425 (by decide +kernel) (by decide +kernel)
theorem wS_X6_X6_digest : Cond.selects RX6 yX6_digest yX6_digest ∈ lw_all := lw_mem 426 (by decide +kernel) (by decide +kernel)
theorem wK_X6_digest : Cond.code yX6_digest cX6_digest 4 (some .long) ∈ lw_all := lw_mem 427 (by decide +kernel) (by decide +kernel)
theorem wQ_X6_203 : Cond.constantLong RX6 203 (3659 : Int64) ∈ lw_all := lw_mem 428 (by decide +kernel) (by decide +kernel)
theorem wM_X6_205 : Cond.methodLink RX6 205 yX6_mix ∈ lw_all := lw_mem 429 (by decide +kernel) (by decide +kernel)
theorem wT_X6_mix : Cond.static yX6_mix ∈ lw_all := lw_mem 430 (by decide +kernel) (by decide +kernel)
theorem wK_X6_mix : Cond.code yX6_mix cX6_mix 3 (some .long) ∈ lw_all := lw_mem 431 (by decide +kernel) (by decide +kernel)
theorem wQ_X6_244 : Cond.constantLong RX6 244 (31 : Int64) ∈ lw_all := lw_mem 432 (by decide +kernel) (by decide +kernel)
theorem wM_X6_144 : Cond.methodLink RX6 144 yX4_figure ∈ lw_all := lw_mem 433 (by decide +kernel) (by decide +kernel)
theorem wN_X4_figure : Cond.instanceMethod yX4_figure ∈ lw_all := lw_mem 434 (by decide +kernel) (by decide +kernel)
theorem wS_X4_X4_figure : Cond.selects RX4 yX4_figure yX4_figure ∈ lw_all := lw_mem 435 (by decide +kernel) (by decide +kernel)
theorem wK_X4_figure : Cond.code yX4_figure cX4_figure 2 (some .int) ∈ lw_all := lw_mem 436 (by decide +kernel) (by decide +kernel)
theorem wM_X4_119 : Cond.methodLink RX4 119 yX4_leftBy ∈ lw_all := lw_mem 437 (by decide +kernel) (by decide +kernel)
theorem wM_X4_122 : Cond.methodLink RX4 122 yX4_sumGivenBack ∈ lw_all := lw_mem 438 (by decide +kernel) (by decide +kernel)
theorem wN_X4_sumGivenBack : Cond.instanceMethod yX4_sumGivenBack ∈ lw_all := lw_mem 440 (by decide +kernel) (by decide +kernel)
theorem wK_X4_sumGivenBack : Cond.code yX4_sumGivenBack cX4_sumGivenBack 6 (some .int) ∈ lw_all := lw_mem 441 (by decide +kernel) (by decide +kernel)
theorem wM_X4_125 : Cond.methodLink RX4 125 yX2_sumOfBribes ∈ lw_all := lw_mem 442 (by decide +kernel) (by decide +kernel)
theorem wN_X2_sumOfBribes : Cond.instanceMethod yX2_sumOfBribes ∈ lw_all := lw_mem 443 (by decide +kernel) (by decide +kernel)
theorem wS_X2_X2_sumOfBribes : Cond.selects RX2 yX2_sumOfBribes yX2_sumOfBribes ∈ lw_all := lw_mem 444 (by decide +kernel) (by decide +kernel)
theorem wK_X2_sumOfBribes : Cond.code yX2_sumOfBribes cX2_sumOfBribes 3 (some .int) ∈ lw_all := lw_mem 445 (by decide +kernel) (by decide +kernel)
theorem wM_X4_128 : Cond.methodLink RX4 128 yX2_loudestRank ∈ lw_all := lw_mem 446 (by decide +kernel) (by decide +kernel)
theorem wN_X2_loudestRank : Cond.instanceMethod yX2_loudestRank ∈ lw_all := lw_mem 447 (by decide +kernel) (by decide +kernel)
theorem wS_X2_X2_loudestRank : Cond.selects RX2 yX2_loudestRank yX2_loudestRank ∈ lw_all := lw_mem 448 (by decide +kernel) (by decide +kernel)
theorem wK_X2_loudestRank : Cond.code yX2_loudestRank cX2_loudestRank 3 (some .int) ∈ lw_all := lw_mem 449 (by decide +kernel) (by decide +kernel)
theorem wM_X2_44 : Cond.methodLink RX2 44 yJ9_max_7cf53 ∈ lw_all := lw_mem 450 (by decide +kernel) (by decide +kernel)
theorem wT_J9_max_7cf53 : Cond.static yJ9_max_7cf53 ∈ lw_all := lw_mem 451 (by decide +kernel) (by decide +kernel)
theorem wK_J9_max_7cf53 : Cond.code yJ9_max_7cf53 cJ9_max_7cf53 2 (some .int) ∈ lw_all := lw_mem 452 (by decide +kernel) (by decide +kernel)
theorem wM_X6_131 : Cond.methodLink RX6 131 yX4_givenBackTo ∈ lw_all := lw_mem 453 (by decide +kernel) (by decide +kernel)
theorem wN_X4_givenBackTo : Cond.instanceMethod yX4_givenBackTo ∈ lw_all := lw_mem 454 (by decide +kernel) (by decide +kernel)
theorem wS_X4_X4_givenBackTo : Cond.selects RX4 yX4_givenBackTo yX4_givenBackTo ∈ lw_all := lw_mem 455 (by decide +kernel) (by decide +kernel)
theorem wK_X4_givenBackTo : Cond.code yX4_givenBackTo cX4_givenBackTo 2 (some .int) ∈ lw_all := lw_mem 456 (by decide +kernel) (by decide +kernel)
theorem wM_X6_209 : Cond.methodLink RX6 209 yX6_mixPetitions ∈ lw_all := lw_mem 457 (by decide +kernel) (by decide +kernel)
theorem wN_X6_mixPetitions : Cond.instanceMethod yX6_mixPetitions ∈ lw_all := lw_mem 459 (by decide +kernel) (by decide +kernel)
theorem wK_X6_mixPetitions : Cond.code yX6_mixPetitions cX6_mixPetitions 8 (some .long) ∈ lw_all := lw_mem 460 (by decide +kernel) (by decide +kernel)
theorem wM_X6_121 : Cond.methodLink RX6 121 yX2_arrange ∈ lw_all := lw_mem 461 (by decide +kernel) (by decide +kernel)
theorem wN_X2_arrange : Cond.instanceMethod yX2_arrange ∈ lw_all := lw_mem 462 (by decide +kernel) (by decide +kernel)
theorem wS_X2_X2_arrange : Cond.selects RX2 yX2_arrange yX2_arrange ∈ lw_all := lw_mem 463 (by decide +kernel) (by decide +kernel)
theorem wK_X2_arrange : Cond.code yX2_arrange cX2_arrange 4 none ∈ lw_all := lw_mem 464 (by decide +kernel) (by decide +kernel)
theorem wM_X6_213 : Cond.methodLink RX6 213 yX6_mixLog ∈ lw_all := lw_mem 465 (by decide +kernel) (by decide +kernel)
theorem wN_X6_mixLog : Cond.instanceMethod yX6_mixLog ∈ lw_all := lw_mem 467 (by decide +kernel) (by decide +kernel)
theorem wK_X6_mixLog : Cond.code yX6_mixLog cX6_mixLog 7 (some .long) ∈ lw_all := lw_mem 468 (by decide +kernel) (by decide +kernel)
theorem wM_X6_143 : Cond.methodLink RX6 143 yX0_at ∈ lw_all := lw_mem 469 (by decide +kernel) (by decide +kernel)
theorem wN_X0_at : Cond.instanceMethod yX0_at ∈ lw_all := lw_mem 470 (by decide +kernel) (by decide +kernel)
theorem wS_X0_X0_at : Cond.selects RX0 yX0_at yX0_at ∈ lw_all := lw_mem 471 (by decide +kernel) (by decide +kernel)
theorem wK_X0_at : Cond.code yX0_at cX0_at 3 (some .int) ∈ lw_all := lw_mem 472 (by decide +kernel) (by decide +kernel)
theorem wM_L_89 : Cond.methodLink RL 89 yL_setPatience ∈ lw_all := lw_mem 473 (by decide +kernel) (by decide +kernel)
theorem wT_L_setPatience : Cond.static yL_setPatience ∈ lw_all := lw_mem 474 (by decide +kernel) (by decide +kernel)
theorem wK_L_setPatience : Cond.codeWith yL_setPatience cL_setPatience 5 (some .int) [(0, 10, 13, 13), (0, 10, 17, 15)] ∈ lw_all := lw_mem 475 (by decide +kernel) (by decide +kernel)
theorem wC_L_13 : Cond.classLink RL 13 "java/lang/IndexOutOfBoundsException" ∈ lw_all := lw_mem 476 (by decide +kernel) (by decide +kernel)
theorem wC_L_15 : Cond.classLink RL 15 "java/lang/IllegalArgumentException" ∈ lw_all := lw_mem 477 (by decide +kernel) (by decide +kernel)
theorem wM_L_7 : Cond.methodLink RL 7 yX6_setPatience ∈ lw_all := lw_mem 478 (by decide +kernel) (by decide +kernel)
theorem wN_X6_setPatience : Cond.instanceMethod yX6_setPatience ∈ lw_all := lw_mem 479 (by decide +kernel) (by decide +kernel)
theorem wS_X6_X6_setPatience : Cond.selects RX6 yX6_setPatience yX6_setPatience ∈ lw_all := lw_mem 480 (by decide +kernel) (by decide +kernel)
theorem wK_X6_setPatience : Cond.code yX6_setPatience cX6_setPatience 4 (some .int) ∈ lw_all := lw_mem 481 (by decide +kernel) (by decide +kernel)
theorem wC_X6_37 : Cond.classLink RX6 37 "java/lang/IndexOutOfBoundsException" ∈ lw_all := lw_mem 482 (by decide +kernel) (by decide +kernel)
theorem wZ_IndexOutOfBoundsException : Cond.instantiable "java/lang/IndexOutOfBoundsException" 6 ∈ lw_all := lw_mem 483 (by decide +kernel) (by decide +kernel)
theorem wS_IndexOutOfBoundsException_Throwable_fillInStackTrace__I_Ljava_lang_Throwable_ : Cond.selects "java/lang/IndexOutOfBoundsException" ⟨"java/lang/Throwable", "fillInStackTrace", "(I)Ljava/lang/Throwable;"⟩ ⟨"java/lang/Throwable", "fillInStackTrace", "(I)Ljava/lang/Throwable;"⟩ ∈ lw_all := lw_mem 491 (by decide +kernel) (by decide +kernel)
theorem wS_IndexOutOfBoundsException_Throwable_fillInStackTrace___Ljava_lang_Throwable_ : Cond.selects "java/lang/IndexOutOfBoundsException" ⟨"java/lang/Throwable", "fillInStackTrace", "()Ljava/lang/Throwable;"⟩ ⟨"java/lang/Throwable", "fillInStackTrace", "()Ljava/lang/Throwable;"⟩ ∈ lw_all := lw_mem 492 (by decide +kernel) (by decide +kernel)
theorem wF_Throwable_198 : Cond.fieldLink "java/lang/Throwable" 198 "java/lang/Throwable" "backtrace" "Ljava/lang/Object;" ∈ lw_all := lw_mem 503 (by decide +kernel) (by decide +kernel)
theorem wN_Throwable_init___V : Cond.instanceMethod ⟨"java/lang/Throwable", "<init>", "()V"⟩ ∈ lw_all := lw_mem 505 (by decide +kernel) (by decide +kernel)
theorem wK_Throwable_init___V : Cond.code ⟨"java/lang/Throwable", "<init>", "()V"⟩ prog_19_method_1_code 1 none ∈ lw_all := lw_mem 506 (by decide +kernel) (by decide +kernel)
theorem wM_Throwable_1 : Cond.methodLink "java/lang/Throwable" 1 ⟨"java/lang/Object", "<init>", "()V"⟩ ∈ lw_all := lw_mem 507 (by decide +kernel) (by decide +kernel)
theorem wF_Throwable_13 : Cond.fieldLink "java/lang/Throwable" 13 "java/lang/Throwable" "UNASSIGNED_STACK" "[Ljava/lang/StackTraceElement;" ∈ lw_all := lw_mem 508 (by decide +kernel) (by decide +kernel)
theorem wF_Throwable_20 : Cond.fieldLink "java/lang/Throwable" 20 "java/lang/Throwable" "SUPPRESSED_SENTINEL" "Ljava/util/List;" ∈ lw_all := lw_mem 510 (by decide +kernel) (by decide +kernel)
theorem wM_Throwable_27 : Cond.methodLink "java/lang/Throwable" 27 ⟨"java/lang/Throwable", "fillInStackTrace", "()Ljava/lang/Throwable;"⟩ ∈ lw_all := lw_mem 512 (by decide +kernel) (by decide +kernel)
theorem wN_Throwable_fillInStackTrace___Ljava_lang_Throwable_ : Cond.instanceMethod ⟨"java/lang/Throwable", "fillInStackTrace", "()Ljava/lang/Throwable;"⟩ ∈ lw_all := lw_mem 513 (by decide +kernel) (by decide +kernel)
theorem wS_IllegalArgumentException_Throwable_fillInStackTrace___Ljava_lang_Throwable_ : Cond.selects "java/lang/IllegalArgumentException" ⟨"java/lang/Throwable", "fillInStackTrace", "()Ljava/lang/Throwable;"⟩ ⟨"java/lang/Throwable", "fillInStackTrace", "()Ljava/lang/Throwable;"⟩ ∈ lw_all := lw_mem 515 (by decide +kernel) (by decide +kernel)
theorem wS_IllegalStateException_Throwable_fillInStackTrace___Ljava_lang_Throwable_ : Cond.selects "java/lang/IllegalStateException" ⟨"java/lang/Throwable", "fillInStackTrace", "()Ljava/lang/Throwable;"⟩ ⟨"java/lang/Throwable", "fillInStackTrace", "()Ljava/lang/Throwable;"⟩ ∈ lw_all := lw_mem 516 (by decide +kernel) (by decide +kernel)
theorem wS_NoSuchElementException_Throwable_fillInStackTrace___Ljava_lang_Throwable_ : Cond.selects "java/util/NoSuchElementException" ⟨"java/lang/Throwable", "fillInStackTrace", "()Ljava/lang/Throwable;"⟩ ⟨"java/lang/Throwable", "fillInStackTrace", "()Ljava/lang/Throwable;"⟩ ∈ lw_all := lw_mem 517 (by decide +kernel) (by decide +kernel)
theorem wM_Throwable_202 : Cond.methodLink "java/lang/Throwable" 202 ⟨"java/lang/Throwable", "fillInStackTrace", "(I)Ljava/lang/Throwable;"⟩ ∈ lw_all := lw_mem 519 (by decide +kernel) (by decide +kernel)
theorem wN_Throwable_fillInStackTrace__I_Ljava_lang_Throwable_ : Cond.instanceMethod ⟨"java/lang/Throwable", "fillInStackTrace", "(I)Ljava/lang/Throwable;"⟩ ∈ lw_all := lw_mem 521 (by decide +kernel) (by decide +kernel)
theorem wZ_Throwable : Cond.instantiable "java/lang/Throwable" 6 ∈ lw_all := lw_mem 522 (by decide +kernel) (by decide +kernel)
theorem wNat_Throwable_fillInStackTrace__I_Ljava_lang_Throwable_ : Cond.native ⟨"java/lang/Throwable", "fillInStackTrace", "(I)Ljava/lang/Throwable;"⟩ ∈ lw_all := lw_mem 523 (by decide +kernel) (by decide +kernel)
theorem wM_X6_41 : Cond.methodLink RX6 41 ⟨"java/lang/IndexOutOfBoundsException", "<init>", "(Ljava/lang/String;)V"⟩ ∈ lw_all := lw_mem 525 (by decide +kernel) (by decide +kernel)
theorem wN_IndexOutOfBoundsException_init__Ljava_lang_String__V : Cond.instanceMethod ⟨"java/lang/IndexOutOfBoundsException", "<init>", "(Ljava/lang/String;)V"⟩ ∈ lw_all := lw_mem 526 (by decide +kernel) (by decide +kernel)
theorem wK_IndexOutOfBoundsException_init__Ljava_lang_String__V : Cond.code ⟨"java/lang/IndexOutOfBoundsException", "<init>", "(Ljava/lang/String;)V"⟩ prog_14_method_2_code 2 none ∈ lw_all := lw_mem 527 (by decide +kernel) (by decide +kernel)
theorem wM_IndexOutOfBoundsException_7 : Cond.methodLink "java/lang/IndexOutOfBoundsException" 7 ⟨"java/lang/RuntimeException", "<init>", "(Ljava/lang/String;)V"⟩ ∈ lw_all := lw_mem 528 (by decide +kernel) (by decide +kernel)
theorem wN_RuntimeException_init__Ljava_lang_String__V : Cond.instanceMethod ⟨"java/lang/RuntimeException", "<init>", "(Ljava/lang/String;)V"⟩ ∈ lw_all := lw_mem 529 (by decide +kernel) (by decide +kernel)
theorem wK_RuntimeException_init__Ljava_lang_String__V : Cond.code ⟨"java/lang/RuntimeException", "<init>", "(Ljava/lang/String;)V"⟩ prog_16_method_2_code 2 none ∈ lw_all := lw_mem 530 (by decide +kernel) (by decide +kernel)
theorem wM_RuntimeException_7 : Cond.methodLink "java/lang/RuntimeException" 7 ⟨"java/lang/Exception", "<init>", "(Ljava/lang/String;)V"⟩ ∈ lw_all := lw_mem 531 (by decide +kernel) (by decide +kernel)
theorem wN_Exception_init__Ljava_lang_String__V : Cond.instanceMethod ⟨"java/lang/Exception", "<init>", "(Ljava/lang/String;)V"⟩ ∈ lw_all := lw_mem 532 (by decide +kernel) (by decide +kernel)
theorem wK_Exception_init__Ljava_lang_String__V : Cond.code ⟨"java/lang/Exception", "<init>", "(Ljava/lang/String;)V"⟩ prog_11_method_2_code 2 none ∈ lw_all := lw_mem 533 (by decide +kernel) (by decide +kernel)
theorem wM_Exception_7 : Cond.methodLink "java/lang/Exception" 7 ⟨"java/lang/Throwable", "<init>", "(Ljava/lang/String;)V"⟩ ∈ lw_all := lw_mem 534 (by decide +kernel) (by decide +kernel)
theorem wN_Throwable_init__Ljava_lang_String__V : Cond.instanceMethod ⟨"java/lang/Throwable", "<init>", "(Ljava/lang/String;)V"⟩ ∈ lw_all := lw_mem 535 (by decide +kernel) (by decide +kernel)
theorem wK_Throwable_init__Ljava_lang_String__V : Cond.code ⟨"java/lang/Throwable", "<init>", "(Ljava/lang/String;)V"⟩ prog_19_method_2_code 2 none ∈ lw_all := lw_mem 536 (by decide +kernel) (by decide +kernel)
theorem wF_Throwable_31 : Cond.fieldLink "java/lang/Throwable" 31 "java/lang/Throwable" "detailMessage" "Ljava/lang/String;" ∈ lw_all := lw_mem 538 (by decide +kernel) (by decide +kernel)
theorem wF_Throwable_7 : Cond.fieldLink "java/lang/Throwable" 7 "java/lang/Throwable" "cause" "Ljava/lang/Throwable;" ∈ lw_all := lw_mem 539 (by decide +kernel) (by decide +kernel)
theorem wF_Throwable_17 : Cond.fieldLink "java/lang/Throwable" 17 "java/lang/Throwable" "stackTrace" "[Ljava/lang/StackTraceElement;" ∈ lw_all := lw_mem 540 (by decide +kernel) (by decide +kernel)
theorem wF_Throwable_24 : Cond.fieldLink "java/lang/Throwable" 24 "java/lang/Throwable" "suppressedExceptions" "Ljava/util/List;" ∈ lw_all := lw_mem 541 (by decide +kernel) (by decide +kernel)
theorem wA_byte : Cond.arrayClass .byte ∈ lw_all := lw_mem 550 (by decide +kernel) (by decide +kernel)
theorem wM_X6_44 : Cond.methodLink RX6 44 yX6_checkRange ∈ lw_all := lw_mem 551 (by decide +kernel) (by decide +kernel)
theorem wT_X6_checkRange : Cond.static yX6_checkRange ∈ lw_all := lw_mem 552 (by decide +kernel) (by decide +kernel)
theorem wK_X6_checkRange : Cond.code yX6_checkRange cX6_checkRange 3 none ∈ lw_all := lw_mem 553 (by decide +kernel) (by decide +kernel)
theorem wC_X6_73 : Cond.classLink RX6 73 "java/lang/IllegalArgumentException" ∈ lw_all := lw_mem 554 (by decide +kernel) (by decide +kernel)
theorem wZ_IllegalArgumentException : Cond.instantiable "java/lang/IllegalArgumentException" 6 ∈ lw_all := lw_mem 555 (by decide +kernel) (by decide +kernel)
theorem wS_IllegalArgumentException_Throwable_fillInStackTrace__I_Ljava_lang_Throwable_ : Cond.selects "java/lang/IllegalArgumentException" ⟨"java/lang/Throwable", "fillInStackTrace", "(I)Ljava/lang/Throwable;"⟩ ⟨"java/lang/Throwable", "fillInStackTrace", "(I)Ljava/lang/Throwable;"⟩ ∈ lw_all := lw_mem 557 (by decide +kernel) (by decide +kernel)
theorem wM_X6_77 : Cond.methodLink RX6 77 ⟨"java/lang/IllegalArgumentException", "<init>", "(Ljava/lang/String;)V"⟩ ∈ lw_all := lw_mem 564 (by decide +kernel) (by decide +kernel)
theorem wN_IllegalArgumentException_init__Ljava_lang_String__V : Cond.instanceMethod ⟨"java/lang/IllegalArgumentException", "<init>", "(Ljava/lang/String;)V"⟩ ∈ lw_all := lw_mem 565 (by decide +kernel) (by decide +kernel)
theorem wK_IllegalArgumentException_init__Ljava_lang_String__V : Cond.code ⟨"java/lang/IllegalArgumentException", "<init>", "(Ljava/lang/String;)V"⟩ prog_12_method_2_code 2 none ∈ lw_all := lw_mem 566 (by decide +kernel) (by decide +kernel)
theorem wM_IllegalArgumentException_7 : Cond.methodLink "java/lang/IllegalArgumentException" 7 ⟨"java/lang/RuntimeException", "<init>", "(Ljava/lang/String;)V"⟩ ∈ lw_all := lw_mem 567 (by decide +kernel) (by decide +kernel)
theorem wM_L_98 : Cond.methodLink RL 98 yL_setQuota ∈ lw_all := lw_mem 570 (by decide +kernel) (by decide +kernel)
theorem wT_L_setQuota : Cond.static yL_setQuota ∈ lw_all := lw_mem 571 (by decide +kernel) (by decide +kernel)
theorem wK_L_setQuota : Cond.codeWith yL_setQuota cL_setQuota 4 (some .int) [(0, 9, 12, 15)] ∈ lw_all := lw_mem 572 (by decide +kernel) (by decide +kernel)
theorem wM_L_17 : Cond.methodLink RL 17 yX6_setQuota ∈ lw_all := lw_mem 573 (by decide +kernel) (by decide +kernel)
theorem wN_X6_setQuota : Cond.instanceMethod yX6_setQuota ∈ lw_all := lw_mem 574 (by decide +kernel) (by decide +kernel)
theorem wS_X6_X6_setQuota : Cond.selects RX6 yX6_setQuota yX6_setQuota ∈ lw_all := lw_mem 575 (by decide +kernel) (by decide +kernel)
theorem wK_X6_setQuota : Cond.code yX6_setQuota cX6_setQuota 3 (some .int) ∈ lw_all := lw_mem 576 (by decide +kernel) (by decide +kernel)
theorem wM_L_102 : Cond.methodLink RL 102 yL_setGrace ∈ lw_all := lw_mem 577 (by decide +kernel) (by decide +kernel)
theorem wT_L_setGrace : Cond.static yL_setGrace ∈ lw_all := lw_mem 578 (by decide +kernel) (by decide +kernel)
theorem wK_L_setGrace : Cond.codeWith yL_setGrace cL_setGrace 4 (some .int) [(0, 9, 12, 15)] ∈ lw_all := lw_mem 579 (by decide +kernel) (by decide +kernel)
theorem wM_L_21 : Cond.methodLink RL 21 yX6_setGrace ∈ lw_all := lw_mem 580 (by decide +kernel) (by decide +kernel)
theorem wN_X6_setGrace : Cond.instanceMethod yX6_setGrace ∈ lw_all := lw_mem 581 (by decide +kernel) (by decide +kernel)
theorem wS_X6_X6_setGrace : Cond.selects RX6 yX6_setGrace yX6_setGrace ∈ lw_all := lw_mem 582 (by decide +kernel) (by decide +kernel)
theorem wK_X6_setGrace : Cond.code yX6_setGrace cX6_setGrace 3 (some .int) ∈ lw_all := lw_mem 583 (by decide +kernel) (by decide +kernel)
theorem wM_L_105 : Cond.methodLink RL 105 yL_send ∈ lw_all := lw_mem 584 (by decide +kernel) (by decide +kernel)
theorem wT_L_send : Cond.static yL_send ∈ lw_all := lw_mem 585 (by decide +kernel) (by decide +kernel)
theorem wK_L_send : Cond.codeWith yL_send cL_send 6 (some .int) [(0, 12, 15, 15), (0, 12, 19, 28)] ∈ lw_all := lw_mem 586 (by decide +kernel) (by decide +kernel)
theorem wC_L_28 : Cond.classLink RL 28 "java/lang/IllegalStateException" ∈ lw_all := lw_mem 587 (by decide +kernel) (by decide +kernel)
theorem wM_L_24 : Cond.methodLink RL 24 yX6_send ∈ lw_all := lw_mem 588 (by decide +kernel) (by decide +kernel)
theorem wN_X6_send : Cond.instanceMethod yX6_send ∈ lw_all := lw_mem 589 (by decide +kernel) (by decide +kernel)
theorem wS_X6_X6_send : Cond.selects RX6 yX6_send yX6_send ∈ lw_all := lw_mem 590 (by decide +kernel) (by decide +kernel)
theorem wK_X6_send : Cond.code yX6_send cX6_send 4 (some .int) ∈ lw_all := lw_mem 591 (by decide +kernel) (by decide +kernel)
theorem wM_X6_62 : Cond.methodLink RX6 62 yX6_checkSending ∈ lw_all := lw_mem 592 (by decide +kernel) (by decide +kernel)
theorem wT_X6_checkSending : Cond.static yX6_checkSending ∈ lw_all := lw_mem 593 (by decide +kernel) (by decide +kernel)
theorem wK_X6_checkSending : Cond.code yX6_checkSending cX6_checkSending 3 none ∈ lw_all := lw_mem 594 (by decide +kernel) (by decide +kernel)
theorem wM_X6_65 : Cond.methodLink RX6 65 yX6_checkRoom ∈ lw_all := lw_mem 595 (by decide +kernel) (by decide +kernel)
theorem wN_X6_checkRoom : Cond.instanceMethod yX6_checkRoom ∈ lw_all := lw_mem 597 (by decide +kernel) (by decide +kernel)
theorem wK_X6_checkRoom : Cond.code yX6_checkRoom cX6_checkRoom 3 none ∈ lw_all := lw_mem 598 (by decide +kernel) (by decide +kernel)
theorem wC_X6_108 : Cond.classLink RX6 108 "java/lang/IllegalStateException" ∈ lw_all := lw_mem 599 (by decide +kernel) (by decide +kernel)
theorem wZ_IllegalStateException : Cond.instantiable "java/lang/IllegalStateException" 6 ∈ lw_all := lw_mem 600 (by decide +kernel) (by decide +kernel)
theorem wS_IllegalStateException_Throwable_fillInStackTrace__I_Ljava_lang_Throwable_ : Cond.selects "java/lang/IllegalStateException" ⟨"java/lang/Throwable", "fillInStackTrace", "(I)Ljava/lang/Throwable;"⟩ ⟨"java/lang/Throwable", "fillInStackTrace", "(I)Ljava/lang/Throwable;"⟩ ∈ lw_all := lw_mem 602 (by decide +kernel) (by decide +kernel)
theorem wM_X6_112 : Cond.methodLink RX6 112 ⟨"java/lang/IllegalStateException", "<init>", "(Ljava/lang/String;)V"⟩ ∈ lw_all := lw_mem 609 (by decide +kernel) (by decide +kernel)
theorem wN_IllegalStateException_init__Ljava_lang_String__V : Cond.instanceMethod ⟨"java/lang/IllegalStateException", "<init>", "(Ljava/lang/String;)V"⟩ ∈ lw_all := lw_mem 610 (by decide +kernel) (by decide +kernel)
theorem wK_IllegalStateException_init__Ljava_lang_String__V : Cond.code ⟨"java/lang/IllegalStateException", "<init>", "(Ljava/lang/String;)V"⟩ prog_13_method_2_code 2 none ∈ lw_all := lw_mem 611 (by decide +kernel) (by decide +kernel)
theorem wM_IllegalStateException_7 : Cond.methodLink "java/lang/IllegalStateException" 7 ⟨"java/lang/RuntimeException", "<init>", "(Ljava/lang/String;)V"⟩ ∈ lw_all := lw_mem 612 (by decide +kernel) (by decide +kernel)
theorem wM_L_109 : Cond.methodLink RL 109 yL_sendBribed ∈ lw_all := lw_mem 615 (by decide +kernel) (by decide +kernel)
theorem wT_L_sendBribed : Cond.static yL_sendBribed ∈ lw_all := lw_mem 616 (by decide +kernel) (by decide +kernel)
theorem wK_L_sendBribed : Cond.codeWith yL_sendBribed cL_sendBribed 7 (some .int) [(0, 14, 17, 15), (0, 14, 21, 28)] ∈ lw_all := lw_mem 617 (by decide +kernel) (by decide +kernel)
theorem wM_L_30 : Cond.methodLink RL 30 yX6_sendBribed ∈ lw_all := lw_mem 618 (by decide +kernel) (by decide +kernel)
theorem wN_X6_sendBribed : Cond.instanceMethod yX6_sendBribed ∈ lw_all := lw_mem 619 (by decide +kernel) (by decide +kernel)
theorem wS_X6_X6_sendBribed : Cond.selects RX6 yX6_sendBribed yX6_sendBribed ∈ lw_all := lw_mem 620 (by decide +kernel) (by decide +kernel)
theorem wK_X6_sendBribed : Cond.code yX6_sendBribed cX6_sendBribed 5 (some .int) ∈ lw_all := lw_mem 621 (by decide +kernel) (by decide +kernel)
theorem wM_L_113 : Cond.methodLink RL 113 yL_sendJoint ∈ lw_all := lw_mem 622 (by decide +kernel) (by decide +kernel)
theorem wT_L_sendJoint : Cond.static yL_sendJoint ∈ lw_all := lw_mem 623 (by decide +kernel) (by decide +kernel)
theorem wK_L_sendJoint : Cond.codeWith yL_sendJoint cL_sendJoint 7 (some .int) [(0, 14, 17, 15), (0, 14, 21, 28)] ∈ lw_all := lw_mem 624 (by decide +kernel) (by decide +kernel)
theorem wM_L_34 : Cond.methodLink RL 34 yX6_sendJoint ∈ lw_all := lw_mem 625 (by decide +kernel) (by decide +kernel)
theorem wN_X6_sendJoint : Cond.instanceMethod yX6_sendJoint ∈ lw_all := lw_mem 626 (by decide +kernel) (by decide +kernel)
theorem wS_X6_X6_sendJoint : Cond.selects RX6 yX6_sendJoint yX6_sendJoint ∈ lw_all := lw_mem 627 (by decide +kernel) (by decide +kernel)
theorem wK_X6_sendJoint : Cond.code yX6_sendJoint cX6_sendJoint 5 (some .int) ∈ lw_all := lw_mem 628 (by decide +kernel) (by decide +kernel)
theorem wM_L_116 : Cond.methodLink RL 116 yL_withdraw ∈ lw_all := lw_mem 630 (by decide +kernel) (by decide +kernel)
theorem wT_L_withdraw : Cond.static yL_withdraw ∈ lw_all := lw_mem 631 (by decide +kernel) (by decide +kernel)
theorem wK_L_withdraw : Cond.codeWith yL_withdraw cL_withdraw 4 (some .int) [(0, 9, 12, 13)] ∈ lw_all := lw_mem 632 (by decide +kernel) (by decide +kernel)
theorem wM_L_37 : Cond.methodLink RL 37 yX6_withdraw ∈ lw_all := lw_mem 633 (by decide +kernel) (by decide +kernel)
theorem wN_X6_withdraw : Cond.instanceMethod yX6_withdraw ∈ lw_all := lw_mem 634 (by decide +kernel) (by decide +kernel)
theorem wS_X6_X6_withdraw : Cond.selects RX6 yX6_withdraw yX6_withdraw ∈ lw_all := lw_mem 635 (by decide +kernel) (by decide +kernel)
theorem wK_X6_withdraw : Cond.code yX6_withdraw cX6_withdraw 3 (some .int) ∈ lw_all := lw_mem 636 (by decide +kernel) (by decide +kernel)
theorem wM_X6_78 : Cond.methodLink RX6 78 yX6_findRow ∈ lw_all := lw_mem 637 (by decide +kernel) (by decide +kernel)
theorem wN_X6_findRow : Cond.instanceMethod yX6_findRow ∈ lw_all := lw_mem 639 (by decide +kernel) (by decide +kernel)
theorem wK_X6_findRow : Cond.code yX6_findRow cX6_findRow 3 (some .int) ∈ lw_all := lw_mem 640 (by decide +kernel) (by decide +kernel)
theorem wM_X6_156 : Cond.methodLink RX6 156 yX2_rowOf ∈ lw_all := lw_mem 641 (by decide +kernel) (by decide +kernel)
theorem wN_X2_rowOf : Cond.instanceMethod yX2_rowOf ∈ lw_all := lw_mem 642 (by decide +kernel) (by decide +kernel)
theorem wS_X2_X2_rowOf : Cond.selects RX2 yX2_rowOf yX2_rowOf ∈ lw_all := lw_mem 643 (by decide +kernel) (by decide +kernel)
theorem wK_X2_rowOf : Cond.code yX2_rowOf cX2_rowOf 3 (some .int) ∈ lw_all := lw_mem 644 (by decide +kernel) (by decide +kernel)
theorem wM_X6_82 : Cond.methodLink RX6 82 yX4_letLeave ∈ lw_all := lw_mem 646 (by decide +kernel) (by decide +kernel)
theorem wM_L_119 : Cond.methodLink RL 119 yL_serve ∈ lw_all := lw_mem 647 (by decide +kernel) (by decide +kernel)
theorem wT_L_serve : Cond.static yL_serve ∈ lw_all := lw_mem 648 (by decide +kernel) (by decide +kernel)
theorem wK_L_serve : Cond.codeWith yL_serve cL_serve 3 (some .int) [(0, 8, 11, 44)] ∈ lw_all := lw_mem 649 (by decide +kernel) (by decide +kernel)
theorem wC_L_44 : Cond.classLink RL 44 "java/util/NoSuchElementException" ∈ lw_all := lw_mem 650 (by decide +kernel) (by decide +kernel)
theorem wM_L_40 : Cond.methodLink RL 40 yX6_serve ∈ lw_all := lw_mem 651 (by decide +kernel) (by decide +kernel)
theorem wN_X6_serve : Cond.instanceMethod yX6_serve ∈ lw_all := lw_mem 652 (by decide +kernel) (by decide +kernel)
theorem wS_X6_X6_serve : Cond.selects RX6 yX6_serve yX6_serve ∈ lw_all := lw_mem 653 (by decide +kernel) (by decide +kernel)
theorem wK_X6_serve : Cond.code yX6_serve cX6_serve 1 (some .int) ∈ lw_all := lw_mem 654 (by decide +kernel) (by decide +kernel)
theorem wC_X6_95 : Cond.classLink RX6 95 "java/util/NoSuchElementException" ∈ lw_all := lw_mem 655 (by decide +kernel) (by decide +kernel)
theorem wZ_NoSuchElementException : Cond.instantiable "java/util/NoSuchElementException" 6 ∈ lw_all := lw_mem 656 (by decide +kernel) (by decide +kernel)
theorem wS_NoSuchElementException_Throwable_fillInStackTrace__I_Ljava_lang_Throwable_ : Cond.selects "java/util/NoSuchElementException" ⟨"java/lang/Throwable", "fillInStackTrace", "(I)Ljava/lang/Throwable;"⟩ ⟨"java/lang/Throwable", "fillInStackTrace", "(I)Ljava/lang/Throwable;"⟩ ∈ lw_all := lw_mem 658 (by decide +kernel) (by decide +kernel)
theorem wM_X6_99 : Cond.methodLink RX6 99 ⟨"java/util/NoSuchElementException", "<init>", "(Ljava/lang/String;)V"⟩ ∈ lw_all := lw_mem 665 (by decide +kernel) (by decide +kernel)
theorem wN_NoSuchElementException_init__Ljava_lang_String__V : Cond.instanceMethod ⟨"java/util/NoSuchElementException", "<init>", "(Ljava/lang/String;)V"⟩ ∈ lw_all := lw_mem 666 (by decide +kernel) (by decide +kernel)
theorem wK_NoSuchElementException_init__Ljava_lang_String__V : Cond.code ⟨"java/util/NoSuchElementException", "<init>", "(Ljava/lang/String;)V"⟩ prog_20_method_4_code 2 none ∈ lw_all := lw_mem 667 (by decide +kernel) (by decide +kernel)
theorem wM_NoSuchElementException_13 : Cond.methodLink "java/util/NoSuchElementException" 13 ⟨"java/lang/RuntimeException", "<init>", "(Ljava/lang/String;)V"⟩ ∈ lw_all := lw_mem 668 (by decide +kernel) (by decide +kernel)
theorem wM_L_123 : Cond.methodLink RL 123 yL_pass ∈ lw_all := lw_mem 671 (by decide +kernel) (by decide +kernel)
theorem wT_L_pass : Cond.static yL_pass ∈ lw_all := lw_mem 672 (by decide +kernel) (by decide +kernel)
theorem wK_L_pass : Cond.codeWith yL_pass cL_pass 4 (some .int) [(0, 9, 12, 15), (0, 9, 15, 28)] ∈ lw_all := lw_mem 673 (by decide +kernel) (by decide +kernel)
theorem wM_L_46 : Cond.methodLink RL 46 yX6_pass ∈ lw_all := lw_mem 674 (by decide +kernel) (by decide +kernel)
theorem wN_X6_pass : Cond.instanceMethod yX6_pass ∈ lw_all := lw_mem 675 (by decide +kernel) (by decide +kernel)
theorem wS_X6_X6_pass : Cond.selects RX6 yX6_pass yX6_pass ∈ lw_all := lw_mem 676 (by decide +kernel) (by decide +kernel)
theorem wK_X6_pass : Cond.code yX6_pass cX6_pass 2 (some .int) ∈ lw_all := lw_mem 677 (by decide +kernel) (by decide +kernel)
theorem wM_L_126 : Cond.methodLink RL 126 yL_petition ∈ lw_all := lw_mem 679 (by decide +kernel) (by decide +kernel)
theorem wT_L_petition : Cond.static yL_petition ∈ lw_all := lw_mem 680 (by decide +kernel) (by decide +kernel)
theorem wK_L_petition : Cond.codeWith yL_petition cL_petition 5 (some .int) [(0, 10, 13, 13), (0, 10, 17, 15)] ∈ lw_all := lw_mem 681 (by decide +kernel) (by decide +kernel)
theorem wM_L_49 : Cond.methodLink RL 49 yX6_petition ∈ lw_all := lw_mem 682 (by decide +kernel) (by decide +kernel)
theorem wN_X6_petition : Cond.instanceMethod yX6_petition ∈ lw_all := lw_mem 683 (by decide +kernel) (by decide +kernel)
theorem wS_X6_X6_petition : Cond.selects RX6 yX6_petition yX6_petition ∈ lw_all := lw_mem 684 (by decide +kernel) (by decide +kernel)
theorem wK_X6_petition : Cond.code yX6_petition cX6_petition 4 (some .int) ∈ lw_all := lw_mem 685 (by decide +kernel) (by decide +kernel)
theorem wM_L_129 : Cond.methodLink RL 129 yL_peek ∈ lw_all := lw_mem 686 (by decide +kernel) (by decide +kernel)
theorem wT_L_peek : Cond.static yL_peek ∈ lw_all := lw_mem 687 (by decide +kernel) (by decide +kernel)
theorem wK_L_peek : Cond.codeWith yL_peek cL_peek 4 (some .int) [(0, 9, 12, 13)] ∈ lw_all := lw_mem 688 (by decide +kernel) (by decide +kernel)
theorem wM_L_52 : Cond.methodLink RL 52 yX6_peek ∈ lw_all := lw_mem 689 (by decide +kernel) (by decide +kernel)
theorem wN_X6_peek : Cond.instanceMethod yX6_peek ∈ lw_all := lw_mem 690 (by decide +kernel) (by decide +kernel)
theorem wS_X6_X6_peek : Cond.selects RX6 yX6_peek yX6_peek ∈ lw_all := lw_mem 691 (by decide +kernel) (by decide +kernel)
theorem wK_X6_peek : Cond.code yX6_peek cX6_peek 2 (some .int) ∈ lw_all := lw_mem 692 (by decide +kernel) (by decide +kernel)
theorem wM_L_132 : Cond.methodLink RL 132 yL_sentBy ∈ lw_all := lw_mem 694 (by decide +kernel) (by decide +kernel)
theorem wT_L_sentBy : Cond.static yL_sentBy ∈ lw_all := lw_mem 695 (by decide +kernel) (by decide +kernel)
theorem wK_L_sentBy : Cond.codeWith yL_sentBy cL_sentBy 4 (some .int) [(0, 9, 12, 15)] ∈ lw_all := lw_mem 696 (by decide +kernel) (by decide +kernel)
theorem wM_L_55 : Cond.methodLink RL 55 yX6_sentBy ∈ lw_all := lw_mem 697 (by decide +kernel) (by decide +kernel)
theorem wN_X6_sentBy : Cond.instanceMethod yX6_sentBy ∈ lw_all := lw_mem 698 (by decide +kernel) (by decide +kernel)
theorem wS_X6_X6_sentBy : Cond.selects RX6 yX6_sentBy yX6_sentBy ∈ lw_all := lw_mem 699 (by decide +kernel) (by decide +kernel)
theorem wK_X6_sentBy : Cond.code yX6_sentBy cX6_sentBy 2 (some .int) ∈ lw_all := lw_mem 700 (by decide +kernel) (by decide +kernel)
theorem wM_X6_128 : Cond.methodLink RX6 128 yX2_countOfSender ∈ lw_all := lw_mem 701 (by decide +kernel) (by decide +kernel)
theorem wM_L_135 : Cond.methodLink RL 135 yL_returned ∈ lw_all := lw_mem 702 (by decide +kernel) (by decide +kernel)
theorem wT_L_returned : Cond.static yL_returned ∈ lw_all := lw_mem 703 (by decide +kernel) (by decide +kernel)
theorem wK_L_returned : Cond.codeWith yL_returned cL_returned 4 (some .int) [(0, 9, 12, 15)] ∈ lw_all := lw_mem 704 (by decide +kernel) (by decide +kernel)
theorem wM_L_58 : Cond.methodLink RL 58 yX6_returned ∈ lw_all := lw_mem 705 (by decide +kernel) (by decide +kernel)
theorem wN_X6_returned : Cond.instanceMethod yX6_returned ∈ lw_all := lw_mem 706 (by decide +kernel) (by decide +kernel)
theorem wS_X6_X6_returned : Cond.selects RX6 yX6_returned yX6_returned ∈ lw_all := lw_mem 707 (by decide +kernel) (by decide +kernel)
theorem wK_X6_returned : Cond.code yX6_returned cX6_returned 2 (some .int) ∈ lw_all := lw_mem 708 (by decide +kernel) (by decide +kernel)
theorem wM_L_138 : Cond.methodLink RL 138 yL_entry ∈ lw_all := lw_mem 709 (by decide +kernel) (by decide +kernel)
theorem wT_L_entry : Cond.static yL_entry ∈ lw_all := lw_mem 710 (by decide +kernel) (by decide +kernel)
theorem wK_L_entry : Cond.codeWith yL_entry cL_entry 5 (some .int) [(0, 10, 13, 13), (0, 10, 17, 15)] ∈ lw_all := lw_mem 711 (by decide +kernel) (by decide +kernel)
theorem wM_L_61 : Cond.methodLink RL 61 yX6_entry ∈ lw_all := lw_mem 712 (by decide +kernel) (by decide +kernel)
theorem wN_X6_entry : Cond.instanceMethod yX6_entry ∈ lw_all := lw_mem 713 (by decide +kernel) (by decide +kernel)
theorem wS_X6_X6_entry : Cond.selects RX6 yX6_entry yX6_entry ∈ lw_all := lw_mem 714 (by decide +kernel) (by decide +kernel)
theorem wK_X6_entry : Cond.code yX6_entry cX6_entry 3 (some .int) ∈ lw_all := lw_mem 715 (by decide +kernel) (by decide +kernel)
theorem wM_L_141 : Cond.methodLink RL 141 yL_value ∈ lw_all := lw_mem 717 (by decide +kernel) (by decide +kernel)
theorem wT_L_value : Cond.static yL_value ∈ lw_all := lw_mem 718 (by decide +kernel) (by decide +kernel)
theorem wK_L_value : Cond.codeWith yL_value cL_value 4 (some .int) [(0, 9, 12, 15)] ∈ lw_all := lw_mem 719 (by decide +kernel) (by decide +kernel)
theorem wM_L_64 : Cond.methodLink RL 64 yX6_value ∈ lw_all := lw_mem 720 (by decide +kernel) (by decide +kernel)
theorem wN_X6_value : Cond.instanceMethod yX6_value ∈ lw_all := lw_mem 721 (by decide +kernel) (by decide +kernel)
theorem wS_X6_X6_value : Cond.selects RX6 yX6_value yX6_value ∈ lw_all := lw_mem 722 (by decide +kernel) (by decide +kernel)
theorem wK_X6_value : Cond.code yX6_value cX6_value 2 (some .int) ∈ lw_all := lw_mem 723 (by decide +kernel) (by decide +kernel)
theorem wM_L_144 : Cond.methodLink RL 144 yL_ofRank ∈ lw_all := lw_mem 724 (by decide +kernel) (by decide +kernel)
theorem wT_L_ofRank : Cond.static yL_ofRank ∈ lw_all := lw_mem 725 (by decide +kernel) (by decide +kernel)
theorem wK_L_ofRank : Cond.codeWith yL_ofRank cL_ofRank 4 (some .int) [(0, 9, 12, 15)] ∈ lw_all := lw_mem 726 (by decide +kernel) (by decide +kernel)
theorem wM_L_67 : Cond.methodLink RL 67 yX6_ofRank ∈ lw_all := lw_mem 727 (by decide +kernel) (by decide +kernel)
theorem wN_X6_ofRank : Cond.instanceMethod yX6_ofRank ∈ lw_all := lw_mem 728 (by decide +kernel) (by decide +kernel)
theorem wS_X6_X6_ofRank : Cond.selects RX6 yX6_ofRank yX6_ofRank ∈ lw_all := lw_mem 729 (by decide +kernel) (by decide +kernel)
theorem wK_X6_ofRank : Cond.code yX6_ofRank cX6_ofRank 2 (some .int) ∈ lw_all := lw_mem 730 (by decide +kernel) (by decide +kernel)
theorem wM_X6_147 : Cond.methodLink RX6 147 yX2_countOfRank ∈ lw_all := lw_mem 731 (by decide +kernel) (by decide +kernel)
theorem wN_X2_countOfRank : Cond.instanceMethod yX2_countOfRank ∈ lw_all := lw_mem 732 (by decide +kernel) (by decide +kernel)
theorem wS_X2_X2_countOfRank : Cond.selects RX2 yX2_countOfRank yX2_countOfRank ∈ lw_all := lw_mem 733 (by decide +kernel) (by decide +kernel)
theorem wK_X2_countOfRank : Cond.code yX2_countOfRank cX2_countOfRank 4 (some .int) ∈ lw_all := lw_mem 734 (by decide +kernel) (by decide +kernel)
theorem wM_L_147 : Cond.methodLink RL 147 yL_rankIn ∈ lw_all := lw_mem 735 (by decide +kernel) (by decide +kernel)
theorem wT_L_rankIn : Cond.static yL_rankIn ∈ lw_all := lw_mem 736 (by decide +kernel) (by decide +kernel)
theorem wK_L_rankIn : Cond.codeWith yL_rankIn cL_rankIn 5 (some .int) [(0, 10, 13, 13), (0, 10, 17, 15)] ∈ lw_all := lw_mem 737 (by decide +kernel) (by decide +kernel)
theorem wM_L_70 : Cond.methodLink RL 70 yX6_rankIn ∈ lw_all := lw_mem 738 (by decide +kernel) (by decide +kernel)
theorem wN_X6_rankIn : Cond.instanceMethod yX6_rankIn ∈ lw_all := lw_mem 739 (by decide +kernel) (by decide +kernel)
theorem wS_X6_X6_rankIn : Cond.selects RX6 yX6_rankIn yX6_rankIn ∈ lw_all := lw_mem 740 (by decide +kernel) (by decide +kernel)
theorem wK_X6_rankIn : Cond.code yX6_rankIn cX6_rankIn 5 (some .int) ∈ lw_all := lw_mem 741 (by decide +kernel) (by decide +kernel)
theorem wM_X6_150 : Cond.methodLink RX6 150 yX4_copyFrom ∈ lw_all := lw_mem 742 (by decide +kernel) (by decide +kernel)
theorem wM_X6_153 : Cond.methodLink RX6 153 yX4_growOlder ∈ lw_all := lw_mem 743 (by decide +kernel) (by decide +kernel)
theorem wM_L_154 : Cond.methodLink RL 154 yL_servedIn ∈ lw_all := lw_mem 744 (by decide +kernel) (by decide +kernel)
theorem wT_L_servedIn : Cond.static yL_servedIn ∈ lw_all := lw_mem 745 (by decide +kernel) (by decide +kernel)
theorem wK_L_servedIn : Cond.codeWith yL_servedIn cL_servedIn 4 (some .int) [(0, 9, 12, 13)] ∈ lw_all := lw_mem 746 (by decide +kernel) (by decide +kernel)
theorem wM_L_73 : Cond.methodLink RL 73 yX6_servedIn ∈ lw_all := lw_mem 747 (by decide +kernel) (by decide +kernel)
theorem wN_X6_servedIn : Cond.instanceMethod yX6_servedIn ∈ lw_all := lw_mem 748 (by decide +kernel) (by decide +kernel)
theorem wS_X6_X6_servedIn : Cond.selects RX6 yX6_servedIn yX6_servedIn ∈ lw_all := lw_mem 749 (by decide +kernel) (by decide +kernel)
theorem wK_X6_servedIn : Cond.code yX6_servedIn cX6_servedIn 3 (some .int) ∈ lw_all := lw_mem 750 (by decide +kernel) (by decide +kernel)
theorem wM_L_157 : Cond.methodLink RL 157 yL_bribeToLead ∈ lw_all := lw_mem 751 (by decide +kernel) (by decide +kernel)
theorem wT_L_bribeToLead : Cond.static yL_bribeToLead ∈ lw_all := lw_mem 752 (by decide +kernel) (by decide +kernel)
theorem wK_L_bribeToLead : Cond.codeWith yL_bribeToLead cL_bribeToLead 4 (some .int) [(0, 9, 12, 15)] ∈ lw_all := lw_mem 753 (by decide +kernel) (by decide +kernel)
theorem wM_L_76 : Cond.methodLink RL 76 yX6_bribeToLead ∈ lw_all := lw_mem 754 (by decide +kernel) (by decide +kernel)
theorem wN_X6_bribeToLead : Cond.instanceMethod yX6_bribeToLead ∈ lw_all := lw_mem 755 (by decide +kernel) (by decide +kernel)
theorem wS_X6_X6_bribeToLead : Cond.selects RX6 yX6_bribeToLead yX6_bribeToLead ∈ lw_all := lw_mem 756 (by decide +kernel) (by decide +kernel)
theorem wK_X6_bribeToLead : Cond.code yX6_bribeToLead cX6_bribeToLead 3 (some .int) ∈ lw_all := lw_mem 757 (by decide +kernel) (by decide +kernel)
theorem wM_X6_159 : Cond.methodLink RX6 159 yX2_loudestRank ∈ lw_all := lw_mem 758 (by decide +kernel) (by decide +kernel)
theorem wM_L_165 : Cond.methodLink RL 165 yL_append ∈ lw_all := lw_mem 759 (by decide +kernel) (by decide +kernel)
theorem wT_L_append : Cond.static yL_append ∈ lw_all := lw_mem 760 (by decide +kernel) (by decide +kernel)
theorem wK_L_append : Cond.codeWith yL_append cL_append 4 (some .int) [(0, 9, 12, 15), (0, 9, 15, 28)] ∈ lw_all := lw_mem 761 (by decide +kernel) (by decide +kernel)
theorem wM_L_79 : Cond.methodLink RL 79 yX6_append ∈ lw_all := lw_mem 762 (by decide +kernel) (by decide +kernel)
theorem wN_X6_append : Cond.instanceMethod yX6_append ∈ lw_all := lw_mem 763 (by decide +kernel) (by decide +kernel)
theorem wS_X6_X6_append : Cond.selects RX6 yX6_append yX6_append ∈ lw_all := lw_mem 764 (by decide +kernel) (by decide +kernel)
theorem wK_X6_append : Cond.code yX6_append cX6_append 2 (some .int) ∈ lw_all := lw_mem 765 (by decide +kernel) (by decide +kernel)
theorem wM_X6_172 : Cond.methodLink RX6 172 yX5_add ∈ lw_all := lw_mem 766 (by decide +kernel) (by decide +kernel)
theorem wN_X5_add : Cond.instanceMethod yX5_add ∈ lw_all := lw_mem 767 (by decide +kernel) (by decide +kernel)
theorem wS_X5_X5_add : Cond.selects RX5 yX5_add yX5_add ∈ lw_all := lw_mem 768 (by decide +kernel) (by decide +kernel)
theorem wK_X5_add : Cond.code yX5_add cX5_add 2 (some .boolean) ∈ lw_all := lw_mem 769 (by decide +kernel) (by decide +kernel)
theorem wM_L_176 : Cond.methodLink RL 176 yL_undo ∈ lw_all := lw_mem 771 (by decide +kernel) (by decide +kernel)
theorem wT_L_undo : Cond.static yL_undo ∈ lw_all := lw_mem 772 (by decide +kernel) (by decide +kernel)
theorem wK_L_undo : Cond.codeWith yL_undo cL_undo 3 (some .int) [(0, 8, 11, 28)] ∈ lw_all := lw_mem 773 (by decide +kernel) (by decide +kernel)
theorem wM_L_82 : Cond.methodLink RL 82 yX6_undo ∈ lw_all := lw_mem 774 (by decide +kernel) (by decide +kernel)
theorem wN_X6_undo : Cond.instanceMethod yX6_undo ∈ lw_all := lw_mem 775 (by decide +kernel) (by decide +kernel)
theorem wS_X6_X6_undo : Cond.selects RX6 yX6_undo yX6_undo ∈ lw_all := lw_mem 776 (by decide +kernel) (by decide +kernel)
theorem wK_X6_undo : Cond.code yX6_undo cX6_undo 1 (some .int) ∈ lw_all := lw_mem 777 (by decide +kernel) (by decide +kernel)
theorem wM_X6_200 : Cond.methodLink RX6 200 yX3_takeLatest ∈ lw_all := lw_mem 779 (by decide +kernel) (by decide +kernel)
theorem wN_X3_takeLatest : Cond.instanceMethod yX3_takeLatest ∈ lw_all := lw_mem 780 (by decide +kernel) (by decide +kernel)
theorem wS_X3_X3_takeLatest : Cond.selects RX3 yX3_takeLatest yX3_takeLatest ∈ lw_all := lw_mem 781 (by decide +kernel) (by decide +kernel)
theorem wK_X3_takeLatest : Cond.code yX3_takeLatest cX3_takeLatest 3 none ∈ lw_all := lw_mem 782 (by decide +kernel) (by decide +kernel)
theorem wC_L_86 : Cond.classLink RL 86 RX7 ∈ lw_all := lw_mem 783 (by decide +kernel) (by decide +kernel)
theorem wZ_X7 : Cond.instantiable RX7 10 ∈ lw_all := lw_mem 784 (by decide +kernel) (by decide +kernel)
theorem wM_L_88 : Cond.methodLink RL 88 yX7_init ∈ lw_all := lw_mem 785 (by decide +kernel) (by decide +kernel)
theorem wN_X7_init : Cond.instanceMethod yX7_init ∈ lw_all := lw_mem 786 (by decide +kernel) (by decide +kernel)
theorem wK_X7_init : Cond.code yX7_init cX7_init 1 none ∈ lw_all := lw_mem 787 (by decide +kernel) (by decide +kernel)
theorem wM_X7_1 : Cond.methodLink RX7 1 ⟨"java/lang/Object", "<init>", "()V"⟩ ∈ lw_all := lw_mem 788 (by decide +kernel) (by decide +kernel)
theorem wF_X7_7 : Cond.fieldLink RX7 7 "PetitionBoxModel" "s" "[I" ∈ lw_all := lw_mem 789 (by decide +kernel) (by decide +kernel)
theorem wF_X7_13 : Cond.fieldLink RX7 13 "PetitionBoxModel" "past" "[I" ∈ lw_all := lw_mem 790 (by decide +kernel) (by decide +kernel)
theorem wF_X7_16 : Cond.fieldLink RX7 16 "PetitionBoxModel" "aside" "[I" ∈ lw_all := lw_mem 791 (by decide +kernel) (by decide +kernel)
theorem wF_X7_29 : Cond.fieldLink RX7 29 "PetitionBoxModel" "kept" "I" ∈ lw_all := lw_mem 792 (by decide +kernel) (by decide +kernel)
theorem wF_X7_25 : Cond.fieldLink RX7 25 "PetitionBoxModel" "thrown" "I" ∈ lw_all := lw_mem 793 (by decide +kernel) (by decide +kernel)
theorem wF_X7_19 : Cond.fieldLink RX7 19 "PetitionBoxModel" "text" "[I" ∈ lw_all := lw_mem 794 (by decide +kernel) (by decide +kernel)
theorem wF_X7_128 : Cond.fieldLink RX7 128 "PetitionBoxModel" "typed" "I" ∈ lw_all := lw_mem 795 (by decide +kernel) (by decide +kernel)
theorem wF_X7_131 : Cond.fieldLink RX7 131 "PetitionBoxModel" "at" "I" ∈ lw_all := lw_mem 796 (by decide +kernel) (by decide +kernel)
theorem wF_X7_22 : Cond.fieldLink RX7 22 "PetitionBoxModel" "number" "[I" ∈ lw_all := lw_mem 797 (by decide +kernel) (by decide +kernel)
theorem wF_X7_155 : Cond.fieldLink RX7 155 "PetitionBoxModel" "h" "J" ∈ lw_all := lw_mem 798 (by decide +kernel) (by decide +kernel)
theorem wM_L_95 : Cond.methodLink RL 95 yX7_thrown ∈ lw_all := lw_mem 820 (by decide +kernel) (by decide +kernel)
theorem wN_X7_thrown : Cond.instanceMethod yX7_thrown ∈ lw_all := lw_mem 821 (by decide +kernel) (by decide +kernel)
theorem wS_X7_X7_thrown : Cond.selects RX7 yX7_thrown yX7_thrown ∈ lw_all := lw_mem 822 (by decide +kernel) (by decide +kernel)
theorem wK_X7_thrown : Cond.code yX7_thrown cX7_thrown 1 (some .int) ∈ lw_all := lw_mem 823 (by decide +kernel) (by decide +kernel)
theorem wM_L_94 : Cond.methodLink RL 94 yX7_setPatience ∈ lw_all := lw_mem 824 (by decide +kernel) (by decide +kernel)
theorem wN_X7_setPatience : Cond.instanceMethod yX7_setPatience ∈ lw_all := lw_mem 825 (by decide +kernel) (by decide +kernel)
theorem wS_X7_X7_setPatience : Cond.selects RX7 yX7_setPatience yX7_setPatience ∈ lw_all := lw_mem 826 (by decide +kernel) (by decide +kernel)
theorem wK_X7_setPatience : Cond.code yX7_setPatience cX7_setPatience 3 (some .int) ∈ lw_all := lw_mem 827 (by decide +kernel) (by decide +kernel)
theorem wM_X7_73 : Cond.methodLink RX7 73 yX7_in ∈ lw_all := lw_mem 828 (by decide +kernel) (by decide +kernel)
theorem wT_X7_in : Cond.static yX7_in ∈ lw_all := lw_mem 829 (by decide +kernel) (by decide +kernel)
theorem wK_X7_in : Cond.code yX7_in cX7_in 3 (some .boolean) ∈ lw_all := lw_mem 830 (by decide +kernel) (by decide +kernel)
theorem wM_X7_77 : Cond.methodLink RX7 77 yX7_fails ∈ lw_all := lw_mem 831 (by decide +kernel) (by decide +kernel)
theorem wN_X7_fails : Cond.instanceMethod yX7_fails ∈ lw_all := lw_mem 833 (by decide +kernel) (by decide +kernel)
theorem wK_X7_fails : Cond.code yX7_fails cX7_fails 2 (some .int) ∈ lw_all := lw_mem 834 (by decide +kernel) (by decide +kernel)
theorem wM_X7_80 : Cond.methodLink RX7 80 yX7_sets ∈ lw_all := lw_mem 835 (by decide +kernel) (by decide +kernel)
theorem wN_X7_sets : Cond.instanceMethod yX7_sets ∈ lw_all := lw_mem 837 (by decide +kernel) (by decide +kernel)
theorem wK_X7_sets : Cond.code yX7_sets cX7_sets 4 (some .int) ∈ lw_all := lw_mem 838 (by decide +kernel) (by decide +kernel)
theorem wM_X7_67 : Cond.methodLink RX7 67 yX7_keeps ∈ lw_all := lw_mem 839 (by decide +kernel) (by decide +kernel)
theorem wN_X7_keeps : Cond.instanceMethod yX7_keeps ∈ lw_all := lw_mem 841 (by decide +kernel) (by decide +kernel)
theorem wK_X7_keeps : Cond.code yX7_keeps cX7_keeps 2 none ∈ lw_all := lw_mem 842 (by decide +kernel) (by decide +kernel)
theorem wM_X7_70 : Cond.methodLink RX7 70 yX7_tells ∈ lw_all := lw_mem 843 (by decide +kernel) (by decide +kernel)
theorem wN_X7_tells : Cond.instanceMethod yX7_tells ∈ lw_all := lw_mem 845 (by decide +kernel) (by decide +kernel)
theorem wK_X7_tells : Cond.code yX7_tells cX7_tells 2 (some .int) ∈ lw_all := lw_mem 846 (by decide +kernel) (by decide +kernel)
theorem wM_L_101 : Cond.methodLink RL 101 yX7_setQuota ∈ lw_all := lw_mem 847 (by decide +kernel) (by decide +kernel)
theorem wN_X7_setQuota : Cond.instanceMethod yX7_setQuota ∈ lw_all := lw_mem 848 (by decide +kernel) (by decide +kernel)
theorem wS_X7_X7_setQuota : Cond.selects RX7 yX7_setQuota yX7_setQuota ∈ lw_all := lw_mem 849 (by decide +kernel) (by decide +kernel)
theorem wK_X7_setQuota : Cond.code yX7_setQuota cX7_setQuota 2 (some .int) ∈ lw_all := lw_mem 850 (by decide +kernel) (by decide +kernel)
theorem wM_L_104 : Cond.methodLink RL 104 yX7_setGrace ∈ lw_all := lw_mem 851 (by decide +kernel) (by decide +kernel)
theorem wN_X7_setGrace : Cond.instanceMethod yX7_setGrace ∈ lw_all := lw_mem 852 (by decide +kernel) (by decide +kernel)
theorem wS_X7_X7_setGrace : Cond.selects RX7 yX7_setGrace yX7_setGrace ∈ lw_all := lw_mem 853 (by decide +kernel) (by decide +kernel)
theorem wK_X7_setGrace : Cond.code yX7_setGrace cX7_setGrace 2 (some .int) ∈ lw_all := lw_mem 854 (by decide +kernel) (by decide +kernel)
theorem wM_L_108 : Cond.methodLink RL 108 yX7_send ∈ lw_all := lw_mem 855 (by decide +kernel) (by decide +kernel)
theorem wN_X7_send : Cond.instanceMethod yX7_send ∈ lw_all := lw_mem 856 (by decide +kernel) (by decide +kernel)
theorem wS_X7_X7_send : Cond.selects RX7 yX7_send yX7_send ∈ lw_all := lw_mem 857 (by decide +kernel) (by decide +kernel)
theorem wK_X7_send : Cond.code yX7_send cX7_send 4 (some .int) ∈ lw_all := lw_mem 858 (by decide +kernel) (by decide +kernel)
theorem wM_X7_94 : Cond.methodLink RX7 94 yX7_isPetition ∈ lw_all := lw_mem 859 (by decide +kernel) (by decide +kernel)
theorem wT_X7_isPetition : Cond.static yX7_isPetition ∈ lw_all := lw_mem 860 (by decide +kernel) (by decide +kernel)
theorem wK_X7_isPetition : Cond.code yX7_isPetition cX7_isPetition 3 (some .boolean) ∈ lw_all := lw_mem 861 (by decide +kernel) (by decide +kernel)
theorem wM_X7_83 : Cond.methodLink RX7 83 yX7_isSender ∈ lw_all := lw_mem 862 (by decide +kernel) (by decide +kernel)
theorem wT_X7_isSender : Cond.static yX7_isSender ∈ lw_all := lw_mem 863 (by decide +kernel) (by decide +kernel)
theorem wK_X7_isSender : Cond.code yX7_isSender cX7_isSender 1 (some .boolean) ∈ lw_all := lw_mem 864 (by decide +kernel) (by decide +kernel)
theorem wM_X7_97 : Cond.methodLink RX7 97 yX7_puts ∈ lw_all := lw_mem 865 (by decide +kernel) (by decide +kernel)
theorem wN_X7_puts : Cond.instanceMethod yX7_puts ∈ lw_all := lw_mem 867 (by decide +kernel) (by decide +kernel)
theorem wK_X7_puts : Cond.code yX7_puts cX7_puts 6 (some .int) ∈ lw_all := lw_mem 868 (by decide +kernel) (by decide +kernel)
theorem wM_X7_87 : Cond.methodLink RX7 87 yX7_isRoom ∈ lw_all := lw_mem 869 (by decide +kernel) (by decide +kernel)
theorem wN_X7_isRoom : Cond.instanceMethod yX7_isRoom ∈ lw_all := lw_mem 871 (by decide +kernel) (by decide +kernel)
theorem wK_X7_isRoom : Cond.code yX7_isRoom cX7_isRoom 3 (some .boolean) ∈ lw_all := lw_mem 872 (by decide +kernel) (by decide +kernel)
theorem wM_X7_44 : Cond.methodLink RX7 44 yX7_sentOf ∈ lw_all := lw_mem 873 (by decide +kernel) (by decide +kernel)
theorem wN_X7_sentOf : Cond.instanceMethod yX7_sentOf ∈ lw_all := lw_mem 875 (by decide +kernel) (by decide +kernel)
theorem wK_X7_sentOf : Cond.code yX7_sentOf cX7_sentOf 4 (some .int) ∈ lw_all := lw_mem 876 (by decide +kernel) (by decide +kernel)
theorem wM_X7_32 : Cond.methodLink RX7 32 yX7_of ∈ lw_all := lw_mem 877 (by decide +kernel) (by decide +kernel)
theorem wN_X7_of : Cond.instanceMethod yX7_of ∈ lw_all := lw_mem 879 (by decide +kernel) (by decide +kernel)
theorem wK_X7_of : Cond.code yX7_of cX7_of 3 (some .int) ∈ lw_all := lw_mem 880 (by decide +kernel) (by decide +kernel)
theorem wM_X7_90 : Cond.methodLink RX7 90 yX7_comes ∈ lw_all := lw_mem 881 (by decide +kernel) (by decide +kernel)
theorem wN_X7_comes : Cond.instanceMethod yX7_comes ∈ lw_all := lw_mem 883 (by decide +kernel) (by decide +kernel)
theorem wK_X7_comes : Cond.code yX7_comes cX7_comes 7 (some .int) ∈ lw_all := lw_mem 884 (by decide +kernel) (by decide +kernel)
theorem wM_X7_47 : Cond.methodLink RX7 47 yX7_put ∈ lw_all := lw_mem 885 (by decide +kernel) (by decide +kernel)
theorem wN_X7_put : Cond.instanceMethod yX7_put ∈ lw_all := lw_mem 887 (by decide +kernel) (by decide +kernel)
theorem wK_X7_put : Cond.code yX7_put cX7_put 4 none ∈ lw_all := lw_mem 888 (by decide +kernel) (by decide +kernel)
theorem wM_X7_51 : Cond.methodLink RX7 51 yX7_louder ∈ lw_all := lw_mem 889 (by decide +kernel) (by decide +kernel)
theorem wT_X7_louder : Cond.static yX7_louder ∈ lw_all := lw_mem 890 (by decide +kernel) (by decide +kernel)
theorem wK_X7_louder : Cond.code yX7_louder cX7_louder 3 (some .int) ∈ lw_all := lw_mem 891 (by decide +kernel) (by decide +kernel)
theorem wM_L_112 : Cond.methodLink RL 112 yX7_sendBribed ∈ lw_all := lw_mem 892 (by decide +kernel) (by decide +kernel)
theorem wN_X7_sendBribed : Cond.instanceMethod yX7_sendBribed ∈ lw_all := lw_mem 893 (by decide +kernel) (by decide +kernel)
theorem wS_X7_X7_sendBribed : Cond.selects RX7 yX7_sendBribed yX7_sendBribed ∈ lw_all := lw_mem 894 (by decide +kernel) (by decide +kernel)
theorem wK_X7_sendBribed : Cond.code yX7_sendBribed cX7_sendBribed 5 (some .int) ∈ lw_all := lw_mem 895 (by decide +kernel) (by decide +kernel)
theorem wM_L_115 : Cond.methodLink RL 115 yX7_sendJoint ∈ lw_all := lw_mem 896 (by decide +kernel) (by decide +kernel)
theorem wN_X7_sendJoint : Cond.instanceMethod yX7_sendJoint ∈ lw_all := lw_mem 897 (by decide +kernel) (by decide +kernel)
theorem wS_X7_X7_sendJoint : Cond.selects RX7 yX7_sendJoint yX7_sendJoint ∈ lw_all := lw_mem 898 (by decide +kernel) (by decide +kernel)
theorem wK_X7_sendJoint : Cond.code yX7_sendJoint cX7_sendJoint 5 (some .int) ∈ lw_all := lw_mem 899 (by decide +kernel) (by decide +kernel)
theorem wM_L_118 : Cond.methodLink RL 118 yX7_withdraw ∈ lw_all := lw_mem 900 (by decide +kernel) (by decide +kernel)
theorem wN_X7_withdraw : Cond.instanceMethod yX7_withdraw ∈ lw_all := lw_mem 901 (by decide +kernel) (by decide +kernel)
theorem wS_X7_X7_withdraw : Cond.selects RX7 yX7_withdraw yX7_withdraw ∈ lw_all := lw_mem 902 (by decide +kernel) (by decide +kernel)
theorem wK_X7_withdraw : Cond.code yX7_withdraw cX7_withdraw 3 (some .int) ∈ lw_all := lw_mem 903 (by decide +kernel) (by decide +kernel)
theorem wM_X7_100 : Cond.methodLink RX7 100 yX7_find ∈ lw_all := lw_mem 904 (by decide +kernel) (by decide +kernel)
theorem wN_X7_find : Cond.instanceMethod yX7_find ∈ lw_all := lw_mem 906 (by decide +kernel) (by decide +kernel)
theorem wK_X7_find : Cond.code yX7_find cX7_find 4 (some .int) ∈ lw_all := lw_mem 907 (by decide +kernel) (by decide +kernel)
theorem wM_X7_60 : Cond.methodLink RX7 60 yX7_leaves ∈ lw_all := lw_mem 908 (by decide +kernel) (by decide +kernel)
theorem wN_X7_leaves : Cond.instanceMethod yX7_leaves ∈ lw_all := lw_mem 910 (by decide +kernel) (by decide +kernel)
theorem wK_X7_leaves : Cond.code yX7_leaves cX7_leaves 5 (some .int) ∈ lw_all := lw_mem 911 (by decide +kernel) (by decide +kernel)
theorem wM_X7_54 : Cond.methodLink RX7 54 yX7_backOf ∈ lw_all := lw_mem 912 (by decide +kernel) (by decide +kernel)
theorem wN_X7_backOf : Cond.instanceMethod yX7_backOf ∈ lw_all := lw_mem 914 (by decide +kernel) (by decide +kernel)
theorem wK_X7_backOf : Cond.code yX7_backOf cX7_backOf 4 (some .int) ∈ lw_all := lw_mem 915 (by decide +kernel) (by decide +kernel)
theorem wM_L_122 : Cond.methodLink RL 122 yX7_serve ∈ lw_all := lw_mem 916 (by decide +kernel) (by decide +kernel)
theorem wN_X7_serve : Cond.instanceMethod yX7_serve ∈ lw_all := lw_mem 917 (by decide +kernel) (by decide +kernel)
theorem wS_X7_X7_serve : Cond.selects RX7 yX7_serve yX7_serve ∈ lw_all := lw_mem 918 (by decide +kernel) (by decide +kernel)
theorem wK_X7_serve : Cond.code yX7_serve cX7_serve 1 (some .int) ∈ lw_all := lw_mem 919 (by decide +kernel) (by decide +kernel)
theorem wM_X7_103 : Cond.methodLink RX7 103 yX7_servesFirst ∈ lw_all := lw_mem 920 (by decide +kernel) (by decide +kernel)
theorem wN_X7_servesFirst : Cond.instanceMethod yX7_servesFirst ∈ lw_all := lw_mem 922 (by decide +kernel) (by decide +kernel)
theorem wK_X7_servesFirst : Cond.code yX7_servesFirst cX7_servesFirst 3 (some .int) ∈ lw_all := lw_mem 923 (by decide +kernel) (by decide +kernel)
theorem wM_X7_57 : Cond.methodLink RX7 57 yX7_atPlace ∈ lw_all := lw_mem 924 (by decide +kernel) (by decide +kernel)
theorem wN_X7_atPlace : Cond.instanceMethod yX7_atPlace ∈ lw_all := lw_mem 926 (by decide +kernel) (by decide +kernel)
theorem wK_X7_atPlace : Cond.code yX7_atPlace cX7_atPlace 3 (some .int) ∈ lw_all := lw_mem 927 (by decide +kernel) (by decide +kernel)
theorem wM_X7_40 : Cond.methodLink RX7 40 yX7_placeOf ∈ lw_all := lw_mem 928 (by decide +kernel) (by decide +kernel)
theorem wN_X7_placeOf : Cond.instanceMethod yX7_placeOf ∈ lw_all := lw_mem 930 (by decide +kernel) (by decide +kernel)
theorem wK_X7_placeOf : Cond.code yX7_placeOf cX7_placeOf 4 (some .int) ∈ lw_all := lw_mem 931 (by decide +kernel) (by decide +kernel)
theorem wM_X7_36 : Cond.methodLink RX7 36 yX7_isAhead ∈ lw_all := lw_mem 932 (by decide +kernel) (by decide +kernel)
theorem wN_X7_isAhead : Cond.instanceMethod yX7_isAhead ∈ lw_all := lw_mem 934 (by decide +kernel) (by decide +kernel)
theorem wK_X7_isAhead : Cond.code yX7_isAhead cX7_isAhead 4 (some .boolean) ∈ lw_all := lw_mem 935 (by decide +kernel) (by decide +kernel)
theorem wM_L_125 : Cond.methodLink RL 125 yX7_pass ∈ lw_all := lw_mem 936 (by decide +kernel) (by decide +kernel)
theorem wN_X7_pass : Cond.instanceMethod yX7_pass ∈ lw_all := lw_mem 937 (by decide +kernel) (by decide +kernel)
theorem wS_X7_X7_pass : Cond.selects RX7 yX7_pass yX7_pass ∈ lw_all := lw_mem 938 (by decide +kernel) (by decide +kernel)
theorem wK_X7_pass : Cond.code yX7_pass cX7_pass 2 (some .int) ∈ lw_all := lw_mem 939 (by decide +kernel) (by decide +kernel)
theorem wQ_X7_106 : Cond.constant RX7 106 (100000 : Int32) ∈ lw_all := lw_mem 940 (by decide +kernel) (by decide +kernel)
theorem wM_X7_107 : Cond.methodLink RX7 107 yX7_ticks ∈ lw_all := lw_mem 941 (by decide +kernel) (by decide +kernel)
theorem wN_X7_ticks : Cond.instanceMethod yX7_ticks ∈ lw_all := lw_mem 943 (by decide +kernel) (by decide +kernel)
theorem wK_X7_ticks : Cond.code yX7_ticks cX7_ticks 4 (some .int) ∈ lw_all := lw_mem 944 (by decide +kernel) (by decide +kernel)
theorem wM_X7_63 : Cond.methodLink RX7 63 yX7_tick ∈ lw_all := lw_mem 945 (by decide +kernel) (by decide +kernel)
theorem wN_X7_tick : Cond.instanceMethod yX7_tick ∈ lw_all := lw_mem 947 (by decide +kernel) (by decide +kernel)
theorem wK_X7_tick : Cond.code yX7_tick cX7_tick 3 (some .int) ∈ lw_all := lw_mem 948 (by decide +kernel) (by decide +kernel)
theorem wM_L_128 : Cond.methodLink RL 128 yX7_petition ∈ lw_all := lw_mem 949 (by decide +kernel) (by decide +kernel)
theorem wN_X7_petition : Cond.instanceMethod yX7_petition ∈ lw_all := lw_mem 950 (by decide +kernel) (by decide +kernel)
theorem wS_X7_X7_petition : Cond.selects RX7 yX7_petition yX7_petition ∈ lw_all := lw_mem 951 (by decide +kernel) (by decide +kernel)
theorem wK_X7_petition : Cond.code yX7_petition cX7_petition 4 (some .int) ∈ lw_all := lw_mem 952 (by decide +kernel) (by decide +kernel)
theorem wM_X7_110 : Cond.methodLink RX7 110 yX7_told ∈ lw_all := lw_mem 953 (by decide +kernel) (by decide +kernel)
theorem wN_X7_told : Cond.instanceMethod yX7_told ∈ lw_all := lw_mem 955 (by decide +kernel) (by decide +kernel)
theorem wK_X7_told : Cond.code yX7_told cX7_told 3 (some .int) ∈ lw_all := lw_mem 956 (by decide +kernel) (by decide +kernel)
theorem wM_L_131 : Cond.methodLink RL 131 yX7_peek ∈ lw_all := lw_mem 957 (by decide +kernel) (by decide +kernel)
theorem wN_X7_peek : Cond.instanceMethod yX7_peek ∈ lw_all := lw_mem 958 (by decide +kernel) (by decide +kernel)
theorem wS_X7_X7_peek : Cond.selects RX7 yX7_peek yX7_peek ∈ lw_all := lw_mem 959 (by decide +kernel) (by decide +kernel)
theorem wK_X7_peek : Cond.code yX7_peek cX7_peek 2 (some .int) ∈ lw_all := lw_mem 960 (by decide +kernel) (by decide +kernel)
theorem wM_L_134 : Cond.methodLink RL 134 yX7_sentBy ∈ lw_all := lw_mem 961 (by decide +kernel) (by decide +kernel)
theorem wN_X7_sentBy : Cond.instanceMethod yX7_sentBy ∈ lw_all := lw_mem 962 (by decide +kernel) (by decide +kernel)
theorem wS_X7_X7_sentBy : Cond.selects RX7 yX7_sentBy yX7_sentBy ∈ lw_all := lw_mem 963 (by decide +kernel) (by decide +kernel)
theorem wK_X7_sentBy : Cond.code yX7_sentBy cX7_sentBy 2 (some .int) ∈ lw_all := lw_mem 964 (by decide +kernel) (by decide +kernel)
theorem wM_L_137 : Cond.methodLink RL 137 yX7_returned ∈ lw_all := lw_mem 965 (by decide +kernel) (by decide +kernel)
theorem wN_X7_returned : Cond.instanceMethod yX7_returned ∈ lw_all := lw_mem 966 (by decide +kernel) (by decide +kernel)
theorem wS_X7_X7_returned : Cond.selects RX7 yX7_returned yX7_returned ∈ lw_all := lw_mem 967 (by decide +kernel) (by decide +kernel)
theorem wK_X7_returned : Cond.code yX7_returned cX7_returned 2 (some .int) ∈ lw_all := lw_mem 968 (by decide +kernel) (by decide +kernel)
theorem wM_L_140 : Cond.methodLink RL 140 yX7_entry ∈ lw_all := lw_mem 969 (by decide +kernel) (by decide +kernel)
theorem wN_X7_entry : Cond.instanceMethod yX7_entry ∈ lw_all := lw_mem 970 (by decide +kernel) (by decide +kernel)
theorem wS_X7_X7_entry : Cond.selects RX7 yX7_entry yX7_entry ∈ lw_all := lw_mem 971 (by decide +kernel) (by decide +kernel)
theorem wK_X7_entry : Cond.code yX7_entry cX7_entry 3 (some .int) ∈ lw_all := lw_mem 972 (by decide +kernel) (by decide +kernel)
theorem wM_L_143 : Cond.methodLink RL 143 yX7_value ∈ lw_all := lw_mem 973 (by decide +kernel) (by decide +kernel)
theorem wN_X7_value : Cond.instanceMethod yX7_value ∈ lw_all := lw_mem 974 (by decide +kernel) (by decide +kernel)
theorem wS_X7_X7_value : Cond.selects RX7 yX7_value yX7_value ∈ lw_all := lw_mem 975 (by decide +kernel) (by decide +kernel)
theorem wK_X7_value : Cond.code yX7_value cX7_value 2 (some .int) ∈ lw_all := lw_mem 976 (by decide +kernel) (by decide +kernel)
theorem wM_X7_119 : Cond.methodLink RX7 119 yX7_valueTold ∈ lw_all := lw_mem 977 (by decide +kernel) (by decide +kernel)
theorem wN_X7_valueTold : Cond.instanceMethod yX7_valueTold ∈ lw_all := lw_mem 979 (by decide +kernel) (by decide +kernel)
theorem wK_X7_valueTold : Cond.code yX7_valueTold cX7_valueTold 2 (some .int) ∈ lw_all := lw_mem 980 (by decide +kernel) (by decide +kernel)
theorem wM_X7_113 : Cond.methodLink RX7 113 yX7_bribes ∈ lw_all := lw_mem 981 (by decide +kernel) (by decide +kernel)
theorem wN_X7_bribes : Cond.instanceMethod yX7_bribes ∈ lw_all := lw_mem 983 (by decide +kernel) (by decide +kernel)
theorem wK_X7_bribes : Cond.code yX7_bribes cX7_bribes 3 (some .int) ∈ lw_all := lw_mem 984 (by decide +kernel) (by decide +kernel)
theorem wM_X7_116 : Cond.methodLink RX7 116 yX7_loudest ∈ lw_all := lw_mem 985 (by decide +kernel) (by decide +kernel)
theorem wN_X7_loudest : Cond.instanceMethod yX7_loudest ∈ lw_all := lw_mem 987 (by decide +kernel) (by decide +kernel)
theorem wK_X7_loudest : Cond.code yX7_loudest cX7_loudest 3 (some .int) ∈ lw_all := lw_mem 988 (by decide +kernel) (by decide +kernel)
theorem wM_L_146 : Cond.methodLink RL 146 yX7_ofRank ∈ lw_all := lw_mem 989 (by decide +kernel) (by decide +kernel)
theorem wN_X7_ofRank : Cond.instanceMethod yX7_ofRank ∈ lw_all := lw_mem 990 (by decide +kernel) (by decide +kernel)
theorem wS_X7_X7_ofRank : Cond.selects RX7 yX7_ofRank yX7_ofRank ∈ lw_all := lw_mem 991 (by decide +kernel) (by decide +kernel)
theorem wK_X7_ofRank : Cond.code yX7_ofRank cX7_ofRank 4 (some .int) ∈ lw_all := lw_mem 992 (by decide +kernel) (by decide +kernel)
theorem wM_L_149 : Cond.methodLink RL 149 yX7_rankIn ∈ lw_all := lw_mem 993 (by decide +kernel) (by decide +kernel)
theorem wN_X7_rankIn : Cond.instanceMethod yX7_rankIn ∈ lw_all := lw_mem 994 (by decide +kernel) (by decide +kernel)
theorem wS_X7_X7_rankIn : Cond.selects RX7 yX7_rankIn yX7_rankIn ∈ lw_all := lw_mem 995 (by decide +kernel) (by decide +kernel)
theorem wK_X7_rankIn : Cond.code yX7_rankIn cX7_rankIn 8 (some .int) ∈ lw_all := lw_mem 996 (by decide +kernel) (by decide +kernel)
theorem wM_L_153 : Cond.methodLink RL 153 yX7_firstToExpire ∈ lw_all := lw_mem 997 (by decide +kernel) (by decide +kernel)
theorem wN_X7_firstToExpire : Cond.instanceMethod yX7_firstToExpire ∈ lw_all := lw_mem 998 (by decide +kernel) (by decide +kernel)
theorem wS_X7_X7_firstToExpire : Cond.selects RX7 yX7_firstToExpire yX7_firstToExpire ∈ lw_all := lw_mem 999 (by decide +kernel) (by decide +kernel)
theorem wK_X7_firstToExpire : Cond.code yX7_firstToExpire cX7_firstToExpire 6 (some .int) ∈ lw_all := lw_mem 1000 (by decide +kernel) (by decide +kernel)
theorem wM_L_156 : Cond.methodLink RL 156 yX7_servedIn ∈ lw_all := lw_mem 1001 (by decide +kernel) (by decide +kernel)
theorem wN_X7_servedIn : Cond.instanceMethod yX7_servedIn ∈ lw_all := lw_mem 1002 (by decide +kernel) (by decide +kernel)
theorem wS_X7_X7_servedIn : Cond.selects RX7 yX7_servedIn yX7_servedIn ∈ lw_all := lw_mem 1003 (by decide +kernel) (by decide +kernel)
theorem wK_X7_servedIn : Cond.code yX7_servedIn cX7_servedIn 7 (some .int) ∈ lw_all := lw_mem 1004 (by decide +kernel) (by decide +kernel)
theorem wM_X7_122 : Cond.methodLink RX7 122 yX7_laysAside ∈ lw_all := lw_mem 1005 (by decide +kernel) (by decide +kernel)
theorem wN_X7_laysAside : Cond.instanceMethod yX7_laysAside ∈ lw_all := lw_mem 1007 (by decide +kernel) (by decide +kernel)
theorem wK_X7_laysAside : Cond.code yX7_laysAside cX7_laysAside 2 none ∈ lw_all := lw_mem 1008 (by decide +kernel) (by decide +kernel)
theorem wM_X7_125 : Cond.methodLink RX7 125 yX7_bringsBack ∈ lw_all := lw_mem 1009 (by decide +kernel) (by decide +kernel)
theorem wN_X7_bringsBack : Cond.instanceMethod yX7_bringsBack ∈ lw_all := lw_mem 1011 (by decide +kernel) (by decide +kernel)
theorem wK_X7_bringsBack : Cond.code yX7_bringsBack cX7_bringsBack 2 none ∈ lw_all := lw_mem 1012 (by decide +kernel) (by decide +kernel)
theorem wM_L_159 : Cond.methodLink RL 159 yX7_bribeToLead ∈ lw_all := lw_mem 1013 (by decide +kernel) (by decide +kernel)
theorem wN_X7_bribeToLead : Cond.instanceMethod yX7_bribeToLead ∈ lw_all := lw_mem 1014 (by decide +kernel) (by decide +kernel)
theorem wS_X7_X7_bribeToLead : Cond.selects RX7 yX7_bribeToLead yX7_bribeToLead ∈ lw_all := lw_mem 1015 (by decide +kernel) (by decide +kernel)
theorem wK_X7_bribeToLead : Cond.code yX7_bribeToLead cX7_bribeToLead 3 (some .int) ∈ lw_all := lw_mem 1016 (by decide +kernel) (by decide +kernel)
theorem wM_L_164 : Cond.methodLink RL 164 yX7_meanWait ∈ lw_all := lw_mem 1017 (by decide +kernel) (by decide +kernel)
theorem wN_X7_meanWait : Cond.instanceMethod yX7_meanWait ∈ lw_all := lw_mem 1018 (by decide +kernel) (by decide +kernel)
theorem wS_X7_X7_meanWait : Cond.selects RX7 yX7_meanWait yX7_meanWait ∈ lw_all := lw_mem 1019 (by decide +kernel) (by decide +kernel)
theorem wK_X7_meanWait : Cond.code yX7_meanWait cX7_meanWait 1 (some .double) ∈ lw_all := lw_mem 1020 (by decide +kernel) (by decide +kernel)
theorem wM_L_167 : Cond.methodLink RL 167 yX7_append ∈ lw_all := lw_mem 1021 (by decide +kernel) (by decide +kernel)
theorem wN_X7_append : Cond.instanceMethod yX7_append ∈ lw_all := lw_mem 1022 (by decide +kernel) (by decide +kernel)
theorem wS_X7_X7_append : Cond.selects RX7 yX7_append yX7_append ∈ lw_all := lw_mem 1023 (by decide +kernel) (by decide +kernel)
theorem wK_X7_append : Cond.code yX7_append cX7_append 2 (some .int) ∈ lw_all := lw_mem 1024 (by decide +kernel) (by decide +kernel)
theorem wM_L_171 : Cond.methodLink RL 171 yX7_clearText ∈ lw_all := lw_mem 1025 (by decide +kernel) (by decide +kernel)
theorem wN_X7_clearText : Cond.instanceMethod yX7_clearText ∈ lw_all := lw_mem 1026 (by decide +kernel) (by decide +kernel)
theorem wS_X7_X7_clearText : Cond.selects RX7 yX7_clearText yX7_clearText ∈ lw_all := lw_mem 1027 (by decide +kernel) (by decide +kernel)
theorem wK_X7_clearText : Cond.code yX7_clearText cX7_clearText 2 (some .int) ∈ lw_all := lw_mem 1028 (by decide +kernel) (by decide +kernel)
theorem wM_L_175 : Cond.methodLink RL 175 yX7_carryOut ∈ lw_all := lw_mem 1029 (by decide +kernel) (by decide +kernel)
theorem wN_X7_carryOut : Cond.instanceMethod yX7_carryOut ∈ lw_all := lw_mem 1030 (by decide +kernel) (by decide +kernel)
theorem wS_X7_X7_carryOut : Cond.selects RX7 yX7_carryOut yX7_carryOut ∈ lw_all := lw_mem 1031 (by decide +kernel) (by decide +kernel)
theorem wK_X7_carryOut : Cond.code yX7_carryOut cX7_carryOut 4 (some .int) ∈ lw_all := lw_mem 1032 (by decide +kernel) (by decide +kernel)
theorem wM_X7_146 : Cond.methodLink RX7 146 yX7_takesOrder ∈ lw_all := lw_mem 1033 (by decide +kernel) (by decide +kernel)
theorem wN_X7_takesOrder : Cond.instanceMethod yX7_takesOrder ∈ lw_all := lw_mem 1035 (by decide +kernel) (by decide +kernel)
theorem wK_X7_takesOrder : Cond.code yX7_takesOrder cX7_takesOrder 3 (some .boolean) ∈ lw_all := lw_mem 1036 (by decide +kernel) (by decide +kernel)
theorem wM_X7_137 : Cond.methodLink RX7 137 yX7_takesDigit ∈ lw_all := lw_mem 1037 (by decide +kernel) (by decide +kernel)
theorem wN_X7_takesDigit : Cond.instanceMethod yX7_takesDigit ∈ lw_all := lw_mem 1039 (by decide +kernel) (by decide +kernel)
theorem wK_X7_takesDigit : Cond.code yX7_takesDigit cX7_takesDigit 3 (some .boolean) ∈ lw_all := lw_mem 1040 (by decide +kernel) (by decide +kernel)
theorem wM_X7_134 : Cond.methodLink RX7 134 yX7_isAt ∈ lw_all := lw_mem 1041 (by decide +kernel) (by decide +kernel)
theorem wN_X7_isAt : Cond.instanceMethod yX7_isAt ∈ lw_all := lw_mem 1043 (by decide +kernel) (by decide +kernel)
theorem wK_X7_isAt : Cond.code yX7_isAt cX7_isAt 3 (some .boolean) ∈ lw_all := lw_mem 1044 (by decide +kernel) (by decide +kernel)
theorem wM_X7_140 : Cond.methodLink RX7 140 yX7_takes ∈ lw_all := lw_mem 1045 (by decide +kernel) (by decide +kernel)
theorem wN_X7_takes : Cond.instanceMethod yX7_takes ∈ lw_all := lw_mem 1047 (by decide +kernel) (by decide +kernel)
theorem wK_X7_takes : Cond.code yX7_takes cX7_takes 3 (some .boolean) ∈ lw_all := lw_mem 1048 (by decide +kernel) (by decide +kernel)
theorem wM_X7_143 : Cond.methodLink RX7 143 yX7_takesNumber ∈ lw_all := lw_mem 1049 (by decide +kernel) (by decide +kernel)
theorem wN_X7_takesNumber : Cond.instanceMethod yX7_takesNumber ∈ lw_all := lw_mem 1051 (by decide +kernel) (by decide +kernel)
theorem wK_X7_takesNumber : Cond.code yX7_takesNumber cX7_takesNumber 7 (some .boolean) ∈ lw_all := lw_mem 1052 (by decide +kernel) (by decide +kernel)
theorem wM_X7_150 : Cond.methodLink RX7 150 yX7_does ∈ lw_all := lw_mem 1053 (by decide +kernel) (by decide +kernel)
theorem wN_X7_does : Cond.instanceMethod yX7_does ∈ lw_all := lw_mem 1055 (by decide +kernel) (by decide +kernel)
theorem wK_X7_does : Cond.code yX7_does cX7_does 2 (some .boolean) ∈ lw_all := lw_mem 1056 (by decide +kernel) (by decide +kernel)
theorem wM_L_178 : Cond.methodLink RL 178 yX7_undo ∈ lw_all := lw_mem 1057 (by decide +kernel) (by decide +kernel)
theorem wN_X7_undo : Cond.instanceMethod yX7_undo ∈ lw_all := lw_mem 1058 (by decide +kernel) (by decide +kernel)
theorem wS_X7_X7_undo : Cond.selects RX7 yX7_undo yX7_undo ∈ lw_all := lw_mem 1059 (by decide +kernel) (by decide +kernel)
theorem wK_X7_undo : Cond.code yX7_undo cX7_undo 2 (some .int) ∈ lw_all := lw_mem 1060 (by decide +kernel) (by decide +kernel)
theorem wM_L_183 : Cond.methodLink RL 183 yX7_digest ∈ lw_all := lw_mem 1061 (by decide +kernel) (by decide +kernel)
theorem wN_X7_digest : Cond.instanceMethod yX7_digest ∈ lw_all := lw_mem 1062 (by decide +kernel) (by decide +kernel)
theorem wS_X7_X7_digest : Cond.selects RX7 yX7_digest yX7_digest ∈ lw_all := lw_mem 1063 (by decide +kernel) (by decide +kernel)
theorem wK_X7_digest : Cond.code yX7_digest cX7_digest 4 (some .long) ∈ lw_all := lw_mem 1064 (by decide +kernel) (by decide +kernel)
theorem wQ_X7_159 : Cond.constantLong RX7 159 (3659 : Int64) ∈ lw_all := lw_mem 1065 (by decide +kernel) (by decide +kernel)
theorem wM_X7_161 : Cond.methodLink RX7 161 yX7_mix ∈ lw_all := lw_mem 1066 (by decide +kernel) (by decide +kernel)
theorem wN_X7_mix : Cond.instanceMethod yX7_mix ∈ lw_all := lw_mem 1068 (by decide +kernel) (by decide +kernel)
theorem wK_X7_mix : Cond.code yX7_mix cX7_mix 2 none ∈ lw_all := lw_mem 1069 (by decide +kernel) (by decide +kernel)
theorem wQ_X7_153 : Cond.constantLong RX7 153 (31 : Int64) ∈ lw_all := lw_mem 1070 (by decide +kernel) (by decide +kernel)
theorem wA_long : Cond.arrayClass .long ∈ lw_all := lw_mem 1071 (by decide +kernel) (by decide +kernel)
theorem lwX0 : ∀ w ∈ wsX00, w ∈ lw_all := by decide +kernel
theorem lwX1 : ∀ w ∈ wsX10, w ∈ lw_all := by decide +kernel
theorem lwX2 : ∀ w ∈ wsX20, w ∈ lw_all := by decide +kernel
theorem lwX3 : ∀ w ∈ wsX30, w ∈ lw_all := by decide +kernel
theorem lwX4 : ∀ w ∈ wsX40, w ∈ lw_all := by decide +kernel
theorem lwX5 : ∀ w ∈ wsX50, w ∈ lw_all := by decide +kernel
theorem lwX6 : ∀ w ∈ wsX60, w ∈ lw_all := by decide +kernel
theorem lwX7 : ∀ w ∈ wsX70, w ∈ lw_all := by decide +kernel
end
section
theorem dX0_init_0 : decode cX0_init 0 = .ok (.aload_n 0, 1) := by decide +kernel
theorem dX0_init_1 : decode cX0_init 1 = .ok (.invokespecial 3, 3) := by decide +kernel
theorem dX0_init_4 : decode cX0_init 4 = .ok (.aload_n 0, 1) := by decide +kernel
theorem dX0_init_5 : decode cX0_init 5 = .ok (.bipush 80, 2) := by decide +kernel
theorem dX0_init_7 : decode cX0_init 7 = .ok (.newarray .int, 2) := by decide +kernel
theorem dX0_init_9 : decode cX0_init 9 = .ok (.putfield 9, 3) := by decide +kernel
theorem dX0_init_12 : decode cX0_init 12 = .ok (.return_, 1) := by decide +kernel
theorem dX0_at_0 : decode cX0_at 0 = .ok (.iload_n 1, 1) := by decide +kernel
theorem dX0_at_1 : decode cX0_at 1 = .ok (.ifCond .lt 20, 3) := by decide +kernel
theorem dX0_at_4 : decode cX0_at 4 = .ok (.iload_n 1, 1) := by decide +kernel
theorem dX0_at_5 : decode cX0_at 5 = .ok (.aload_n 0, 1) := by decide +kernel
theorem dX0_at_6 : decode cX0_at 6 = .ok (.getfield 15, 3) := by decide +kernel
theorem dX0_at_9 : decode cX0_at 9 = .ok (.if_icmp .ge 12, 3) := by decide +kernel
theorem dX0_at_12 : decode cX0_at 12 = .ok (.iload_n 2, 1) := by decide +kernel
theorem dX0_at_13 : decode cX0_at 13 = .ok (.ifCond .lt 8, 3) := by decide +kernel
theorem dX0_at_16 : decode cX0_at 16 = .ok (.iload_n 2, 1) := by decide +kernel
theorem dX0_at_17 : decode cX0_at 17 = .ok (.iconst 5, 1) := by decide +kernel
theorem dX0_at_18 : decode cX0_at 18 = .ok (.if_icmp .lt 5, 3) := by decide +kernel
theorem dX0_at_21 : decode cX0_at 21 = .ok (.iconst (-1), 1) := by decide +kernel
theorem dX0_at_22 : decode cX0_at 22 = .ok (.ireturn, 1) := by decide +kernel
theorem dX0_at_23 : decode cX0_at 23 = .ok (.aload_n 0, 1) := by decide +kernel
theorem dX0_at_24 : decode cX0_at 24 = .ok (.getfield 9, 3) := by decide +kernel
theorem dX0_at_27 : decode cX0_at 27 = .ok (.iload_n 1, 1) := by decide +kernel
theorem dX0_at_28 : decode cX0_at 28 = .ok (.iconst 5, 1) := by decide +kernel
theorem dX0_at_29 : decode cX0_at 29 = .ok (.imul, 1) := by decide +kernel
theorem dX0_at_30 : decode cX0_at 30 = .ok (.iload_n 2, 1) := by decide +kernel
theorem dX0_at_31 : decode cX0_at 31 = .ok (.iadd, 1) := by decide +kernel
theorem dX0_at_32 : decode cX0_at 32 = .ok (.iaload, 1) := by decide +kernel
theorem dX0_at_33 : decode cX0_at 33 = .ok (.ireturn, 1) := by decide +kernel
theorem dX0_add_0 : decode cX0_add 0 = .ok (.aload_n 0, 1) := by decide +kernel
theorem dX0_add_1 : decode cX0_add 1 = .ok (.getfield 9, 3) := by decide +kernel
theorem dX0_add_4 : decode cX0_add 4 = .ok (.iconst 0, 1) := by decide +kernel
theorem dX0_add_5 : decode cX0_add 5 = .ok (.aload_n 0, 1) := by decide +kernel
theorem dX0_add_6 : decode cX0_add 6 = .ok (.getfield 9, 3) := by decide +kernel
theorem dX0_add_9 : decode cX0_add 9 = .ok (.iconst 5, 1) := by decide +kernel
theorem dX0_add_10 : decode cX0_add 10 = .ok (.aload_n 0, 1) := by decide +kernel
theorem dX0_add_11 : decode cX0_add 11 = .ok (.getfield 9, 3) := by decide +kernel
theorem dX0_add_14 : decode cX0_add 14 = .ok (.arraylength, 1) := by decide +kernel
theorem dX0_add_15 : decode cX0_add 15 = .ok (.iconst 5, 1) := by decide +kernel
theorem dX0_add_16 : decode cX0_add 16 = .ok (.isub, 1) := by decide +kernel
theorem dX0_add_17 : decode cX0_add 17 = .ok (.invokestatic 19, 3) := by decide +kernel
theorem dX0_add_20 : decode cX0_add 20 = .ok (.aload_n 0, 1) := by decide +kernel
theorem dX0_add_21 : decode cX0_add 21 = .ok (.getfield 9, 3) := by decide +kernel
theorem dX0_add_24 : decode cX0_add 24 = .ok (.iconst 0, 1) := by decide +kernel
theorem dX0_add_25 : decode cX0_add 25 = .ok (.iload_n 1, 1) := by decide +kernel
theorem dX0_add_26 : decode cX0_add 26 = .ok (.iastore, 1) := by decide +kernel
theorem dX0_add_27 : decode cX0_add 27 = .ok (.aload_n 0, 1) := by decide +kernel
theorem dX0_add_28 : decode cX0_add 28 = .ok (.getfield 9, 3) := by decide +kernel
theorem dX0_add_31 : decode cX0_add 31 = .ok (.iconst 1, 1) := by decide +kernel
theorem dX0_add_32 : decode cX0_add 32 = .ok (.iload_n 2, 1) := by decide +kernel
theorem dX0_add_33 : decode cX0_add 33 = .ok (.iastore, 1) := by decide +kernel
theorem dX0_add_34 : decode cX0_add 34 = .ok (.aload_n 0, 1) := by decide +kernel
theorem dX0_add_35 : decode cX0_add 35 = .ok (.getfield 9, 3) := by decide +kernel
theorem dX0_add_38 : decode cX0_add 38 = .ok (.iconst 2, 1) := by decide +kernel
theorem dX0_add_39 : decode cX0_add 39 = .ok (.iload_n 3, 1) := by decide +kernel
theorem dX0_add_40 : decode cX0_add 40 = .ok (.iastore, 1) := by decide +kernel
theorem dX0_add_41 : decode cX0_add 41 = .ok (.aload_n 0, 1) := by decide +kernel
theorem dX0_add_42 : decode cX0_add 42 = .ok (.getfield 9, 3) := by decide +kernel
theorem dX0_add_45 : decode cX0_add 45 = .ok (.iconst 3, 1) := by decide +kernel
theorem dX0_add_46 : decode cX0_add 46 = .ok (.iload 4, 2) := by decide +kernel
theorem dX0_add_48 : decode cX0_add 48 = .ok (.iastore, 1) := by decide +kernel
theorem dX0_add_49 : decode cX0_add 49 = .ok (.aload_n 0, 1) := by decide +kernel
theorem dX0_add_50 : decode cX0_add 50 = .ok (.getfield 9, 3) := by decide +kernel
theorem dX0_add_53 : decode cX0_add 53 = .ok (.iconst 4, 1) := by decide +kernel
theorem dX0_add_54 : decode cX0_add 54 = .ok (.iload 5, 2) := by decide +kernel
theorem dX0_add_56 : decode cX0_add 56 = .ok (.iastore, 1) := by decide +kernel
theorem dX0_add_57 : decode cX0_add 57 = .ok (.aload_n 0, 1) := by decide +kernel
theorem dX0_add_58 : decode cX0_add 58 = .ok (.getfield 15, 3) := by decide +kernel
theorem dX0_add_61 : decode cX0_add 61 = .ok (.bipush 16, 2) := by decide +kernel
theorem dX0_add_63 : decode cX0_add 63 = .ok (.if_icmp .ge 13, 3) := by decide +kernel
theorem dX0_add_66 : decode cX0_add 66 = .ok (.aload_n 0, 1) := by decide +kernel
theorem dX0_add_67 : decode cX0_add 67 = .ok (.dup, 1) := by decide +kernel
theorem dX0_add_68 : decode cX0_add 68 = .ok (.getfield 15, 3) := by decide +kernel
theorem dX0_add_71 : decode cX0_add 71 = .ok (.iconst 1, 1) := by decide +kernel
theorem dX0_add_72 : decode cX0_add 72 = .ok (.iadd, 1) := by decide +kernel
theorem dX0_add_73 : decode cX0_add 73 = .ok (.putfield 15, 3) := by decide +kernel
theorem dX0_add_76 : decode cX0_add 76 = .ok (.return_, 1) := by decide +kernel
theorem dX0_copyFrom_0 : decode cX0_copyFrom 0 = .ok (.aload_n 0, 1) := by decide +kernel
theorem dX0_copyFrom_1 : decode cX0_copyFrom 1 = .ok (.aload_n 1, 1) := by decide +kernel
theorem dX0_copyFrom_2 : decode cX0_copyFrom 2 = .ok (.getfield 15, 3) := by decide +kernel
theorem dX0_copyFrom_5 : decode cX0_copyFrom 5 = .ok (.putfield 15, 3) := by decide +kernel
theorem dX0_copyFrom_8 : decode cX0_copyFrom 8 = .ok (.aload_n 1, 1) := by decide +kernel
theorem dX0_copyFrom_9 : decode cX0_copyFrom 9 = .ok (.getfield 9, 3) := by decide +kernel
theorem dX0_copyFrom_12 : decode cX0_copyFrom 12 = .ok (.iconst 0, 1) := by decide +kernel
theorem dX0_copyFrom_13 : decode cX0_copyFrom 13 = .ok (.aload_n 0, 1) := by decide +kernel
theorem dX0_copyFrom_14 : decode cX0_copyFrom 14 = .ok (.getfield 9, 3) := by decide +kernel
theorem dX0_copyFrom_17 : decode cX0_copyFrom 17 = .ok (.iconst 0, 1) := by decide +kernel
theorem dX0_copyFrom_18 : decode cX0_copyFrom 18 = .ok (.aload_n 0, 1) := by decide +kernel
theorem dX0_copyFrom_19 : decode cX0_copyFrom 19 = .ok (.getfield 9, 3) := by decide +kernel
theorem dX0_copyFrom_22 : decode cX0_copyFrom 22 = .ok (.arraylength, 1) := by decide +kernel
theorem dX0_copyFrom_23 : decode cX0_copyFrom 23 = .ok (.invokestatic 19, 3) := by decide +kernel
theorem dX0_copyFrom_26 : decode cX0_copyFrom 26 = .ok (.return_, 1) := by decide +kernel
theorem dX1_init_0 : decode cX1_init 0 = .ok (.aload_n 0, 1) := by decide +kernel
theorem dX1_init_1 : decode cX1_init 1 = .ok (.invokespecial 3, 3) := by decide +kernel
theorem dX1_init_4 : decode cX1_init 4 = .ok (.aload_n 0, 1) := by decide +kernel
theorem dX1_init_5 : decode cX1_init 5 = .ok (.new 9, 3) := by decide +kernel
theorem dX1_init_8 : decode cX1_init 8 = .ok (.dup, 1) := by decide +kernel
theorem dX1_init_9 : decode cX1_init 9 = .ok (.invokespecial 11, 3) := by decide +kernel
theorem dX1_init_12 : decode cX1_init 12 = .ok (.putfield 12, 3) := by decide +kernel
theorem dX1_init_15 : decode cX1_init 15 = .ok (.aload_n 0, 1) := by decide +kernel
theorem dX1_init_16 : decode cX1_init 16 = .ok (.iconst (-1), 1) := by decide +kernel
theorem dX1_init_17 : decode cX1_init 17 = .ok (.putfield 18, 3) := by decide +kernel
theorem dX1_init_20 : decode cX1_init 20 = .ok (.return_, 1) := by decide +kernel
theorem dX1_startAnew_0 : decode cX1_startAnew 0 = .ok (.aload_n 0, 1) := by decide +kernel
theorem dX1_startAnew_1 : decode cX1_startAnew 1 = .ok (.iconst 0, 1) := by decide +kernel
theorem dX1_startAnew_2 : decode cX1_startAnew 2 = .ok (.putfield 22, 3) := by decide +kernel
theorem dX1_startAnew_5 : decode cX1_startAnew 5 = .ok (.aload_n 0, 1) := by decide +kernel
theorem dX1_startAnew_6 : decode cX1_startAnew 6 = .ok (.iconst (-1), 1) := by decide +kernel
theorem dX1_startAnew_7 : decode cX1_startAnew 7 = .ok (.putfield 18, 3) := by decide +kernel
theorem dX1_startAnew_10 : decode cX1_startAnew 10 = .ok (.return_, 1) := by decide +kernel
theorem dX1_isAtEnd_0 : decode cX1_isAtEnd 0 = .ok (.aload_n 0, 1) := by decide +kernel
theorem dX1_isAtEnd_1 : decode cX1_isAtEnd 1 = .ok (.getfield 22, 3) := by decide +kernel
theorem dX1_isAtEnd_4 : decode cX1_isAtEnd 4 = .ok (.aload_n 0, 1) := by decide +kernel
theorem dX1_isAtEnd_5 : decode cX1_isAtEnd 5 = .ok (.getfield 12, 3) := by decide +kernel
theorem dX1_isAtEnd_8 : decode cX1_isAtEnd 8 = .ok (.getfield 25, 3) := by decide +kernel
theorem dX1_isAtEnd_11 : decode cX1_isAtEnd 11 = .ok (.if_icmp .lt 7, 3) := by decide +kernel
theorem dX1_isAtEnd_14 : decode cX1_isAtEnd 14 = .ok (.iconst 1, 1) := by decide +kernel
theorem dX1_isAtEnd_15 : decode cX1_isAtEnd 15 = .ok (.goto 4, 3) := by decide +kernel
theorem dX1_isAtEnd_18 : decode cX1_isAtEnd 18 = .ok (.iconst 0, 1) := by decide +kernel
theorem dX1_isAtEnd_19 : decode cX1_isAtEnd 19 = .ok (.ireturn, 1) := by decide +kernel
theorem dX1_findError_0 : decode cX1_findError 0 = .ok (.aload_n 0, 1) := by decide +kernel
theorem dX1_findError_1 : decode cX1_findError 1 = .ok (.invokevirtual 28, 3) := by decide +kernel
theorem dX1_findError_4 : decode cX1_findError 4 = .ok (.iconst 0, 1) := by decide +kernel
theorem dX1_findError_5 : decode cX1_findError 5 = .ok (.istore_n 1, 1) := by decide +kernel
theorem dX1_findError_6 : decode cX1_findError 6 = .ok (.iload_n 1, 1) := by decide +kernel
theorem dX1_findError_7 : decode cX1_findError 7 = .ok (.bipush 100, 2) := by decide +kernel
theorem dX1_findError_9 : decode cX1_findError 9 = .ok (.if_icmp .ge 28, 3) := by decide +kernel
theorem dX1_findError_12 : decode cX1_findError 12 = .ok (.aload_n 0, 1) := by decide +kernel
theorem dX1_findError_13 : decode cX1_findError 13 = .ok (.getfield 18, 3) := by decide +kernel
theorem dX1_findError_16 : decode cX1_findError 16 = .ok (.iconst (-1), 1) := by decide +kernel
theorem dX1_findError_17 : decode cX1_findError 17 = .ok (.if_icmp .ne 20, 3) := by decide +kernel
theorem dX1_findError_20 : decode cX1_findError 20 = .ok (.aload_n 0, 1) := by decide +kernel
theorem dX1_findError_21 : decode cX1_findError 21 = .ok (.invokevirtual 31, 3) := by decide +kernel
theorem dX1_findError_24 : decode cX1_findError 24 = .ok (.ifCond .ne 13, 3) := by decide +kernel
theorem dX1_findError_27 : decode cX1_findError 27 = .ok (.aload_n 0, 1) := by decide +kernel
theorem dX1_findError_28 : decode cX1_findError 28 = .ok (.invokevirtual 35, 3) := by decide +kernel
theorem dX1_findError_31 : decode cX1_findError 31 = .ok (.iinc 1 1, 3) := by decide +kernel
theorem dX1_findError_34 : decode cX1_findError 34 = .ok (.goto (-28), 3) := by decide +kernel
theorem dX1_findError_37 : decode cX1_findError 37 = .ok (.aload_n 0, 1) := by decide +kernel
theorem dX1_findError_38 : decode cX1_findError 38 = .ok (.getfield 18, 3) := by decide +kernel
theorem dX1_findError_41 : decode cX1_findError 41 = .ok (.ireturn, 1) := by decide +kernel
theorem dX1_readOrder_0 : decode cX1_readOrder 0 = .ok (.aload_n 0, 1) := by decide +kernel
theorem dX1_readOrder_1 : decode cX1_readOrder 1 = .ok (.aload_n 0, 1) := by decide +kernel
theorem dX1_readOrder_2 : decode cX1_readOrder 2 = .ok (.getfield 12, 3) := by decide +kernel
theorem dX1_readOrder_5 : decode cX1_readOrder 5 = .ok (.aload_n 0, 1) := by decide +kernel
theorem dX1_readOrder_6 : decode cX1_readOrder 6 = .ok (.getfield 22, 3) := by decide +kernel
theorem dX1_readOrder_9 : decode cX1_readOrder 9 = .ok (.invokevirtual 38, 3) := by decide +kernel
theorem dX1_readOrder_12 : decode cX1_readOrder 12 = .ok (.putfield 42, 3) := by decide +kernel
theorem dX1_readOrder_15 : decode cX1_readOrder 15 = .ok (.aload_n 0, 1) := by decide +kernel
theorem dX1_readOrder_16 : decode cX1_readOrder 16 = .ok (.iconst 0, 1) := by decide +kernel
theorem dX1_readOrder_17 : decode cX1_readOrder 17 = .ok (.putfield 45, 3) := by decide +kernel
theorem dX1_readOrder_20 : decode cX1_readOrder 20 = .ok (.aload_n 0, 1) := by decide +kernel
theorem dX1_readOrder_21 : decode cX1_readOrder 21 = .ok (.iconst 0, 1) := by decide +kernel
theorem dX1_readOrder_22 : decode cX1_readOrder 22 = .ok (.putfield 48, 3) := by decide +kernel
theorem dX1_readOrder_25 : decode cX1_readOrder 25 = .ok (.aload_n 0, 1) := by decide +kernel
theorem dX1_readOrder_26 : decode cX1_readOrder 26 = .ok (.iconst 0, 1) := by decide +kernel
theorem dX1_readOrder_27 : decode cX1_readOrder 27 = .ok (.putfield 51, 3) := by decide +kernel
theorem dX1_readOrder_30 : decode cX1_readOrder 30 = .ok (.aload_n 0, 1) := by decide +kernel
theorem dX1_readOrder_31 : decode cX1_readOrder 31 = .ok (.iconst 0, 1) := by decide +kernel
theorem dX1_readOrder_32 : decode cX1_readOrder 32 = .ok (.putfield 54, 3) := by decide +kernel
theorem dX1_readOrder_35 : decode cX1_readOrder 35 = .ok (.aload_n 0, 1) := by decide +kernel
theorem dX1_readOrder_36 : decode cX1_readOrder 36 = .ok (.iconst 0, 1) := by decide +kernel
theorem dX1_readOrder_37 : decode cX1_readOrder 37 = .ok (.putfield 57, 3) := by decide +kernel
theorem dX1_readOrder_40 : decode cX1_readOrder 40 = .ok (.aload_n 0, 1) := by decide +kernel
theorem dX1_readOrder_41 : decode cX1_readOrder 41 = .ok (.dup, 1) := by decide +kernel
theorem dX1_readOrder_42 : decode cX1_readOrder 42 = .ok (.getfield 22, 3) := by decide +kernel
theorem dX1_readOrder_45 : decode cX1_readOrder 45 = .ok (.iconst 1, 1) := by decide +kernel
theorem dX1_readOrder_46 : decode cX1_readOrder 46 = .ok (.iadd, 1) := by decide +kernel
theorem dX1_readOrder_47 : decode cX1_readOrder 47 = .ok (.putfield 22, 3) := by decide +kernel
theorem dX1_readOrder_50 : decode cX1_readOrder 50 = .ok (.aload_n 0, 1) := by decide +kernel
theorem dX1_readOrder_51 : decode cX1_readOrder 51 = .ok (.getfield 42, 3) := by decide +kernel
theorem dX1_readOrder_54 : decode cX1_readOrder 54 = .ok (.lookupswitch 90 #[(98, 49), (112, 42), (115, 73), (116, 76)], 42) := by decide +kernel
theorem dX1_readOrder_96 : decode cX1_readOrder 96 = .ok (.aload_n 0, 1) := by decide +kernel
theorem dX1_readOrder_97 : decode cX1_readOrder 97 = .ok (.invokevirtual 60, 3) := by decide +kernel
theorem dX1_readOrder_100 : decode cX1_readOrder 100 = .ok (.goto 54, 3) := by decide +kernel
theorem dX1_readOrder_103 : decode cX1_readOrder 103 = .ok (.aload_n 0, 1) := by decide +kernel
theorem dX1_readOrder_104 : decode cX1_readOrder 104 = .ok (.invokevirtual 60, 3) := by decide +kernel
theorem dX1_readOrder_107 : decode cX1_readOrder 107 = .ok (.aload_n 0, 1) := by decide +kernel
theorem dX1_readOrder_108 : decode cX1_readOrder 108 = .ok (.bipush 44, 2) := by decide +kernel
theorem dX1_readOrder_110 : decode cX1_readOrder 110 = .ok (.invokevirtual 63, 3) := by decide +kernel
theorem dX1_readOrder_113 : decode cX1_readOrder 113 = .ok (.aload_n 0, 1) := by decide +kernel
theorem dX1_readOrder_114 : decode cX1_readOrder 114 = .ok (.aload_n 0, 1) := by decide +kernel
theorem dX1_readOrder_115 : decode cX1_readOrder 115 = .ok (.iconst 3, 1) := by decide +kernel
theorem dX1_readOrder_116 : decode cX1_readOrder 116 = .ok (.bipush 100, 2) := by decide +kernel
theorem dX1_readOrder_118 : decode cX1_readOrder 118 = .ok (.invokevirtual 67, 3) := by decide +kernel
theorem dX1_readOrder_121 : decode cX1_readOrder 121 = .ok (.putfield 54, 3) := by decide +kernel
theorem dX1_readOrder_124 : decode cX1_readOrder 124 = .ok (.goto 30, 3) := by decide +kernel
theorem dX1_readOrder_127 : decode cX1_readOrder 127 = .ok (.goto 27, 3) := by decide +kernel
theorem dX1_readOrder_130 : decode cX1_readOrder 130 = .ok (.aload_n 0, 1) := by decide +kernel
theorem dX1_readOrder_131 : decode cX1_readOrder 131 = .ok (.aload_n 0, 1) := by decide +kernel
theorem dX1_readOrder_132 : decode cX1_readOrder 132 = .ok (.iconst 2, 1) := by decide +kernel
theorem dX1_readOrder_133 : decode cX1_readOrder 133 = .ok (.bipush 50, 2) := by decide +kernel
theorem dX1_readOrder_135 : decode cX1_readOrder 135 = .ok (.invokevirtual 67, 3) := by decide +kernel
theorem dX1_readOrder_138 : decode cX1_readOrder 138 = .ok (.putfield 57, 3) := by decide +kernel
theorem dX1_readOrder_141 : decode cX1_readOrder 141 = .ok (.goto 13, 3) := by decide +kernel
theorem dX1_readOrder_144 : decode cX1_readOrder 144 = .ok (.aload_n 0, 1) := by decide +kernel
theorem dX1_readOrder_145 : decode cX1_readOrder 145 = .ok (.aload_n 0, 1) := by decide +kernel
theorem dX1_readOrder_146 : decode cX1_readOrder 146 = .ok (.getfield 22, 3) := by decide +kernel
theorem dX1_readOrder_149 : decode cX1_readOrder 149 = .ok (.iconst 1, 1) := by decide +kernel
theorem dX1_readOrder_150 : decode cX1_readOrder 150 = .ok (.isub, 1) := by decide +kernel
theorem dX1_readOrder_151 : decode cX1_readOrder 151 = .ok (.putfield 18, 3) := by decide +kernel
theorem dX1_readOrder_154 : decode cX1_readOrder 154 = .ok (.aload_n 0, 1) := by decide +kernel
theorem dX1_readOrder_155 : decode cX1_readOrder 155 = .ok (.bipush 59, 2) := by decide +kernel
theorem dX1_readOrder_157 : decode cX1_readOrder 157 = .ok (.invokevirtual 63, 3) := by decide +kernel
theorem dX1_readOrder_160 : decode cX1_readOrder 160 = .ok (.return_, 1) := by decide +kernel
theorem dX1_readSending_0 : decode cX1_readSending 0 = .ok (.aload_n 0, 1) := by decide +kernel
theorem dX1_readSending_1 : decode cX1_readSending 1 = .ok (.aload_n 0, 1) := by decide +kernel
theorem dX1_readSending_2 : decode cX1_readSending 2 = .ok (.bipush 7, 2) := by decide +kernel
theorem dX1_readSending_4 : decode cX1_readSending 4 = .ok (.invokevirtual 71, 3) := by decide +kernel
theorem dX1_readSending_7 : decode cX1_readSending 7 = .ok (.putfield 45, 3) := by decide +kernel
theorem dX1_readSending_10 : decode cX1_readSending 10 = .ok (.aload_n 0, 1) := by decide +kernel
theorem dX1_readSending_11 : decode cX1_readSending 11 = .ok (.aload_n 0, 1) := by decide +kernel
theorem dX1_readSending_12 : decode cX1_readSending 12 = .ok (.iconst 4, 1) := by decide +kernel
theorem dX1_readSending_13 : decode cX1_readSending 13 = .ok (.invokevirtual 71, 3) := by decide +kernel
theorem dX1_readSending_16 : decode cX1_readSending 16 = .ok (.putfield 48, 3) := by decide +kernel
theorem dX1_readSending_19 : decode cX1_readSending 19 = .ok (.aload_n 0, 1) := by decide +kernel
theorem dX1_readSending_20 : decode cX1_readSending 20 = .ok (.bipush 44, 2) := by decide +kernel
theorem dX1_readSending_22 : decode cX1_readSending 22 = .ok (.invokevirtual 63, 3) := by decide +kernel
theorem dX1_readSending_25 : decode cX1_readSending 25 = .ok (.aload_n 0, 1) := by decide +kernel
theorem dX1_readSending_26 : decode cX1_readSending 26 = .ok (.aload_n 0, 1) := by decide +kernel
theorem dX1_readSending_27 : decode cX1_readSending 27 = .ok (.iconst 3, 1) := by decide +kernel
theorem dX1_readSending_28 : decode cX1_readSending 28 = .ok (.sipush 200, 3) := by decide +kernel
theorem dX1_readSending_31 : decode cX1_readSending 31 = .ok (.invokevirtual 67, 3) := by decide +kernel
theorem dX1_readSending_34 : decode cX1_readSending 34 = .ok (.putfield 51, 3) := by decide +kernel
theorem dX1_readSending_37 : decode cX1_readSending 37 = .ok (.return_, 1) := by decide +kernel
theorem dX1_readSign_0 : decode cX1_readSign 0 = .ok (.aload_n 0, 1) := by decide +kernel
theorem dX1_readSign_1 : decode cX1_readSign 1 = .ok (.getfield 18, 3) := by decide +kernel
theorem dX1_readSign_4 : decode cX1_readSign 4 = .ok (.iconst (-1), 1) := by decide +kernel
theorem dX1_readSign_5 : decode cX1_readSign 5 = .ok (.if_icmp .eq 4, 3) := by decide +kernel
theorem dX1_readSign_8 : decode cX1_readSign 8 = .ok (.return_, 1) := by decide +kernel
theorem dX1_readSign_9 : decode cX1_readSign 9 = .ok (.aload_n 0, 1) := by decide +kernel
theorem dX1_readSign_10 : decode cX1_readSign 10 = .ok (.getfield 12, 3) := by decide +kernel
theorem dX1_readSign_13 : decode cX1_readSign 13 = .ok (.aload_n 0, 1) := by decide +kernel
theorem dX1_readSign_14 : decode cX1_readSign 14 = .ok (.getfield 22, 3) := by decide +kernel
theorem dX1_readSign_17 : decode cX1_readSign 17 = .ok (.invokevirtual 38, 3) := by decide +kernel
theorem dX1_readSign_20 : decode cX1_readSign 20 = .ok (.iload_n 1, 1) := by decide +kernel
theorem dX1_readSign_21 : decode cX1_readSign 21 = .ok (.if_icmp .ne 16, 3) := by decide +kernel
theorem dX1_readSign_24 : decode cX1_readSign 24 = .ok (.aload_n 0, 1) := by decide +kernel
theorem dX1_readSign_25 : decode cX1_readSign 25 = .ok (.dup, 1) := by decide +kernel
theorem dX1_readSign_26 : decode cX1_readSign 26 = .ok (.getfield 22, 3) := by decide +kernel
theorem dX1_readSign_29 : decode cX1_readSign 29 = .ok (.iconst 1, 1) := by decide +kernel
theorem dX1_readSign_30 : decode cX1_readSign 30 = .ok (.iadd, 1) := by decide +kernel
theorem dX1_readSign_31 : decode cX1_readSign 31 = .ok (.putfield 22, 3) := by decide +kernel
theorem dX1_readSign_34 : decode cX1_readSign 34 = .ok (.goto 11, 3) := by decide +kernel
theorem dX1_readSign_37 : decode cX1_readSign 37 = .ok (.aload_n 0, 1) := by decide +kernel
theorem dX1_readSign_38 : decode cX1_readSign 38 = .ok (.aload_n 0, 1) := by decide +kernel
theorem dX1_readSign_39 : decode cX1_readSign 39 = .ok (.getfield 22, 3) := by decide +kernel
theorem dX1_readSign_42 : decode cX1_readSign 42 = .ok (.putfield 18, 3) := by decide +kernel
theorem dX1_readSign_45 : decode cX1_readSign 45 = .ok (.return_, 1) := by decide +kernel
theorem dX1_readDigit_0 : decode cX1_readDigit 0 = .ok (.aload_n 0, 1) := by decide +kernel
theorem dX1_readDigit_1 : decode cX1_readDigit 1 = .ok (.getfield 18, 3) := by decide +kernel
theorem dX1_readDigit_4 : decode cX1_readDigit 4 = .ok (.iconst (-1), 1) := by decide +kernel
theorem dX1_readDigit_5 : decode cX1_readDigit 5 = .ok (.if_icmp .eq 5, 3) := by decide +kernel
theorem dX1_readDigit_8 : decode cX1_readDigit 8 = .ok (.iconst 0, 1) := by decide +kernel
theorem dX1_readDigit_9 : decode cX1_readDigit 9 = .ok (.ireturn, 1) := by decide +kernel
theorem dX1_readDigit_10 : decode cX1_readDigit 10 = .ok (.aload_n 0, 1) := by decide +kernel
theorem dX1_readDigit_11 : decode cX1_readDigit 11 = .ok (.getfield 12, 3) := by decide +kernel
theorem dX1_readDigit_14 : decode cX1_readDigit 14 = .ok (.aload_n 0, 1) := by decide +kernel
theorem dX1_readDigit_15 : decode cX1_readDigit 15 = .ok (.getfield 22, 3) := by decide +kernel
theorem dX1_readDigit_18 : decode cX1_readDigit 18 = .ok (.invokevirtual 38, 3) := by decide +kernel
theorem dX1_readDigit_21 : decode cX1_readDigit 21 = .ok (.bipush 48, 2) := by decide +kernel
theorem dX1_readDigit_23 : decode cX1_readDigit 23 = .ok (.isub, 1) := by decide +kernel
theorem dX1_readDigit_24 : decode cX1_readDigit 24 = .ok (.istore_n 2, 1) := by decide +kernel
theorem dX1_readDigit_25 : decode cX1_readDigit 25 = .ok (.iload_n 2, 1) := by decide +kernel
theorem dX1_readDigit_26 : decode cX1_readDigit 26 = .ok (.ifCond .lt 8, 3) := by decide +kernel
theorem dX1_readDigit_29 : decode cX1_readDigit 29 = .ok (.iload_n 2, 1) := by decide +kernel
theorem dX1_readDigit_30 : decode cX1_readDigit 30 = .ok (.iload_n 1, 1) := by decide +kernel
theorem dX1_readDigit_31 : decode cX1_readDigit 31 = .ok (.if_icmp .le 13, 3) := by decide +kernel
theorem dX1_readDigit_34 : decode cX1_readDigit 34 = .ok (.aload_n 0, 1) := by decide +kernel
theorem dX1_readDigit_35 : decode cX1_readDigit 35 = .ok (.aload_n 0, 1) := by decide +kernel
theorem dX1_readDigit_36 : decode cX1_readDigit 36 = .ok (.getfield 22, 3) := by decide +kernel
theorem dX1_readDigit_39 : decode cX1_readDigit 39 = .ok (.putfield 18, 3) := by decide +kernel
theorem dX1_readDigit_42 : decode cX1_readDigit 42 = .ok (.iconst 0, 1) := by decide +kernel
theorem dX1_readDigit_43 : decode cX1_readDigit 43 = .ok (.ireturn, 1) := by decide +kernel
theorem dX1_readDigit_44 : decode cX1_readDigit 44 = .ok (.aload_n 0, 1) := by decide +kernel
theorem dX1_readDigit_45 : decode cX1_readDigit 45 = .ok (.dup, 1) := by decide +kernel
theorem dX1_readDigit_46 : decode cX1_readDigit 46 = .ok (.getfield 22, 3) := by decide +kernel
theorem dX1_readDigit_49 : decode cX1_readDigit 49 = .ok (.iconst 1, 1) := by decide +kernel
theorem dX1_readDigit_50 : decode cX1_readDigit 50 = .ok (.iadd, 1) := by decide +kernel
theorem dX1_readDigit_51 : decode cX1_readDigit 51 = .ok (.putfield 22, 3) := by decide +kernel
theorem dX1_readDigit_54 : decode cX1_readDigit 54 = .ok (.iload_n 2, 1) := by decide +kernel
theorem dX1_readDigit_55 : decode cX1_readDigit 55 = .ok (.ireturn, 1) := by decide +kernel
theorem dX1_readNumber_0 : decode cX1_readNumber 0 = .ok (.aload_n 0, 1) := by decide +kernel
theorem dX1_readNumber_1 : decode cX1_readNumber 1 = .ok (.getfield 18, 3) := by decide +kernel
theorem dX1_readNumber_4 : decode cX1_readNumber 4 = .ok (.iconst (-1), 1) := by decide +kernel
theorem dX1_readNumber_5 : decode cX1_readNumber 5 = .ok (.if_icmp .eq 5, 3) := by decide +kernel
theorem dX1_readNumber_8 : decode cX1_readNumber 8 = .ok (.iconst 0, 1) := by decide +kernel
theorem dX1_readNumber_9 : decode cX1_readNumber 9 = .ok (.ireturn, 1) := by decide +kernel
theorem dX1_readNumber_10 : decode cX1_readNumber 10 = .ok (.aload_n 0, 1) := by decide +kernel
theorem dX1_readNumber_11 : decode cX1_readNumber 11 = .ok (.getfield 22, 3) := by decide +kernel
theorem dX1_readNumber_14 : decode cX1_readNumber 14 = .ok (.istore_n 3, 1) := by decide +kernel
theorem dX1_readNumber_15 : decode cX1_readNumber 15 = .ok (.iconst 0, 1) := by decide +kernel
theorem dX1_readNumber_16 : decode cX1_readNumber 16 = .ok (.istore 4, 2) := by decide +kernel
theorem dX1_readNumber_18 : decode cX1_readNumber 18 = .ok (.iconst 0, 1) := by decide +kernel
theorem dX1_readNumber_19 : decode cX1_readNumber 19 = .ok (.istore 5, 2) := by decide +kernel
theorem dX1_readNumber_21 : decode cX1_readNumber 21 = .ok (.iload 5, 2) := by decide +kernel
theorem dX1_readNumber_23 : decode cX1_readNumber 23 = .ok (.iload_n 1, 1) := by decide +kernel
theorem dX1_readNumber_24 : decode cX1_readNumber 24 = .ok (.if_icmp .ge 48, 3) := by decide +kernel
theorem dX1_readNumber_27 : decode cX1_readNumber 27 = .ok (.aload_n 0, 1) := by decide +kernel
theorem dX1_readNumber_28 : decode cX1_readNumber 28 = .ok (.invokevirtual 74, 3) := by decide +kernel
theorem dX1_readNumber_31 : decode cX1_readNumber 31 = .ok (.ifCond .eq 41, 3) := by decide +kernel
theorem dX1_readNumber_34 : decode cX1_readNumber 34 = .ok (.iload 4, 2) := by decide +kernel
theorem dX1_readNumber_36 : decode cX1_readNumber 36 = .ok (.bipush 10, 2) := by decide +kernel
theorem dX1_readNumber_38 : decode cX1_readNumber 38 = .ok (.imul, 1) := by decide +kernel
theorem dX1_readNumber_39 : decode cX1_readNumber 39 = .ok (.aload_n 0, 1) := by decide +kernel
theorem dX1_readNumber_40 : decode cX1_readNumber 40 = .ok (.getfield 12, 3) := by decide +kernel
theorem dX1_readNumber_43 : decode cX1_readNumber 43 = .ok (.aload_n 0, 1) := by decide +kernel
theorem dX1_readNumber_44 : decode cX1_readNumber 44 = .ok (.getfield 22, 3) := by decide +kernel
theorem dX1_readNumber_47 : decode cX1_readNumber 47 = .ok (.invokevirtual 38, 3) := by decide +kernel
theorem dX1_readNumber_50 : decode cX1_readNumber 50 = .ok (.iadd, 1) := by decide +kernel
theorem dX1_readNumber_51 : decode cX1_readNumber 51 = .ok (.bipush 48, 2) := by decide +kernel
theorem dX1_readNumber_53 : decode cX1_readNumber 53 = .ok (.isub, 1) := by decide +kernel
theorem dX1_readNumber_54 : decode cX1_readNumber 54 = .ok (.istore 4, 2) := by decide +kernel
theorem dX1_readNumber_56 : decode cX1_readNumber 56 = .ok (.aload_n 0, 1) := by decide +kernel
theorem dX1_readNumber_57 : decode cX1_readNumber 57 = .ok (.dup, 1) := by decide +kernel
theorem dX1_readNumber_58 : decode cX1_readNumber 58 = .ok (.getfield 22, 3) := by decide +kernel
theorem dX1_readNumber_61 : decode cX1_readNumber 61 = .ok (.iconst 1, 1) := by decide +kernel
theorem dX1_readNumber_62 : decode cX1_readNumber 62 = .ok (.iadd, 1) := by decide +kernel
theorem dX1_readNumber_63 : decode cX1_readNumber 63 = .ok (.putfield 22, 3) := by decide +kernel
theorem dX1_readNumber_66 : decode cX1_readNumber 66 = .ok (.iinc 5 1, 3) := by decide +kernel
theorem dX1_readNumber_69 : decode cX1_readNumber 69 = .ok (.goto (-48), 3) := by decide +kernel
theorem dX1_readNumber_72 : decode cX1_readNumber 72 = .ok (.aload_n 0, 1) := by decide +kernel
theorem dX1_readNumber_73 : decode cX1_readNumber 73 = .ok (.getfield 22, 3) := by decide +kernel
theorem dX1_readNumber_76 : decode cX1_readNumber 76 = .ok (.iload_n 3, 1) := by decide +kernel
theorem dX1_readNumber_77 : decode cX1_readNumber 77 = .ok (.if_icmp .eq 10, 3) := by decide +kernel
theorem dX1_readNumber_80 : decode cX1_readNumber 80 = .ok (.aload_n 0, 1) := by decide +kernel
theorem dX1_readNumber_81 : decode cX1_readNumber 81 = .ok (.invokevirtual 74, 3) := by decide +kernel
theorem dX1_readNumber_84 : decode cX1_readNumber 84 = .ok (.ifCond .eq 14, 3) := by decide +kernel
theorem dX1_readNumber_87 : decode cX1_readNumber 87 = .ok (.aload_n 0, 1) := by decide +kernel
theorem dX1_readNumber_88 : decode cX1_readNumber 88 = .ok (.aload_n 0, 1) := by decide +kernel
theorem dX1_readNumber_89 : decode cX1_readNumber 89 = .ok (.getfield 22, 3) := by decide +kernel
theorem dX1_readNumber_92 : decode cX1_readNumber 92 = .ok (.putfield 18, 3) := by decide +kernel
theorem dX1_readNumber_95 : decode cX1_readNumber 95 = .ok (.goto 20, 3) := by decide +kernel
theorem dX1_readNumber_98 : decode cX1_readNumber 98 = .ok (.iload 4, 2) := by decide +kernel
theorem dX1_readNumber_100 : decode cX1_readNumber 100 = .ok (.iconst 1, 1) := by decide +kernel
theorem dX1_readNumber_101 : decode cX1_readNumber 101 = .ok (.if_icmp .lt 9, 3) := by decide +kernel
theorem dX1_readNumber_104 : decode cX1_readNumber 104 = .ok (.iload 4, 2) := by decide +kernel
theorem dX1_readNumber_106 : decode cX1_readNumber 106 = .ok (.iload_n 2, 1) := by decide +kernel
theorem dX1_readNumber_107 : decode cX1_readNumber 107 = .ok (.if_icmp .le 8, 3) := by decide +kernel
theorem dX1_readNumber_110 : decode cX1_readNumber 110 = .ok (.aload_n 0, 1) := by decide +kernel
theorem dX1_readNumber_111 : decode cX1_readNumber 111 = .ok (.iload_n 3, 1) := by decide +kernel
theorem dX1_readNumber_112 : decode cX1_readNumber 112 = .ok (.putfield 18, 3) := by decide +kernel
theorem dX1_readNumber_115 : decode cX1_readNumber 115 = .ok (.iload 4, 2) := by decide +kernel
theorem dX1_readNumber_117 : decode cX1_readNumber 117 = .ok (.ireturn, 1) := by decide +kernel
theorem dX1_isDigitNext_0 : decode cX1_isDigitNext 0 = .ok (.aload_n 0, 1) := by decide +kernel
theorem dX1_isDigitNext_1 : decode cX1_isDigitNext 1 = .ok (.getfield 12, 3) := by decide +kernel
theorem dX1_isDigitNext_4 : decode cX1_isDigitNext 4 = .ok (.aload_n 0, 1) := by decide +kernel
theorem dX1_isDigitNext_5 : decode cX1_isDigitNext 5 = .ok (.getfield 22, 3) := by decide +kernel
theorem dX1_isDigitNext_8 : decode cX1_isDigitNext 8 = .ok (.invokevirtual 38, 3) := by decide +kernel
theorem dX1_isDigitNext_11 : decode cX1_isDigitNext 11 = .ok (.istore_n 1, 1) := by decide +kernel
theorem dX1_isDigitNext_12 : decode cX1_isDigitNext 12 = .ok (.iload_n 1, 1) := by decide +kernel
theorem dX1_isDigitNext_13 : decode cX1_isDigitNext 13 = .ok (.bipush 48, 2) := by decide +kernel
theorem dX1_isDigitNext_15 : decode cX1_isDigitNext 15 = .ok (.if_icmp .lt 13, 3) := by decide +kernel
theorem dX1_isDigitNext_18 : decode cX1_isDigitNext 18 = .ok (.iload_n 1, 1) := by decide +kernel
theorem dX1_isDigitNext_19 : decode cX1_isDigitNext 19 = .ok (.bipush 57, 2) := by decide +kernel
theorem dX1_isDigitNext_21 : decode cX1_isDigitNext 21 = .ok (.if_icmp .gt 7, 3) := by decide +kernel
theorem dX1_isDigitNext_24 : decode cX1_isDigitNext 24 = .ok (.iconst 1, 1) := by decide +kernel
theorem dX1_isDigitNext_25 : decode cX1_isDigitNext 25 = .ok (.goto 4, 3) := by decide +kernel
theorem dX1_isDigitNext_28 : decode cX1_isDigitNext 28 = .ok (.iconst 0, 1) := by decide +kernel
theorem dX1_isDigitNext_29 : decode cX1_isDigitNext 29 = .ok (.ireturn, 1) := by decide +kernel
theorem dX2_init_0 : decode cX2_init 0 = .ok (.aload_n 0, 1) := by decide +kernel
theorem dX2_init_1 : decode cX2_init 1 = .ok (.invokespecial 3, 3) := by decide +kernel
theorem dX2_init_4 : decode cX2_init 4 = .ok (.aload_n 0, 1) := by decide +kernel
theorem dX2_init_5 : decode cX2_init 5 = .ok (.sipush 320, 3) := by decide +kernel
theorem dX2_init_8 : decode cX2_init 8 = .ok (.newarray .int, 2) := by decide +kernel
theorem dX2_init_10 : decode cX2_init 10 = .ok (.putfield 9, 3) := by decide +kernel
theorem dX2_init_13 : decode cX2_init 13 = .ok (.return_, 1) := by decide +kernel
theorem dX2_at_0 : decode cX2_at 0 = .ok (.iload_n 1, 1) := by decide +kernel
theorem dX2_at_1 : decode cX2_at 1 = .ok (.ifCond .lt 21, 3) := by decide +kernel
theorem dX2_at_4 : decode cX2_at 4 = .ok (.iload_n 1, 1) := by decide +kernel
theorem dX2_at_5 : decode cX2_at 5 = .ok (.aload_n 0, 1) := by decide +kernel
theorem dX2_at_6 : decode cX2_at 6 = .ok (.getfield 15, 3) := by decide +kernel
theorem dX2_at_9 : decode cX2_at 9 = .ok (.if_icmp .ge 13, 3) := by decide +kernel
theorem dX2_at_12 : decode cX2_at 12 = .ok (.iload_n 2, 1) := by decide +kernel
theorem dX2_at_13 : decode cX2_at 13 = .ok (.ifCond .lt 9, 3) := by decide +kernel
theorem dX2_at_16 : decode cX2_at 16 = .ok (.iload_n 2, 1) := by decide +kernel
theorem dX2_at_17 : decode cX2_at 17 = .ok (.bipush 8, 2) := by decide +kernel
theorem dX2_at_19 : decode cX2_at 19 = .ok (.if_icmp .lt 5, 3) := by decide +kernel
theorem dX2_at_22 : decode cX2_at 22 = .ok (.iconst (-1), 1) := by decide +kernel
theorem dX2_at_23 : decode cX2_at 23 = .ok (.ireturn, 1) := by decide +kernel
theorem dX2_at_24 : decode cX2_at 24 = .ok (.aload_n 0, 1) := by decide +kernel
theorem dX2_at_25 : decode cX2_at 25 = .ok (.getfield 9, 3) := by decide +kernel
theorem dX2_at_28 : decode cX2_at 28 = .ok (.iload_n 1, 1) := by decide +kernel
theorem dX2_at_29 : decode cX2_at 29 = .ok (.bipush 8, 2) := by decide +kernel
theorem dX2_at_31 : decode cX2_at 31 = .ok (.imul, 1) := by decide +kernel
theorem dX2_at_32 : decode cX2_at 32 = .ok (.iload_n 2, 1) := by decide +kernel
theorem dX2_at_33 : decode cX2_at 33 = .ok (.iadd, 1) := by decide +kernel
theorem dX2_at_34 : decode cX2_at 34 = .ok (.iaload, 1) := by decide +kernel
theorem dX2_at_35 : decode cX2_at 35 = .ok (.ireturn, 1) := by decide +kernel
theorem dX2_set_0 : decode cX2_set 0 = .ok (.iload_n 1, 1) := by decide +kernel
theorem dX2_set_1 : decode cX2_set 1 = .ok (.ifCond .lt 33, 3) := by decide +kernel
theorem dX2_set_4 : decode cX2_set 4 = .ok (.iload_n 1, 1) := by decide +kernel
theorem dX2_set_5 : decode cX2_set 5 = .ok (.aload_n 0, 1) := by decide +kernel
theorem dX2_set_6 : decode cX2_set 6 = .ok (.getfield 15, 3) := by decide +kernel
theorem dX2_set_9 : decode cX2_set 9 = .ok (.if_icmp .ge 25, 3) := by decide +kernel
theorem dX2_set_12 : decode cX2_set 12 = .ok (.iload_n 2, 1) := by decide +kernel
theorem dX2_set_13 : decode cX2_set 13 = .ok (.ifCond .lt 21, 3) := by decide +kernel
theorem dX2_set_16 : decode cX2_set 16 = .ok (.iload_n 2, 1) := by decide +kernel
theorem dX2_set_17 : decode cX2_set 17 = .ok (.bipush 8, 2) := by decide +kernel
theorem dX2_set_19 : decode cX2_set 19 = .ok (.if_icmp .ge 15, 3) := by decide +kernel
theorem dX2_set_22 : decode cX2_set 22 = .ok (.aload_n 0, 1) := by decide +kernel
theorem dX2_set_23 : decode cX2_set 23 = .ok (.getfield 9, 3) := by decide +kernel
theorem dX2_set_26 : decode cX2_set 26 = .ok (.iload_n 1, 1) := by decide +kernel
theorem dX2_set_27 : decode cX2_set 27 = .ok (.bipush 8, 2) := by decide +kernel
theorem dX2_set_29 : decode cX2_set 29 = .ok (.imul, 1) := by decide +kernel
theorem dX2_set_30 : decode cX2_set 30 = .ok (.iload_n 2, 1) := by decide +kernel
theorem dX2_set_31 : decode cX2_set 31 = .ok (.iadd, 1) := by decide +kernel
theorem dX2_set_32 : decode cX2_set 32 = .ok (.iload_n 3, 1) := by decide +kernel
theorem dX2_set_33 : decode cX2_set 33 = .ok (.iastore, 1) := by decide +kernel
theorem dX2_set_34 : decode cX2_set 34 = .ok (.return_, 1) := by decide +kernel
theorem dX2_addRow_0 : decode cX2_addRow 0 = .ok (.aload_n 0, 1) := by decide +kernel
theorem dX2_addRow_1 : decode cX2_addRow 1 = .ok (.getfield 15, 3) := by decide +kernel
theorem dX2_addRow_4 : decode cX2_addRow 4 = .ok (.bipush 40, 2) := by decide +kernel
theorem dX2_addRow_6 : decode cX2_addRow 6 = .ok (.if_icmp .lt 5, 3) := by decide +kernel
theorem dX2_addRow_9 : decode cX2_addRow 9 = .ok (.iconst (-1), 1) := by decide +kernel
theorem dX2_addRow_10 : decode cX2_addRow 10 = .ok (.ireturn, 1) := by decide +kernel
theorem dX2_addRow_11 : decode cX2_addRow 11 = .ok (.aload_n 0, 1) := by decide +kernel
theorem dX2_addRow_12 : decode cX2_addRow 12 = .ok (.getfield 15, 3) := by decide +kernel
theorem dX2_addRow_15 : decode cX2_addRow 15 = .ok (.istore_n 1, 1) := by decide +kernel
theorem dX2_addRow_16 : decode cX2_addRow 16 = .ok (.aload_n 0, 1) := by decide +kernel
theorem dX2_addRow_17 : decode cX2_addRow 17 = .ok (.dup, 1) := by decide +kernel
theorem dX2_addRow_18 : decode cX2_addRow 18 = .ok (.getfield 15, 3) := by decide +kernel
theorem dX2_addRow_21 : decode cX2_addRow 21 = .ok (.iconst 1, 1) := by decide +kernel
theorem dX2_addRow_22 : decode cX2_addRow 22 = .ok (.iadd, 1) := by decide +kernel
theorem dX2_addRow_23 : decode cX2_addRow 23 = .ok (.putfield 15, 3) := by decide +kernel
theorem dX2_addRow_26 : decode cX2_addRow 26 = .ok (.iconst 0, 1) := by decide +kernel
theorem dX2_addRow_27 : decode cX2_addRow 27 = .ok (.istore_n 2, 1) := by decide +kernel
theorem dX2_addRow_28 : decode cX2_addRow 28 = .ok (.iload_n 2, 1) := by decide +kernel
theorem dX2_addRow_29 : decode cX2_addRow 29 = .ok (.bipush 8, 2) := by decide +kernel
theorem dX2_addRow_31 : decode cX2_addRow 31 = .ok (.if_icmp .ge 16, 3) := by decide +kernel
theorem dX2_addRow_34 : decode cX2_addRow 34 = .ok (.aload_n 0, 1) := by decide +kernel
theorem dX2_addRow_35 : decode cX2_addRow 35 = .ok (.iload_n 1, 1) := by decide +kernel
theorem dX2_addRow_36 : decode cX2_addRow 36 = .ok (.iload_n 2, 1) := by decide +kernel
theorem dX2_addRow_37 : decode cX2_addRow 37 = .ok (.iconst 0, 1) := by decide +kernel
theorem dX2_addRow_38 : decode cX2_addRow 38 = .ok (.invokevirtual 19, 3) := by decide +kernel
theorem dX2_addRow_41 : decode cX2_addRow 41 = .ok (.iinc 2 1, 3) := by decide +kernel
theorem dX2_addRow_44 : decode cX2_addRow 44 = .ok (.goto (-16), 3) := by decide +kernel
theorem dX2_addRow_47 : decode cX2_addRow 47 = .ok (.iload_n 1, 1) := by decide +kernel
theorem dX2_addRow_48 : decode cX2_addRow 48 = .ok (.ireturn, 1) := by decide +kernel
theorem dX2_removeRow_0 : decode cX2_removeRow 0 = .ok (.iload_n 1, 1) := by decide +kernel
theorem dX2_removeRow_1 : decode cX2_removeRow 1 = .ok (.ifCond .lt 11, 3) := by decide +kernel
theorem dX2_removeRow_4 : decode cX2_removeRow 4 = .ok (.iload_n 1, 1) := by decide +kernel
theorem dX2_removeRow_5 : decode cX2_removeRow 5 = .ok (.aload_n 0, 1) := by decide +kernel
theorem dX2_removeRow_6 : decode cX2_removeRow 6 = .ok (.getfield 15, 3) := by decide +kernel
theorem dX2_removeRow_9 : decode cX2_removeRow 9 = .ok (.if_icmp .lt 4, 3) := by decide +kernel
theorem dX2_removeRow_12 : decode cX2_removeRow 12 = .ok (.return_, 1) := by decide +kernel
theorem dX2_removeRow_13 : decode cX2_removeRow 13 = .ok (.iload_n 1, 1) := by decide +kernel
theorem dX2_removeRow_14 : decode cX2_removeRow 14 = .ok (.iconst 1, 1) := by decide +kernel
theorem dX2_removeRow_15 : decode cX2_removeRow 15 = .ok (.iadd, 1) := by decide +kernel
theorem dX2_removeRow_16 : decode cX2_removeRow 16 = .ok (.bipush 8, 2) := by decide +kernel
theorem dX2_removeRow_18 : decode cX2_removeRow 18 = .ok (.imul, 1) := by decide +kernel
theorem dX2_removeRow_19 : decode cX2_removeRow 19 = .ok (.istore_n 2, 1) := by decide +kernel
theorem dX2_removeRow_20 : decode cX2_removeRow 20 = .ok (.aload_n 0, 1) := by decide +kernel
theorem dX2_removeRow_21 : decode cX2_removeRow 21 = .ok (.getfield 15, 3) := by decide +kernel
theorem dX2_removeRow_24 : decode cX2_removeRow 24 = .ok (.bipush 8, 2) := by decide +kernel
theorem dX2_removeRow_26 : decode cX2_removeRow 26 = .ok (.imul, 1) := by decide +kernel
theorem dX2_removeRow_27 : decode cX2_removeRow 27 = .ok (.iload_n 2, 1) := by decide +kernel
theorem dX2_removeRow_28 : decode cX2_removeRow 28 = .ok (.isub, 1) := by decide +kernel
theorem dX2_removeRow_29 : decode cX2_removeRow 29 = .ok (.istore_n 3, 1) := by decide +kernel
theorem dX2_removeRow_30 : decode cX2_removeRow 30 = .ok (.aload_n 0, 1) := by decide +kernel
theorem dX2_removeRow_31 : decode cX2_removeRow 31 = .ok (.getfield 9, 3) := by decide +kernel
theorem dX2_removeRow_34 : decode cX2_removeRow 34 = .ok (.iload_n 2, 1) := by decide +kernel
theorem dX2_removeRow_35 : decode cX2_removeRow 35 = .ok (.aload_n 0, 1) := by decide +kernel
theorem dX2_removeRow_36 : decode cX2_removeRow 36 = .ok (.getfield 9, 3) := by decide +kernel
theorem dX2_removeRow_39 : decode cX2_removeRow 39 = .ok (.iload_n 1, 1) := by decide +kernel
theorem dX2_removeRow_40 : decode cX2_removeRow 40 = .ok (.bipush 8, 2) := by decide +kernel
theorem dX2_removeRow_42 : decode cX2_removeRow 42 = .ok (.imul, 1) := by decide +kernel
theorem dX2_removeRow_43 : decode cX2_removeRow 43 = .ok (.iload_n 3, 1) := by decide +kernel
theorem dX2_removeRow_44 : decode cX2_removeRow 44 = .ok (.invokestatic 23, 3) := by decide +kernel
theorem dX2_removeRow_47 : decode cX2_removeRow 47 = .ok (.aload_n 0, 1) := by decide +kernel
theorem dX2_removeRow_48 : decode cX2_removeRow 48 = .ok (.dup, 1) := by decide +kernel
theorem dX2_removeRow_49 : decode cX2_removeRow 49 = .ok (.getfield 15, 3) := by decide +kernel
theorem dX2_removeRow_52 : decode cX2_removeRow 52 = .ok (.iconst 1, 1) := by decide +kernel
theorem dX2_removeRow_53 : decode cX2_removeRow 53 = .ok (.isub, 1) := by decide +kernel
theorem dX2_removeRow_54 : decode cX2_removeRow 54 = .ok (.putfield 15, 3) := by decide +kernel
theorem dX2_removeRow_57 : decode cX2_removeRow 57 = .ok (.return_, 1) := by decide +kernel
theorem dX2_rowOf_0 : decode cX2_rowOf 0 = .ok (.iconst 0, 1) := by decide +kernel
theorem dX2_rowOf_1 : decode cX2_rowOf 1 = .ok (.istore_n 2, 1) := by decide +kernel
theorem dX2_rowOf_2 : decode cX2_rowOf 2 = .ok (.iload_n 2, 1) := by decide +kernel
theorem dX2_rowOf_3 : decode cX2_rowOf 3 = .ok (.aload_n 0, 1) := by decide +kernel
theorem dX2_rowOf_4 : decode cX2_rowOf 4 = .ok (.getfield 15, 3) := by decide +kernel
theorem dX2_rowOf_7 : decode cX2_rowOf 7 = .ok (.if_icmp .ge 22, 3) := by decide +kernel
theorem dX2_rowOf_10 : decode cX2_rowOf 10 = .ok (.aload_n 0, 1) := by decide +kernel
theorem dX2_rowOf_11 : decode cX2_rowOf 11 = .ok (.iload_n 2, 1) := by decide +kernel
theorem dX2_rowOf_12 : decode cX2_rowOf 12 = .ok (.bipush 7, 2) := by decide +kernel
theorem dX2_rowOf_14 : decode cX2_rowOf 14 = .ok (.invokevirtual 29, 3) := by decide +kernel
theorem dX2_rowOf_17 : decode cX2_rowOf 17 = .ok (.iload_n 1, 1) := by decide +kernel
theorem dX2_rowOf_18 : decode cX2_rowOf 18 = .ok (.if_icmp .ne 5, 3) := by decide +kernel
theorem dX2_rowOf_21 : decode cX2_rowOf 21 = .ok (.iload_n 2, 1) := by decide +kernel
theorem dX2_rowOf_22 : decode cX2_rowOf 22 = .ok (.ireturn, 1) := by decide +kernel
theorem dX2_rowOf_23 : decode cX2_rowOf 23 = .ok (.iinc 2 1, 3) := by decide +kernel
theorem dX2_rowOf_26 : decode cX2_rowOf 26 = .ok (.goto (-24), 3) := by decide +kernel
theorem dX2_rowOf_29 : decode cX2_rowOf 29 = .ok (.iconst (-1), 1) := by decide +kernel
theorem dX2_rowOf_30 : decode cX2_rowOf 30 = .ok (.ireturn, 1) := by decide +kernel
theorem dX2_tell_0 : decode cX2_tell 0 = .ok (.iload_n 2, 1) := by decide +kernel
theorem dX2_tell_1 : decode cX2_tell 1 = .ok (.tableswitch 53 7 9 #[27, 41, 47], 27) := by decide +kernel
theorem dX2_tell_28 : decode cX2_tell 28 = .ok (.aload_n 0, 1) := by decide +kernel
theorem dX2_tell_29 : decode cX2_tell 29 = .ok (.iload_n 1, 1) := by decide +kernel
theorem dX2_tell_30 : decode cX2_tell 30 = .ok (.iconst 5, 1) := by decide +kernel
theorem dX2_tell_31 : decode cX2_tell 31 = .ok (.invokevirtual 29, 3) := by decide +kernel
theorem dX2_tell_34 : decode cX2_tell 34 = .ok (.aload_n 0, 1) := by decide +kernel
theorem dX2_tell_35 : decode cX2_tell 35 = .ok (.iload_n 1, 1) := by decide +kernel
theorem dX2_tell_36 : decode cX2_tell 36 = .ok (.iconst 3, 1) := by decide +kernel
theorem dX2_tell_37 : decode cX2_tell 37 = .ok (.invokevirtual 29, 3) := by decide +kernel
theorem dX2_tell_40 : decode cX2_tell 40 = .ok (.isub, 1) := by decide +kernel
theorem dX2_tell_41 : decode cX2_tell 41 = .ok (.ireturn, 1) := by decide +kernel
theorem dX2_tell_42 : decode cX2_tell 42 = .ok (.aload_n 0, 1) := by decide +kernel
theorem dX2_tell_43 : decode cX2_tell 43 = .ok (.iload_n 1, 1) := by decide +kernel
theorem dX2_tell_44 : decode cX2_tell 44 = .ok (.invokevirtual 33, 3) := by decide +kernel
theorem dX2_tell_47 : decode cX2_tell 47 = .ok (.ireturn, 1) := by decide +kernel
theorem dX2_tell_48 : decode cX2_tell 48 = .ok (.aload_n 0, 1) := by decide +kernel
theorem dX2_tell_49 : decode cX2_tell 49 = .ok (.iload_n 1, 1) := by decide +kernel
theorem dX2_tell_50 : decode cX2_tell 50 = .ok (.invokevirtual 37, 3) := by decide +kernel
theorem dX2_tell_53 : decode cX2_tell 53 = .ok (.ireturn, 1) := by decide +kernel
theorem dX2_tell_54 : decode cX2_tell 54 = .ok (.aload_n 0, 1) := by decide +kernel
theorem dX2_tell_55 : decode cX2_tell 55 = .ok (.iload_n 1, 1) := by decide +kernel
theorem dX2_tell_56 : decode cX2_tell 56 = .ok (.iload_n 2, 1) := by decide +kernel
theorem dX2_tell_57 : decode cX2_tell 57 = .ok (.invokevirtual 29, 3) := by decide +kernel
theorem dX2_tell_60 : decode cX2_tell 60 = .ok (.ireturn, 1) := by decide +kernel
theorem dX2_kindOf_0 : decode cX2_kindOf 0 = .ok (.aload_n 0, 1) := by decide +kernel
theorem dX2_kindOf_1 : decode cX2_kindOf 1 = .ok (.iload_n 1, 1) := by decide +kernel
theorem dX2_kindOf_2 : decode cX2_kindOf 2 = .ok (.iconst 1, 1) := by decide +kernel
theorem dX2_kindOf_3 : decode cX2_kindOf 3 = .ok (.invokevirtual 29, 3) := by decide +kernel
theorem dX2_kindOf_6 : decode cX2_kindOf 6 = .ok (.iconst (-1), 1) := by decide +kernel
theorem dX2_kindOf_7 : decode cX2_kindOf 7 = .ok (.if_icmp .eq 5, 3) := by decide +kernel
theorem dX2_kindOf_10 : decode cX2_kindOf 10 = .ok (.iconst 2, 1) := by decide +kernel
theorem dX2_kindOf_11 : decode cX2_kindOf 11 = .ok (.ireturn, 1) := by decide +kernel
theorem dX2_kindOf_12 : decode cX2_kindOf 12 = .ok (.aload_n 0, 1) := by decide +kernel
theorem dX2_kindOf_13 : decode cX2_kindOf 13 = .ok (.iload_n 1, 1) := by decide +kernel
theorem dX2_kindOf_14 : decode cX2_kindOf 14 = .ok (.bipush 6, 2) := by decide +kernel
theorem dX2_kindOf_16 : decode cX2_kindOf 16 = .ok (.invokevirtual 29, 3) := by decide +kernel
theorem dX2_kindOf_19 : decode cX2_kindOf 19 = .ok (.ifCond .le 7, 3) := by decide +kernel
theorem dX2_kindOf_22 : decode cX2_kindOf 22 = .ok (.iconst 1, 1) := by decide +kernel
theorem dX2_kindOf_23 : decode cX2_kindOf 23 = .ok (.goto 4, 3) := by decide +kernel
theorem dX2_kindOf_26 : decode cX2_kindOf 26 = .ok (.iconst 0, 1) := by decide +kernel
theorem dX2_kindOf_27 : decode cX2_kindOf 27 = .ok (.ireturn, 1) := by decide +kernel
theorem dX2_isBefore_0 : decode cX2_isBefore 0 = .ok (.aload_n 0, 1) := by decide +kernel
theorem dX2_isBefore_1 : decode cX2_isBefore 1 = .ok (.iload_n 1, 1) := by decide +kernel
theorem dX2_isBefore_2 : decode cX2_isBefore 2 = .ok (.iconst 2, 1) := by decide +kernel
theorem dX2_isBefore_3 : decode cX2_isBefore 3 = .ok (.invokevirtual 29, 3) := by decide +kernel
theorem dX2_isBefore_6 : decode cX2_isBefore 6 = .ok (.istore_n 3, 1) := by decide +kernel
theorem dX2_isBefore_7 : decode cX2_isBefore 7 = .ok (.aload_n 0, 1) := by decide +kernel
theorem dX2_isBefore_8 : decode cX2_isBefore 8 = .ok (.iload_n 2, 1) := by decide +kernel
theorem dX2_isBefore_9 : decode cX2_isBefore 9 = .ok (.iconst 2, 1) := by decide +kernel
theorem dX2_isBefore_10 : decode cX2_isBefore 10 = .ok (.invokevirtual 29, 3) := by decide +kernel
theorem dX2_isBefore_13 : decode cX2_isBefore 13 = .ok (.istore 4, 2) := by decide +kernel
theorem dX2_isBefore_15 : decode cX2_isBefore 15 = .ok (.iload_n 3, 1) := by decide +kernel
theorem dX2_isBefore_16 : decode cX2_isBefore 16 = .ok (.iload 4, 2) := by decide +kernel
theorem dX2_isBefore_18 : decode cX2_isBefore 18 = .ok (.if_icmp .eq 15, 3) := by decide +kernel
theorem dX2_isBefore_21 : decode cX2_isBefore 21 = .ok (.iload_n 3, 1) := by decide +kernel
theorem dX2_isBefore_22 : decode cX2_isBefore 22 = .ok (.iload 4, 2) := by decide +kernel
theorem dX2_isBefore_24 : decode cX2_isBefore 24 = .ok (.if_icmp .le 7, 3) := by decide +kernel
theorem dX2_isBefore_27 : decode cX2_isBefore 27 = .ok (.iconst 1, 1) := by decide +kernel
theorem dX2_isBefore_28 : decode cX2_isBefore 28 = .ok (.goto 4, 3) := by decide +kernel
theorem dX2_isBefore_31 : decode cX2_isBefore 31 = .ok (.iconst 0, 1) := by decide +kernel
theorem dX2_isBefore_32 : decode cX2_isBefore 32 = .ok (.ireturn, 1) := by decide +kernel
theorem dX2_isBefore_33 : decode cX2_isBefore 33 = .ok (.aload_n 0, 1) := by decide +kernel
theorem dX2_isBefore_34 : decode cX2_isBefore 34 = .ok (.iload_n 1, 1) := by decide +kernel
theorem dX2_isBefore_35 : decode cX2_isBefore 35 = .ok (.iconst 3, 1) := by decide +kernel
theorem dX2_isBefore_36 : decode cX2_isBefore 36 = .ok (.invokevirtual 29, 3) := by decide +kernel
theorem dX2_isBefore_39 : decode cX2_isBefore 39 = .ok (.istore 5, 2) := by decide +kernel
theorem dX2_isBefore_41 : decode cX2_isBefore 41 = .ok (.aload_n 0, 1) := by decide +kernel
theorem dX2_isBefore_42 : decode cX2_isBefore 42 = .ok (.iload_n 2, 1) := by decide +kernel
theorem dX2_isBefore_43 : decode cX2_isBefore 43 = .ok (.iconst 3, 1) := by decide +kernel
theorem dX2_isBefore_44 : decode cX2_isBefore 44 = .ok (.invokevirtual 29, 3) := by decide +kernel
theorem dX2_isBefore_47 : decode cX2_isBefore 47 = .ok (.istore 6, 2) := by decide +kernel
theorem dX2_isBefore_49 : decode cX2_isBefore 49 = .ok (.iload 5, 2) := by decide +kernel
theorem dX2_isBefore_51 : decode cX2_isBefore 51 = .ok (.iload 6, 2) := by decide +kernel
theorem dX2_isBefore_53 : decode cX2_isBefore 53 = .ok (.if_icmp .eq 16, 3) := by decide +kernel
theorem dX2_isBefore_56 : decode cX2_isBefore 56 = .ok (.iload 5, 2) := by decide +kernel
theorem dX2_isBefore_58 : decode cX2_isBefore 58 = .ok (.iload 6, 2) := by decide +kernel
theorem dX2_isBefore_60 : decode cX2_isBefore 60 = .ok (.if_icmp .le 7, 3) := by decide +kernel
theorem dX2_isBefore_63 : decode cX2_isBefore 63 = .ok (.iconst 1, 1) := by decide +kernel
theorem dX2_isBefore_64 : decode cX2_isBefore 64 = .ok (.goto 4, 3) := by decide +kernel
theorem dX2_isBefore_67 : decode cX2_isBefore 67 = .ok (.iconst 0, 1) := by decide +kernel
theorem dX2_isBefore_68 : decode cX2_isBefore 68 = .ok (.ireturn, 1) := by decide +kernel
theorem dX2_isBefore_69 : decode cX2_isBefore 69 = .ok (.aload_n 0, 1) := by decide +kernel
theorem dX2_isBefore_70 : decode cX2_isBefore 70 = .ok (.iload_n 1, 1) := by decide +kernel
theorem dX2_isBefore_71 : decode cX2_isBefore 71 = .ok (.bipush 7, 2) := by decide +kernel
theorem dX2_isBefore_73 : decode cX2_isBefore 73 = .ok (.invokevirtual 29, 3) := by decide +kernel
theorem dX2_isBefore_76 : decode cX2_isBefore 76 = .ok (.aload_n 0, 1) := by decide +kernel
theorem dX2_isBefore_77 : decode cX2_isBefore 77 = .ok (.iload_n 2, 1) := by decide +kernel
theorem dX2_isBefore_78 : decode cX2_isBefore 78 = .ok (.bipush 7, 2) := by decide +kernel
theorem dX2_isBefore_80 : decode cX2_isBefore 80 = .ok (.invokevirtual 29, 3) := by decide +kernel
theorem dX2_isBefore_83 : decode cX2_isBefore 83 = .ok (.if_icmp .ge 7, 3) := by decide +kernel
theorem dX2_isBefore_86 : decode cX2_isBefore 86 = .ok (.iconst 1, 1) := by decide +kernel
theorem dX2_isBefore_87 : decode cX2_isBefore 87 = .ok (.goto 4, 3) := by decide +kernel
theorem dX2_isBefore_90 : decode cX2_isBefore 90 = .ok (.iconst 0, 1) := by decide +kernel
theorem dX2_isBefore_91 : decode cX2_isBefore 91 = .ok (.ireturn, 1) := by decide +kernel
theorem dX2_countBefore_0 : decode cX2_countBefore 0 = .ok (.iconst 0, 1) := by decide +kernel
theorem dX2_countBefore_1 : decode cX2_countBefore 1 = .ok (.istore_n 2, 1) := by decide +kernel
theorem dX2_countBefore_2 : decode cX2_countBefore 2 = .ok (.iconst 0, 1) := by decide +kernel
theorem dX2_countBefore_3 : decode cX2_countBefore 3 = .ok (.istore_n 3, 1) := by decide +kernel
theorem dX2_countBefore_4 : decode cX2_countBefore 4 = .ok (.iload_n 3, 1) := by decide +kernel
theorem dX2_countBefore_5 : decode cX2_countBefore 5 = .ok (.aload_n 0, 1) := by decide +kernel
theorem dX2_countBefore_6 : decode cX2_countBefore 6 = .ok (.getfield 15, 3) := by decide +kernel
theorem dX2_countBefore_9 : decode cX2_countBefore 9 = .ok (.if_icmp .ge 21, 3) := by decide +kernel
theorem dX2_countBefore_12 : decode cX2_countBefore 12 = .ok (.aload_n 0, 1) := by decide +kernel
theorem dX2_countBefore_13 : decode cX2_countBefore 13 = .ok (.iload_n 3, 1) := by decide +kernel
theorem dX2_countBefore_14 : decode cX2_countBefore 14 = .ok (.iload_n 1, 1) := by decide +kernel
theorem dX2_countBefore_15 : decode cX2_countBefore 15 = .ok (.invokevirtual 40, 3) := by decide +kernel
theorem dX2_countBefore_18 : decode cX2_countBefore 18 = .ok (.ifCond .eq 6, 3) := by decide +kernel
theorem dX2_countBefore_21 : decode cX2_countBefore 21 = .ok (.iinc 2 1, 3) := by decide +kernel
theorem dX2_countBefore_24 : decode cX2_countBefore 24 = .ok (.iinc 3 1, 3) := by decide +kernel
theorem dX2_countBefore_27 : decode cX2_countBefore 27 = .ok (.goto (-23), 3) := by decide +kernel
theorem dX2_countBefore_30 : decode cX2_countBefore 30 = .ok (.iload_n 2, 1) := by decide +kernel
theorem dX2_countBefore_31 : decode cX2_countBefore 31 = .ok (.ireturn, 1) := by decide +kernel
theorem dX2_firstRow_0 : decode cX2_firstRow 0 = .ok (.iconst (-1), 1) := by decide +kernel
theorem dX2_firstRow_1 : decode cX2_firstRow 1 = .ok (.istore_n 1, 1) := by decide +kernel
theorem dX2_firstRow_2 : decode cX2_firstRow 2 = .ok (.iconst 0, 1) := by decide +kernel
theorem dX2_firstRow_3 : decode cX2_firstRow 3 = .ok (.istore_n 2, 1) := by decide +kernel
theorem dX2_firstRow_4 : decode cX2_firstRow 4 = .ok (.iload_n 2, 1) := by decide +kernel
theorem dX2_firstRow_5 : decode cX2_firstRow 5 = .ok (.aload_n 0, 1) := by decide +kernel
theorem dX2_firstRow_6 : decode cX2_firstRow 6 = .ok (.getfield 15, 3) := by decide +kernel
theorem dX2_firstRow_9 : decode cX2_firstRow 9 = .ok (.if_icmp .ge 25, 3) := by decide +kernel
theorem dX2_firstRow_12 : decode cX2_firstRow 12 = .ok (.iload_n 1, 1) := by decide +kernel
theorem dX2_firstRow_13 : decode cX2_firstRow 13 = .ok (.iconst (-1), 1) := by decide +kernel
theorem dX2_firstRow_14 : decode cX2_firstRow 14 = .ok (.if_icmp .eq 12, 3) := by decide +kernel
theorem dX2_firstRow_17 : decode cX2_firstRow 17 = .ok (.aload_n 0, 1) := by decide +kernel
theorem dX2_firstRow_18 : decode cX2_firstRow 18 = .ok (.iload_n 2, 1) := by decide +kernel
theorem dX2_firstRow_19 : decode cX2_firstRow 19 = .ok (.iload_n 1, 1) := by decide +kernel
theorem dX2_firstRow_20 : decode cX2_firstRow 20 = .ok (.invokevirtual 40, 3) := by decide +kernel
theorem dX2_firstRow_23 : decode cX2_firstRow 23 = .ok (.ifCond .eq 5, 3) := by decide +kernel
theorem dX2_firstRow_26 : decode cX2_firstRow 26 = .ok (.iload_n 2, 1) := by decide +kernel
theorem dX2_firstRow_27 : decode cX2_firstRow 27 = .ok (.istore_n 1, 1) := by decide +kernel
theorem dX2_firstRow_28 : decode cX2_firstRow 28 = .ok (.iinc 2 1, 3) := by decide +kernel
theorem dX2_firstRow_31 : decode cX2_firstRow 31 = .ok (.goto (-27), 3) := by decide +kernel
theorem dX2_firstRow_34 : decode cX2_firstRow 34 = .ok (.iload_n 1, 1) := by decide +kernel
theorem dX2_firstRow_35 : decode cX2_firstRow 35 = .ok (.ireturn, 1) := by decide +kernel
theorem dX2_arrange_0 : decode cX2_arrange 0 = .ok (.iconst 0, 1) := by decide +kernel
theorem dX2_arrange_1 : decode cX2_arrange 1 = .ok (.istore_n 2, 1) := by decide +kernel
theorem dX2_arrange_2 : decode cX2_arrange 2 = .ok (.iload_n 2, 1) := by decide +kernel
theorem dX2_arrange_3 : decode cX2_arrange 3 = .ok (.aload_n 0, 1) := by decide +kernel
theorem dX2_arrange_4 : decode cX2_arrange 4 = .ok (.getfield 15, 3) := by decide +kernel
theorem dX2_arrange_7 : decode cX2_arrange 7 = .ok (.if_icmp .ge 25, 3) := by decide +kernel
theorem dX2_arrange_10 : decode cX2_arrange 10 = .ok (.aload_n 0, 1) := by decide +kernel
theorem dX2_arrange_11 : decode cX2_arrange 11 = .ok (.iload_n 2, 1) := by decide +kernel
theorem dX2_arrange_12 : decode cX2_arrange 12 = .ok (.invokevirtual 33, 3) := by decide +kernel
theorem dX2_arrange_15 : decode cX2_arrange 15 = .ok (.istore_n 3, 1) := by decide +kernel
theorem dX2_arrange_16 : decode cX2_arrange 16 = .ok (.iload_n 3, 1) := by decide +kernel
theorem dX2_arrange_17 : decode cX2_arrange 17 = .ok (.aload_n 1, 1) := by decide +kernel
theorem dX2_arrange_18 : decode cX2_arrange 18 = .ok (.arraylength, 1) := by decide +kernel
theorem dX2_arrange_19 : decode cX2_arrange 19 = .ok (.if_icmp .ge 7, 3) := by decide +kernel
theorem dX2_arrange_22 : decode cX2_arrange 22 = .ok (.aload_n 1, 1) := by decide +kernel
theorem dX2_arrange_23 : decode cX2_arrange 23 = .ok (.iload_n 3, 1) := by decide +kernel
theorem dX2_arrange_24 : decode cX2_arrange 24 = .ok (.iload_n 2, 1) := by decide +kernel
theorem dX2_arrange_25 : decode cX2_arrange 25 = .ok (.iastore, 1) := by decide +kernel
theorem dX2_arrange_26 : decode cX2_arrange 26 = .ok (.iinc 2 1, 3) := by decide +kernel
theorem dX2_arrange_29 : decode cX2_arrange 29 = .ok (.goto (-27), 3) := by decide +kernel
theorem dX2_arrange_32 : decode cX2_arrange 32 = .ok (.return_, 1) := by decide +kernel
theorem dX2_countOfSender_0 : decode cX2_countOfSender 0 = .ok (.iconst 0, 1) := by decide +kernel
theorem dX2_countOfSender_1 : decode cX2_countOfSender 1 = .ok (.istore_n 2, 1) := by decide +kernel
theorem dX2_countOfSender_2 : decode cX2_countOfSender 2 = .ok (.iconst 0, 1) := by decide +kernel
theorem dX2_countOfSender_3 : decode cX2_countOfSender 3 = .ok (.istore_n 3, 1) := by decide +kernel
theorem dX2_countOfSender_4 : decode cX2_countOfSender 4 = .ok (.iload_n 3, 1) := by decide +kernel
theorem dX2_countOfSender_5 : decode cX2_countOfSender 5 = .ok (.aload_n 0, 1) := by decide +kernel
theorem dX2_countOfSender_6 : decode cX2_countOfSender 6 = .ok (.getfield 15, 3) := by decide +kernel
theorem dX2_countOfSender_9 : decode cX2_countOfSender 9 = .ok (.if_icmp .ge 32, 3) := by decide +kernel
theorem dX2_countOfSender_12 : decode cX2_countOfSender 12 = .ok (.aload_n 0, 1) := by decide +kernel
theorem dX2_countOfSender_13 : decode cX2_countOfSender 13 = .ok (.iload_n 3, 1) := by decide +kernel
theorem dX2_countOfSender_14 : decode cX2_countOfSender 14 = .ok (.iconst 0, 1) := by decide +kernel
theorem dX2_countOfSender_15 : decode cX2_countOfSender 15 = .ok (.invokevirtual 29, 3) := by decide +kernel
theorem dX2_countOfSender_18 : decode cX2_countOfSender 18 = .ok (.iload_n 1, 1) := by decide +kernel
theorem dX2_countOfSender_19 : decode cX2_countOfSender 19 = .ok (.if_icmp .eq 13, 3) := by decide +kernel
theorem dX2_countOfSender_22 : decode cX2_countOfSender 22 = .ok (.aload_n 0, 1) := by decide +kernel
theorem dX2_countOfSender_23 : decode cX2_countOfSender 23 = .ok (.iload_n 3, 1) := by decide +kernel
theorem dX2_countOfSender_24 : decode cX2_countOfSender 24 = .ok (.iconst 1, 1) := by decide +kernel
theorem dX2_countOfSender_25 : decode cX2_countOfSender 25 = .ok (.invokevirtual 29, 3) := by decide +kernel
theorem dX2_countOfSender_28 : decode cX2_countOfSender 28 = .ok (.iload_n 1, 1) := by decide +kernel
theorem dX2_countOfSender_29 : decode cX2_countOfSender 29 = .ok (.if_icmp .ne 6, 3) := by decide +kernel
theorem dX2_countOfSender_32 : decode cX2_countOfSender 32 = .ok (.iinc 2 1, 3) := by decide +kernel
theorem dX2_countOfSender_35 : decode cX2_countOfSender 35 = .ok (.iinc 3 1, 3) := by decide +kernel
theorem dX2_countOfSender_38 : decode cX2_countOfSender 38 = .ok (.goto (-34), 3) := by decide +kernel
theorem dX2_countOfSender_41 : decode cX2_countOfSender 41 = .ok (.iload_n 2, 1) := by decide +kernel
theorem dX2_countOfSender_42 : decode cX2_countOfSender 42 = .ok (.ireturn, 1) := by decide +kernel
theorem dX2_countOfRank_0 : decode cX2_countOfRank 0 = .ok (.iconst 0, 1) := by decide +kernel
theorem dX2_countOfRank_1 : decode cX2_countOfRank 1 = .ok (.istore_n 2, 1) := by decide +kernel
theorem dX2_countOfRank_2 : decode cX2_countOfRank 2 = .ok (.iconst 0, 1) := by decide +kernel
theorem dX2_countOfRank_3 : decode cX2_countOfRank 3 = .ok (.istore_n 3, 1) := by decide +kernel
theorem dX2_countOfRank_4 : decode cX2_countOfRank 4 = .ok (.iload_n 3, 1) := by decide +kernel
theorem dX2_countOfRank_5 : decode cX2_countOfRank 5 = .ok (.aload_n 0, 1) := by decide +kernel
theorem dX2_countOfRank_6 : decode cX2_countOfRank 6 = .ok (.getfield 15, 3) := by decide +kernel
theorem dX2_countOfRank_9 : decode cX2_countOfRank 9 = .ok (.if_icmp .ge 22, 3) := by decide +kernel
theorem dX2_countOfRank_12 : decode cX2_countOfRank 12 = .ok (.aload_n 0, 1) := by decide +kernel
theorem dX2_countOfRank_13 : decode cX2_countOfRank 13 = .ok (.iload_n 3, 1) := by decide +kernel
theorem dX2_countOfRank_14 : decode cX2_countOfRank 14 = .ok (.iconst 2, 1) := by decide +kernel
theorem dX2_countOfRank_15 : decode cX2_countOfRank 15 = .ok (.invokevirtual 29, 3) := by decide +kernel
theorem dX2_countOfRank_18 : decode cX2_countOfRank 18 = .ok (.iload_n 1, 1) := by decide +kernel
theorem dX2_countOfRank_19 : decode cX2_countOfRank 19 = .ok (.if_icmp .ne 6, 3) := by decide +kernel
theorem dX2_countOfRank_22 : decode cX2_countOfRank 22 = .ok (.iinc 2 1, 3) := by decide +kernel
theorem dX2_countOfRank_25 : decode cX2_countOfRank 25 = .ok (.iinc 3 1, 3) := by decide +kernel
theorem dX2_countOfRank_28 : decode cX2_countOfRank 28 = .ok (.goto (-24), 3) := by decide +kernel
theorem dX2_countOfRank_31 : decode cX2_countOfRank 31 = .ok (.iload_n 2, 1) := by decide +kernel
theorem dX2_countOfRank_32 : decode cX2_countOfRank 32 = .ok (.ireturn, 1) := by decide +kernel
theorem dX2_loudestRank_0 : decode cX2_loudestRank 0 = .ok (.iconst (-1), 1) := by decide +kernel
theorem dX2_loudestRank_1 : decode cX2_loudestRank 1 = .ok (.istore_n 1, 1) := by decide +kernel
theorem dX2_loudestRank_2 : decode cX2_loudestRank 2 = .ok (.iconst 0, 1) := by decide +kernel
theorem dX2_loudestRank_3 : decode cX2_loudestRank 3 = .ok (.istore_n 2, 1) := by decide +kernel
theorem dX2_loudestRank_4 : decode cX2_loudestRank 4 = .ok (.iload_n 2, 1) := by decide +kernel
theorem dX2_loudestRank_5 : decode cX2_loudestRank 5 = .ok (.aload_n 0, 1) := by decide +kernel
theorem dX2_loudestRank_6 : decode cX2_loudestRank 6 = .ok (.getfield 15, 3) := by decide +kernel
theorem dX2_loudestRank_9 : decode cX2_loudestRank 9 = .ok (.if_icmp .ge 20, 3) := by decide +kernel
theorem dX2_loudestRank_12 : decode cX2_loudestRank 12 = .ok (.iload_n 1, 1) := by decide +kernel
theorem dX2_loudestRank_13 : decode cX2_loudestRank 13 = .ok (.aload_n 0, 1) := by decide +kernel
theorem dX2_loudestRank_14 : decode cX2_loudestRank 14 = .ok (.iload_n 2, 1) := by decide +kernel
theorem dX2_loudestRank_15 : decode cX2_loudestRank 15 = .ok (.iconst 2, 1) := by decide +kernel
theorem dX2_loudestRank_16 : decode cX2_loudestRank 16 = .ok (.invokevirtual 29, 3) := by decide +kernel
theorem dX2_loudestRank_19 : decode cX2_loudestRank 19 = .ok (.invokestatic 44, 3) := by decide +kernel
theorem dX2_loudestRank_22 : decode cX2_loudestRank 22 = .ok (.istore_n 1, 1) := by decide +kernel
theorem dX2_loudestRank_23 : decode cX2_loudestRank 23 = .ok (.iinc 2 1, 3) := by decide +kernel
theorem dX2_loudestRank_26 : decode cX2_loudestRank 26 = .ok (.goto (-22), 3) := by decide +kernel
theorem dX2_loudestRank_29 : decode cX2_loudestRank 29 = .ok (.iload_n 1, 1) := by decide +kernel
theorem dX2_loudestRank_30 : decode cX2_loudestRank 30 = .ok (.ireturn, 1) := by decide +kernel
theorem dX2_sumOfBribes_0 : decode cX2_sumOfBribes 0 = .ok (.iconst 0, 1) := by decide +kernel
theorem dX2_sumOfBribes_1 : decode cX2_sumOfBribes 1 = .ok (.istore_n 1, 1) := by decide +kernel
theorem dX2_sumOfBribes_2 : decode cX2_sumOfBribes 2 = .ok (.iconst 0, 1) := by decide +kernel
theorem dX2_sumOfBribes_3 : decode cX2_sumOfBribes 3 = .ok (.istore_n 2, 1) := by decide +kernel
theorem dX2_sumOfBribes_4 : decode cX2_sumOfBribes 4 = .ok (.iload_n 2, 1) := by decide +kernel
theorem dX2_sumOfBribes_5 : decode cX2_sumOfBribes 5 = .ok (.aload_n 0, 1) := by decide +kernel
theorem dX2_sumOfBribes_6 : decode cX2_sumOfBribes 6 = .ok (.getfield 15, 3) := by decide +kernel
theorem dX2_sumOfBribes_9 : decode cX2_sumOfBribes 9 = .ok (.if_icmp .ge 19, 3) := by decide +kernel
theorem dX2_sumOfBribes_12 : decode cX2_sumOfBribes 12 = .ok (.iload_n 1, 1) := by decide +kernel
theorem dX2_sumOfBribes_13 : decode cX2_sumOfBribes 13 = .ok (.aload_n 0, 1) := by decide +kernel
theorem dX2_sumOfBribes_14 : decode cX2_sumOfBribes 14 = .ok (.iload_n 2, 1) := by decide +kernel
theorem dX2_sumOfBribes_15 : decode cX2_sumOfBribes 15 = .ok (.bipush 6, 2) := by decide +kernel
theorem dX2_sumOfBribes_17 : decode cX2_sumOfBribes 17 = .ok (.invokevirtual 29, 3) := by decide +kernel
theorem dX2_sumOfBribes_20 : decode cX2_sumOfBribes 20 = .ok (.iadd, 1) := by decide +kernel
theorem dX2_sumOfBribes_21 : decode cX2_sumOfBribes 21 = .ok (.istore_n 1, 1) := by decide +kernel
theorem dX2_sumOfBribes_22 : decode cX2_sumOfBribes 22 = .ok (.iinc 2 1, 3) := by decide +kernel
theorem dX2_sumOfBribes_25 : decode cX2_sumOfBribes 25 = .ok (.goto (-21), 3) := by decide +kernel
theorem dX2_sumOfBribes_28 : decode cX2_sumOfBribes 28 = .ok (.iload_n 1, 1) := by decide +kernel
theorem dX2_sumOfBribes_29 : decode cX2_sumOfBribes 29 = .ok (.ireturn, 1) := by decide +kernel
theorem dX2_copyFrom_0 : decode cX2_copyFrom 0 = .ok (.aload_n 0, 1) := by decide +kernel
theorem dX2_copyFrom_1 : decode cX2_copyFrom 1 = .ok (.aload_n 1, 1) := by decide +kernel
theorem dX2_copyFrom_2 : decode cX2_copyFrom 2 = .ok (.getfield 15, 3) := by decide +kernel
theorem dX2_copyFrom_5 : decode cX2_copyFrom 5 = .ok (.putfield 15, 3) := by decide +kernel
theorem dX2_copyFrom_8 : decode cX2_copyFrom 8 = .ok (.aload_n 1, 1) := by decide +kernel
theorem dX2_copyFrom_9 : decode cX2_copyFrom 9 = .ok (.getfield 9, 3) := by decide +kernel
theorem dX2_copyFrom_12 : decode cX2_copyFrom 12 = .ok (.iconst 0, 1) := by decide +kernel
theorem dX2_copyFrom_13 : decode cX2_copyFrom 13 = .ok (.aload_n 0, 1) := by decide +kernel
theorem dX2_copyFrom_14 : decode cX2_copyFrom 14 = .ok (.getfield 9, 3) := by decide +kernel
theorem dX2_copyFrom_17 : decode cX2_copyFrom 17 = .ok (.iconst 0, 1) := by decide +kernel
theorem dX2_copyFrom_18 : decode cX2_copyFrom 18 = .ok (.aload_n 0, 1) := by decide +kernel
theorem dX2_copyFrom_19 : decode cX2_copyFrom 19 = .ok (.getfield 9, 3) := by decide +kernel
theorem dX2_copyFrom_22 : decode cX2_copyFrom 22 = .ok (.arraylength, 1) := by decide +kernel
theorem dX2_copyFrom_23 : decode cX2_copyFrom 23 = .ok (.invokestatic 23, 3) := by decide +kernel
theorem dX2_copyFrom_26 : decode cX2_copyFrom 26 = .ok (.return_, 1) := by decide +kernel
theorem dX3_init_0 : decode cX3_init 0 = .ok (.aload_n 0, 1) := by decide +kernel
theorem dX3_init_1 : decode cX3_init 1 = .ok (.invokespecial 3, 3) := by decide +kernel
theorem dX3_init_4 : decode cX3_init 4 = .ok (.aload_n 0, 1) := by decide +kernel
theorem dX3_init_5 : decode cX3_init 5 = .ok (.iconst 4, 1) := by decide +kernel
theorem dX3_init_6 : decode cX3_init 6 = .ok (.anewarray 9, 3) := by decide +kernel
theorem dX3_init_9 : decode cX3_init 9 = .ok (.putfield 11, 3) := by decide +kernel
theorem dX3_init_12 : decode cX3_init 12 = .ok (.iconst 0, 1) := by decide +kernel
theorem dX3_init_13 : decode cX3_init 13 = .ok (.istore_n 1, 1) := by decide +kernel
theorem dX3_init_14 : decode cX3_init 14 = .ok (.iload_n 1, 1) := by decide +kernel
theorem dX3_init_15 : decode cX3_init 15 = .ok (.iconst 4, 1) := by decide +kernel
theorem dX3_init_16 : decode cX3_init 16 = .ok (.if_icmp .ge 22, 3) := by decide +kernel
theorem dX3_init_19 : decode cX3_init 19 = .ok (.aload_n 0, 1) := by decide +kernel
theorem dX3_init_20 : decode cX3_init 20 = .ok (.getfield 11, 3) := by decide +kernel
theorem dX3_init_23 : decode cX3_init 23 = .ok (.iload_n 1, 1) := by decide +kernel
theorem dX3_init_24 : decode cX3_init 24 = .ok (.new 9, 3) := by decide +kernel
theorem dX3_init_27 : decode cX3_init 27 = .ok (.dup, 1) := by decide +kernel
theorem dX3_init_28 : decode cX3_init 28 = .ok (.invokespecial 17, 3) := by decide +kernel
theorem dX3_init_31 : decode cX3_init 31 = .ok (.aastore, 1) := by decide +kernel
theorem dX3_init_32 : decode cX3_init 32 = .ok (.iinc 1 1, 3) := by decide +kernel
theorem dX3_init_35 : decode cX3_init 35 = .ok (.goto (-21), 3) := by decide +kernel
theorem dX3_init_38 : decode cX3_init 38 = .ok (.return_, 1) := by decide +kernel
theorem dX3_add_0 : decode cX3_add 0 = .ok (.aload_n 0, 1) := by decide +kernel
theorem dX3_add_1 : decode cX3_add 1 = .ok (.getfield 18, 3) := by decide +kernel
theorem dX3_add_4 : decode cX3_add 4 = .ok (.iconst 4, 1) := by decide +kernel
theorem dX3_add_5 : decode cX3_add 5 = .ok (.if_icmp .ne 25, 3) := by decide +kernel
theorem dX3_add_8 : decode cX3_add 8 = .ok (.aload_n 0, 1) := by decide +kernel
theorem dX3_add_9 : decode cX3_add 9 = .ok (.aload_n 0, 1) := by decide +kernel
theorem dX3_add_10 : decode cX3_add 10 = .ok (.getfield 22, 3) := by decide +kernel
theorem dX3_add_13 : decode cX3_add 13 = .ok (.iconst 1, 1) := by decide +kernel
theorem dX3_add_14 : decode cX3_add 14 = .ok (.iadd, 1) := by decide +kernel
theorem dX3_add_15 : decode cX3_add 15 = .ok (.iconst 4, 1) := by decide +kernel
theorem dX3_add_16 : decode cX3_add 16 = .ok (.irem, 1) := by decide +kernel
theorem dX3_add_17 : decode cX3_add 17 = .ok (.putfield 22, 3) := by decide +kernel
theorem dX3_add_20 : decode cX3_add 20 = .ok (.aload_n 0, 1) := by decide +kernel
theorem dX3_add_21 : decode cX3_add 21 = .ok (.dup, 1) := by decide +kernel
theorem dX3_add_22 : decode cX3_add 22 = .ok (.getfield 18, 3) := by decide +kernel
theorem dX3_add_25 : decode cX3_add 25 = .ok (.iconst 1, 1) := by decide +kernel
theorem dX3_add_26 : decode cX3_add 26 = .ok (.isub, 1) := by decide +kernel
theorem dX3_add_27 : decode cX3_add 27 = .ok (.putfield 18, 3) := by decide +kernel
theorem dX3_add_30 : decode cX3_add 30 = .ok (.aload_n 0, 1) := by decide +kernel
theorem dX3_add_31 : decode cX3_add 31 = .ok (.getfield 11, 3) := by decide +kernel
theorem dX3_add_34 : decode cX3_add 34 = .ok (.aload_n 0, 1) := by decide +kernel
theorem dX3_add_35 : decode cX3_add 35 = .ok (.getfield 22, 3) := by decide +kernel
theorem dX3_add_38 : decode cX3_add 38 = .ok (.aload_n 0, 1) := by decide +kernel
theorem dX3_add_39 : decode cX3_add 39 = .ok (.getfield 18, 3) := by decide +kernel
theorem dX3_add_42 : decode cX3_add 42 = .ok (.iadd, 1) := by decide +kernel
theorem dX3_add_43 : decode cX3_add 43 = .ok (.iconst 4, 1) := by decide +kernel
theorem dX3_add_44 : decode cX3_add 44 = .ok (.irem, 1) := by decide +kernel
theorem dX3_add_45 : decode cX3_add 45 = .ok (.aaload, 1) := by decide +kernel
theorem dX3_add_46 : decode cX3_add 46 = .ok (.astore_n 2, 1) := by decide +kernel
theorem dX3_add_47 : decode cX3_add 47 = .ok (.aload_n 2, 1) := by decide +kernel
theorem dX3_add_48 : decode cX3_add 48 = .ok (.ifnull 18, 3) := by decide +kernel
theorem dX3_add_51 : decode cX3_add 51 = .ok (.aload_n 2, 1) := by decide +kernel
theorem dX3_add_52 : decode cX3_add 52 = .ok (.aload_n 1, 1) := by decide +kernel
theorem dX3_add_53 : decode cX3_add 53 = .ok (.invokevirtual 25, 3) := by decide +kernel
theorem dX3_add_56 : decode cX3_add 56 = .ok (.aload_n 0, 1) := by decide +kernel
theorem dX3_add_57 : decode cX3_add 57 = .ok (.dup, 1) := by decide +kernel
theorem dX3_add_58 : decode cX3_add 58 = .ok (.getfield 18, 3) := by decide +kernel
theorem dX3_add_61 : decode cX3_add 61 = .ok (.iconst 1, 1) := by decide +kernel
theorem dX3_add_62 : decode cX3_add 62 = .ok (.iadd, 1) := by decide +kernel
theorem dX3_add_63 : decode cX3_add 63 = .ok (.putfield 18, 3) := by decide +kernel
theorem dX3_add_66 : decode cX3_add 66 = .ok (.return_, 1) := by decide +kernel
theorem dX3_takeLatest_0 : decode cX3_takeLatest 0 = .ok (.aload_n 0, 1) := by decide +kernel
theorem dX3_takeLatest_1 : decode cX3_takeLatest 1 = .ok (.getfield 18, 3) := by decide +kernel
theorem dX3_takeLatest_4 : decode cX3_takeLatest 4 = .ok (.ifCond .ne 4, 3) := by decide +kernel
theorem dX3_takeLatest_7 : decode cX3_takeLatest 7 = .ok (.return_, 1) := by decide +kernel
theorem dX3_takeLatest_8 : decode cX3_takeLatest 8 = .ok (.aload_n 0, 1) := by decide +kernel
theorem dX3_takeLatest_9 : decode cX3_takeLatest 9 = .ok (.dup, 1) := by decide +kernel
theorem dX3_takeLatest_10 : decode cX3_takeLatest 10 = .ok (.getfield 18, 3) := by decide +kernel
theorem dX3_takeLatest_13 : decode cX3_takeLatest 13 = .ok (.iconst 1, 1) := by decide +kernel
theorem dX3_takeLatest_14 : decode cX3_takeLatest 14 = .ok (.isub, 1) := by decide +kernel
theorem dX3_takeLatest_15 : decode cX3_takeLatest 15 = .ok (.putfield 18, 3) := by decide +kernel
theorem dX3_takeLatest_18 : decode cX3_takeLatest 18 = .ok (.aload_n 0, 1) := by decide +kernel
theorem dX3_takeLatest_19 : decode cX3_takeLatest 19 = .ok (.getfield 11, 3) := by decide +kernel
theorem dX3_takeLatest_22 : decode cX3_takeLatest 22 = .ok (.aload_n 0, 1) := by decide +kernel
theorem dX3_takeLatest_23 : decode cX3_takeLatest 23 = .ok (.getfield 22, 3) := by decide +kernel
theorem dX3_takeLatest_26 : decode cX3_takeLatest 26 = .ok (.aload_n 0, 1) := by decide +kernel
theorem dX3_takeLatest_27 : decode cX3_takeLatest 27 = .ok (.getfield 18, 3) := by decide +kernel
theorem dX3_takeLatest_30 : decode cX3_takeLatest 30 = .ok (.iadd, 1) := by decide +kernel
theorem dX3_takeLatest_31 : decode cX3_takeLatest 31 = .ok (.iconst 4, 1) := by decide +kernel
theorem dX3_takeLatest_32 : decode cX3_takeLatest 32 = .ok (.irem, 1) := by decide +kernel
theorem dX3_takeLatest_33 : decode cX3_takeLatest 33 = .ok (.aaload, 1) := by decide +kernel
theorem dX3_takeLatest_34 : decode cX3_takeLatest 34 = .ok (.astore_n 2, 1) := by decide +kernel
theorem dX3_takeLatest_35 : decode cX3_takeLatest 35 = .ok (.aload_n 2, 1) := by decide +kernel
theorem dX3_takeLatest_36 : decode cX3_takeLatest 36 = .ok (.ifnull 8, 3) := by decide +kernel
theorem dX3_takeLatest_39 : decode cX3_takeLatest 39 = .ok (.aload_n 1, 1) := by decide +kernel
theorem dX3_takeLatest_40 : decode cX3_takeLatest 40 = .ok (.aload_n 2, 1) := by decide +kernel
theorem dX3_takeLatest_41 : decode cX3_takeLatest 41 = .ok (.invokevirtual 25, 3) := by decide +kernel
theorem dX3_takeLatest_44 : decode cX3_takeLatest 44 = .ok (.return_, 1) := by decide +kernel
theorem dX4_init_0 : decode cX4_init 0 = .ok (.aload_n 0, 1) := by decide +kernel
theorem dX4_init_1 : decode cX4_init 1 = .ok (.invokespecial 3, 3) := by decide +kernel
theorem dX4_init_4 : decode cX4_init 4 = .ok (.aload_n 0, 1) := by decide +kernel
theorem dX4_init_5 : decode cX4_init 5 = .ok (.iconst 3, 1) := by decide +kernel
theorem dX4_init_6 : decode cX4_init 6 = .ok (.putfield 9, 3) := by decide +kernel
theorem dX4_init_9 : decode cX4_init 9 = .ok (.aload_n 0, 1) := by decide +kernel
theorem dX4_init_10 : decode cX4_init 10 = .ok (.bipush 10, 2) := by decide +kernel
theorem dX4_init_12 : decode cX4_init 12 = .ok (.putfield 15, 3) := by decide +kernel
theorem dX4_init_15 : decode cX4_init 15 = .ok (.aload_n 0, 1) := by decide +kernel
theorem dX4_init_16 : decode cX4_init 16 = .ok (.iconst 4, 1) := by decide +kernel
theorem dX4_init_17 : decode cX4_init 17 = .ok (.newarray .int, 2) := by decide +kernel
theorem dX4_init_19 : decode cX4_init 19 = .ok (.dup, 1) := by decide +kernel
theorem dX4_init_20 : decode cX4_init 20 = .ok (.iconst 0, 1) := by decide +kernel
theorem dX4_init_21 : decode cX4_init 21 = .ok (.bipush 10, 2) := by decide +kernel
theorem dX4_init_23 : decode cX4_init 23 = .ok (.iastore, 1) := by decide +kernel
theorem dX4_init_24 : decode cX4_init 24 = .ok (.dup, 1) := by decide +kernel
theorem dX4_init_25 : decode cX4_init 25 = .ok (.iconst 1, 1) := by decide +kernel
theorem dX4_init_26 : decode cX4_init 26 = .ok (.bipush 8, 2) := by decide +kernel
theorem dX4_init_28 : decode cX4_init 28 = .ok (.iastore, 1) := by decide +kernel
theorem dX4_init_29 : decode cX4_init 29 = .ok (.dup, 1) := by decide +kernel
theorem dX4_init_30 : decode cX4_init 30 = .ok (.iconst 2, 1) := by decide +kernel
theorem dX4_init_31 : decode cX4_init 31 = .ok (.bipush 6, 2) := by decide +kernel
theorem dX4_init_33 : decode cX4_init 33 = .ok (.iastore, 1) := by decide +kernel
theorem dX4_init_34 : decode cX4_init 34 = .ok (.dup, 1) := by decide +kernel
theorem dX4_init_35 : decode cX4_init 35 = .ok (.iconst 3, 1) := by decide +kernel
theorem dX4_init_36 : decode cX4_init 36 = .ok (.iconst 4, 1) := by decide +kernel
theorem dX4_init_37 : decode cX4_init 37 = .ok (.iastore, 1) := by decide +kernel
theorem dX4_init_38 : decode cX4_init 38 = .ok (.putfield 18, 3) := by decide +kernel
theorem dX4_init_41 : decode cX4_init 41 = .ok (.aload_n 0, 1) := by decide +kernel
theorem dX4_init_42 : decode cX4_init 42 = .ok (.new 22, 3) := by decide +kernel
theorem dX4_init_45 : decode cX4_init 45 = .ok (.dup, 1) := by decide +kernel
theorem dX4_init_46 : decode cX4_init 46 = .ok (.invokespecial 24, 3) := by decide +kernel
theorem dX4_init_49 : decode cX4_init 49 = .ok (.putfield 25, 3) := by decide +kernel
theorem dX4_init_52 : decode cX4_init 52 = .ok (.aload_n 0, 1) := by decide +kernel
theorem dX4_init_53 : decode cX4_init 53 = .ok (.new 29, 3) := by decide +kernel
theorem dX4_init_56 : decode cX4_init 56 = .ok (.dup, 1) := by decide +kernel
theorem dX4_init_57 : decode cX4_init 57 = .ok (.invokespecial 31, 3) := by decide +kernel
theorem dX4_init_60 : decode cX4_init 60 = .ok (.putfield 32, 3) := by decide +kernel
theorem dX4_init_63 : decode cX4_init 63 = .ok (.aload_n 0, 1) := by decide +kernel
theorem dX4_init_64 : decode cX4_init 64 = .ok (.iconst 3, 1) := by decide +kernel
theorem dX4_init_65 : decode cX4_init 65 = .ok (.newarray .int, 2) := by decide +kernel
theorem dX4_init_67 : decode cX4_init 67 = .ok (.putfield 36, 3) := by decide +kernel
theorem dX4_init_70 : decode cX4_init 70 = .ok (.aload_n 0, 1) := by decide +kernel
theorem dX4_init_71 : decode cX4_init 71 = .ok (.bipush 8, 2) := by decide +kernel
theorem dX4_init_73 : decode cX4_init 73 = .ok (.newarray .int, 2) := by decide +kernel
theorem dX4_init_75 : decode cX4_init 75 = .ok (.putfield 39, 3) := by decide +kernel
theorem dX4_init_78 : decode cX4_init 78 = .ok (.return_, 1) := by decide +kernel
theorem dX4_copyFrom_0 : decode cX4_copyFrom 0 = .ok (.aload_n 0, 1) := by decide +kernel
theorem dX4_copyFrom_1 : decode cX4_copyFrom 1 = .ok (.aload_n 1, 1) := by decide +kernel
theorem dX4_copyFrom_2 : decode cX4_copyFrom 2 = .ok (.getfield 9, 3) := by decide +kernel
theorem dX4_copyFrom_5 : decode cX4_copyFrom 5 = .ok (.putfield 9, 3) := by decide +kernel
theorem dX4_copyFrom_8 : decode cX4_copyFrom 8 = .ok (.aload_n 0, 1) := by decide +kernel
theorem dX4_copyFrom_9 : decode cX4_copyFrom 9 = .ok (.aload_n 1, 1) := by decide +kernel
theorem dX4_copyFrom_10 : decode cX4_copyFrom 10 = .ok (.getfield 15, 3) := by decide +kernel
theorem dX4_copyFrom_13 : decode cX4_copyFrom 13 = .ok (.putfield 15, 3) := by decide +kernel
theorem dX4_copyFrom_16 : decode cX4_copyFrom 16 = .ok (.aload_n 0, 1) := by decide +kernel
theorem dX4_copyFrom_17 : decode cX4_copyFrom 17 = .ok (.aload_n 1, 1) := by decide +kernel
theorem dX4_copyFrom_18 : decode cX4_copyFrom 18 = .ok (.getfield 42, 3) := by decide +kernel
theorem dX4_copyFrom_21 : decode cX4_copyFrom 21 = .ok (.putfield 42, 3) := by decide +kernel
theorem dX4_copyFrom_24 : decode cX4_copyFrom 24 = .ok (.aload_n 0, 1) := by decide +kernel
theorem dX4_copyFrom_25 : decode cX4_copyFrom 25 = .ok (.aload_n 1, 1) := by decide +kernel
theorem dX4_copyFrom_26 : decode cX4_copyFrom 26 = .ok (.getfield 45, 3) := by decide +kernel
theorem dX4_copyFrom_29 : decode cX4_copyFrom 29 = .ok (.putfield 45, 3) := by decide +kernel
theorem dX4_copyFrom_32 : decode cX4_copyFrom 32 = .ok (.aload_n 0, 1) := by decide +kernel
theorem dX4_copyFrom_33 : decode cX4_copyFrom 33 = .ok (.aload_n 1, 1) := by decide +kernel
theorem dX4_copyFrom_34 : decode cX4_copyFrom 34 = .ok (.getfield 48, 3) := by decide +kernel
theorem dX4_copyFrom_37 : decode cX4_copyFrom 37 = .ok (.putfield 48, 3) := by decide +kernel
theorem dX4_copyFrom_40 : decode cX4_copyFrom 40 = .ok (.aload_n 0, 1) := by decide +kernel
theorem dX4_copyFrom_41 : decode cX4_copyFrom 41 = .ok (.aload_n 1, 1) := by decide +kernel
theorem dX4_copyFrom_42 : decode cX4_copyFrom 42 = .ok (.getfield 51, 3) := by decide +kernel
theorem dX4_copyFrom_45 : decode cX4_copyFrom 45 = .ok (.putfield 51, 3) := by decide +kernel
theorem dX4_copyFrom_48 : decode cX4_copyFrom 48 = .ok (.aload_n 1, 1) := by decide +kernel
theorem dX4_copyFrom_49 : decode cX4_copyFrom 49 = .ok (.getfield 18, 3) := by decide +kernel
theorem dX4_copyFrom_52 : decode cX4_copyFrom 52 = .ok (.iconst 0, 1) := by decide +kernel
theorem dX4_copyFrom_53 : decode cX4_copyFrom 53 = .ok (.aload_n 0, 1) := by decide +kernel
theorem dX4_copyFrom_54 : decode cX4_copyFrom 54 = .ok (.getfield 18, 3) := by decide +kernel
theorem dX4_copyFrom_57 : decode cX4_copyFrom 57 = .ok (.iconst 0, 1) := by decide +kernel
theorem dX4_copyFrom_58 : decode cX4_copyFrom 58 = .ok (.aload_n 0, 1) := by decide +kernel
theorem dX4_copyFrom_59 : decode cX4_copyFrom 59 = .ok (.getfield 18, 3) := by decide +kernel
theorem dX4_copyFrom_62 : decode cX4_copyFrom 62 = .ok (.arraylength, 1) := by decide +kernel
theorem dX4_copyFrom_63 : decode cX4_copyFrom 63 = .ok (.invokestatic 54, 3) := by decide +kernel
theorem dX4_copyFrom_66 : decode cX4_copyFrom 66 = .ok (.aload_n 1, 1) := by decide +kernel
theorem dX4_copyFrom_67 : decode cX4_copyFrom 67 = .ok (.getfield 36, 3) := by decide +kernel
theorem dX4_copyFrom_70 : decode cX4_copyFrom 70 = .ok (.iconst 0, 1) := by decide +kernel
theorem dX4_copyFrom_71 : decode cX4_copyFrom 71 = .ok (.aload_n 0, 1) := by decide +kernel
theorem dX4_copyFrom_72 : decode cX4_copyFrom 72 = .ok (.getfield 36, 3) := by decide +kernel
theorem dX4_copyFrom_75 : decode cX4_copyFrom 75 = .ok (.iconst 0, 1) := by decide +kernel
theorem dX4_copyFrom_76 : decode cX4_copyFrom 76 = .ok (.aload_n 0, 1) := by decide +kernel
theorem dX4_copyFrom_77 : decode cX4_copyFrom 77 = .ok (.getfield 36, 3) := by decide +kernel
theorem dX4_copyFrom_80 : decode cX4_copyFrom 80 = .ok (.arraylength, 1) := by decide +kernel
theorem dX4_copyFrom_81 : decode cX4_copyFrom 81 = .ok (.invokestatic 54, 3) := by decide +kernel
theorem dX4_copyFrom_84 : decode cX4_copyFrom 84 = .ok (.aload_n 1, 1) := by decide +kernel
theorem dX4_copyFrom_85 : decode cX4_copyFrom 85 = .ok (.getfield 39, 3) := by decide +kernel
theorem dX4_copyFrom_88 : decode cX4_copyFrom 88 = .ok (.iconst 0, 1) := by decide +kernel
theorem dX4_copyFrom_89 : decode cX4_copyFrom 89 = .ok (.aload_n 0, 1) := by decide +kernel
theorem dX4_copyFrom_90 : decode cX4_copyFrom 90 = .ok (.getfield 39, 3) := by decide +kernel
theorem dX4_copyFrom_93 : decode cX4_copyFrom 93 = .ok (.iconst 0, 1) := by decide +kernel
theorem dX4_copyFrom_94 : decode cX4_copyFrom 94 = .ok (.aload_n 0, 1) := by decide +kernel
theorem dX4_copyFrom_95 : decode cX4_copyFrom 95 = .ok (.getfield 39, 3) := by decide +kernel
theorem dX4_copyFrom_98 : decode cX4_copyFrom 98 = .ok (.arraylength, 1) := by decide +kernel
theorem dX4_copyFrom_99 : decode cX4_copyFrom 99 = .ok (.invokestatic 54, 3) := by decide +kernel
theorem dX4_copyFrom_102 : decode cX4_copyFrom 102 = .ok (.aload_n 0, 1) := by decide +kernel
theorem dX4_copyFrom_103 : decode cX4_copyFrom 103 = .ok (.getfield 25, 3) := by decide +kernel
theorem dX4_copyFrom_106 : decode cX4_copyFrom 106 = .ok (.aload_n 1, 1) := by decide +kernel
theorem dX4_copyFrom_107 : decode cX4_copyFrom 107 = .ok (.getfield 25, 3) := by decide +kernel
theorem dX4_copyFrom_110 : decode cX4_copyFrom 110 = .ok (.invokevirtual 60, 3) := by decide +kernel
theorem dX4_copyFrom_113 : decode cX4_copyFrom 113 = .ok (.aload_n 0, 1) := by decide +kernel
theorem dX4_copyFrom_114 : decode cX4_copyFrom 114 = .ok (.getfield 32, 3) := by decide +kernel
theorem dX4_copyFrom_117 : decode cX4_copyFrom 117 = .ok (.aload_n 1, 1) := by decide +kernel
theorem dX4_copyFrom_118 : decode cX4_copyFrom 118 = .ok (.getfield 32, 3) := by decide +kernel
theorem dX4_copyFrom_121 : decode cX4_copyFrom 121 = .ok (.invokevirtual 64, 3) := by decide +kernel
theorem dX4_copyFrom_124 : decode cX4_copyFrom 124 = .ok (.return_, 1) := by decide +kernel
theorem dX4_hasRoomFor_0 : decode cX4_hasRoomFor 0 = .ok (.aload_n 0, 1) := by decide +kernel
theorem dX4_hasRoomFor_1 : decode cX4_hasRoomFor 1 = .ok (.getfield 25, 3) := by decide +kernel
theorem dX4_hasRoomFor_4 : decode cX4_hasRoomFor 4 = .ok (.getfield 67, 3) := by decide +kernel
theorem dX4_hasRoomFor_7 : decode cX4_hasRoomFor 7 = .ok (.bipush 40, 2) := by decide +kernel
theorem dX4_hasRoomFor_9 : decode cX4_hasRoomFor 9 = .ok (.if_icmp .ge 28, 3) := by decide +kernel
theorem dX4_hasRoomFor_12 : decode cX4_hasRoomFor 12 = .ok (.aload_n 0, 1) := by decide +kernel
theorem dX4_hasRoomFor_13 : decode cX4_hasRoomFor 13 = .ok (.iload_n 1, 1) := by decide +kernel
theorem dX4_hasRoomFor_14 : decode cX4_hasRoomFor 14 = .ok (.invokevirtual 70, 3) := by decide +kernel
theorem dX4_hasRoomFor_17 : decode cX4_hasRoomFor 17 = .ok (.ifCond .eq 20, 3) := by decide +kernel
theorem dX4_hasRoomFor_20 : decode cX4_hasRoomFor 20 = .ok (.iload_n 2, 1) := by decide +kernel
theorem dX4_hasRoomFor_21 : decode cX4_hasRoomFor 21 = .ok (.iconst (-1), 1) := by decide +kernel
theorem dX4_hasRoomFor_22 : decode cX4_hasRoomFor 22 = .ok (.if_icmp .eq 11, 3) := by decide +kernel
theorem dX4_hasRoomFor_25 : decode cX4_hasRoomFor 25 = .ok (.aload_n 0, 1) := by decide +kernel
theorem dX4_hasRoomFor_26 : decode cX4_hasRoomFor 26 = .ok (.iload_n 2, 1) := by decide +kernel
theorem dX4_hasRoomFor_27 : decode cX4_hasRoomFor 27 = .ok (.invokevirtual 70, 3) := by decide +kernel
theorem dX4_hasRoomFor_30 : decode cX4_hasRoomFor 30 = .ok (.ifCond .eq 7, 3) := by decide +kernel
theorem dX4_hasRoomFor_33 : decode cX4_hasRoomFor 33 = .ok (.iconst 1, 1) := by decide +kernel
theorem dX4_hasRoomFor_34 : decode cX4_hasRoomFor 34 = .ok (.goto 4, 3) := by decide +kernel
theorem dX4_hasRoomFor_37 : decode cX4_hasRoomFor 37 = .ok (.iconst 0, 1) := by decide +kernel
theorem dX4_hasRoomFor_38 : decode cX4_hasRoomFor 38 = .ok (.ireturn, 1) := by decide +kernel
theorem dX4_quotaAllows_0 : decode cX4_quotaAllows 0 = .ok (.aload_n 0, 1) := by decide +kernel
theorem dX4_quotaAllows_1 : decode cX4_quotaAllows 1 = .ok (.getfield 25, 3) := by decide +kernel
theorem dX4_quotaAllows_4 : decode cX4_quotaAllows 4 = .ok (.iload_n 1, 1) := by decide +kernel
theorem dX4_quotaAllows_5 : decode cX4_quotaAllows 5 = .ok (.invokevirtual 74, 3) := by decide +kernel
theorem dX4_quotaAllows_8 : decode cX4_quotaAllows 8 = .ok (.aload_n 0, 1) := by decide +kernel
theorem dX4_quotaAllows_9 : decode cX4_quotaAllows 9 = .ok (.getfield 9, 3) := by decide +kernel
theorem dX4_quotaAllows_12 : decode cX4_quotaAllows 12 = .ok (.if_icmp .ge 7, 3) := by decide +kernel
theorem dX4_quotaAllows_15 : decode cX4_quotaAllows 15 = .ok (.iconst 1, 1) := by decide +kernel
theorem dX4_quotaAllows_16 : decode cX4_quotaAllows 16 = .ok (.goto 4, 3) := by decide +kernel
theorem dX4_quotaAllows_19 : decode cX4_quotaAllows 19 = .ok (.iconst 0, 1) := by decide +kernel
theorem dX4_quotaAllows_20 : decode cX4_quotaAllows 20 = .ok (.ireturn, 1) := by decide +kernel
theorem dX4_putIn_0 : decode cX4_putIn 0 = .ok (.aload_n 0, 1) := by decide +kernel
theorem dX4_putIn_1 : decode cX4_putIn 1 = .ok (.getfield 48, 3) := by decide +kernel
theorem dX4_putIn_4 : decode cX4_putIn 4 = .ok (.istore 6, 2) := by decide +kernel
theorem dX4_putIn_6 : decode cX4_putIn 6 = .ok (.aload_n 0, 1) := by decide +kernel
theorem dX4_putIn_7 : decode cX4_putIn 7 = .ok (.dup, 1) := by decide +kernel
theorem dX4_putIn_8 : decode cX4_putIn 8 = .ok (.getfield 48, 3) := by decide +kernel
theorem dX4_putIn_11 : decode cX4_putIn 11 = .ok (.iconst 1, 1) := by decide +kernel
theorem dX4_putIn_12 : decode cX4_putIn 12 = .ok (.iadd, 1) := by decide +kernel
theorem dX4_putIn_13 : decode cX4_putIn 13 = .ok (.putfield 48, 3) := by decide +kernel
theorem dX4_putIn_16 : decode cX4_putIn 16 = .ok (.aload_n 0, 1) := by decide +kernel
theorem dX4_putIn_17 : decode cX4_putIn 17 = .ok (.getfield 25, 3) := by decide +kernel
theorem dX4_putIn_20 : decode cX4_putIn 20 = .ok (.invokevirtual 78, 3) := by decide +kernel
theorem dX4_putIn_23 : decode cX4_putIn 23 = .ok (.istore 7, 2) := by decide +kernel
theorem dX4_putIn_25 : decode cX4_putIn 25 = .ok (.aload_n 0, 1) := by decide +kernel
theorem dX4_putIn_26 : decode cX4_putIn 26 = .ok (.getfield 25, 3) := by decide +kernel
theorem dX4_putIn_29 : decode cX4_putIn 29 = .ok (.iload 7, 2) := by decide +kernel
theorem dX4_putIn_31 : decode cX4_putIn 31 = .ok (.bipush 7, 2) := by decide +kernel
theorem dX4_putIn_33 : decode cX4_putIn 33 = .ok (.iload 6, 2) := by decide +kernel
theorem dX4_putIn_35 : decode cX4_putIn 35 = .ok (.invokevirtual 82, 3) := by decide +kernel
theorem dX4_putIn_38 : decode cX4_putIn 38 = .ok (.aload_n 0, 1) := by decide +kernel
theorem dX4_putIn_39 : decode cX4_putIn 39 = .ok (.getfield 25, 3) := by decide +kernel
theorem dX4_putIn_42 : decode cX4_putIn 42 = .ok (.iload 7, 2) := by decide +kernel
theorem dX4_putIn_44 : decode cX4_putIn 44 = .ok (.iconst 0, 1) := by decide +kernel
theorem dX4_putIn_45 : decode cX4_putIn 45 = .ok (.iload_n 1, 1) := by decide +kernel
theorem dX4_putIn_46 : decode cX4_putIn 46 = .ok (.invokevirtual 82, 3) := by decide +kernel
theorem dX4_putIn_49 : decode cX4_putIn 49 = .ok (.aload_n 0, 1) := by decide +kernel
theorem dX4_putIn_50 : decode cX4_putIn 50 = .ok (.getfield 25, 3) := by decide +kernel
theorem dX4_putIn_53 : decode cX4_putIn 53 = .ok (.iload 7, 2) := by decide +kernel
theorem dX4_putIn_55 : decode cX4_putIn 55 = .ok (.iconst 1, 1) := by decide +kernel
theorem dX4_putIn_56 : decode cX4_putIn 56 = .ok (.iload_n 2, 1) := by decide +kernel
theorem dX4_putIn_57 : decode cX4_putIn 57 = .ok (.invokevirtual 82, 3) := by decide +kernel
theorem dX4_putIn_60 : decode cX4_putIn 60 = .ok (.aload_n 0, 1) := by decide +kernel
theorem dX4_putIn_61 : decode cX4_putIn 61 = .ok (.getfield 25, 3) := by decide +kernel
theorem dX4_putIn_64 : decode cX4_putIn 64 = .ok (.iload 7, 2) := by decide +kernel
theorem dX4_putIn_66 : decode cX4_putIn 66 = .ok (.iconst 2, 1) := by decide +kernel
theorem dX4_putIn_67 : decode cX4_putIn 67 = .ok (.iconst 4, 1) := by decide +kernel
theorem dX4_putIn_68 : decode cX4_putIn 68 = .ok (.iload_n 3, 1) := by decide +kernel
theorem dX4_putIn_69 : decode cX4_putIn 69 = .ok (.iload 5, 2) := by decide +kernel
theorem dX4_putIn_71 : decode cX4_putIn 71 = .ok (.bipush 25, 2) := by decide +kernel
theorem dX4_putIn_73 : decode cX4_putIn 73 = .ok (.idiv, 1) := by decide +kernel
theorem dX4_putIn_74 : decode cX4_putIn 74 = .ok (.iadd, 1) := by decide +kernel
theorem dX4_putIn_75 : decode cX4_putIn 75 = .ok (.invokestatic 86, 3) := by decide +kernel
theorem dX4_putIn_78 : decode cX4_putIn 78 = .ok (.invokevirtual 82, 3) := by decide +kernel
theorem dX4_putIn_81 : decode cX4_putIn 81 = .ok (.aload_n 0, 1) := by decide +kernel
theorem dX4_putIn_82 : decode cX4_putIn 82 = .ok (.getfield 25, 3) := by decide +kernel
theorem dX4_putIn_85 : decode cX4_putIn 85 = .ok (.iload 7, 2) := by decide +kernel
theorem dX4_putIn_87 : decode cX4_putIn 87 = .ok (.iconst 5, 1) := by decide +kernel
theorem dX4_putIn_88 : decode cX4_putIn 88 = .ok (.iload 4, 2) := by decide +kernel
theorem dX4_putIn_90 : decode cX4_putIn 90 = .ok (.invokevirtual 82, 3) := by decide +kernel
theorem dX4_putIn_93 : decode cX4_putIn 93 = .ok (.aload_n 0, 1) := by decide +kernel
theorem dX4_putIn_94 : decode cX4_putIn 94 = .ok (.getfield 25, 3) := by decide +kernel
theorem dX4_putIn_97 : decode cX4_putIn 97 = .ok (.iload 7, 2) := by decide +kernel
theorem dX4_putIn_99 : decode cX4_putIn 99 = .ok (.bipush 6, 2) := by decide +kernel
theorem dX4_putIn_101 : decode cX4_putIn 101 = .ok (.iload 5, 2) := by decide +kernel
theorem dX4_putIn_103 : decode cX4_putIn 103 = .ok (.invokevirtual 82, 3) := by decide +kernel
theorem dX4_putIn_106 : decode cX4_putIn 106 = .ok (.iload 6, 2) := by decide +kernel
theorem dX4_putIn_108 : decode cX4_putIn 108 = .ok (.ireturn, 1) := by decide +kernel
theorem dX4_serveFirst_0 : decode cX4_serveFirst 0 = .ok (.aload_n 0, 1) := by decide +kernel
theorem dX4_serveFirst_1 : decode cX4_serveFirst 1 = .ok (.getfield 25, 3) := by decide +kernel
theorem dX4_serveFirst_4 : decode cX4_serveFirst 4 = .ok (.invokevirtual 92, 3) := by decide +kernel
theorem dX4_serveFirst_7 : decode cX4_serveFirst 7 = .ok (.istore_n 1, 1) := by decide +kernel
theorem dX4_serveFirst_8 : decode cX4_serveFirst 8 = .ok (.iload_n 1, 1) := by decide +kernel
theorem dX4_serveFirst_9 : decode cX4_serveFirst 9 = .ok (.iconst (-1), 1) := by decide +kernel
theorem dX4_serveFirst_10 : decode cX4_serveFirst 10 = .ok (.if_icmp .ne 5, 3) := by decide +kernel
theorem dX4_serveFirst_13 : decode cX4_serveFirst 13 = .ok (.iconst (-1), 1) := by decide +kernel
theorem dX4_serveFirst_14 : decode cX4_serveFirst 14 = .ok (.ireturn, 1) := by decide +kernel
theorem dX4_serveFirst_15 : decode cX4_serveFirst 15 = .ok (.aload_n 0, 1) := by decide +kernel
theorem dX4_serveFirst_16 : decode cX4_serveFirst 16 = .ok (.getfield 25, 3) := by decide +kernel
theorem dX4_serveFirst_19 : decode cX4_serveFirst 19 = .ok (.iload_n 1, 1) := by decide +kernel
theorem dX4_serveFirst_20 : decode cX4_serveFirst 20 = .ok (.bipush 7, 2) := by decide +kernel
theorem dX4_serveFirst_22 : decode cX4_serveFirst 22 = .ok (.invokevirtual 95, 3) := by decide +kernel
theorem dX4_serveFirst_25 : decode cX4_serveFirst 25 = .ok (.istore_n 2, 1) := by decide +kernel
theorem dX4_serveFirst_26 : decode cX4_serveFirst 26 = .ok (.aload_n 0, 1) := by decide +kernel
theorem dX4_serveFirst_27 : decode cX4_serveFirst 27 = .ok (.dup, 1) := by decide +kernel
theorem dX4_serveFirst_28 : decode cX4_serveFirst 28 = .ok (.getfield 42, 3) := by decide +kernel
theorem dX4_serveFirst_31 : decode cX4_serveFirst 31 = .ok (.aload_n 0, 1) := by decide +kernel
theorem dX4_serveFirst_32 : decode cX4_serveFirst 32 = .ok (.getfield 25, 3) := by decide +kernel
theorem dX4_serveFirst_35 : decode cX4_serveFirst 35 = .ok (.iload_n 1, 1) := by decide +kernel
theorem dX4_serveFirst_36 : decode cX4_serveFirst 36 = .ok (.iconst 3, 1) := by decide +kernel
theorem dX4_serveFirst_37 : decode cX4_serveFirst 37 = .ok (.invokevirtual 95, 3) := by decide +kernel
theorem dX4_serveFirst_40 : decode cX4_serveFirst 40 = .ok (.iadd, 1) := by decide +kernel
theorem dX4_serveFirst_41 : decode cX4_serveFirst 41 = .ok (.putfield 42, 3) := by decide +kernel
theorem dX4_serveFirst_44 : decode cX4_serveFirst 44 = .ok (.aload_n 0, 1) := by decide +kernel
theorem dX4_serveFirst_45 : decode cX4_serveFirst 45 = .ok (.iload_n 1, 1) := by decide +kernel
theorem dX4_serveFirst_46 : decode cX4_serveFirst 46 = .ok (.iconst 0, 1) := by decide +kernel
theorem dX4_serveFirst_47 : decode cX4_serveFirst 47 = .ok (.invokevirtual 98, 3) := by decide +kernel
theorem dX4_serveFirst_50 : decode cX4_serveFirst 50 = .ok (.pop, 1) := by decide +kernel
theorem dX4_serveFirst_51 : decode cX4_serveFirst 51 = .ok (.iload_n 2, 1) := by decide +kernel
theorem dX4_serveFirst_52 : decode cX4_serveFirst 52 = .ok (.ireturn, 1) := by decide +kernel
theorem dX4_letLeave_0 : decode cX4_letLeave 0 = .ok (.aload_n 0, 1) := by decide +kernel
theorem dX4_letLeave_1 : decode cX4_letLeave 1 = .ok (.iload_n 1, 1) := by decide +kernel
theorem dX4_letLeave_2 : decode cX4_letLeave 2 = .ok (.iload_n 2, 1) := by decide +kernel
theorem dX4_letLeave_3 : decode cX4_letLeave 3 = .ok (.invokevirtual 101, 3) := by decide +kernel
theorem dX4_letLeave_6 : decode cX4_letLeave 6 = .ok (.istore_n 3, 1) := by decide +kernel
theorem dX4_letLeave_7 : decode cX4_letLeave 7 = .ok (.aload_n 0, 1) := by decide +kernel
theorem dX4_letLeave_8 : decode cX4_letLeave 8 = .ok (.getfield 25, 3) := by decide +kernel
theorem dX4_letLeave_11 : decode cX4_letLeave 11 = .ok (.iload_n 1, 1) := by decide +kernel
theorem dX4_letLeave_12 : decode cX4_letLeave 12 = .ok (.iconst 0, 1) := by decide +kernel
theorem dX4_letLeave_13 : decode cX4_letLeave 13 = .ok (.invokevirtual 95, 3) := by decide +kernel
theorem dX4_letLeave_16 : decode cX4_letLeave 16 = .ok (.istore 4, 2) := by decide +kernel
theorem dX4_letLeave_18 : decode cX4_letLeave 18 = .ok (.aload_n 0, 1) := by decide +kernel
theorem dX4_letLeave_19 : decode cX4_letLeave 19 = .ok (.dup, 1) := by decide +kernel
theorem dX4_letLeave_20 : decode cX4_letLeave 20 = .ok (.getfield 51, 3) := by decide +kernel
theorem dX4_letLeave_23 : decode cX4_letLeave 23 = .ok (.aload_n 0, 1) := by decide +kernel
theorem dX4_letLeave_24 : decode cX4_letLeave 24 = .ok (.getfield 25, 3) := by decide +kernel
theorem dX4_letLeave_27 : decode cX4_letLeave 27 = .ok (.iload_n 1, 1) := by decide +kernel
theorem dX4_letLeave_28 : decode cX4_letLeave 28 = .ok (.bipush 6, 2) := by decide +kernel
theorem dX4_letLeave_30 : decode cX4_letLeave 30 = .ok (.invokevirtual 95, 3) := by decide +kernel
theorem dX4_letLeave_33 : decode cX4_letLeave 33 = .ok (.iload_n 3, 1) := by decide +kernel
theorem dX4_letLeave_34 : decode cX4_letLeave 34 = .ok (.isub, 1) := by decide +kernel
theorem dX4_letLeave_35 : decode cX4_letLeave 35 = .ok (.iadd, 1) := by decide +kernel
theorem dX4_letLeave_36 : decode cX4_letLeave 36 = .ok (.putfield 51, 3) := by decide +kernel
theorem dX4_letLeave_39 : decode cX4_letLeave 39 = .ok (.iload 4, 2) := by decide +kernel
theorem dX4_letLeave_41 : decode cX4_letLeave 41 = .ok (.ifCond .lt 24, 3) := by decide +kernel
theorem dX4_letLeave_44 : decode cX4_letLeave 44 = .ok (.iload 4, 2) := by decide +kernel
theorem dX4_letLeave_46 : decode cX4_letLeave 46 = .ok (.aload_n 0, 1) := by decide +kernel
theorem dX4_letLeave_47 : decode cX4_letLeave 47 = .ok (.getfield 39, 3) := by decide +kernel
theorem dX4_letLeave_50 : decode cX4_letLeave 50 = .ok (.arraylength, 1) := by decide +kernel
theorem dX4_letLeave_51 : decode cX4_letLeave 51 = .ok (.if_icmp .ge 14, 3) := by decide +kernel
theorem dX4_letLeave_54 : decode cX4_letLeave 54 = .ok (.aload_n 0, 1) := by decide +kernel
theorem dX4_letLeave_55 : decode cX4_letLeave 55 = .ok (.getfield 39, 3) := by decide +kernel
theorem dX4_letLeave_58 : decode cX4_letLeave 58 = .ok (.iload 4, 2) := by decide +kernel
theorem dX4_letLeave_60 : decode cX4_letLeave 60 = .ok (.dup2, 1) := by decide +kernel
theorem dX4_letLeave_61 : decode cX4_letLeave 61 = .ok (.iaload, 1) := by decide +kernel
theorem dX4_letLeave_62 : decode cX4_letLeave 62 = .ok (.iload_n 3, 1) := by decide +kernel
theorem dX4_letLeave_63 : decode cX4_letLeave 63 = .ok (.iadd, 1) := by decide +kernel
theorem dX4_letLeave_64 : decode cX4_letLeave 64 = .ok (.iastore, 1) := by decide +kernel
theorem dX4_letLeave_65 : decode cX4_letLeave 65 = .ok (.iload_n 2, 1) := by decide +kernel
theorem dX4_letLeave_66 : decode cX4_letLeave 66 = .ok (.ifCond .lt 22, 3) := by decide +kernel
theorem dX4_letLeave_69 : decode cX4_letLeave 69 = .ok (.iload_n 2, 1) := by decide +kernel
theorem dX4_letLeave_70 : decode cX4_letLeave 70 = .ok (.aload_n 0, 1) := by decide +kernel
theorem dX4_letLeave_71 : decode cX4_letLeave 71 = .ok (.getfield 36, 3) := by decide +kernel
theorem dX4_letLeave_74 : decode cX4_letLeave 74 = .ok (.arraylength, 1) := by decide +kernel
theorem dX4_letLeave_75 : decode cX4_letLeave 75 = .ok (.if_icmp .ge 13, 3) := by decide +kernel
theorem dX4_letLeave_78 : decode cX4_letLeave 78 = .ok (.aload_n 0, 1) := by decide +kernel
theorem dX4_letLeave_79 : decode cX4_letLeave 79 = .ok (.getfield 36, 3) := by decide +kernel
theorem dX4_letLeave_82 : decode cX4_letLeave 82 = .ok (.iload_n 2, 1) := by decide +kernel
theorem dX4_letLeave_83 : decode cX4_letLeave 83 = .ok (.dup2, 1) := by decide +kernel
theorem dX4_letLeave_84 : decode cX4_letLeave 84 = .ok (.iaload, 1) := by decide +kernel
theorem dX4_letLeave_85 : decode cX4_letLeave 85 = .ok (.iconst 1, 1) := by decide +kernel
theorem dX4_letLeave_86 : decode cX4_letLeave 86 = .ok (.iadd, 1) := by decide +kernel
theorem dX4_letLeave_87 : decode cX4_letLeave 87 = .ok (.iastore, 1) := by decide +kernel
theorem dX4_letLeave_88 : decode cX4_letLeave 88 = .ok (.aload_n 0, 1) := by decide +kernel
theorem dX4_letLeave_89 : decode cX4_letLeave 89 = .ok (.getfield 25, 3) := by decide +kernel
theorem dX4_letLeave_92 : decode cX4_letLeave 92 = .ok (.iload_n 1, 1) := by decide +kernel
theorem dX4_letLeave_93 : decode cX4_letLeave 93 = .ok (.iconst 3, 1) := by decide +kernel
theorem dX4_letLeave_94 : decode cX4_letLeave 94 = .ok (.invokevirtual 95, 3) := by decide +kernel
theorem dX4_letLeave_97 : decode cX4_letLeave 97 = .ok (.istore 5, 2) := by decide +kernel
theorem dX4_letLeave_99 : decode cX4_letLeave 99 = .ok (.aload_n 0, 1) := by decide +kernel
theorem dX4_letLeave_100 : decode cX4_letLeave 100 = .ok (.getfield 32, 3) := by decide +kernel
theorem dX4_letLeave_103 : decode cX4_letLeave 103 = .ok (.aload_n 0, 1) := by decide +kernel
theorem dX4_letLeave_104 : decode cX4_letLeave 104 = .ok (.getfield 25, 3) := by decide +kernel
theorem dX4_letLeave_107 : decode cX4_letLeave 107 = .ok (.iload_n 1, 1) := by decide +kernel
theorem dX4_letLeave_108 : decode cX4_letLeave 108 = .ok (.bipush 7, 2) := by decide +kernel
theorem dX4_letLeave_110 : decode cX4_letLeave 110 = .ok (.invokevirtual 95, 3) := by decide +kernel
theorem dX4_letLeave_113 : decode cX4_letLeave 113 = .ok (.iload_n 2, 1) := by decide +kernel
theorem dX4_letLeave_114 : decode cX4_letLeave 114 = .ok (.iload 5, 2) := by decide +kernel
theorem dX4_letLeave_116 : decode cX4_letLeave 116 = .ok (.iload_n 3, 1) := by decide +kernel
theorem dX4_letLeave_117 : decode cX4_letLeave 117 = .ok (.aload_n 0, 1) := by decide +kernel
theorem dX4_letLeave_118 : decode cX4_letLeave 118 = .ok (.getfield 25, 3) := by decide +kernel
theorem dX4_letLeave_121 : decode cX4_letLeave 121 = .ok (.iload_n 1, 1) := by decide +kernel
theorem dX4_letLeave_122 : decode cX4_letLeave 122 = .ok (.iconst 2, 1) := by decide +kernel
theorem dX4_letLeave_123 : decode cX4_letLeave 123 = .ok (.invokevirtual 95, 3) := by decide +kernel
theorem dX4_letLeave_126 : decode cX4_letLeave 126 = .ok (.invokevirtual 104, 3) := by decide +kernel
theorem dX4_letLeave_129 : decode cX4_letLeave 129 = .ok (.aload_n 0, 1) := by decide +kernel
theorem dX4_letLeave_130 : decode cX4_letLeave 130 = .ok (.getfield 25, 3) := by decide +kernel
theorem dX4_letLeave_133 : decode cX4_letLeave 133 = .ok (.iload_n 1, 1) := by decide +kernel
theorem dX4_letLeave_134 : decode cX4_letLeave 134 = .ok (.invokevirtual 108, 3) := by decide +kernel
theorem dX4_letLeave_137 : decode cX4_letLeave 137 = .ok (.iload_n 3, 1) := by decide +kernel
theorem dX4_letLeave_138 : decode cX4_letLeave 138 = .ok (.ireturn, 1) := by decide +kernel
theorem dX4_bribeGivenBack_0 : decode cX4_bribeGivenBack 0 = .ok (.aload_n 0, 1) := by decide +kernel
theorem dX4_bribeGivenBack_1 : decode cX4_bribeGivenBack 1 = .ok (.getfield 25, 3) := by decide +kernel
theorem dX4_bribeGivenBack_4 : decode cX4_bribeGivenBack 4 = .ok (.iload_n 1, 1) := by decide +kernel
theorem dX4_bribeGivenBack_5 : decode cX4_bribeGivenBack 5 = .ok (.bipush 6, 2) := by decide +kernel
theorem dX4_bribeGivenBack_7 : decode cX4_bribeGivenBack 7 = .ok (.invokevirtual 95, 3) := by decide +kernel
theorem dX4_bribeGivenBack_10 : decode cX4_bribeGivenBack 10 = .ok (.istore_n 3, 1) := by decide +kernel
theorem dX4_bribeGivenBack_11 : decode cX4_bribeGivenBack 11 = .ok (.iload_n 2, 1) := by decide +kernel
theorem dX4_bribeGivenBack_12 : decode cX4_bribeGivenBack 12 = .ok (.lookupswitch 54 #[(0, 28), (1, 52)], 28) := by decide +kernel
theorem dX4_bribeGivenBack_40 : decode cX4_bribeGivenBack 40 = .ok (.aload_n 0, 1) := by decide +kernel
theorem dX4_bribeGivenBack_41 : decode cX4_bribeGivenBack 41 = .ok (.getfield 25, 3) := by decide +kernel
theorem dX4_bribeGivenBack_44 : decode cX4_bribeGivenBack 44 = .ok (.iload_n 1, 1) := by decide +kernel
theorem dX4_bribeGivenBack_45 : decode cX4_bribeGivenBack 45 = .ok (.iconst 3, 1) := by decide +kernel
theorem dX4_bribeGivenBack_46 : decode cX4_bribeGivenBack 46 = .ok (.invokevirtual 95, 3) := by decide +kernel
theorem dX4_bribeGivenBack_49 : decode cX4_bribeGivenBack 49 = .ok (.aload_n 0, 1) := by decide +kernel
theorem dX4_bribeGivenBack_50 : decode cX4_bribeGivenBack 50 = .ok (.getfield 15, 3) := by decide +kernel
theorem dX4_bribeGivenBack_53 : decode cX4_bribeGivenBack 53 = .ok (.if_icmp .gt 7, 3) := by decide +kernel
theorem dX4_bribeGivenBack_56 : decode cX4_bribeGivenBack 56 = .ok (.iconst 0, 1) := by decide +kernel
theorem dX4_bribeGivenBack_57 : decode cX4_bribeGivenBack 57 = .ok (.goto 6, 3) := by decide +kernel
theorem dX4_bribeGivenBack_60 : decode cX4_bribeGivenBack 60 = .ok (.iload_n 3, 1) := by decide +kernel
theorem dX4_bribeGivenBack_61 : decode cX4_bribeGivenBack 61 = .ok (.iconst 2, 1) := by decide +kernel
theorem dX4_bribeGivenBack_62 : decode cX4_bribeGivenBack 62 = .ok (.idiv, 1) := by decide +kernel
theorem dX4_bribeGivenBack_63 : decode cX4_bribeGivenBack 63 = .ok (.ireturn, 1) := by decide +kernel
theorem dX4_bribeGivenBack_64 : decode cX4_bribeGivenBack 64 = .ok (.iload_n 3, 1) := by decide +kernel
theorem dX4_bribeGivenBack_65 : decode cX4_bribeGivenBack 65 = .ok (.ireturn, 1) := by decide +kernel
theorem dX4_bribeGivenBack_66 : decode cX4_bribeGivenBack 66 = .ok (.iload_n 3, 1) := by decide +kernel
theorem dX4_bribeGivenBack_67 : decode cX4_bribeGivenBack 67 = .ok (.iload_n 3, 1) := by decide +kernel
theorem dX4_bribeGivenBack_68 : decode cX4_bribeGivenBack 68 = .ok (.iconst 4, 1) := by decide +kernel
theorem dX4_bribeGivenBack_69 : decode cX4_bribeGivenBack 69 = .ok (.idiv, 1) := by decide +kernel
theorem dX4_bribeGivenBack_70 : decode cX4_bribeGivenBack 70 = .ok (.isub, 1) := by decide +kernel
theorem dX4_bribeGivenBack_71 : decode cX4_bribeGivenBack 71 = .ok (.ireturn, 1) := by decide +kernel
theorem dX4_hasTimeFor_0 : decode cX4_hasTimeFor 0 = .ok (.iload_n 1, 1) := by decide +kernel
theorem dX4_hasTimeFor_1 : decode cX4_hasTimeFor 1 = .ok (.ldc 112, 2) := by decide +kernel
theorem dX4_hasTimeFor_3 : decode cX4_hasTimeFor 3 = .ok (.aload_n 0, 1) := by decide +kernel
theorem dX4_hasTimeFor_4 : decode cX4_hasTimeFor 4 = .ok (.getfield 45, 3) := by decide +kernel
theorem dX4_hasTimeFor_7 : decode cX4_hasTimeFor 7 = .ok (.isub, 1) := by decide +kernel
theorem dX4_hasTimeFor_8 : decode cX4_hasTimeFor 8 = .ok (.if_icmp .gt 7, 3) := by decide +kernel
theorem dX4_hasTimeFor_11 : decode cX4_hasTimeFor 11 = .ok (.iconst 1, 1) := by decide +kernel
theorem dX4_hasTimeFor_12 : decode cX4_hasTimeFor 12 = .ok (.goto 4, 3) := by decide +kernel
theorem dX4_hasTimeFor_15 : decode cX4_hasTimeFor 15 = .ok (.iconst 0, 1) := by decide +kernel
theorem dX4_hasTimeFor_16 : decode cX4_hasTimeFor 16 = .ok (.ireturn, 1) := by decide +kernel
theorem dX4_letPass_0 : decode cX4_letPass 0 = .ok (.iconst 0, 1) := by decide +kernel
theorem dX4_letPass_1 : decode cX4_letPass 1 = .ok (.istore_n 2, 1) := by decide +kernel
theorem dX4_letPass_2 : decode cX4_letPass 2 = .ok (.iconst 0, 1) := by decide +kernel
theorem dX4_letPass_3 : decode cX4_letPass 3 = .ok (.istore_n 3, 1) := by decide +kernel
theorem dX4_letPass_4 : decode cX4_letPass 4 = .ok (.iload_n 3, 1) := by decide +kernel
theorem dX4_letPass_5 : decode cX4_letPass 5 = .ok (.iload_n 1, 1) := by decide +kernel
theorem dX4_letPass_6 : decode cX4_letPass 6 = .ok (.if_icmp .ge 16, 3) := by decide +kernel
theorem dX4_letPass_9 : decode cX4_letPass 9 = .ok (.iload_n 2, 1) := by decide +kernel
theorem dX4_letPass_10 : decode cX4_letPass 10 = .ok (.aload_n 0, 1) := by decide +kernel
theorem dX4_letPass_11 : decode cX4_letPass 11 = .ok (.invokevirtual 113, 3) := by decide +kernel
theorem dX4_letPass_14 : decode cX4_letPass 14 = .ok (.iadd, 1) := by decide +kernel
theorem dX4_letPass_15 : decode cX4_letPass 15 = .ok (.istore_n 2, 1) := by decide +kernel
theorem dX4_letPass_16 : decode cX4_letPass 16 = .ok (.iinc 3 1, 3) := by decide +kernel
theorem dX4_letPass_19 : decode cX4_letPass 19 = .ok (.goto (-15), 3) := by decide +kernel
theorem dX4_letPass_22 : decode cX4_letPass 22 = .ok (.iload_n 2, 1) := by decide +kernel
theorem dX4_letPass_23 : decode cX4_letPass 23 = .ok (.ireturn, 1) := by decide +kernel
theorem dX4_letOneTickPass_0 : decode cX4_letOneTickPass 0 = .ok (.aload_n 0, 1) := by decide +kernel
theorem dX4_letOneTickPass_1 : decode cX4_letOneTickPass 1 = .ok (.dup, 1) := by decide +kernel
theorem dX4_letOneTickPass_2 : decode cX4_letOneTickPass 2 = .ok (.getfield 45, 3) := by decide +kernel
theorem dX4_letOneTickPass_5 : decode cX4_letOneTickPass 5 = .ok (.iconst 1, 1) := by decide +kernel
theorem dX4_letOneTickPass_6 : decode cX4_letOneTickPass 6 = .ok (.iadd, 1) := by decide +kernel
theorem dX4_letOneTickPass_7 : decode cX4_letOneTickPass 7 = .ok (.putfield 45, 3) := by decide +kernel
theorem dX4_letOneTickPass_10 : decode cX4_letOneTickPass 10 = .ok (.iconst 0, 1) := by decide +kernel
theorem dX4_letOneTickPass_11 : decode cX4_letOneTickPass 11 = .ok (.istore_n 1, 1) := by decide +kernel
theorem dX4_letOneTickPass_12 : decode cX4_letOneTickPass 12 = .ok (.iconst 0, 1) := by decide +kernel
theorem dX4_letOneTickPass_13 : decode cX4_letOneTickPass 13 = .ok (.istore_n 2, 1) := by decide +kernel
theorem dX4_letOneTickPass_14 : decode cX4_letOneTickPass 14 = .ok (.aload_n 0, 1) := by decide +kernel
theorem dX4_letOneTickPass_15 : decode cX4_letOneTickPass 15 = .ok (.getfield 25, 3) := by decide +kernel
theorem dX4_letOneTickPass_18 : decode cX4_letOneTickPass 18 = .ok (.getfield 67, 3) := by decide +kernel
theorem dX4_letOneTickPass_21 : decode cX4_letOneTickPass 21 = .ok (.istore_n 3, 1) := by decide +kernel
theorem dX4_letOneTickPass_22 : decode cX4_letOneTickPass 22 = .ok (.iload_n 3, 1) := by decide +kernel
theorem dX4_letOneTickPass_23 : decode cX4_letOneTickPass 23 = .ok (.ifCond .le 33, 3) := by decide +kernel
theorem dX4_letOneTickPass_26 : decode cX4_letOneTickPass 26 = .ok (.aload_n 0, 1) := by decide +kernel
theorem dX4_letOneTickPass_27 : decode cX4_letOneTickPass 27 = .ok (.iload_n 2, 1) := by decide +kernel
theorem dX4_letOneTickPass_28 : decode cX4_letOneTickPass 28 = .ok (.invokevirtual 116, 3) := by decide +kernel
theorem dX4_letOneTickPass_31 : decode cX4_letOneTickPass 31 = .ok (.ifCond .eq 16, 3) := by decide +kernel
theorem dX4_letOneTickPass_34 : decode cX4_letOneTickPass 34 = .ok (.aload_n 0, 1) := by decide +kernel
theorem dX4_letOneTickPass_35 : decode cX4_letOneTickPass 35 = .ok (.iload_n 2, 1) := by decide +kernel
theorem dX4_letOneTickPass_36 : decode cX4_letOneTickPass 36 = .ok (.iconst 1, 1) := by decide +kernel
theorem dX4_letOneTickPass_37 : decode cX4_letOneTickPass 37 = .ok (.invokevirtual 98, 3) := by decide +kernel
theorem dX4_letOneTickPass_40 : decode cX4_letOneTickPass 40 = .ok (.pop, 1) := by decide +kernel
theorem dX4_letOneTickPass_41 : decode cX4_letOneTickPass 41 = .ok (.iinc 1 1, 3) := by decide +kernel
theorem dX4_letOneTickPass_44 : decode cX4_letOneTickPass 44 = .ok (.goto 6, 3) := by decide +kernel
theorem dX4_letOneTickPass_47 : decode cX4_letOneTickPass 47 = .ok (.iinc 2 1, 3) := by decide +kernel
theorem dX4_letOneTickPass_50 : decode cX4_letOneTickPass 50 = .ok (.iinc 3 (-1), 3) := by decide +kernel
theorem dX4_letOneTickPass_53 : decode cX4_letOneTickPass 53 = .ok (.goto (-31), 3) := by decide +kernel
theorem dX4_letOneTickPass_56 : decode cX4_letOneTickPass 56 = .ok (.iload_n 1, 1) := by decide +kernel
theorem dX4_letOneTickPass_57 : decode cX4_letOneTickPass 57 = .ok (.ireturn, 1) := by decide +kernel
theorem dX4_growOlder_0 : decode cX4_growOlder 0 = .ok (.aload_n 0, 1) := by decide +kernel
theorem dX4_growOlder_1 : decode cX4_growOlder 1 = .ok (.getfield 25, 3) := by decide +kernel
theorem dX4_growOlder_4 : decode cX4_growOlder 4 = .ok (.iload_n 1, 1) := by decide +kernel
theorem dX4_growOlder_5 : decode cX4_growOlder 5 = .ok (.iconst 3, 1) := by decide +kernel
theorem dX4_growOlder_6 : decode cX4_growOlder 6 = .ok (.invokevirtual 95, 3) := by decide +kernel
theorem dX4_growOlder_9 : decode cX4_growOlder 9 = .ok (.iconst 1, 1) := by decide +kernel
theorem dX4_growOlder_10 : decode cX4_growOlder 10 = .ok (.iadd, 1) := by decide +kernel
theorem dX4_growOlder_11 : decode cX4_growOlder 11 = .ok (.istore_n 2, 1) := by decide +kernel
theorem dX4_growOlder_12 : decode cX4_growOlder 12 = .ok (.aload_n 0, 1) := by decide +kernel
theorem dX4_growOlder_13 : decode cX4_growOlder 13 = .ok (.getfield 25, 3) := by decide +kernel
theorem dX4_growOlder_16 : decode cX4_growOlder 16 = .ok (.iload_n 1, 1) := by decide +kernel
theorem dX4_growOlder_17 : decode cX4_growOlder 17 = .ok (.iconst 3, 1) := by decide +kernel
theorem dX4_growOlder_18 : decode cX4_growOlder 18 = .ok (.iload_n 2, 1) := by decide +kernel
theorem dX4_growOlder_19 : decode cX4_growOlder 19 = .ok (.invokevirtual 82, 3) := by decide +kernel
theorem dX4_growOlder_22 : decode cX4_growOlder 22 = .ok (.iload_n 2, 1) := by decide +kernel
theorem dX4_growOlder_23 : decode cX4_growOlder 23 = .ok (.aload_n 0, 1) := by decide +kernel
theorem dX4_growOlder_24 : decode cX4_growOlder 24 = .ok (.getfield 25, 3) := by decide +kernel
theorem dX4_growOlder_27 : decode cX4_growOlder 27 = .ok (.iload_n 1, 1) := by decide +kernel
theorem dX4_growOlder_28 : decode cX4_growOlder 28 = .ok (.iconst 5, 1) := by decide +kernel
theorem dX4_growOlder_29 : decode cX4_growOlder 29 = .ok (.invokevirtual 95, 3) := by decide +kernel
theorem dX4_growOlder_32 : decode cX4_growOlder 32 = .ok (.if_icmp .lt 5, 3) := by decide +kernel
theorem dX4_growOlder_35 : decode cX4_growOlder 35 = .ok (.iconst 1, 1) := by decide +kernel
theorem dX4_growOlder_36 : decode cX4_growOlder 36 = .ok (.ireturn, 1) := by decide +kernel
theorem dX4_growOlder_37 : decode cX4_growOlder 37 = .ok (.aload_n 0, 1) := by decide +kernel
theorem dX4_growOlder_38 : decode cX4_growOlder 38 = .ok (.getfield 25, 3) := by decide +kernel
theorem dX4_growOlder_41 : decode cX4_growOlder 41 = .ok (.iload_n 1, 1) := by decide +kernel
theorem dX4_growOlder_42 : decode cX4_growOlder 42 = .ok (.iconst 2, 1) := by decide +kernel
theorem dX4_growOlder_43 : decode cX4_growOlder 43 = .ok (.invokevirtual 95, 3) := by decide +kernel
theorem dX4_growOlder_46 : decode cX4_growOlder 46 = .ok (.istore_n 3, 1) := by decide +kernel
theorem dX4_growOlder_47 : decode cX4_growOlder 47 = .ok (.aload_n 0, 1) := by decide +kernel
theorem dX4_growOlder_48 : decode cX4_growOlder 48 = .ok (.getfield 25, 3) := by decide +kernel
theorem dX4_growOlder_51 : decode cX4_growOlder 51 = .ok (.iload_n 1, 1) := by decide +kernel
theorem dX4_growOlder_52 : decode cX4_growOlder 52 = .ok (.iconst 4, 1) := by decide +kernel
theorem dX4_growOlder_53 : decode cX4_growOlder 53 = .ok (.invokevirtual 95, 3) := by decide +kernel
theorem dX4_growOlder_56 : decode cX4_growOlder 56 = .ok (.iconst 1, 1) := by decide +kernel
theorem dX4_growOlder_57 : decode cX4_growOlder 57 = .ok (.iadd, 1) := by decide +kernel
theorem dX4_growOlder_58 : decode cX4_growOlder 58 = .ok (.istore 4, 2) := by decide +kernel
theorem dX4_growOlder_60 : decode cX4_growOlder 60 = .ok (.iload_n 3, 1) := by decide +kernel
theorem dX4_growOlder_61 : decode cX4_growOlder 61 = .ok (.ifCond .lt 38, 3) := by decide +kernel
theorem dX4_growOlder_64 : decode cX4_growOlder 64 = .ok (.iload_n 3, 1) := by decide +kernel
theorem dX4_growOlder_65 : decode cX4_growOlder 65 = .ok (.aload_n 0, 1) := by decide +kernel
theorem dX4_growOlder_66 : decode cX4_growOlder 66 = .ok (.getfield 18, 3) := by decide +kernel
theorem dX4_growOlder_69 : decode cX4_growOlder 69 = .ok (.arraylength, 1) := by decide +kernel
theorem dX4_growOlder_70 : decode cX4_growOlder 70 = .ok (.if_icmp .ge 29, 3) := by decide +kernel
theorem dX4_growOlder_73 : decode cX4_growOlder 73 = .ok (.iload 4, 2) := by decide +kernel
theorem dX4_growOlder_75 : decode cX4_growOlder 75 = .ok (.aload_n 0, 1) := by decide +kernel
theorem dX4_growOlder_76 : decode cX4_growOlder 76 = .ok (.getfield 18, 3) := by decide +kernel
theorem dX4_growOlder_79 : decode cX4_growOlder 79 = .ok (.iload_n 3, 1) := by decide +kernel
theorem dX4_growOlder_80 : decode cX4_growOlder 80 = .ok (.iaload, 1) := by decide +kernel
theorem dX4_growOlder_81 : decode cX4_growOlder 81 = .ok (.if_icmp .lt 18, 3) := by decide +kernel
theorem dX4_growOlder_84 : decode cX4_growOlder 84 = .ok (.aload_n 0, 1) := by decide +kernel
theorem dX4_growOlder_85 : decode cX4_growOlder 85 = .ok (.getfield 25, 3) := by decide +kernel
theorem dX4_growOlder_88 : decode cX4_growOlder 88 = .ok (.iload_n 1, 1) := by decide +kernel
theorem dX4_growOlder_89 : decode cX4_growOlder 89 = .ok (.iconst 2, 1) := by decide +kernel
theorem dX4_growOlder_90 : decode cX4_growOlder 90 = .ok (.iload_n 3, 1) := by decide +kernel
theorem dX4_growOlder_91 : decode cX4_growOlder 91 = .ok (.iconst 1, 1) := by decide +kernel
theorem dX4_growOlder_92 : decode cX4_growOlder 92 = .ok (.iadd, 1) := by decide +kernel
theorem dX4_growOlder_93 : decode cX4_growOlder 93 = .ok (.invokevirtual 82, 3) := by decide +kernel
theorem dX4_growOlder_96 : decode cX4_growOlder 96 = .ok (.iconst 0, 1) := by decide +kernel
theorem dX4_growOlder_97 : decode cX4_growOlder 97 = .ok (.istore 4, 2) := by decide +kernel
theorem dX4_growOlder_99 : decode cX4_growOlder 99 = .ok (.aload_n 0, 1) := by decide +kernel
theorem dX4_growOlder_100 : decode cX4_growOlder 100 = .ok (.getfield 25, 3) := by decide +kernel
theorem dX4_growOlder_103 : decode cX4_growOlder 103 = .ok (.iload_n 1, 1) := by decide +kernel
theorem dX4_growOlder_104 : decode cX4_growOlder 104 = .ok (.iconst 4, 1) := by decide +kernel
theorem dX4_growOlder_105 : decode cX4_growOlder 105 = .ok (.iload 4, 2) := by decide +kernel
theorem dX4_growOlder_107 : decode cX4_growOlder 107 = .ok (.invokevirtual 82, 3) := by decide +kernel
theorem dX4_growOlder_110 : decode cX4_growOlder 110 = .ok (.iconst 0, 1) := by decide +kernel
theorem dX4_growOlder_111 : decode cX4_growOlder 111 = .ok (.ireturn, 1) := by decide +kernel
theorem dX4_givenBackTo_0 : decode cX4_givenBackTo 0 = .ok (.iload_n 1, 1) := by decide +kernel
theorem dX4_givenBackTo_1 : decode cX4_givenBackTo 1 = .ok (.ifCond .lt 21, 3) := by decide +kernel
theorem dX4_givenBackTo_4 : decode cX4_givenBackTo 4 = .ok (.iload_n 1, 1) := by decide +kernel
theorem dX4_givenBackTo_5 : decode cX4_givenBackTo 5 = .ok (.aload_n 0, 1) := by decide +kernel
theorem dX4_givenBackTo_6 : decode cX4_givenBackTo 6 = .ok (.getfield 39, 3) := by decide +kernel
theorem dX4_givenBackTo_9 : decode cX4_givenBackTo 9 = .ok (.arraylength, 1) := by decide +kernel
theorem dX4_givenBackTo_10 : decode cX4_givenBackTo 10 = .ok (.if_icmp .ge 12, 3) := by decide +kernel
theorem dX4_givenBackTo_13 : decode cX4_givenBackTo 13 = .ok (.aload_n 0, 1) := by decide +kernel
theorem dX4_givenBackTo_14 : decode cX4_givenBackTo 14 = .ok (.getfield 39, 3) := by decide +kernel
theorem dX4_givenBackTo_17 : decode cX4_givenBackTo 17 = .ok (.iload_n 1, 1) := by decide +kernel
theorem dX4_givenBackTo_18 : decode cX4_givenBackTo 18 = .ok (.iaload, 1) := by decide +kernel
theorem dX4_givenBackTo_19 : decode cX4_givenBackTo 19 = .ok (.goto 4, 3) := by decide +kernel
theorem dX4_givenBackTo_22 : decode cX4_givenBackTo 22 = .ok (.iconst 0, 1) := by decide +kernel
theorem dX4_givenBackTo_23 : decode cX4_givenBackTo 23 = .ok (.ireturn, 1) := by decide +kernel
theorem dX4_sumGivenBack_0 : decode cX4_sumGivenBack 0 = .ok (.iconst 0, 1) := by decide +kernel
theorem dX4_sumGivenBack_1 : decode cX4_sumGivenBack 1 = .ok (.istore_n 1, 1) := by decide +kernel
theorem dX4_sumGivenBack_2 : decode cX4_sumGivenBack 2 = .ok (.aload_n 0, 1) := by decide +kernel
theorem dX4_sumGivenBack_3 : decode cX4_sumGivenBack 3 = .ok (.getfield 39, 3) := by decide +kernel
theorem dX4_sumGivenBack_6 : decode cX4_sumGivenBack 6 = .ok (.astore_n 2, 1) := by decide +kernel
theorem dX4_sumGivenBack_7 : decode cX4_sumGivenBack 7 = .ok (.aload_n 2, 1) := by decide +kernel
theorem dX4_sumGivenBack_8 : decode cX4_sumGivenBack 8 = .ok (.arraylength, 1) := by decide +kernel
theorem dX4_sumGivenBack_9 : decode cX4_sumGivenBack 9 = .ok (.istore_n 3, 1) := by decide +kernel
theorem dX4_sumGivenBack_10 : decode cX4_sumGivenBack 10 = .ok (.iconst 0, 1) := by decide +kernel
theorem dX4_sumGivenBack_11 : decode cX4_sumGivenBack 11 = .ok (.istore 4, 2) := by decide +kernel
theorem dX4_sumGivenBack_13 : decode cX4_sumGivenBack 13 = .ok (.iload 4, 2) := by decide +kernel
theorem dX4_sumGivenBack_15 : decode cX4_sumGivenBack 15 = .ok (.iload_n 3, 1) := by decide +kernel
theorem dX4_sumGivenBack_16 : decode cX4_sumGivenBack 16 = .ok (.if_icmp .ge 20, 3) := by decide +kernel
theorem dX4_sumGivenBack_19 : decode cX4_sumGivenBack 19 = .ok (.aload_n 2, 1) := by decide +kernel
theorem dX4_sumGivenBack_20 : decode cX4_sumGivenBack 20 = .ok (.iload 4, 2) := by decide +kernel
theorem dX4_sumGivenBack_22 : decode cX4_sumGivenBack 22 = .ok (.iaload, 1) := by decide +kernel
theorem dX4_sumGivenBack_23 : decode cX4_sumGivenBack 23 = .ok (.istore 5, 2) := by decide +kernel
theorem dX4_sumGivenBack_25 : decode cX4_sumGivenBack 25 = .ok (.iload_n 1, 1) := by decide +kernel
theorem dX4_sumGivenBack_26 : decode cX4_sumGivenBack 26 = .ok (.iload 5, 2) := by decide +kernel
theorem dX4_sumGivenBack_28 : decode cX4_sumGivenBack 28 = .ok (.iadd, 1) := by decide +kernel
theorem dX4_sumGivenBack_29 : decode cX4_sumGivenBack 29 = .ok (.istore_n 1, 1) := by decide +kernel
theorem dX4_sumGivenBack_30 : decode cX4_sumGivenBack 30 = .ok (.iinc 4 1, 3) := by decide +kernel
theorem dX4_sumGivenBack_33 : decode cX4_sumGivenBack 33 = .ok (.goto (-20), 3) := by decide +kernel
theorem dX4_sumGivenBack_36 : decode cX4_sumGivenBack 36 = .ok (.iload_n 1, 1) := by decide +kernel
theorem dX4_sumGivenBack_37 : decode cX4_sumGivenBack 37 = .ok (.ireturn, 1) := by decide +kernel
theorem dX4_leftBy_0 : decode cX4_leftBy 0 = .ok (.iload_n 1, 1) := by decide +kernel
theorem dX4_leftBy_1 : decode cX4_leftBy 1 = .ok (.ifCond .lt 21, 3) := by decide +kernel
theorem dX4_leftBy_4 : decode cX4_leftBy 4 = .ok (.iload_n 1, 1) := by decide +kernel
theorem dX4_leftBy_5 : decode cX4_leftBy 5 = .ok (.aload_n 0, 1) := by decide +kernel
theorem dX4_leftBy_6 : decode cX4_leftBy 6 = .ok (.getfield 36, 3) := by decide +kernel
theorem dX4_leftBy_9 : decode cX4_leftBy 9 = .ok (.arraylength, 1) := by decide +kernel
theorem dX4_leftBy_10 : decode cX4_leftBy 10 = .ok (.if_icmp .ge 12, 3) := by decide +kernel
theorem dX4_leftBy_13 : decode cX4_leftBy 13 = .ok (.aload_n 0, 1) := by decide +kernel
theorem dX4_leftBy_14 : decode cX4_leftBy 14 = .ok (.getfield 36, 3) := by decide +kernel
theorem dX4_leftBy_17 : decode cX4_leftBy 17 = .ok (.iload_n 1, 1) := by decide +kernel
theorem dX4_leftBy_18 : decode cX4_leftBy 18 = .ok (.iaload, 1) := by decide +kernel
theorem dX4_leftBy_19 : decode cX4_leftBy 19 = .ok (.goto 4, 3) := by decide +kernel
theorem dX4_leftBy_22 : decode cX4_leftBy 22 = .ok (.iconst 0, 1) := by decide +kernel
theorem dX4_leftBy_23 : decode cX4_leftBy 23 = .ok (.ireturn, 1) := by decide +kernel
theorem dX4_figure_0 : decode cX4_figure 0 = .ok (.iload_n 1, 1) := by decide +kernel
theorem dX4_figure_1 : decode cX4_figure 1 = .ok (.tableswitch 147 0 12 #[67, 75, 80, 85, 91, 97, 103, 108, 113, 121, 129, 137, 142], 67) := by decide +kernel
theorem dX4_figure_68 : decode cX4_figure 68 = .ok (.aload_n 0, 1) := by decide +kernel
theorem dX4_figure_69 : decode cX4_figure 69 = .ok (.getfield 25, 3) := by decide +kernel
theorem dX4_figure_72 : decode cX4_figure 72 = .ok (.getfield 67, 3) := by decide +kernel
theorem dX4_figure_75 : decode cX4_figure 75 = .ok (.ireturn, 1) := by decide +kernel
theorem dX4_figure_76 : decode cX4_figure 76 = .ok (.aload_n 0, 1) := by decide +kernel
theorem dX4_figure_77 : decode cX4_figure 77 = .ok (.getfield 45, 3) := by decide +kernel
theorem dX4_figure_80 : decode cX4_figure 80 = .ok (.ireturn, 1) := by decide +kernel
theorem dX4_figure_81 : decode cX4_figure 81 = .ok (.aload_n 0, 1) := by decide +kernel
theorem dX4_figure_82 : decode cX4_figure 82 = .ok (.getfield 48, 3) := by decide +kernel
theorem dX4_figure_85 : decode cX4_figure 85 = .ok (.ireturn, 1) := by decide +kernel
theorem dX4_figure_86 : decode cX4_figure 86 = .ok (.aload_n 0, 1) := by decide +kernel
theorem dX4_figure_87 : decode cX4_figure 87 = .ok (.iconst 0, 1) := by decide +kernel
theorem dX4_figure_88 : decode cX4_figure 88 = .ok (.invokevirtual 119, 3) := by decide +kernel
theorem dX4_figure_91 : decode cX4_figure 91 = .ok (.ireturn, 1) := by decide +kernel
theorem dX4_figure_92 : decode cX4_figure 92 = .ok (.aload_n 0, 1) := by decide +kernel
theorem dX4_figure_93 : decode cX4_figure 93 = .ok (.iconst 1, 1) := by decide +kernel
theorem dX4_figure_94 : decode cX4_figure 94 = .ok (.invokevirtual 119, 3) := by decide +kernel
theorem dX4_figure_97 : decode cX4_figure 97 = .ok (.ireturn, 1) := by decide +kernel
theorem dX4_figure_98 : decode cX4_figure 98 = .ok (.aload_n 0, 1) := by decide +kernel
theorem dX4_figure_99 : decode cX4_figure 99 = .ok (.iconst 2, 1) := by decide +kernel
theorem dX4_figure_100 : decode cX4_figure 100 = .ok (.invokevirtual 119, 3) := by decide +kernel
theorem dX4_figure_103 : decode cX4_figure 103 = .ok (.ireturn, 1) := by decide +kernel
theorem dX4_figure_104 : decode cX4_figure 104 = .ok (.aload_n 0, 1) := by decide +kernel
theorem dX4_figure_105 : decode cX4_figure 105 = .ok (.getfield 51, 3) := by decide +kernel
theorem dX4_figure_108 : decode cX4_figure 108 = .ok (.ireturn, 1) := by decide +kernel
theorem dX4_figure_109 : decode cX4_figure 109 = .ok (.aload_n 0, 1) := by decide +kernel
theorem dX4_figure_110 : decode cX4_figure 110 = .ok (.invokevirtual 122, 3) := by decide +kernel
theorem dX4_figure_113 : decode cX4_figure 113 = .ok (.ireturn, 1) := by decide +kernel
theorem dX4_figure_114 : decode cX4_figure 114 = .ok (.aload_n 0, 1) := by decide +kernel
theorem dX4_figure_115 : decode cX4_figure 115 = .ok (.getfield 25, 3) := by decide +kernel
theorem dX4_figure_118 : decode cX4_figure 118 = .ok (.invokevirtual 125, 3) := by decide +kernel
theorem dX4_figure_121 : decode cX4_figure 121 = .ok (.ireturn, 1) := by decide +kernel
theorem dX4_figure_122 : decode cX4_figure 122 = .ok (.aload_n 0, 1) := by decide +kernel
theorem dX4_figure_123 : decode cX4_figure 123 = .ok (.getfield 25, 3) := by decide +kernel
theorem dX4_figure_126 : decode cX4_figure 126 = .ok (.invokevirtual 128, 3) := by decide +kernel
theorem dX4_figure_129 : decode cX4_figure 129 = .ok (.ireturn, 1) := by decide +kernel
theorem dX4_figure_130 : decode cX4_figure 130 = .ok (.aload_n 0, 1) := by decide +kernel
theorem dX4_figure_131 : decode cX4_figure 131 = .ok (.getfield 32, 3) := by decide +kernel
theorem dX4_figure_134 : decode cX4_figure 134 = .ok (.getfield 131, 3) := by decide +kernel
theorem dX4_figure_137 : decode cX4_figure 137 = .ok (.ireturn, 1) := by decide +kernel
theorem dX4_figure_138 : decode cX4_figure 138 = .ok (.aload_n 0, 1) := by decide +kernel
theorem dX4_figure_139 : decode cX4_figure 139 = .ok (.getfield 9, 3) := by decide +kernel
theorem dX4_figure_142 : decode cX4_figure 142 = .ok (.ireturn, 1) := by decide +kernel
theorem dX4_figure_143 : decode cX4_figure 143 = .ok (.aload_n 0, 1) := by decide +kernel
theorem dX4_figure_144 : decode cX4_figure 144 = .ok (.getfield 15, 3) := by decide +kernel
theorem dX4_figure_147 : decode cX4_figure 147 = .ok (.ireturn, 1) := by decide +kernel
theorem dX4_figure_148 : decode cX4_figure 148 = .ok (.aload_n 0, 1) := by decide +kernel
theorem dX4_figure_149 : decode cX4_figure 149 = .ok (.getfield 42, 3) := by decide +kernel
theorem dX4_figure_152 : decode cX4_figure 152 = .ok (.ireturn, 1) := by decide +kernel
theorem dX5_init_0 : decode cX5_init 0 = .ok (.aload_n 0, 1) := by decide +kernel
theorem dX5_init_1 : decode cX5_init 1 = .ok (.invokespecial 3, 3) := by decide +kernel
theorem dX5_init_4 : decode cX5_init 4 = .ok (.aload_n 0, 1) := by decide +kernel
theorem dX5_init_5 : decode cX5_init 5 = .ok (.bipush 100, 2) := by decide +kernel
theorem dX5_init_7 : decode cX5_init 7 = .ok (.newarray .int, 2) := by decide +kernel
theorem dX5_init_9 : decode cX5_init 9 = .ok (.putfield 9, 3) := by decide +kernel
theorem dX5_init_12 : decode cX5_init 12 = .ok (.return_, 1) := by decide +kernel
theorem dX5_at_0 : decode cX5_at 0 = .ok (.iload_n 1, 1) := by decide +kernel
theorem dX5_at_1 : decode cX5_at 1 = .ok (.ifCond .lt 29, 3) := by decide +kernel
theorem dX5_at_4 : decode cX5_at 4 = .ok (.iload_n 1, 1) := by decide +kernel
theorem dX5_at_5 : decode cX5_at 5 = .ok (.aload_n 0, 1) := by decide +kernel
theorem dX5_at_6 : decode cX5_at 6 = .ok (.getfield 15, 3) := by decide +kernel
theorem dX5_at_9 : decode cX5_at 9 = .ok (.if_icmp .ge 21, 3) := by decide +kernel
theorem dX5_at_12 : decode cX5_at 12 = .ok (.iload_n 1, 1) := by decide +kernel
theorem dX5_at_13 : decode cX5_at 13 = .ok (.aload_n 0, 1) := by decide +kernel
theorem dX5_at_14 : decode cX5_at 14 = .ok (.getfield 9, 3) := by decide +kernel
theorem dX5_at_17 : decode cX5_at 17 = .ok (.arraylength, 1) := by decide +kernel
theorem dX5_at_18 : decode cX5_at 18 = .ok (.if_icmp .ge 12, 3) := by decide +kernel
theorem dX5_at_21 : decode cX5_at 21 = .ok (.aload_n 0, 1) := by decide +kernel
theorem dX5_at_22 : decode cX5_at 22 = .ok (.getfield 9, 3) := by decide +kernel
theorem dX5_at_25 : decode cX5_at 25 = .ok (.iload_n 1, 1) := by decide +kernel
theorem dX5_at_26 : decode cX5_at 26 = .ok (.iaload, 1) := by decide +kernel
theorem dX5_at_27 : decode cX5_at 27 = .ok (.goto 4, 3) := by decide +kernel
theorem dX5_at_30 : decode cX5_at 30 = .ok (.iconst (-1), 1) := by decide +kernel
theorem dX5_at_31 : decode cX5_at 31 = .ok (.ireturn, 1) := by decide +kernel
theorem dX5_add_0 : decode cX5_add 0 = .ok (.aload_n 0, 1) := by decide +kernel
theorem dX5_add_1 : decode cX5_add 1 = .ok (.getfield 15, 3) := by decide +kernel
theorem dX5_add_4 : decode cX5_add 4 = .ok (.ifCond .lt 15, 3) := by decide +kernel
theorem dX5_add_7 : decode cX5_add 7 = .ok (.aload_n 0, 1) := by decide +kernel
theorem dX5_add_8 : decode cX5_add 8 = .ok (.getfield 15, 3) := by decide +kernel
theorem dX5_add_11 : decode cX5_add 11 = .ok (.aload_n 0, 1) := by decide +kernel
theorem dX5_add_12 : decode cX5_add 12 = .ok (.getfield 9, 3) := by decide +kernel
theorem dX5_add_15 : decode cX5_add 15 = .ok (.arraylength, 1) := by decide +kernel
theorem dX5_add_16 : decode cX5_add 16 = .ok (.if_icmp .lt 5, 3) := by decide +kernel
theorem dX5_add_19 : decode cX5_add 19 = .ok (.iconst 0, 1) := by decide +kernel
theorem dX5_add_20 : decode cX5_add 20 = .ok (.ireturn, 1) := by decide +kernel
theorem dX5_add_21 : decode cX5_add 21 = .ok (.aload_n 0, 1) := by decide +kernel
theorem dX5_add_22 : decode cX5_add 22 = .ok (.getfield 9, 3) := by decide +kernel
theorem dX5_add_25 : decode cX5_add 25 = .ok (.aload_n 0, 1) := by decide +kernel
theorem dX5_add_26 : decode cX5_add 26 = .ok (.getfield 15, 3) := by decide +kernel
theorem dX5_add_29 : decode cX5_add 29 = .ok (.iload_n 1, 1) := by decide +kernel
theorem dX5_add_30 : decode cX5_add 30 = .ok (.iastore, 1) := by decide +kernel
theorem dX5_add_31 : decode cX5_add 31 = .ok (.aload_n 0, 1) := by decide +kernel
theorem dX5_add_32 : decode cX5_add 32 = .ok (.dup, 1) := by decide +kernel
theorem dX5_add_33 : decode cX5_add 33 = .ok (.getfield 15, 3) := by decide +kernel
theorem dX5_add_36 : decode cX5_add 36 = .ok (.iconst 1, 1) := by decide +kernel
theorem dX5_add_37 : decode cX5_add 37 = .ok (.iadd, 1) := by decide +kernel
theorem dX5_add_38 : decode cX5_add 38 = .ok (.putfield 15, 3) := by decide +kernel
theorem dX5_add_41 : decode cX5_add 41 = .ok (.iconst 1, 1) := by decide +kernel
theorem dX5_add_42 : decode cX5_add 42 = .ok (.ireturn, 1) := by decide +kernel
theorem dX6_init_0 : decode cX6_init 0 = .ok (.aload_n 0, 1) := by decide +kernel
theorem dX6_init_1 : decode cX6_init 1 = .ok (.invokespecial 1, 3) := by decide +kernel
theorem dX6_init_4 : decode cX6_init 4 = .ok (.aload_n 0, 1) := by decide +kernel
theorem dX6_init_5 : decode cX6_init 5 = .ok (.new 7, 3) := by decide +kernel
theorem dX6_init_8 : decode cX6_init 8 = .ok (.dup, 1) := by decide +kernel
theorem dX6_init_9 : decode cX6_init 9 = .ok (.invokespecial 9, 3) := by decide +kernel
theorem dX6_init_12 : decode cX6_init 12 = .ok (.putfield 10, 3) := by decide +kernel
theorem dX6_init_15 : decode cX6_init 15 = .ok (.aload_n 0, 1) := by decide +kernel
theorem dX6_init_16 : decode cX6_init 16 = .ok (.new 7, 3) := by decide +kernel
theorem dX6_init_19 : decode cX6_init 19 = .ok (.dup, 1) := by decide +kernel
theorem dX6_init_20 : decode cX6_init 20 = .ok (.invokespecial 9, 3) := by decide +kernel
theorem dX6_init_23 : decode cX6_init 23 = .ok (.putfield 16, 3) := by decide +kernel
theorem dX6_init_26 : decode cX6_init 26 = .ok (.aload_n 0, 1) := by decide +kernel
theorem dX6_init_27 : decode cX6_init 27 = .ok (.new 19, 3) := by decide +kernel
theorem dX6_init_30 : decode cX6_init 30 = .ok (.dup, 1) := by decide +kernel
theorem dX6_init_31 : decode cX6_init 31 = .ok (.invokespecial 21, 3) := by decide +kernel
theorem dX6_init_34 : decode cX6_init 34 = .ok (.putfield 22, 3) := by decide +kernel
theorem dX6_init_37 : decode cX6_init 37 = .ok (.aload_n 0, 1) := by decide +kernel
theorem dX6_init_38 : decode cX6_init 38 = .ok (.new 26, 3) := by decide +kernel
theorem dX6_init_41 : decode cX6_init 41 = .ok (.dup, 1) := by decide +kernel
theorem dX6_init_42 : decode cX6_init 42 = .ok (.invokespecial 28, 3) := by decide +kernel
theorem dX6_init_45 : decode cX6_init 45 = .ok (.putfield 29, 3) := by decide +kernel
theorem dX6_init_48 : decode cX6_init 48 = .ok (.aload_n 0, 1) := by decide +kernel
theorem dX6_init_49 : decode cX6_init 49 = .ok (.bipush 40, 2) := by decide +kernel
theorem dX6_init_51 : decode cX6_init 51 = .ok (.newarray .int, 2) := by decide +kernel
theorem dX6_init_53 : decode cX6_init 53 = .ok (.putfield 33, 3) := by decide +kernel
theorem dX6_init_56 : decode cX6_init 56 = .ok (.return_, 1) := by decide +kernel
theorem dX6_setPatience_0 : decode cX6_setPatience 0 = .ok (.iload_n 1, 1) := by decide +kernel
theorem dX6_setPatience_1 : decode cX6_setPatience 1 = .ok (.ifCond .lt 8, 3) := by decide +kernel
theorem dX6_setPatience_4 : decode cX6_setPatience 4 = .ok (.iload_n 1, 1) := by decide +kernel
theorem dX6_setPatience_5 : decode cX6_setPatience 5 = .ok (.iconst 4, 1) := by decide +kernel
theorem dX6_setPatience_6 : decode cX6_setPatience 6 = .ok (.if_icmp .lt 13, 3) := by decide +kernel
theorem dX6_setPatience_9 : decode cX6_setPatience 9 = .ok (.new 37, 3) := by decide +kernel
theorem dX6_setPatience_12 : decode cX6_setPatience 12 = .ok (.dup, 1) := by decide +kernel
theorem dX6_setPatience_13 : decode cX6_setPatience 13 = .ok (.ldc 39, 2) := by decide +kernel
theorem dX6_setPatience_15 : decode cX6_setPatience 15 = .ok (.invokespecial 41, 3) := by decide +kernel
theorem dX6_setPatience_18 : decode cX6_setPatience 18 = .ok (.athrow, 1) := by decide +kernel
theorem dX6_setPatience_19 : decode cX6_setPatience 19 = .ok (.iload_n 2, 1) := by decide +kernel
theorem dX6_setPatience_20 : decode cX6_setPatience 20 = .ok (.iconst 1, 1) := by decide +kernel
theorem dX6_setPatience_21 : decode cX6_setPatience 21 = .ok (.bipush 50, 2) := by decide +kernel
theorem dX6_setPatience_23 : decode cX6_setPatience 23 = .ok (.invokestatic 44, 3) := by decide +kernel
theorem dX6_setPatience_26 : decode cX6_setPatience 26 = .ok (.aload_n 0, 1) := by decide +kernel
theorem dX6_setPatience_27 : decode cX6_setPatience 27 = .ok (.getfield 22, 3) := by decide +kernel
theorem dX6_setPatience_30 : decode cX6_setPatience 30 = .ok (.aload_n 0, 1) := by decide +kernel
theorem dX6_setPatience_31 : decode cX6_setPatience 31 = .ok (.getfield 10, 3) := by decide +kernel
theorem dX6_setPatience_34 : decode cX6_setPatience 34 = .ok (.invokevirtual 48, 3) := by decide +kernel
theorem dX6_setPatience_37 : decode cX6_setPatience 37 = .ok (.aload_n 0, 1) := by decide +kernel
theorem dX6_setPatience_38 : decode cX6_setPatience 38 = .ok (.getfield 10, 3) := by decide +kernel
theorem dX6_setPatience_41 : decode cX6_setPatience 41 = .ok (.getfield 52, 3) := by decide +kernel
theorem dX6_setPatience_44 : decode cX6_setPatience 44 = .ok (.iload_n 1, 1) := by decide +kernel
theorem dX6_setPatience_45 : decode cX6_setPatience 45 = .ok (.iaload, 1) := by decide +kernel
theorem dX6_setPatience_46 : decode cX6_setPatience 46 = .ok (.istore_n 3, 1) := by decide +kernel
theorem dX6_setPatience_47 : decode cX6_setPatience 47 = .ok (.aload_n 0, 1) := by decide +kernel
theorem dX6_setPatience_48 : decode cX6_setPatience 48 = .ok (.getfield 10, 3) := by decide +kernel
theorem dX6_setPatience_51 : decode cX6_setPatience 51 = .ok (.getfield 52, 3) := by decide +kernel
theorem dX6_setPatience_54 : decode cX6_setPatience 54 = .ok (.iload_n 1, 1) := by decide +kernel
theorem dX6_setPatience_55 : decode cX6_setPatience 55 = .ok (.iload_n 2, 1) := by decide +kernel
theorem dX6_setPatience_56 : decode cX6_setPatience 56 = .ok (.iastore, 1) := by decide +kernel
theorem dX6_setPatience_57 : decode cX6_setPatience 57 = .ok (.iload_n 3, 1) := by decide +kernel
theorem dX6_setPatience_58 : decode cX6_setPatience 58 = .ok (.ireturn, 1) := by decide +kernel
theorem dX6_setQuota_0 : decode cX6_setQuota 0 = .ok (.iload_n 1, 1) := by decide +kernel
theorem dX6_setQuota_1 : decode cX6_setQuota 1 = .ok (.iconst 0, 1) := by decide +kernel
theorem dX6_setQuota_2 : decode cX6_setQuota 2 = .ok (.bipush 10, 2) := by decide +kernel
theorem dX6_setQuota_4 : decode cX6_setQuota 4 = .ok (.invokestatic 44, 3) := by decide +kernel
theorem dX6_setQuota_7 : decode cX6_setQuota 7 = .ok (.aload_n 0, 1) := by decide +kernel
theorem dX6_setQuota_8 : decode cX6_setQuota 8 = .ok (.getfield 22, 3) := by decide +kernel
theorem dX6_setQuota_11 : decode cX6_setQuota 11 = .ok (.aload_n 0, 1) := by decide +kernel
theorem dX6_setQuota_12 : decode cX6_setQuota 12 = .ok (.getfield 10, 3) := by decide +kernel
theorem dX6_setQuota_15 : decode cX6_setQuota 15 = .ok (.invokevirtual 48, 3) := by decide +kernel
theorem dX6_setQuota_18 : decode cX6_setQuota 18 = .ok (.aload_n 0, 1) := by decide +kernel
theorem dX6_setQuota_19 : decode cX6_setQuota 19 = .ok (.getfield 10, 3) := by decide +kernel
theorem dX6_setQuota_22 : decode cX6_setQuota 22 = .ok (.getfield 55, 3) := by decide +kernel
theorem dX6_setQuota_25 : decode cX6_setQuota 25 = .ok (.istore_n 2, 1) := by decide +kernel
theorem dX6_setQuota_26 : decode cX6_setQuota 26 = .ok (.aload_n 0, 1) := by decide +kernel
theorem dX6_setQuota_27 : decode cX6_setQuota 27 = .ok (.getfield 10, 3) := by decide +kernel
theorem dX6_setQuota_30 : decode cX6_setQuota 30 = .ok (.iload_n 1, 1) := by decide +kernel
theorem dX6_setQuota_31 : decode cX6_setQuota 31 = .ok (.putfield 55, 3) := by decide +kernel
theorem dX6_setQuota_34 : decode cX6_setQuota 34 = .ok (.iload_n 2, 1) := by decide +kernel
theorem dX6_setQuota_35 : decode cX6_setQuota 35 = .ok (.ireturn, 1) := by decide +kernel
theorem dX6_setGrace_0 : decode cX6_setGrace 0 = .ok (.iload_n 1, 1) := by decide +kernel
theorem dX6_setGrace_1 : decode cX6_setGrace 1 = .ok (.iconst 0, 1) := by decide +kernel
theorem dX6_setGrace_2 : decode cX6_setGrace 2 = .ok (.sipush 200, 3) := by decide +kernel
theorem dX6_setGrace_5 : decode cX6_setGrace 5 = .ok (.invokestatic 44, 3) := by decide +kernel
theorem dX6_setGrace_8 : decode cX6_setGrace 8 = .ok (.aload_n 0, 1) := by decide +kernel
theorem dX6_setGrace_9 : decode cX6_setGrace 9 = .ok (.getfield 22, 3) := by decide +kernel
theorem dX6_setGrace_12 : decode cX6_setGrace 12 = .ok (.aload_n 0, 1) := by decide +kernel
theorem dX6_setGrace_13 : decode cX6_setGrace 13 = .ok (.getfield 10, 3) := by decide +kernel
theorem dX6_setGrace_16 : decode cX6_setGrace 16 = .ok (.invokevirtual 48, 3) := by decide +kernel
theorem dX6_setGrace_19 : decode cX6_setGrace 19 = .ok (.aload_n 0, 1) := by decide +kernel
theorem dX6_setGrace_20 : decode cX6_setGrace 20 = .ok (.getfield 10, 3) := by decide +kernel
theorem dX6_setGrace_23 : decode cX6_setGrace 23 = .ok (.getfield 59, 3) := by decide +kernel
theorem dX6_setGrace_26 : decode cX6_setGrace 26 = .ok (.istore_n 2, 1) := by decide +kernel
theorem dX6_setGrace_27 : decode cX6_setGrace 27 = .ok (.aload_n 0, 1) := by decide +kernel
theorem dX6_setGrace_28 : decode cX6_setGrace 28 = .ok (.getfield 10, 3) := by decide +kernel
theorem dX6_setGrace_31 : decode cX6_setGrace 31 = .ok (.iload_n 1, 1) := by decide +kernel
theorem dX6_setGrace_32 : decode cX6_setGrace 32 = .ok (.putfield 59, 3) := by decide +kernel
theorem dX6_setGrace_35 : decode cX6_setGrace 35 = .ok (.iload_n 2, 1) := by decide +kernel
theorem dX6_setGrace_36 : decode cX6_setGrace 36 = .ok (.ireturn, 1) := by decide +kernel
theorem dX6_send_0 : decode cX6_send 0 = .ok (.iload_n 1, 1) := by decide +kernel
theorem dX6_send_1 : decode cX6_send 1 = .ok (.iload_n 2, 1) := by decide +kernel
theorem dX6_send_2 : decode cX6_send 2 = .ok (.iload_n 3, 1) := by decide +kernel
theorem dX6_send_3 : decode cX6_send 3 = .ok (.invokestatic 62, 3) := by decide +kernel
theorem dX6_send_6 : decode cX6_send 6 = .ok (.aload_n 0, 1) := by decide +kernel
theorem dX6_send_7 : decode cX6_send 7 = .ok (.iload_n 1, 1) := by decide +kernel
theorem dX6_send_8 : decode cX6_send 8 = .ok (.iconst (-1), 1) := by decide +kernel
theorem dX6_send_9 : decode cX6_send 9 = .ok (.invokevirtual 65, 3) := by decide +kernel
theorem dX6_send_12 : decode cX6_send 12 = .ok (.aload_n 0, 1) := by decide +kernel
theorem dX6_send_13 : decode cX6_send 13 = .ok (.getfield 22, 3) := by decide +kernel
theorem dX6_send_16 : decode cX6_send 16 = .ok (.aload_n 0, 1) := by decide +kernel
theorem dX6_send_17 : decode cX6_send 17 = .ok (.getfield 10, 3) := by decide +kernel
theorem dX6_send_20 : decode cX6_send 20 = .ok (.invokevirtual 48, 3) := by decide +kernel
theorem dX6_send_23 : decode cX6_send 23 = .ok (.aload_n 0, 1) := by decide +kernel
theorem dX6_send_24 : decode cX6_send 24 = .ok (.getfield 10, 3) := by decide +kernel
theorem dX6_send_27 : decode cX6_send 27 = .ok (.iload_n 1, 1) := by decide +kernel
theorem dX6_send_28 : decode cX6_send 28 = .ok (.iconst (-1), 1) := by decide +kernel
theorem dX6_send_29 : decode cX6_send 29 = .ok (.iload_n 2, 1) := by decide +kernel
theorem dX6_send_30 : decode cX6_send 30 = .ok (.iload_n 3, 1) := by decide +kernel
theorem dX6_send_31 : decode cX6_send 31 = .ok (.iconst 0, 1) := by decide +kernel
theorem dX6_send_32 : decode cX6_send 32 = .ok (.invokevirtual 69, 3) := by decide +kernel
theorem dX6_send_35 : decode cX6_send 35 = .ok (.ireturn, 1) := by decide +kernel
theorem dX6_sendBribed_0 : decode cX6_sendBribed 0 = .ok (.iload_n 1, 1) := by decide +kernel
theorem dX6_sendBribed_1 : decode cX6_sendBribed 1 = .ok (.iload_n 2, 1) := by decide +kernel
theorem dX6_sendBribed_2 : decode cX6_sendBribed 2 = .ok (.iload_n 3, 1) := by decide +kernel
theorem dX6_sendBribed_3 : decode cX6_sendBribed 3 = .ok (.invokestatic 62, 3) := by decide +kernel
theorem dX6_sendBribed_6 : decode cX6_sendBribed 6 = .ok (.iload 4, 2) := by decide +kernel
theorem dX6_sendBribed_8 : decode cX6_sendBribed 8 = .ok (.iconst 1, 1) := by decide +kernel
theorem dX6_sendBribed_9 : decode cX6_sendBribed 9 = .ok (.bipush 100, 2) := by decide +kernel
theorem dX6_sendBribed_11 : decode cX6_sendBribed 11 = .ok (.invokestatic 44, 3) := by decide +kernel
theorem dX6_sendBribed_14 : decode cX6_sendBribed 14 = .ok (.aload_n 0, 1) := by decide +kernel
theorem dX6_sendBribed_15 : decode cX6_sendBribed 15 = .ok (.iload_n 1, 1) := by decide +kernel
theorem dX6_sendBribed_16 : decode cX6_sendBribed 16 = .ok (.iconst (-1), 1) := by decide +kernel
theorem dX6_sendBribed_17 : decode cX6_sendBribed 17 = .ok (.invokevirtual 65, 3) := by decide +kernel
theorem dX6_sendBribed_20 : decode cX6_sendBribed 20 = .ok (.aload_n 0, 1) := by decide +kernel
theorem dX6_sendBribed_21 : decode cX6_sendBribed 21 = .ok (.getfield 22, 3) := by decide +kernel
theorem dX6_sendBribed_24 : decode cX6_sendBribed 24 = .ok (.aload_n 0, 1) := by decide +kernel
theorem dX6_sendBribed_25 : decode cX6_sendBribed 25 = .ok (.getfield 10, 3) := by decide +kernel
theorem dX6_sendBribed_28 : decode cX6_sendBribed 28 = .ok (.invokevirtual 48, 3) := by decide +kernel
theorem dX6_sendBribed_31 : decode cX6_sendBribed 31 = .ok (.aload_n 0, 1) := by decide +kernel
theorem dX6_sendBribed_32 : decode cX6_sendBribed 32 = .ok (.getfield 10, 3) := by decide +kernel
theorem dX6_sendBribed_35 : decode cX6_sendBribed 35 = .ok (.iload_n 1, 1) := by decide +kernel
theorem dX6_sendBribed_36 : decode cX6_sendBribed 36 = .ok (.iconst (-1), 1) := by decide +kernel
theorem dX6_sendBribed_37 : decode cX6_sendBribed 37 = .ok (.iload_n 2, 1) := by decide +kernel
theorem dX6_sendBribed_38 : decode cX6_sendBribed 38 = .ok (.iload_n 3, 1) := by decide +kernel
theorem dX6_sendBribed_39 : decode cX6_sendBribed 39 = .ok (.iload 4, 2) := by decide +kernel
theorem dX6_sendBribed_41 : decode cX6_sendBribed 41 = .ok (.invokevirtual 69, 3) := by decide +kernel
theorem dX6_sendBribed_44 : decode cX6_sendBribed 44 = .ok (.ireturn, 1) := by decide +kernel
theorem dX6_sendJoint_0 : decode cX6_sendJoint 0 = .ok (.iload_n 1, 1) := by decide +kernel
theorem dX6_sendJoint_1 : decode cX6_sendJoint 1 = .ok (.iload_n 3, 1) := by decide +kernel
theorem dX6_sendJoint_2 : decode cX6_sendJoint 2 = .ok (.iload 4, 2) := by decide +kernel
theorem dX6_sendJoint_4 : decode cX6_sendJoint 4 = .ok (.invokestatic 62, 3) := by decide +kernel
theorem dX6_sendJoint_7 : decode cX6_sendJoint 7 = .ok (.iload_n 2, 1) := by decide +kernel
theorem dX6_sendJoint_8 : decode cX6_sendJoint 8 = .ok (.iconst 0, 1) := by decide +kernel
theorem dX6_sendJoint_9 : decode cX6_sendJoint 9 = .ok (.bipush 7, 2) := by decide +kernel
theorem dX6_sendJoint_11 : decode cX6_sendJoint 11 = .ok (.invokestatic 44, 3) := by decide +kernel
theorem dX6_sendJoint_14 : decode cX6_sendJoint 14 = .ok (.iload_n 2, 1) := by decide +kernel
theorem dX6_sendJoint_15 : decode cX6_sendJoint 15 = .ok (.iload_n 1, 1) := by decide +kernel
theorem dX6_sendJoint_16 : decode cX6_sendJoint 16 = .ok (.if_icmp .ne 13, 3) := by decide +kernel
theorem dX6_sendJoint_19 : decode cX6_sendJoint 19 = .ok (.new 73, 3) := by decide +kernel
theorem dX6_sendJoint_22 : decode cX6_sendJoint 22 = .ok (.dup, 1) := by decide +kernel
theorem dX6_sendJoint_23 : decode cX6_sendJoint 23 = .ok (.ldc 75, 2) := by decide +kernel
theorem dX6_sendJoint_25 : decode cX6_sendJoint 25 = .ok (.invokespecial 77, 3) := by decide +kernel
theorem dX6_sendJoint_28 : decode cX6_sendJoint 28 = .ok (.athrow, 1) := by decide +kernel
theorem dX6_sendJoint_29 : decode cX6_sendJoint 29 = .ok (.aload_n 0, 1) := by decide +kernel
theorem dX6_sendJoint_30 : decode cX6_sendJoint 30 = .ok (.iload_n 1, 1) := by decide +kernel
theorem dX6_sendJoint_31 : decode cX6_sendJoint 31 = .ok (.iload_n 2, 1) := by decide +kernel
theorem dX6_sendJoint_32 : decode cX6_sendJoint 32 = .ok (.invokevirtual 65, 3) := by decide +kernel
theorem dX6_sendJoint_35 : decode cX6_sendJoint 35 = .ok (.aload_n 0, 1) := by decide +kernel
theorem dX6_sendJoint_36 : decode cX6_sendJoint 36 = .ok (.getfield 22, 3) := by decide +kernel
theorem dX6_sendJoint_39 : decode cX6_sendJoint 39 = .ok (.aload_n 0, 1) := by decide +kernel
theorem dX6_sendJoint_40 : decode cX6_sendJoint 40 = .ok (.getfield 10, 3) := by decide +kernel
theorem dX6_sendJoint_43 : decode cX6_sendJoint 43 = .ok (.invokevirtual 48, 3) := by decide +kernel
theorem dX6_sendJoint_46 : decode cX6_sendJoint 46 = .ok (.aload_n 0, 1) := by decide +kernel
theorem dX6_sendJoint_47 : decode cX6_sendJoint 47 = .ok (.getfield 10, 3) := by decide +kernel
theorem dX6_sendJoint_50 : decode cX6_sendJoint 50 = .ok (.iload_n 1, 1) := by decide +kernel
theorem dX6_sendJoint_51 : decode cX6_sendJoint 51 = .ok (.iload_n 2, 1) := by decide +kernel
theorem dX6_sendJoint_52 : decode cX6_sendJoint 52 = .ok (.iload_n 3, 1) := by decide +kernel
theorem dX6_sendJoint_53 : decode cX6_sendJoint 53 = .ok (.iload 4, 2) := by decide +kernel
theorem dX6_sendJoint_55 : decode cX6_sendJoint 55 = .ok (.iconst 0, 1) := by decide +kernel
theorem dX6_sendJoint_56 : decode cX6_sendJoint 56 = .ok (.invokevirtual 69, 3) := by decide +kernel
theorem dX6_sendJoint_59 : decode cX6_sendJoint 59 = .ok (.ireturn, 1) := by decide +kernel
theorem dX6_withdraw_0 : decode cX6_withdraw 0 = .ok (.aload_n 0, 1) := by decide +kernel
theorem dX6_withdraw_1 : decode cX6_withdraw 1 = .ok (.iload_n 1, 1) := by decide +kernel
theorem dX6_withdraw_2 : decode cX6_withdraw 2 = .ok (.invokevirtual 78, 3) := by decide +kernel
theorem dX6_withdraw_5 : decode cX6_withdraw 5 = .ok (.istore_n 2, 1) := by decide +kernel
theorem dX6_withdraw_6 : decode cX6_withdraw 6 = .ok (.aload_n 0, 1) := by decide +kernel
theorem dX6_withdraw_7 : decode cX6_withdraw 7 = .ok (.getfield 22, 3) := by decide +kernel
theorem dX6_withdraw_10 : decode cX6_withdraw 10 = .ok (.aload_n 0, 1) := by decide +kernel
theorem dX6_withdraw_11 : decode cX6_withdraw 11 = .ok (.getfield 10, 3) := by decide +kernel
theorem dX6_withdraw_14 : decode cX6_withdraw 14 = .ok (.invokevirtual 48, 3) := by decide +kernel
theorem dX6_withdraw_17 : decode cX6_withdraw 17 = .ok (.aload_n 0, 1) := by decide +kernel
theorem dX6_withdraw_18 : decode cX6_withdraw 18 = .ok (.getfield 10, 3) := by decide +kernel
theorem dX6_withdraw_21 : decode cX6_withdraw 21 = .ok (.iload_n 2, 1) := by decide +kernel
theorem dX6_withdraw_22 : decode cX6_withdraw 22 = .ok (.iconst 2, 1) := by decide +kernel
theorem dX6_withdraw_23 : decode cX6_withdraw 23 = .ok (.invokevirtual 82, 3) := by decide +kernel
theorem dX6_withdraw_26 : decode cX6_withdraw 26 = .ok (.ireturn, 1) := by decide +kernel
theorem dX6_serve_0 : decode cX6_serve 0 = .ok (.aload_n 0, 1) := by decide +kernel
theorem dX6_serve_1 : decode cX6_serve 1 = .ok (.getfield 10, 3) := by decide +kernel
theorem dX6_serve_4 : decode cX6_serve 4 = .ok (.getfield 86, 3) := by decide +kernel
theorem dX6_serve_7 : decode cX6_serve 7 = .ok (.getfield 90, 3) := by decide +kernel
theorem dX6_serve_10 : decode cX6_serve 10 = .ok (.ifCond .ne 13, 3) := by decide +kernel
theorem dX6_serve_13 : decode cX6_serve 13 = .ok (.new 95, 3) := by decide +kernel
theorem dX6_serve_16 : decode cX6_serve 16 = .ok (.dup, 1) := by decide +kernel
theorem dX6_serve_17 : decode cX6_serve 17 = .ok (.ldc 97, 2) := by decide +kernel
theorem dX6_serve_19 : decode cX6_serve 19 = .ok (.invokespecial 99, 3) := by decide +kernel
theorem dX6_serve_22 : decode cX6_serve 22 = .ok (.athrow, 1) := by decide +kernel
theorem dX6_serve_23 : decode cX6_serve 23 = .ok (.aload_n 0, 1) := by decide +kernel
theorem dX6_serve_24 : decode cX6_serve 24 = .ok (.getfield 22, 3) := by decide +kernel
theorem dX6_serve_27 : decode cX6_serve 27 = .ok (.aload_n 0, 1) := by decide +kernel
theorem dX6_serve_28 : decode cX6_serve 28 = .ok (.getfield 10, 3) := by decide +kernel
theorem dX6_serve_31 : decode cX6_serve 31 = .ok (.invokevirtual 48, 3) := by decide +kernel
theorem dX6_serve_34 : decode cX6_serve 34 = .ok (.aload_n 0, 1) := by decide +kernel
theorem dX6_serve_35 : decode cX6_serve 35 = .ok (.getfield 10, 3) := by decide +kernel
theorem dX6_serve_38 : decode cX6_serve 38 = .ok (.invokevirtual 100, 3) := by decide +kernel
theorem dX6_serve_41 : decode cX6_serve 41 = .ok (.ireturn, 1) := by decide +kernel
theorem dX6_pass_0 : decode cX6_pass 0 = .ok (.iload_n 1, 1) := by decide +kernel
theorem dX6_pass_1 : decode cX6_pass 1 = .ok (.iconst 1, 1) := by decide +kernel
theorem dX6_pass_2 : decode cX6_pass 2 = .ok (.sipush 200, 3) := by decide +kernel
theorem dX6_pass_5 : decode cX6_pass 5 = .ok (.invokestatic 44, 3) := by decide +kernel
theorem dX6_pass_8 : decode cX6_pass 8 = .ok (.aload_n 0, 1) := by decide +kernel
theorem dX6_pass_9 : decode cX6_pass 9 = .ok (.getfield 10, 3) := by decide +kernel
theorem dX6_pass_12 : decode cX6_pass 12 = .ok (.iload_n 1, 1) := by decide +kernel
theorem dX6_pass_13 : decode cX6_pass 13 = .ok (.invokevirtual 104, 3) := by decide +kernel
theorem dX6_pass_16 : decode cX6_pass 16 = .ok (.ifCond .ne 13, 3) := by decide +kernel
theorem dX6_pass_19 : decode cX6_pass 19 = .ok (.new 108, 3) := by decide +kernel
theorem dX6_pass_22 : decode cX6_pass 22 = .ok (.dup, 1) := by decide +kernel
theorem dX6_pass_23 : decode cX6_pass 23 = .ok (.ldc 110, 2) := by decide +kernel
theorem dX6_pass_25 : decode cX6_pass 25 = .ok (.invokespecial 112, 3) := by decide +kernel
theorem dX6_pass_28 : decode cX6_pass 28 = .ok (.athrow, 1) := by decide +kernel
theorem dX6_pass_29 : decode cX6_pass 29 = .ok (.aload_n 0, 1) := by decide +kernel
theorem dX6_pass_30 : decode cX6_pass 30 = .ok (.getfield 22, 3) := by decide +kernel
theorem dX6_pass_33 : decode cX6_pass 33 = .ok (.aload_n 0, 1) := by decide +kernel
theorem dX6_pass_34 : decode cX6_pass 34 = .ok (.getfield 10, 3) := by decide +kernel
theorem dX6_pass_37 : decode cX6_pass 37 = .ok (.invokevirtual 48, 3) := by decide +kernel
theorem dX6_pass_40 : decode cX6_pass 40 = .ok (.aload_n 0, 1) := by decide +kernel
theorem dX6_pass_41 : decode cX6_pass 41 = .ok (.getfield 10, 3) := by decide +kernel
theorem dX6_pass_44 : decode cX6_pass 44 = .ok (.iload_n 1, 1) := by decide +kernel
theorem dX6_pass_45 : decode cX6_pass 45 = .ok (.invokevirtual 113, 3) := by decide +kernel
theorem dX6_pass_48 : decode cX6_pass 48 = .ok (.ireturn, 1) := by decide +kernel
theorem dX6_petition_0 : decode cX6_petition 0 = .ok (.aload_n 0, 1) := by decide +kernel
theorem dX6_petition_1 : decode cX6_petition 1 = .ok (.iload_n 1, 1) := by decide +kernel
theorem dX6_petition_2 : decode cX6_petition 2 = .ok (.invokevirtual 78, 3) := by decide +kernel
theorem dX6_petition_5 : decode cX6_petition 5 = .ok (.istore_n 3, 1) := by decide +kernel
theorem dX6_petition_6 : decode cX6_petition 6 = .ok (.iload_n 2, 1) := by decide +kernel
theorem dX6_petition_7 : decode cX6_petition 7 = .ok (.iconst 0, 1) := by decide +kernel
theorem dX6_petition_8 : decode cX6_petition 8 = .ok (.bipush 9, 2) := by decide +kernel
theorem dX6_petition_10 : decode cX6_petition 10 = .ok (.invokestatic 44, 3) := by decide +kernel
theorem dX6_petition_13 : decode cX6_petition 13 = .ok (.aload_n 0, 1) := by decide +kernel
theorem dX6_petition_14 : decode cX6_petition 14 = .ok (.getfield 10, 3) := by decide +kernel
theorem dX6_petition_17 : decode cX6_petition 17 = .ok (.getfield 86, 3) := by decide +kernel
theorem dX6_petition_20 : decode cX6_petition 20 = .ok (.iload_n 3, 1) := by decide +kernel
theorem dX6_petition_21 : decode cX6_petition 21 = .ok (.iload_n 2, 1) := by decide +kernel
theorem dX6_petition_22 : decode cX6_petition 22 = .ok (.invokevirtual 116, 3) := by decide +kernel
theorem dX6_petition_25 : decode cX6_petition 25 = .ok (.ireturn, 1) := by decide +kernel
theorem dX6_peek_0 : decode cX6_peek 0 = .ok (.iload_n 1, 1) := by decide +kernel
theorem dX6_peek_1 : decode cX6_peek 1 = .ok (.ifCond .lt 26, 3) := by decide +kernel
theorem dX6_peek_4 : decode cX6_peek 4 = .ok (.iload_n 1, 1) := by decide +kernel
theorem dX6_peek_5 : decode cX6_peek 5 = .ok (.aload_n 0, 1) := by decide +kernel
theorem dX6_peek_6 : decode cX6_peek 6 = .ok (.getfield 10, 3) := by decide +kernel
theorem dX6_peek_9 : decode cX6_peek 9 = .ok (.getfield 86, 3) := by decide +kernel
theorem dX6_peek_12 : decode cX6_peek 12 = .ok (.getfield 90, 3) := by decide +kernel
theorem dX6_peek_15 : decode cX6_peek 15 = .ok (.if_icmp .ge 12, 3) := by decide +kernel
theorem dX6_peek_18 : decode cX6_peek 18 = .ok (.iload_n 1, 1) := by decide +kernel
theorem dX6_peek_19 : decode cX6_peek 19 = .ok (.aload_n 0, 1) := by decide +kernel
theorem dX6_peek_20 : decode cX6_peek 20 = .ok (.getfield 33, 3) := by decide +kernel
theorem dX6_peek_23 : decode cX6_peek 23 = .ok (.arraylength, 1) := by decide +kernel
theorem dX6_peek_24 : decode cX6_peek 24 = .ok (.if_icmp .lt 13, 3) := by decide +kernel
theorem dX6_peek_27 : decode cX6_peek 27 = .ok (.new 37, 3) := by decide +kernel
theorem dX6_peek_30 : decode cX6_peek 30 = .ok (.dup, 1) := by decide +kernel
theorem dX6_peek_31 : decode cX6_peek 31 = .ok (.ldc 119, 2) := by decide +kernel
theorem dX6_peek_33 : decode cX6_peek 33 = .ok (.invokespecial 41, 3) := by decide +kernel
theorem dX6_peek_36 : decode cX6_peek 36 = .ok (.athrow, 1) := by decide +kernel
theorem dX6_peek_37 : decode cX6_peek 37 = .ok (.aload_n 0, 1) := by decide +kernel
theorem dX6_peek_38 : decode cX6_peek 38 = .ok (.getfield 10, 3) := by decide +kernel
theorem dX6_peek_41 : decode cX6_peek 41 = .ok (.getfield 86, 3) := by decide +kernel
theorem dX6_peek_44 : decode cX6_peek 44 = .ok (.aload_n 0, 1) := by decide +kernel
theorem dX6_peek_45 : decode cX6_peek 45 = .ok (.getfield 33, 3) := by decide +kernel
theorem dX6_peek_48 : decode cX6_peek 48 = .ok (.invokevirtual 121, 3) := by decide +kernel
theorem dX6_peek_51 : decode cX6_peek 51 = .ok (.aload_n 0, 1) := by decide +kernel
theorem dX6_peek_52 : decode cX6_peek 52 = .ok (.getfield 10, 3) := by decide +kernel
theorem dX6_peek_55 : decode cX6_peek 55 = .ok (.getfield 86, 3) := by decide +kernel
theorem dX6_peek_58 : decode cX6_peek 58 = .ok (.aload_n 0, 1) := by decide +kernel
theorem dX6_peek_59 : decode cX6_peek 59 = .ok (.getfield 33, 3) := by decide +kernel
theorem dX6_peek_62 : decode cX6_peek 62 = .ok (.iload_n 1, 1) := by decide +kernel
theorem dX6_peek_63 : decode cX6_peek 63 = .ok (.iaload, 1) := by decide +kernel
theorem dX6_peek_64 : decode cX6_peek 64 = .ok (.bipush 7, 2) := by decide +kernel
theorem dX6_peek_66 : decode cX6_peek 66 = .ok (.invokevirtual 125, 3) := by decide +kernel
theorem dX6_peek_69 : decode cX6_peek 69 = .ok (.ireturn, 1) := by decide +kernel
theorem dX6_sentBy_0 : decode cX6_sentBy 0 = .ok (.iload_n 1, 1) := by decide +kernel
theorem dX6_sentBy_1 : decode cX6_sentBy 1 = .ok (.iconst 0, 1) := by decide +kernel
theorem dX6_sentBy_2 : decode cX6_sentBy 2 = .ok (.bipush 7, 2) := by decide +kernel
theorem dX6_sentBy_4 : decode cX6_sentBy 4 = .ok (.invokestatic 44, 3) := by decide +kernel
theorem dX6_sentBy_7 : decode cX6_sentBy 7 = .ok (.aload_n 0, 1) := by decide +kernel
theorem dX6_sentBy_8 : decode cX6_sentBy 8 = .ok (.getfield 10, 3) := by decide +kernel
theorem dX6_sentBy_11 : decode cX6_sentBy 11 = .ok (.getfield 86, 3) := by decide +kernel
theorem dX6_sentBy_14 : decode cX6_sentBy 14 = .ok (.iload_n 1, 1) := by decide +kernel
theorem dX6_sentBy_15 : decode cX6_sentBy 15 = .ok (.invokevirtual 128, 3) := by decide +kernel
theorem dX6_sentBy_18 : decode cX6_sentBy 18 = .ok (.ireturn, 1) := by decide +kernel
theorem dX6_returned_0 : decode cX6_returned 0 = .ok (.iload_n 1, 1) := by decide +kernel
theorem dX6_returned_1 : decode cX6_returned 1 = .ok (.iconst 0, 1) := by decide +kernel
theorem dX6_returned_2 : decode cX6_returned 2 = .ok (.bipush 7, 2) := by decide +kernel
theorem dX6_returned_4 : decode cX6_returned 4 = .ok (.invokestatic 44, 3) := by decide +kernel
theorem dX6_returned_7 : decode cX6_returned 7 = .ok (.aload_n 0, 1) := by decide +kernel
theorem dX6_returned_8 : decode cX6_returned 8 = .ok (.getfield 10, 3) := by decide +kernel
theorem dX6_returned_11 : decode cX6_returned 11 = .ok (.iload_n 1, 1) := by decide +kernel
theorem dX6_returned_12 : decode cX6_returned 12 = .ok (.invokevirtual 131, 3) := by decide +kernel
theorem dX6_returned_15 : decode cX6_returned 15 = .ok (.ireturn, 1) := by decide +kernel
theorem dX6_entry_0 : decode cX6_entry 0 = .ok (.iload_n 1, 1) := by decide +kernel
theorem dX6_entry_1 : decode cX6_entry 1 = .ok (.ifCond .lt 17, 3) := by decide +kernel
theorem dX6_entry_4 : decode cX6_entry 4 = .ok (.iload_n 1, 1) := by decide +kernel
theorem dX6_entry_5 : decode cX6_entry 5 = .ok (.aload_n 0, 1) := by decide +kernel
theorem dX6_entry_6 : decode cX6_entry 6 = .ok (.getfield 10, 3) := by decide +kernel
theorem dX6_entry_9 : decode cX6_entry 9 = .ok (.getfield 134, 3) := by decide +kernel
theorem dX6_entry_12 : decode cX6_entry 12 = .ok (.getfield 138, 3) := by decide +kernel
theorem dX6_entry_15 : decode cX6_entry 15 = .ok (.if_icmp .lt 13, 3) := by decide +kernel
theorem dX6_entry_18 : decode cX6_entry 18 = .ok (.new 37, 3) := by decide +kernel
theorem dX6_entry_21 : decode cX6_entry 21 = .ok (.dup, 1) := by decide +kernel
theorem dX6_entry_22 : decode cX6_entry 22 = .ok (.ldc 141, 2) := by decide +kernel
theorem dX6_entry_24 : decode cX6_entry 24 = .ok (.invokespecial 41, 3) := by decide +kernel
theorem dX6_entry_27 : decode cX6_entry 27 = .ok (.athrow, 1) := by decide +kernel
theorem dX6_entry_28 : decode cX6_entry 28 = .ok (.iload_n 2, 1) := by decide +kernel
theorem dX6_entry_29 : decode cX6_entry 29 = .ok (.iconst 0, 1) := by decide +kernel
theorem dX6_entry_30 : decode cX6_entry 30 = .ok (.iconst 4, 1) := by decide +kernel
theorem dX6_entry_31 : decode cX6_entry 31 = .ok (.invokestatic 44, 3) := by decide +kernel
theorem dX6_entry_34 : decode cX6_entry 34 = .ok (.aload_n 0, 1) := by decide +kernel
theorem dX6_entry_35 : decode cX6_entry 35 = .ok (.getfield 10, 3) := by decide +kernel
theorem dX6_entry_38 : decode cX6_entry 38 = .ok (.getfield 134, 3) := by decide +kernel
theorem dX6_entry_41 : decode cX6_entry 41 = .ok (.iload_n 1, 1) := by decide +kernel
theorem dX6_entry_42 : decode cX6_entry 42 = .ok (.iload_n 2, 1) := by decide +kernel
theorem dX6_entry_43 : decode cX6_entry 43 = .ok (.invokevirtual 143, 3) := by decide +kernel
theorem dX6_entry_46 : decode cX6_entry 46 = .ok (.ireturn, 1) := by decide +kernel
theorem dX6_value_0 : decode cX6_value 0 = .ok (.iload_n 1, 1) := by decide +kernel
theorem dX6_value_1 : decode cX6_value 1 = .ok (.iconst 0, 1) := by decide +kernel
theorem dX6_value_2 : decode cX6_value 2 = .ok (.bipush 13, 2) := by decide +kernel
theorem dX6_value_4 : decode cX6_value 4 = .ok (.invokestatic 44, 3) := by decide +kernel
theorem dX6_value_7 : decode cX6_value 7 = .ok (.aload_n 0, 1) := by decide +kernel
theorem dX6_value_8 : decode cX6_value 8 = .ok (.getfield 10, 3) := by decide +kernel
theorem dX6_value_11 : decode cX6_value 11 = .ok (.iload_n 1, 1) := by decide +kernel
theorem dX6_value_12 : decode cX6_value 12 = .ok (.invokevirtual 144, 3) := by decide +kernel
theorem dX6_value_15 : decode cX6_value 15 = .ok (.ireturn, 1) := by decide +kernel
theorem dX6_ofRank_0 : decode cX6_ofRank 0 = .ok (.iload_n 1, 1) := by decide +kernel
theorem dX6_ofRank_1 : decode cX6_ofRank 1 = .ok (.iconst 0, 1) := by decide +kernel
theorem dX6_ofRank_2 : decode cX6_ofRank 2 = .ok (.iconst 4, 1) := by decide +kernel
theorem dX6_ofRank_3 : decode cX6_ofRank 3 = .ok (.invokestatic 44, 3) := by decide +kernel
theorem dX6_ofRank_6 : decode cX6_ofRank 6 = .ok (.aload_n 0, 1) := by decide +kernel
theorem dX6_ofRank_7 : decode cX6_ofRank 7 = .ok (.getfield 10, 3) := by decide +kernel
theorem dX6_ofRank_10 : decode cX6_ofRank 10 = .ok (.getfield 86, 3) := by decide +kernel
theorem dX6_ofRank_13 : decode cX6_ofRank 13 = .ok (.iload_n 1, 1) := by decide +kernel
theorem dX6_ofRank_14 : decode cX6_ofRank 14 = .ok (.invokevirtual 147, 3) := by decide +kernel
theorem dX6_ofRank_17 : decode cX6_ofRank 17 = .ok (.ireturn, 1) := by decide +kernel
theorem dX6_rankIn_0 : decode cX6_rankIn 0 = .ok (.aload_n 0, 1) := by decide +kernel
theorem dX6_rankIn_1 : decode cX6_rankIn 1 = .ok (.iload_n 1, 1) := by decide +kernel
theorem dX6_rankIn_2 : decode cX6_rankIn 2 = .ok (.invokevirtual 78, 3) := by decide +kernel
theorem dX6_rankIn_5 : decode cX6_rankIn 5 = .ok (.istore_n 3, 1) := by decide +kernel
theorem dX6_rankIn_6 : decode cX6_rankIn 6 = .ok (.iload_n 2, 1) := by decide +kernel
theorem dX6_rankIn_7 : decode cX6_rankIn 7 = .ok (.iconst 0, 1) := by decide +kernel
theorem dX6_rankIn_8 : decode cX6_rankIn 8 = .ok (.sipush 200, 3) := by decide +kernel
theorem dX6_rankIn_11 : decode cX6_rankIn 11 = .ok (.invokestatic 44, 3) := by decide +kernel
theorem dX6_rankIn_14 : decode cX6_rankIn 14 = .ok (.aload_n 0, 1) := by decide +kernel
theorem dX6_rankIn_15 : decode cX6_rankIn 15 = .ok (.getfield 16, 3) := by decide +kernel
theorem dX6_rankIn_18 : decode cX6_rankIn 18 = .ok (.aload_n 0, 1) := by decide +kernel
theorem dX6_rankIn_19 : decode cX6_rankIn 19 = .ok (.getfield 10, 3) := by decide +kernel
theorem dX6_rankIn_22 : decode cX6_rankIn 22 = .ok (.invokevirtual 150, 3) := by decide +kernel
theorem dX6_rankIn_25 : decode cX6_rankIn 25 = .ok (.iconst 0, 1) := by decide +kernel
theorem dX6_rankIn_26 : decode cX6_rankIn 26 = .ok (.istore 4, 2) := by decide +kernel
theorem dX6_rankIn_28 : decode cX6_rankIn 28 = .ok (.iload 4, 2) := by decide +kernel
theorem dX6_rankIn_30 : decode cX6_rankIn 30 = .ok (.iload_n 2, 1) := by decide +kernel
theorem dX6_rankIn_31 : decode cX6_rankIn 31 = .ok (.if_icmp .ge 22, 3) := by decide +kernel
theorem dX6_rankIn_34 : decode cX6_rankIn 34 = .ok (.aload_n 0, 1) := by decide +kernel
theorem dX6_rankIn_35 : decode cX6_rankIn 35 = .ok (.getfield 16, 3) := by decide +kernel
theorem dX6_rankIn_38 : decode cX6_rankIn 38 = .ok (.iload_n 3, 1) := by decide +kernel
theorem dX6_rankIn_39 : decode cX6_rankIn 39 = .ok (.invokevirtual 153, 3) := by decide +kernel
theorem dX6_rankIn_42 : decode cX6_rankIn 42 = .ok (.ifCond .eq 5, 3) := by decide +kernel
theorem dX6_rankIn_45 : decode cX6_rankIn 45 = .ok (.iconst (-1), 1) := by decide +kernel
theorem dX6_rankIn_46 : decode cX6_rankIn 46 = .ok (.ireturn, 1) := by decide +kernel
theorem dX6_rankIn_47 : decode cX6_rankIn 47 = .ok (.iinc 4 1, 3) := by decide +kernel
theorem dX6_rankIn_50 : decode cX6_rankIn 50 = .ok (.goto (-22), 3) := by decide +kernel
theorem dX6_rankIn_53 : decode cX6_rankIn 53 = .ok (.aload_n 0, 1) := by decide +kernel
theorem dX6_rankIn_54 : decode cX6_rankIn 54 = .ok (.getfield 16, 3) := by decide +kernel
theorem dX6_rankIn_57 : decode cX6_rankIn 57 = .ok (.getfield 86, 3) := by decide +kernel
theorem dX6_rankIn_60 : decode cX6_rankIn 60 = .ok (.iload_n 3, 1) := by decide +kernel
theorem dX6_rankIn_61 : decode cX6_rankIn 61 = .ok (.iconst 2, 1) := by decide +kernel
theorem dX6_rankIn_62 : decode cX6_rankIn 62 = .ok (.invokevirtual 125, 3) := by decide +kernel
theorem dX6_rankIn_65 : decode cX6_rankIn 65 = .ok (.ireturn, 1) := by decide +kernel
theorem dX6_firstToExpire_0 : decode cX6_firstToExpire 0 = .ok (.sipush 201, 3) := by decide +kernel
theorem dX6_firstToExpire_3 : decode cX6_firstToExpire 3 = .ok (.istore_n 1, 1) := by decide +kernel
theorem dX6_firstToExpire_4 : decode cX6_firstToExpire 4 = .ok (.iconst (-1), 1) := by decide +kernel
theorem dX6_firstToExpire_5 : decode cX6_firstToExpire 5 = .ok (.istore_n 2, 1) := by decide +kernel
theorem dX6_firstToExpire_6 : decode cX6_firstToExpire 6 = .ok (.iconst 0, 1) := by decide +kernel
theorem dX6_firstToExpire_7 : decode cX6_firstToExpire 7 = .ok (.istore_n 3, 1) := by decide +kernel
theorem dX6_firstToExpire_8 : decode cX6_firstToExpire 8 = .ok (.iload_n 3, 1) := by decide +kernel
theorem dX6_firstToExpire_9 : decode cX6_firstToExpire 9 = .ok (.aload_n 0, 1) := by decide +kernel
theorem dX6_firstToExpire_10 : decode cX6_firstToExpire 10 = .ok (.getfield 10, 3) := by decide +kernel
theorem dX6_firstToExpire_13 : decode cX6_firstToExpire 13 = .ok (.getfield 86, 3) := by decide +kernel
theorem dX6_firstToExpire_16 : decode cX6_firstToExpire 16 = .ok (.getfield 90, 3) := by decide +kernel
theorem dX6_firstToExpire_19 : decode cX6_firstToExpire 19 = .ok (.if_icmp .ge 47, 3) := by decide +kernel
theorem dX6_firstToExpire_22 : decode cX6_firstToExpire 22 = .ok (.aload_n 0, 1) := by decide +kernel
theorem dX6_firstToExpire_23 : decode cX6_firstToExpire 23 = .ok (.getfield 10, 3) := by decide +kernel
theorem dX6_firstToExpire_26 : decode cX6_firstToExpire 26 = .ok (.getfield 86, 3) := by decide +kernel
theorem dX6_firstToExpire_29 : decode cX6_firstToExpire 29 = .ok (.iload_n 3, 1) := by decide +kernel
theorem dX6_firstToExpire_30 : decode cX6_firstToExpire 30 = .ok (.bipush 7, 2) := by decide +kernel
theorem dX6_firstToExpire_32 : decode cX6_firstToExpire 32 = .ok (.invokevirtual 116, 3) := by decide +kernel
theorem dX6_firstToExpire_35 : decode cX6_firstToExpire 35 = .ok (.istore 4, 2) := by decide +kernel
theorem dX6_firstToExpire_37 : decode cX6_firstToExpire 37 = .ok (.iload 4, 2) := by decide +kernel
theorem dX6_firstToExpire_39 : decode cX6_firstToExpire 39 = .ok (.iload_n 1, 1) := by decide +kernel
theorem dX6_firstToExpire_40 : decode cX6_firstToExpire 40 = .ok (.if_icmp .ge 20, 3) := by decide +kernel
theorem dX6_firstToExpire_43 : decode cX6_firstToExpire 43 = .ok (.iload 4, 2) := by decide +kernel
theorem dX6_firstToExpire_45 : decode cX6_firstToExpire 45 = .ok (.istore_n 1, 1) := by decide +kernel
theorem dX6_firstToExpire_46 : decode cX6_firstToExpire 46 = .ok (.aload_n 0, 1) := by decide +kernel
theorem dX6_firstToExpire_47 : decode cX6_firstToExpire 47 = .ok (.getfield 10, 3) := by decide +kernel
theorem dX6_firstToExpire_50 : decode cX6_firstToExpire 50 = .ok (.getfield 86, 3) := by decide +kernel
theorem dX6_firstToExpire_53 : decode cX6_firstToExpire 53 = .ok (.iload_n 3, 1) := by decide +kernel
theorem dX6_firstToExpire_54 : decode cX6_firstToExpire 54 = .ok (.bipush 7, 2) := by decide +kernel
theorem dX6_firstToExpire_56 : decode cX6_firstToExpire 56 = .ok (.invokevirtual 125, 3) := by decide +kernel
theorem dX6_firstToExpire_59 : decode cX6_firstToExpire 59 = .ok (.istore_n 2, 1) := by decide +kernel
theorem dX6_firstToExpire_60 : decode cX6_firstToExpire 60 = .ok (.iinc 3 1, 3) := by decide +kernel
theorem dX6_firstToExpire_63 : decode cX6_firstToExpire 63 = .ok (.goto (-55), 3) := by decide +kernel
theorem dX6_firstToExpire_66 : decode cX6_firstToExpire 66 = .ok (.iload_n 2, 1) := by decide +kernel
theorem dX6_firstToExpire_67 : decode cX6_firstToExpire 67 = .ok (.ireturn, 1) := by decide +kernel
theorem dX6_servedIn_0 : decode cX6_servedIn 0 = .ok (.aload_n 0, 1) := by decide +kernel
theorem dX6_servedIn_1 : decode cX6_servedIn 1 = .ok (.iload_n 1, 1) := by decide +kernel
theorem dX6_servedIn_2 : decode cX6_servedIn 2 = .ok (.invokevirtual 78, 3) := by decide +kernel
theorem dX6_servedIn_5 : decode cX6_servedIn 5 = .ok (.pop, 1) := by decide +kernel
theorem dX6_servedIn_6 : decode cX6_servedIn 6 = .ok (.aload_n 0, 1) := by decide +kernel
theorem dX6_servedIn_7 : decode cX6_servedIn 7 = .ok (.getfield 16, 3) := by decide +kernel
theorem dX6_servedIn_10 : decode cX6_servedIn 10 = .ok (.aload_n 0, 1) := by decide +kernel
theorem dX6_servedIn_11 : decode cX6_servedIn 11 = .ok (.getfield 10, 3) := by decide +kernel
theorem dX6_servedIn_14 : decode cX6_servedIn 14 = .ok (.invokevirtual 150, 3) := by decide +kernel
theorem dX6_servedIn_17 : decode cX6_servedIn 17 = .ok (.iconst 0, 1) := by decide +kernel
theorem dX6_servedIn_18 : decode cX6_servedIn 18 = .ok (.istore_n 2, 1) := by decide +kernel
theorem dX6_servedIn_19 : decode cX6_servedIn 19 = .ok (.iload_n 2, 1) := by decide +kernel
theorem dX6_servedIn_20 : decode cX6_servedIn 20 = .ok (.bipush 40, 2) := by decide +kernel
theorem dX6_servedIn_22 : decode cX6_servedIn 22 = .ok (.if_icmp .ge 48, 3) := by decide +kernel
theorem dX6_servedIn_25 : decode cX6_servedIn 25 = .ok (.aload_n 0, 1) := by decide +kernel
theorem dX6_servedIn_26 : decode cX6_servedIn 26 = .ok (.getfield 16, 3) := by decide +kernel
theorem dX6_servedIn_29 : decode cX6_servedIn 29 = .ok (.invokevirtual 100, 3) := by decide +kernel
theorem dX6_servedIn_32 : decode cX6_servedIn 32 = .ok (.iload_n 1, 1) := by decide +kernel
theorem dX6_servedIn_33 : decode cX6_servedIn 33 = .ok (.if_icmp .ne 5, 3) := by decide +kernel
theorem dX6_servedIn_36 : decode cX6_servedIn 36 = .ok (.iload_n 2, 1) := by decide +kernel
theorem dX6_servedIn_37 : decode cX6_servedIn 37 = .ok (.ireturn, 1) := by decide +kernel
theorem dX6_servedIn_38 : decode cX6_servedIn 38 = .ok (.aload_n 0, 1) := by decide +kernel
theorem dX6_servedIn_39 : decode cX6_servedIn 39 = .ok (.getfield 16, 3) := by decide +kernel
theorem dX6_servedIn_42 : decode cX6_servedIn 42 = .ok (.iconst 1, 1) := by decide +kernel
theorem dX6_servedIn_43 : decode cX6_servedIn 43 = .ok (.invokevirtual 113, 3) := by decide +kernel
theorem dX6_servedIn_46 : decode cX6_servedIn 46 = .ok (.pop, 1) := by decide +kernel
theorem dX6_servedIn_47 : decode cX6_servedIn 47 = .ok (.aload_n 0, 1) := by decide +kernel
theorem dX6_servedIn_48 : decode cX6_servedIn 48 = .ok (.getfield 16, 3) := by decide +kernel
theorem dX6_servedIn_51 : decode cX6_servedIn 51 = .ok (.getfield 86, 3) := by decide +kernel
theorem dX6_servedIn_54 : decode cX6_servedIn 54 = .ok (.iload_n 1, 1) := by decide +kernel
theorem dX6_servedIn_55 : decode cX6_servedIn 55 = .ok (.invokevirtual 156, 3) := by decide +kernel
theorem dX6_servedIn_58 : decode cX6_servedIn 58 = .ok (.iconst (-1), 1) := by decide +kernel
theorem dX6_servedIn_59 : decode cX6_servedIn 59 = .ok (.if_icmp .ne 5, 3) := by decide +kernel
theorem dX6_servedIn_62 : decode cX6_servedIn 62 = .ok (.iconst (-1), 1) := by decide +kernel
theorem dX6_servedIn_63 : decode cX6_servedIn 63 = .ok (.ireturn, 1) := by decide +kernel
theorem dX6_servedIn_64 : decode cX6_servedIn 64 = .ok (.iinc 2 1, 3) := by decide +kernel
theorem dX6_servedIn_67 : decode cX6_servedIn 67 = .ok (.goto (-48), 3) := by decide +kernel
theorem dX6_servedIn_70 : decode cX6_servedIn 70 = .ok (.iconst (-1), 1) := by decide +kernel
theorem dX6_servedIn_71 : decode cX6_servedIn 71 = .ok (.ireturn, 1) := by decide +kernel
theorem dX6_bribeToLead_0 : decode cX6_bribeToLead 0 = .ok (.iload_n 1, 1) := by decide +kernel
theorem dX6_bribeToLead_1 : decode cX6_bribeToLead 1 = .ok (.iconst 0, 1) := by decide +kernel
theorem dX6_bribeToLead_2 : decode cX6_bribeToLead 2 = .ok (.iconst 4, 1) := by decide +kernel
theorem dX6_bribeToLead_3 : decode cX6_bribeToLead 3 = .ok (.invokestatic 44, 3) := by decide +kernel
theorem dX6_bribeToLead_6 : decode cX6_bribeToLead 6 = .ok (.aload_n 0, 1) := by decide +kernel
theorem dX6_bribeToLead_7 : decode cX6_bribeToLead 7 = .ok (.getfield 10, 3) := by decide +kernel
theorem dX6_bribeToLead_10 : decode cX6_bribeToLead 10 = .ok (.getfield 86, 3) := by decide +kernel
theorem dX6_bribeToLead_13 : decode cX6_bribeToLead 13 = .ok (.invokevirtual 159, 3) := by decide +kernel
theorem dX6_bribeToLead_16 : decode cX6_bribeToLead 16 = .ok (.iconst 1, 1) := by decide +kernel
theorem dX6_bribeToLead_17 : decode cX6_bribeToLead 17 = .ok (.iadd, 1) := by decide +kernel
theorem dX6_bribeToLead_18 : decode cX6_bribeToLead 18 = .ok (.istore_n 2, 1) := by decide +kernel
theorem dX6_bribeToLead_19 : decode cX6_bribeToLead 19 = .ok (.iload_n 2, 1) := by decide +kernel
theorem dX6_bribeToLead_20 : decode cX6_bribeToLead 20 = .ok (.iload_n 1, 1) := by decide +kernel
theorem dX6_bribeToLead_21 : decode cX6_bribeToLead 21 = .ok (.if_icmp .gt 5, 3) := by decide +kernel
theorem dX6_bribeToLead_24 : decode cX6_bribeToLead 24 = .ok (.iconst 0, 1) := by decide +kernel
theorem dX6_bribeToLead_25 : decode cX6_bribeToLead 25 = .ok (.ireturn, 1) := by decide +kernel
theorem dX6_bribeToLead_26 : decode cX6_bribeToLead 26 = .ok (.iload_n 2, 1) := by decide +kernel
theorem dX6_bribeToLead_27 : decode cX6_bribeToLead 27 = .ok (.iconst 4, 1) := by decide +kernel
theorem dX6_bribeToLead_28 : decode cX6_bribeToLead 28 = .ok (.if_icmp .le 5, 3) := by decide +kernel
theorem dX6_bribeToLead_31 : decode cX6_bribeToLead 31 = .ok (.iconst (-1), 1) := by decide +kernel
theorem dX6_bribeToLead_32 : decode cX6_bribeToLead 32 = .ok (.ireturn, 1) := by decide +kernel
theorem dX6_bribeToLead_33 : decode cX6_bribeToLead 33 = .ok (.iload_n 2, 1) := by decide +kernel
theorem dX6_bribeToLead_34 : decode cX6_bribeToLead 34 = .ok (.iload_n 1, 1) := by decide +kernel
theorem dX6_bribeToLead_35 : decode cX6_bribeToLead 35 = .ok (.isub, 1) := by decide +kernel
theorem dX6_bribeToLead_36 : decode cX6_bribeToLead 36 = .ok (.bipush 25, 2) := by decide +kernel
theorem dX6_bribeToLead_38 : decode cX6_bribeToLead 38 = .ok (.imul, 1) := by decide +kernel
theorem dX6_bribeToLead_39 : decode cX6_bribeToLead 39 = .ok (.ireturn, 1) := by decide +kernel
theorem dX6_meanWait_0 : decode cX6_meanWait 0 = .ok (.aload_n 0, 1) := by decide +kernel
theorem dX6_meanWait_1 : decode cX6_meanWait 1 = .ok (.getfield 10, 3) := by decide +kernel
theorem dX6_meanWait_4 : decode cX6_meanWait 4 = .ok (.iconst 0, 1) := by decide +kernel
theorem dX6_meanWait_5 : decode cX6_meanWait 5 = .ok (.invokevirtual 162, 3) := by decide +kernel
theorem dX6_meanWait_8 : decode cX6_meanWait 8 = .ok (.istore_n 1, 1) := by decide +kernel
theorem dX6_meanWait_9 : decode cX6_meanWait 9 = .ok (.iload_n 1, 1) := by decide +kernel
theorem dX6_meanWait_10 : decode cX6_meanWait 10 = .ok (.ifCond .ne 5, 3) := by decide +kernel
theorem dX6_meanWait_13 : decode cX6_meanWait 13 = .ok (.dconst 0, 1) := by decide +kernel
theorem dX6_meanWait_14 : decode cX6_meanWait 14 = .ok (.dreturn, 1) := by decide +kernel
theorem dX6_meanWait_15 : decode cX6_meanWait 15 = .ok (.aload_n 0, 1) := by decide +kernel
theorem dX6_meanWait_16 : decode cX6_meanWait 16 = .ok (.getfield 10, 3) := by decide +kernel
theorem dX6_meanWait_19 : decode cX6_meanWait 19 = .ok (.getfield 165, 3) := by decide +kernel
theorem dX6_meanWait_22 : decode cX6_meanWait 22 = .ok (.i2d, 1) := by decide +kernel
theorem dX6_meanWait_23 : decode cX6_meanWait 23 = .ok (.iload_n 1, 1) := by decide +kernel
theorem dX6_meanWait_24 : decode cX6_meanWait 24 = .ok (.i2d, 1) := by decide +kernel
theorem dX6_meanWait_25 : decode cX6_meanWait 25 = .ok (.ddiv, 1) := by decide +kernel
theorem dX6_meanWait_26 : decode cX6_meanWait 26 = .ok (.dreturn, 1) := by decide +kernel
theorem dX6_append_0 : decode cX6_append 0 = .ok (.iload_n 1, 1) := by decide +kernel
theorem dX6_append_1 : decode cX6_append 1 = .ok (.iconst 0, 1) := by decide +kernel
theorem dX6_append_2 : decode cX6_append 2 = .ok (.bipush 127, 2) := by decide +kernel
theorem dX6_append_4 : decode cX6_append 4 = .ok (.invokestatic 44, 3) := by decide +kernel
theorem dX6_append_7 : decode cX6_append 7 = .ok (.aload_n 0, 1) := by decide +kernel
theorem dX6_append_8 : decode cX6_append 8 = .ok (.getfield 29, 3) := by decide +kernel
theorem dX6_append_11 : decode cX6_append 11 = .ok (.getfield 168, 3) := by decide +kernel
theorem dX6_append_14 : decode cX6_append 14 = .ok (.iload_n 1, 1) := by decide +kernel
theorem dX6_append_15 : decode cX6_append 15 = .ok (.invokevirtual 172, 3) := by decide +kernel
theorem dX6_append_18 : decode cX6_append 18 = .ok (.ifCond .ne 13, 3) := by decide +kernel
theorem dX6_append_21 : decode cX6_append 21 = .ok (.new 108, 3) := by decide +kernel
theorem dX6_append_24 : decode cX6_append 24 = .ok (.dup, 1) := by decide +kernel
theorem dX6_append_25 : decode cX6_append 25 = .ok (.ldc 176, 2) := by decide +kernel
theorem dX6_append_27 : decode cX6_append 27 = .ok (.invokespecial 112, 3) := by decide +kernel
theorem dX6_append_30 : decode cX6_append 30 = .ok (.athrow, 1) := by decide +kernel
theorem dX6_append_31 : decode cX6_append 31 = .ok (.aload_n 0, 1) := by decide +kernel
theorem dX6_append_32 : decode cX6_append 32 = .ok (.getfield 29, 3) := by decide +kernel
theorem dX6_append_35 : decode cX6_append 35 = .ok (.getfield 168, 3) := by decide +kernel
theorem dX6_append_38 : decode cX6_append 38 = .ok (.getfield 178, 3) := by decide +kernel
theorem dX6_append_41 : decode cX6_append 41 = .ok (.ireturn, 1) := by decide +kernel
theorem dX6_clearText_0 : decode cX6_clearText 0 = .ok (.aload_n 0, 1) := by decide +kernel
theorem dX6_clearText_1 : decode cX6_clearText 1 = .ok (.getfield 29, 3) := by decide +kernel
theorem dX6_clearText_4 : decode cX6_clearText 4 = .ok (.getfield 168, 3) := by decide +kernel
theorem dX6_clearText_7 : decode cX6_clearText 7 = .ok (.getfield 178, 3) := by decide +kernel
theorem dX6_clearText_10 : decode cX6_clearText 10 = .ok (.istore_n 1, 1) := by decide +kernel
theorem dX6_clearText_11 : decode cX6_clearText 11 = .ok (.aload_n 0, 1) := by decide +kernel
theorem dX6_clearText_12 : decode cX6_clearText 12 = .ok (.getfield 29, 3) := by decide +kernel
theorem dX6_clearText_15 : decode cX6_clearText 15 = .ok (.getfield 168, 3) := by decide +kernel
theorem dX6_clearText_18 : decode cX6_clearText 18 = .ok (.iconst 0, 1) := by decide +kernel
theorem dX6_clearText_19 : decode cX6_clearText 19 = .ok (.putfield 178, 3) := by decide +kernel
theorem dX6_clearText_22 : decode cX6_clearText 22 = .ok (.iload_n 1, 1) := by decide +kernel
theorem dX6_clearText_23 : decode cX6_clearText 23 = .ok (.ireturn, 1) := by decide +kernel
theorem dX6_carryOut_0 : decode cX6_carryOut 0 = .ok (.aload_n 0, 1) := by decide +kernel
theorem dX6_carryOut_1 : decode cX6_carryOut 1 = .ok (.getfield 29, 3) := by decide +kernel
theorem dX6_carryOut_4 : decode cX6_carryOut 4 = .ok (.invokevirtual 181, 3) := by decide +kernel
theorem dX6_carryOut_7 : decode cX6_carryOut 7 = .ok (.istore_n 1, 1) := by decide +kernel
theorem dX6_carryOut_8 : decode cX6_carryOut 8 = .ok (.iload_n 1, 1) := by decide +kernel
theorem dX6_carryOut_9 : decode cX6_carryOut 9 = .ok (.iconst (-1), 1) := by decide +kernel
theorem dX6_carryOut_10 : decode cX6_carryOut 10 = .ok (.if_icmp .eq 8, 3) := by decide +kernel
theorem dX6_carryOut_13 : decode cX6_carryOut 13 = .ok (.bipush (-10), 2) := by decide +kernel
theorem dX6_carryOut_15 : decode cX6_carryOut 15 = .ok (.iload_n 1, 1) := by decide +kernel
theorem dX6_carryOut_16 : decode cX6_carryOut 16 = .ok (.isub, 1) := by decide +kernel
theorem dX6_carryOut_17 : decode cX6_carryOut 17 = .ok (.ireturn, 1) := by decide +kernel
theorem dX6_carryOut_18 : decode cX6_carryOut 18 = .ok (.aload_n 0, 1) := by decide +kernel
theorem dX6_carryOut_19 : decode cX6_carryOut 19 = .ok (.getfield 22, 3) := by decide +kernel
theorem dX6_carryOut_22 : decode cX6_carryOut 22 = .ok (.aload_n 0, 1) := by decide +kernel
theorem dX6_carryOut_23 : decode cX6_carryOut 23 = .ok (.getfield 10, 3) := by decide +kernel
theorem dX6_carryOut_26 : decode cX6_carryOut 26 = .ok (.invokevirtual 48, 3) := by decide +kernel
theorem dX6_carryOut_29 : decode cX6_carryOut 29 = .ok (.iconst 0, 1) := by decide +kernel
theorem dX6_carryOut_30 : decode cX6_carryOut 30 = .ok (.istore_n 2, 1) := by decide +kernel
theorem dX6_carryOut_31 : decode cX6_carryOut 31 = .ok (.aload_n 0, 1) := by decide +kernel
theorem dX6_carryOut_32 : decode cX6_carryOut 32 = .ok (.getfield 29, 3) := by decide +kernel
theorem dX6_carryOut_35 : decode cX6_carryOut 35 = .ok (.invokevirtual 184, 3) := by decide +kernel
theorem dX6_carryOut_38 : decode cX6_carryOut 38 = .ok (.iload_n 2, 1) := by decide +kernel
theorem dX6_carryOut_39 : decode cX6_carryOut 39 = .ok (.bipush 100, 2) := by decide +kernel
theorem dX6_carryOut_41 : decode cX6_carryOut 41 = .ok (.if_icmp .ge 35, 3) := by decide +kernel
theorem dX6_carryOut_44 : decode cX6_carryOut 44 = .ok (.aload_n 0, 1) := by decide +kernel
theorem dX6_carryOut_45 : decode cX6_carryOut 45 = .ok (.getfield 29, 3) := by decide +kernel
theorem dX6_carryOut_48 : decode cX6_carryOut 48 = .ok (.invokevirtual 187, 3) := by decide +kernel
theorem dX6_carryOut_51 : decode cX6_carryOut 51 = .ok (.ifCond .ne 25, 3) := by decide +kernel
theorem dX6_carryOut_54 : decode cX6_carryOut 54 = .ok (.aload_n 0, 1) := by decide +kernel
theorem dX6_carryOut_55 : decode cX6_carryOut 55 = .ok (.getfield 29, 3) := by decide +kernel
theorem dX6_carryOut_58 : decode cX6_carryOut 58 = .ok (.invokevirtual 191, 3) := by decide +kernel
theorem dX6_carryOut_61 : decode cX6_carryOut 61 = .ok (.aload_n 0, 1) := by decide +kernel
theorem dX6_carryOut_62 : decode cX6_carryOut 62 = .ok (.invokevirtual 194, 3) := by decide +kernel
theorem dX6_carryOut_65 : decode cX6_carryOut 65 = .ok (.ifCond .ne 5, 3) := by decide +kernel
theorem dX6_carryOut_68 : decode cX6_carryOut 68 = .ok (.iload_n 2, 1) := by decide +kernel
theorem dX6_carryOut_69 : decode cX6_carryOut 69 = .ok (.ireturn, 1) := by decide +kernel
theorem dX6_carryOut_70 : decode cX6_carryOut 70 = .ok (.iinc 2 1, 3) := by decide +kernel
theorem dX6_carryOut_73 : decode cX6_carryOut 73 = .ok (.goto (-35), 3) := by decide +kernel
theorem dX6_carryOut_76 : decode cX6_carryOut 76 = .ok (.iload_n 2, 1) := by decide +kernel
theorem dX6_carryOut_77 : decode cX6_carryOut 77 = .ok (.ireturn, 1) := by decide +kernel
theorem dX6_undo_0 : decode cX6_undo 0 = .ok (.aload_n 0, 1) := by decide +kernel
theorem dX6_undo_1 : decode cX6_undo 1 = .ok (.getfield 22, 3) := by decide +kernel
theorem dX6_undo_4 : decode cX6_undo 4 = .ok (.getfield 197, 3) := by decide +kernel
theorem dX6_undo_7 : decode cX6_undo 7 = .ok (.ifCond .ne 13, 3) := by decide +kernel
theorem dX6_undo_10 : decode cX6_undo 10 = .ok (.new 108, 3) := by decide +kernel
theorem dX6_undo_13 : decode cX6_undo 13 = .ok (.dup, 1) := by decide +kernel
theorem dX6_undo_14 : decode cX6_undo 14 = .ok (.ldc 198, 2) := by decide +kernel
theorem dX6_undo_16 : decode cX6_undo 16 = .ok (.invokespecial 112, 3) := by decide +kernel
theorem dX6_undo_19 : decode cX6_undo 19 = .ok (.athrow, 1) := by decide +kernel
theorem dX6_undo_20 : decode cX6_undo 20 = .ok (.aload_n 0, 1) := by decide +kernel
theorem dX6_undo_21 : decode cX6_undo 21 = .ok (.getfield 22, 3) := by decide +kernel
theorem dX6_undo_24 : decode cX6_undo 24 = .ok (.aload_n 0, 1) := by decide +kernel
theorem dX6_undo_25 : decode cX6_undo 25 = .ok (.getfield 10, 3) := by decide +kernel
theorem dX6_undo_28 : decode cX6_undo 28 = .ok (.invokevirtual 200, 3) := by decide +kernel
theorem dX6_undo_31 : decode cX6_undo 31 = .ok (.aload_n 0, 1) := by decide +kernel
theorem dX6_undo_32 : decode cX6_undo 32 = .ok (.getfield 22, 3) := by decide +kernel
theorem dX6_undo_35 : decode cX6_undo 35 = .ok (.getfield 197, 3) := by decide +kernel
theorem dX6_undo_38 : decode cX6_undo 38 = .ok (.ireturn, 1) := by decide +kernel
theorem dX6_digest_0 : decode cX6_digest 0 = .ok (.ldc2_w 203, 3) := by decide +kernel
theorem dX6_digest_3 : decode cX6_digest 3 = .ok (.aload_n 0, 1) := by decide +kernel
theorem dX6_digest_4 : decode cX6_digest 4 = .ok (.getfield 29, 3) := by decide +kernel
theorem dX6_digest_7 : decode cX6_digest 7 = .ok (.getfield 168, 3) := by decide +kernel
theorem dX6_digest_10 : decode cX6_digest 10 = .ok (.getfield 178, 3) := by decide +kernel
theorem dX6_digest_13 : decode cX6_digest 13 = .ok (.invokestatic 205, 3) := by decide +kernel
theorem dX6_digest_16 : decode cX6_digest 16 = .ok (.lstore_n 1, 1) := by decide +kernel
theorem dX6_digest_17 : decode cX6_digest 17 = .ok (.iconst 0, 1) := by decide +kernel
theorem dX6_digest_18 : decode cX6_digest 18 = .ok (.istore_n 3, 1) := by decide +kernel
theorem dX6_digest_19 : decode cX6_digest 19 = .ok (.iload_n 3, 1) := by decide +kernel
theorem dX6_digest_20 : decode cX6_digest 20 = .ok (.bipush 13, 2) := by decide +kernel
theorem dX6_digest_22 : decode cX6_digest 22 = .ok (.if_icmp .gt 22, 3) := by decide +kernel
theorem dX6_digest_25 : decode cX6_digest 25 = .ok (.lload_n 1, 1) := by decide +kernel
theorem dX6_digest_26 : decode cX6_digest 26 = .ok (.aload_n 0, 1) := by decide +kernel
theorem dX6_digest_27 : decode cX6_digest 27 = .ok (.getfield 10, 3) := by decide +kernel
theorem dX6_digest_30 : decode cX6_digest 30 = .ok (.iload_n 3, 1) := by decide +kernel
theorem dX6_digest_31 : decode cX6_digest 31 = .ok (.invokevirtual 144, 3) := by decide +kernel
theorem dX6_digest_34 : decode cX6_digest 34 = .ok (.invokestatic 205, 3) := by decide +kernel
theorem dX6_digest_37 : decode cX6_digest 37 = .ok (.lstore_n 1, 1) := by decide +kernel
theorem dX6_digest_38 : decode cX6_digest 38 = .ok (.iinc 3 1, 3) := by decide +kernel
theorem dX6_digest_41 : decode cX6_digest 41 = .ok (.goto (-22), 3) := by decide +kernel
theorem dX6_digest_44 : decode cX6_digest 44 = .ok (.iconst 0, 1) := by decide +kernel
theorem dX6_digest_45 : decode cX6_digest 45 = .ok (.istore_n 3, 1) := by decide +kernel
theorem dX6_digest_46 : decode cX6_digest 46 = .ok (.iload_n 3, 1) := by decide +kernel
theorem dX6_digest_47 : decode cX6_digest 47 = .ok (.aload_n 0, 1) := by decide +kernel
theorem dX6_digest_48 : decode cX6_digest 48 = .ok (.getfield 10, 3) := by decide +kernel
theorem dX6_digest_51 : decode cX6_digest 51 = .ok (.getfield 52, 3) := by decide +kernel
theorem dX6_digest_54 : decode cX6_digest 54 = .ok (.arraylength, 1) := by decide +kernel
theorem dX6_digest_55 : decode cX6_digest 55 = .ok (.if_icmp .ge 23, 3) := by decide +kernel
theorem dX6_digest_58 : decode cX6_digest 58 = .ok (.lload_n 1, 1) := by decide +kernel
theorem dX6_digest_59 : decode cX6_digest 59 = .ok (.aload_n 0, 1) := by decide +kernel
theorem dX6_digest_60 : decode cX6_digest 60 = .ok (.getfield 10, 3) := by decide +kernel
theorem dX6_digest_63 : decode cX6_digest 63 = .ok (.getfield 52, 3) := by decide +kernel
theorem dX6_digest_66 : decode cX6_digest 66 = .ok (.iload_n 3, 1) := by decide +kernel
theorem dX6_digest_67 : decode cX6_digest 67 = .ok (.iaload, 1) := by decide +kernel
theorem dX6_digest_68 : decode cX6_digest 68 = .ok (.invokestatic 205, 3) := by decide +kernel
theorem dX6_digest_71 : decode cX6_digest 71 = .ok (.lstore_n 1, 1) := by decide +kernel
theorem dX6_digest_72 : decode cX6_digest 72 = .ok (.iinc 3 1, 3) := by decide +kernel
theorem dX6_digest_75 : decode cX6_digest 75 = .ok (.goto (-29), 3) := by decide +kernel
theorem dX6_digest_78 : decode cX6_digest 78 = .ok (.iconst 0, 1) := by decide +kernel
theorem dX6_digest_79 : decode cX6_digest 79 = .ok (.istore_n 3, 1) := by decide +kernel
theorem dX6_digest_80 : decode cX6_digest 80 = .ok (.iload_n 3, 1) := by decide +kernel
theorem dX6_digest_81 : decode cX6_digest 81 = .ok (.bipush 8, 2) := by decide +kernel
theorem dX6_digest_83 : decode cX6_digest 83 = .ok (.if_icmp .ge 22, 3) := by decide +kernel
theorem dX6_digest_86 : decode cX6_digest 86 = .ok (.lload_n 1, 1) := by decide +kernel
theorem dX6_digest_87 : decode cX6_digest 87 = .ok (.aload_n 0, 1) := by decide +kernel
theorem dX6_digest_88 : decode cX6_digest 88 = .ok (.getfield 10, 3) := by decide +kernel
theorem dX6_digest_91 : decode cX6_digest 91 = .ok (.iload_n 3, 1) := by decide +kernel
theorem dX6_digest_92 : decode cX6_digest 92 = .ok (.invokevirtual 131, 3) := by decide +kernel
theorem dX6_digest_95 : decode cX6_digest 95 = .ok (.invokestatic 205, 3) := by decide +kernel
theorem dX6_digest_98 : decode cX6_digest 98 = .ok (.lstore_n 1, 1) := by decide +kernel
theorem dX6_digest_99 : decode cX6_digest 99 = .ok (.iinc 3 1, 3) := by decide +kernel
theorem dX6_digest_102 : decode cX6_digest 102 = .ok (.goto (-22), 3) := by decide +kernel
theorem dX6_digest_105 : decode cX6_digest 105 = .ok (.aload_n 0, 1) := by decide +kernel
theorem dX6_digest_106 : decode cX6_digest 106 = .ok (.lload_n 1, 1) := by decide +kernel
theorem dX6_digest_107 : decode cX6_digest 107 = .ok (.invokevirtual 209, 3) := by decide +kernel
theorem dX6_digest_110 : decode cX6_digest 110 = .ok (.lstore_n 1, 1) := by decide +kernel
theorem dX6_digest_111 : decode cX6_digest 111 = .ok (.aload_n 0, 1) := by decide +kernel
theorem dX6_digest_112 : decode cX6_digest 112 = .ok (.lload_n 1, 1) := by decide +kernel
theorem dX6_digest_113 : decode cX6_digest 113 = .ok (.invokevirtual 213, 3) := by decide +kernel
theorem dX6_digest_116 : decode cX6_digest 116 = .ok (.lstore_n 1, 1) := by decide +kernel
theorem dX6_digest_117 : decode cX6_digest 117 = .ok (.lload_n 1, 1) := by decide +kernel
theorem dX6_digest_118 : decode cX6_digest 118 = .ok (.aload_n 0, 1) := by decide +kernel
theorem dX6_digest_119 : decode cX6_digest 119 = .ok (.getfield 22, 3) := by decide +kernel
theorem dX6_digest_122 : decode cX6_digest 122 = .ok (.getfield 197, 3) := by decide +kernel
theorem dX6_digest_125 : decode cX6_digest 125 = .ok (.invokestatic 205, 3) := by decide +kernel
theorem dX6_digest_128 : decode cX6_digest 128 = .ok (.lreturn, 1) := by decide +kernel
theorem dX6_checkRange_0 : decode cX6_checkRange 0 = .ok (.iload_n 0, 1) := by decide +kernel
theorem dX6_checkRange_1 : decode cX6_checkRange 1 = .ok (.iload_n 1, 1) := by decide +kernel
theorem dX6_checkRange_2 : decode cX6_checkRange 2 = .ok (.if_icmp .lt 8, 3) := by decide +kernel
theorem dX6_checkRange_5 : decode cX6_checkRange 5 = .ok (.iload_n 0, 1) := by decide +kernel
theorem dX6_checkRange_6 : decode cX6_checkRange 6 = .ok (.iload_n 2, 1) := by decide +kernel
theorem dX6_checkRange_7 : decode cX6_checkRange 7 = .ok (.if_icmp .le 13, 3) := by decide +kernel
theorem dX6_checkRange_10 : decode cX6_checkRange 10 = .ok (.new 73, 3) := by decide +kernel
theorem dX6_checkRange_13 : decode cX6_checkRange 13 = .ok (.dup, 1) := by decide +kernel
theorem dX6_checkRange_14 : decode cX6_checkRange 14 = .ok (.ldc 216, 2) := by decide +kernel
theorem dX6_checkRange_16 : decode cX6_checkRange 16 = .ok (.invokespecial 77, 3) := by decide +kernel
theorem dX6_checkRange_19 : decode cX6_checkRange 19 = .ok (.athrow, 1) := by decide +kernel
theorem dX6_checkRange_20 : decode cX6_checkRange 20 = .ok (.return_, 1) := by decide +kernel
theorem dX6_checkSending_0 : decode cX6_checkSending 0 = .ok (.iload_n 0, 1) := by decide +kernel
theorem dX6_checkSending_1 : decode cX6_checkSending 1 = .ok (.iconst 0, 1) := by decide +kernel
theorem dX6_checkSending_2 : decode cX6_checkSending 2 = .ok (.bipush 7, 2) := by decide +kernel
theorem dX6_checkSending_4 : decode cX6_checkSending 4 = .ok (.invokestatic 44, 3) := by decide +kernel
theorem dX6_checkSending_7 : decode cX6_checkSending 7 = .ok (.iload_n 1, 1) := by decide +kernel
theorem dX6_checkSending_8 : decode cX6_checkSending 8 = .ok (.iconst 0, 1) := by decide +kernel
theorem dX6_checkSending_9 : decode cX6_checkSending 9 = .ok (.iconst 4, 1) := by decide +kernel
theorem dX6_checkSending_10 : decode cX6_checkSending 10 = .ok (.invokestatic 44, 3) := by decide +kernel
theorem dX6_checkSending_13 : decode cX6_checkSending 13 = .ok (.iload_n 2, 1) := by decide +kernel
theorem dX6_checkSending_14 : decode cX6_checkSending 14 = .ok (.iconst 1, 1) := by decide +kernel
theorem dX6_checkSending_15 : decode cX6_checkSending 15 = .ok (.sipush 200, 3) := by decide +kernel
theorem dX6_checkSending_18 : decode cX6_checkSending 18 = .ok (.invokestatic 44, 3) := by decide +kernel
theorem dX6_checkSending_21 : decode cX6_checkSending 21 = .ok (.return_, 1) := by decide +kernel
theorem dX6_checkRoom_0 : decode cX6_checkRoom 0 = .ok (.aload_n 0, 1) := by decide +kernel
theorem dX6_checkRoom_1 : decode cX6_checkRoom 1 = .ok (.getfield 10, 3) := by decide +kernel
theorem dX6_checkRoom_4 : decode cX6_checkRoom 4 = .ok (.iload_n 1, 1) := by decide +kernel
theorem dX6_checkRoom_5 : decode cX6_checkRoom 5 = .ok (.iload_n 2, 1) := by decide +kernel
theorem dX6_checkRoom_6 : decode cX6_checkRoom 6 = .ok (.invokevirtual 218, 3) := by decide +kernel
theorem dX6_checkRoom_9 : decode cX6_checkRoom 9 = .ok (.ifCond .ne 13, 3) := by decide +kernel
theorem dX6_checkRoom_12 : decode cX6_checkRoom 12 = .ok (.new 108, 3) := by decide +kernel
theorem dX6_checkRoom_15 : decode cX6_checkRoom 15 = .ok (.dup, 1) := by decide +kernel
theorem dX6_checkRoom_16 : decode cX6_checkRoom 16 = .ok (.ldc 222, 2) := by decide +kernel
theorem dX6_checkRoom_18 : decode cX6_checkRoom 18 = .ok (.invokespecial 112, 3) := by decide +kernel
theorem dX6_checkRoom_21 : decode cX6_checkRoom 21 = .ok (.athrow, 1) := by decide +kernel
theorem dX6_checkRoom_22 : decode cX6_checkRoom 22 = .ok (.return_, 1) := by decide +kernel
theorem dX6_findRow_0 : decode cX6_findRow 0 = .ok (.aload_n 0, 1) := by decide +kernel
theorem dX6_findRow_1 : decode cX6_findRow 1 = .ok (.getfield 10, 3) := by decide +kernel
theorem dX6_findRow_4 : decode cX6_findRow 4 = .ok (.getfield 86, 3) := by decide +kernel
theorem dX6_findRow_7 : decode cX6_findRow 7 = .ok (.iload_n 1, 1) := by decide +kernel
theorem dX6_findRow_8 : decode cX6_findRow 8 = .ok (.invokevirtual 156, 3) := by decide +kernel
theorem dX6_findRow_11 : decode cX6_findRow 11 = .ok (.istore_n 2, 1) := by decide +kernel
theorem dX6_findRow_12 : decode cX6_findRow 12 = .ok (.iload_n 2, 1) := by decide +kernel
theorem dX6_findRow_13 : decode cX6_findRow 13 = .ok (.iconst (-1), 1) := by decide +kernel
theorem dX6_findRow_14 : decode cX6_findRow 14 = .ok (.if_icmp .ne 13, 3) := by decide +kernel
theorem dX6_findRow_17 : decode cX6_findRow 17 = .ok (.new 37, 3) := by decide +kernel
theorem dX6_findRow_20 : decode cX6_findRow 20 = .ok (.dup, 1) := by decide +kernel
theorem dX6_findRow_21 : decode cX6_findRow 21 = .ok (.ldc 224, 2) := by decide +kernel
theorem dX6_findRow_23 : decode cX6_findRow 23 = .ok (.invokespecial 41, 3) := by decide +kernel
theorem dX6_findRow_26 : decode cX6_findRow 26 = .ok (.athrow, 1) := by decide +kernel
theorem dX6_findRow_27 : decode cX6_findRow 27 = .ok (.iload_n 2, 1) := by decide +kernel
theorem dX6_findRow_28 : decode cX6_findRow 28 = .ok (.ireturn, 1) := by decide +kernel
theorem dX6_carryOutOrder_0 : decode cX6_carryOutOrder 0 = .ok (.aload_n 0, 1) := by decide +kernel
theorem dX6_carryOutOrder_1 : decode cX6_carryOutOrder 1 = .ok (.getfield 29, 3) := by decide +kernel
theorem dX6_carryOutOrder_4 : decode cX6_carryOutOrder 4 = .ok (.getfield 226, 3) := by decide +kernel
theorem dX6_carryOutOrder_7 : decode cX6_carryOutOrder 7 = .ok (.lookupswitch 153 #[(98, 41), (112, 41), (115, 100), (116, 117)], 41) := by decide +kernel
theorem dX6_carryOutOrder_48 : decode cX6_carryOutOrder 48 = .ok (.aload_n 0, 1) := by decide +kernel
theorem dX6_carryOutOrder_49 : decode cX6_carryOutOrder 49 = .ok (.getfield 10, 3) := by decide +kernel
theorem dX6_carryOutOrder_52 : decode cX6_carryOutOrder 52 = .ok (.aload_n 0, 1) := by decide +kernel
theorem dX6_carryOutOrder_53 : decode cX6_carryOutOrder 53 = .ok (.getfield 29, 3) := by decide +kernel
theorem dX6_carryOutOrder_56 : decode cX6_carryOutOrder 56 = .ok (.getfield 229, 3) := by decide +kernel
theorem dX6_carryOutOrder_59 : decode cX6_carryOutOrder 59 = .ok (.iconst (-1), 1) := by decide +kernel
theorem dX6_carryOutOrder_60 : decode cX6_carryOutOrder 60 = .ok (.invokevirtual 218, 3) := by decide +kernel
theorem dX6_carryOutOrder_63 : decode cX6_carryOutOrder 63 = .ok (.ifCond .ne 5, 3) := by decide +kernel
theorem dX6_carryOutOrder_66 : decode cX6_carryOutOrder 66 = .ok (.iconst 0, 1) := by decide +kernel
theorem dX6_carryOutOrder_67 : decode cX6_carryOutOrder 67 = .ok (.ireturn, 1) := by decide +kernel
theorem dX6_carryOutOrder_68 : decode cX6_carryOutOrder 68 = .ok (.aload_n 0, 1) := by decide +kernel
theorem dX6_carryOutOrder_69 : decode cX6_carryOutOrder 69 = .ok (.getfield 10, 3) := by decide +kernel
theorem dX6_carryOutOrder_72 : decode cX6_carryOutOrder 72 = .ok (.aload_n 0, 1) := by decide +kernel
theorem dX6_carryOutOrder_73 : decode cX6_carryOutOrder 73 = .ok (.getfield 29, 3) := by decide +kernel
theorem dX6_carryOutOrder_76 : decode cX6_carryOutOrder 76 = .ok (.getfield 229, 3) := by decide +kernel
theorem dX6_carryOutOrder_79 : decode cX6_carryOutOrder 79 = .ok (.iconst (-1), 1) := by decide +kernel
theorem dX6_carryOutOrder_80 : decode cX6_carryOutOrder 80 = .ok (.aload_n 0, 1) := by decide +kernel
theorem dX6_carryOutOrder_81 : decode cX6_carryOutOrder 81 = .ok (.getfield 29, 3) := by decide +kernel
theorem dX6_carryOutOrder_84 : decode cX6_carryOutOrder 84 = .ok (.getfield 232, 3) := by decide +kernel
theorem dX6_carryOutOrder_87 : decode cX6_carryOutOrder 87 = .ok (.aload_n 0, 1) := by decide +kernel
theorem dX6_carryOutOrder_88 : decode cX6_carryOutOrder 88 = .ok (.getfield 29, 3) := by decide +kernel
theorem dX6_carryOutOrder_91 : decode cX6_carryOutOrder 91 = .ok (.getfield 235, 3) := by decide +kernel
theorem dX6_carryOutOrder_94 : decode cX6_carryOutOrder 94 = .ok (.aload_n 0, 1) := by decide +kernel
theorem dX6_carryOutOrder_95 : decode cX6_carryOutOrder 95 = .ok (.getfield 29, 3) := by decide +kernel
theorem dX6_carryOutOrder_98 : decode cX6_carryOutOrder 98 = .ok (.getfield 238, 3) := by decide +kernel
theorem dX6_carryOutOrder_101 : decode cX6_carryOutOrder 101 = .ok (.invokevirtual 69, 3) := by decide +kernel
theorem dX6_carryOutOrder_104 : decode cX6_carryOutOrder 104 = .ok (.pop, 1) := by decide +kernel
theorem dX6_carryOutOrder_105 : decode cX6_carryOutOrder 105 = .ok (.iconst 1, 1) := by decide +kernel
theorem dX6_carryOutOrder_106 : decode cX6_carryOutOrder 106 = .ok (.ireturn, 1) := by decide +kernel
theorem dX6_carryOutOrder_107 : decode cX6_carryOutOrder 107 = .ok (.aload_n 0, 1) := by decide +kernel
theorem dX6_carryOutOrder_108 : decode cX6_carryOutOrder 108 = .ok (.getfield 10, 3) := by decide +kernel
theorem dX6_carryOutOrder_111 : decode cX6_carryOutOrder 111 = .ok (.invokevirtual 100, 3) := by decide +kernel
theorem dX6_carryOutOrder_114 : decode cX6_carryOutOrder 114 = .ok (.iconst (-1), 1) := by decide +kernel
theorem dX6_carryOutOrder_115 : decode cX6_carryOutOrder 115 = .ok (.if_icmp .eq 7, 3) := by decide +kernel
theorem dX6_carryOutOrder_118 : decode cX6_carryOutOrder 118 = .ok (.iconst 1, 1) := by decide +kernel
theorem dX6_carryOutOrder_119 : decode cX6_carryOutOrder 119 = .ok (.goto 4, 3) := by decide +kernel
theorem dX6_carryOutOrder_122 : decode cX6_carryOutOrder 122 = .ok (.iconst 0, 1) := by decide +kernel
theorem dX6_carryOutOrder_123 : decode cX6_carryOutOrder 123 = .ok (.ireturn, 1) := by decide +kernel
theorem dX6_carryOutOrder_124 : decode cX6_carryOutOrder 124 = .ok (.aload_n 0, 1) := by decide +kernel
theorem dX6_carryOutOrder_125 : decode cX6_carryOutOrder 125 = .ok (.getfield 10, 3) := by decide +kernel
theorem dX6_carryOutOrder_128 : decode cX6_carryOutOrder 128 = .ok (.aload_n 0, 1) := by decide +kernel
theorem dX6_carryOutOrder_129 : decode cX6_carryOutOrder 129 = .ok (.getfield 29, 3) := by decide +kernel
theorem dX6_carryOutOrder_132 : decode cX6_carryOutOrder 132 = .ok (.getfield 241, 3) := by decide +kernel
theorem dX6_carryOutOrder_135 : decode cX6_carryOutOrder 135 = .ok (.invokevirtual 104, 3) := by decide +kernel
theorem dX6_carryOutOrder_138 : decode cX6_carryOutOrder 138 = .ok (.ifCond .ne 5, 3) := by decide +kernel
theorem dX6_carryOutOrder_141 : decode cX6_carryOutOrder 141 = .ok (.iconst 0, 1) := by decide +kernel
theorem dX6_carryOutOrder_142 : decode cX6_carryOutOrder 142 = .ok (.ireturn, 1) := by decide +kernel
theorem dX6_carryOutOrder_143 : decode cX6_carryOutOrder 143 = .ok (.aload_n 0, 1) := by decide +kernel
theorem dX6_carryOutOrder_144 : decode cX6_carryOutOrder 144 = .ok (.getfield 10, 3) := by decide +kernel
theorem dX6_carryOutOrder_147 : decode cX6_carryOutOrder 147 = .ok (.aload_n 0, 1) := by decide +kernel
theorem dX6_carryOutOrder_148 : decode cX6_carryOutOrder 148 = .ok (.getfield 29, 3) := by decide +kernel
theorem dX6_carryOutOrder_151 : decode cX6_carryOutOrder 151 = .ok (.getfield 241, 3) := by decide +kernel
theorem dX6_carryOutOrder_154 : decode cX6_carryOutOrder 154 = .ok (.invokevirtual 113, 3) := by decide +kernel
theorem dX6_carryOutOrder_157 : decode cX6_carryOutOrder 157 = .ok (.pop, 1) := by decide +kernel
theorem dX6_carryOutOrder_158 : decode cX6_carryOutOrder 158 = .ok (.iconst 1, 1) := by decide +kernel
theorem dX6_carryOutOrder_159 : decode cX6_carryOutOrder 159 = .ok (.ireturn, 1) := by decide +kernel
theorem dX6_carryOutOrder_160 : decode cX6_carryOutOrder 160 = .ok (.iconst 0, 1) := by decide +kernel
theorem dX6_carryOutOrder_161 : decode cX6_carryOutOrder 161 = .ok (.ireturn, 1) := by decide +kernel
theorem dX6_mix_0 : decode cX6_mix 0 = .ok (.ldc2_w 244, 3) := by decide +kernel
theorem dX6_mix_3 : decode cX6_mix 3 = .ok (.lload_n 0, 1) := by decide +kernel
theorem dX6_mix_4 : decode cX6_mix 4 = .ok (.lmul, 1) := by decide +kernel
theorem dX6_mix_5 : decode cX6_mix 5 = .ok (.iload_n 2, 1) := by decide +kernel
theorem dX6_mix_6 : decode cX6_mix 6 = .ok (.i2l, 1) := by decide +kernel
theorem dX6_mix_7 : decode cX6_mix 7 = .ok (.ladd, 1) := by decide +kernel
theorem dX6_mix_8 : decode cX6_mix 8 = .ok (.lreturn, 1) := by decide +kernel
theorem dX6_mixPetitions_0 : decode cX6_mixPetitions 0 = .ok (.lload_n 1, 1) := by decide +kernel
theorem dX6_mixPetitions_1 : decode cX6_mixPetitions 1 = .ok (.lstore_n 3, 1) := by decide +kernel
theorem dX6_mixPetitions_2 : decode cX6_mixPetitions 2 = .ok (.aload_n 0, 1) := by decide +kernel
theorem dX6_mixPetitions_3 : decode cX6_mixPetitions 3 = .ok (.getfield 10, 3) := by decide +kernel
theorem dX6_mixPetitions_6 : decode cX6_mixPetitions 6 = .ok (.getfield 86, 3) := by decide +kernel
theorem dX6_mixPetitions_9 : decode cX6_mixPetitions 9 = .ok (.aload_n 0, 1) := by decide +kernel
theorem dX6_mixPetitions_10 : decode cX6_mixPetitions 10 = .ok (.getfield 33, 3) := by decide +kernel
theorem dX6_mixPetitions_13 : decode cX6_mixPetitions 13 = .ok (.invokevirtual 121, 3) := by decide +kernel
theorem dX6_mixPetitions_16 : decode cX6_mixPetitions 16 = .ok (.iconst 0, 1) := by decide +kernel
theorem dX6_mixPetitions_17 : decode cX6_mixPetitions 17 = .ok (.istore 5, 2) := by decide +kernel
theorem dX6_mixPetitions_19 : decode cX6_mixPetitions 19 = .ok (.iload 5, 2) := by decide +kernel
theorem dX6_mixPetitions_21 : decode cX6_mixPetitions 21 = .ok (.aload_n 0, 1) := by decide +kernel
theorem dX6_mixPetitions_22 : decode cX6_mixPetitions 22 = .ok (.getfield 10, 3) := by decide +kernel
theorem dX6_mixPetitions_25 : decode cX6_mixPetitions 25 = .ok (.getfield 86, 3) := by decide +kernel
theorem dX6_mixPetitions_28 : decode cX6_mixPetitions 28 = .ok (.getfield 90, 3) := by decide +kernel
theorem dX6_mixPetitions_31 : decode cX6_mixPetitions 31 = .ok (.if_icmp .ge 82, 3) := by decide +kernel
theorem dX6_mixPetitions_34 : decode cX6_mixPetitions 34 = .ok (.iload 5, 2) := by decide +kernel
theorem dX6_mixPetitions_36 : decode cX6_mixPetitions 36 = .ok (.aload_n 0, 1) := by decide +kernel
theorem dX6_mixPetitions_37 : decode cX6_mixPetitions 37 = .ok (.getfield 33, 3) := by decide +kernel
theorem dX6_mixPetitions_40 : decode cX6_mixPetitions 40 = .ok (.arraylength, 1) := by decide +kernel
theorem dX6_mixPetitions_41 : decode cX6_mixPetitions 41 = .ok (.if_icmp .ge 72, 3) := by decide +kernel
theorem dX6_mixPetitions_44 : decode cX6_mixPetitions 44 = .ok (.aload_n 0, 1) := by decide +kernel
theorem dX6_mixPetitions_45 : decode cX6_mixPetitions 45 = .ok (.getfield 33, 3) := by decide +kernel
theorem dX6_mixPetitions_48 : decode cX6_mixPetitions 48 = .ok (.iload 5, 2) := by decide +kernel
theorem dX6_mixPetitions_50 : decode cX6_mixPetitions 50 = .ok (.iaload, 1) := by decide +kernel
theorem dX6_mixPetitions_51 : decode cX6_mixPetitions 51 = .ok (.istore 6, 2) := by decide +kernel
theorem dX6_mixPetitions_53 : decode cX6_mixPetitions 53 = .ok (.lload_n 3, 1) := by decide +kernel
theorem dX6_mixPetitions_54 : decode cX6_mixPetitions 54 = .ok (.aload_n 0, 1) := by decide +kernel
theorem dX6_mixPetitions_55 : decode cX6_mixPetitions 55 = .ok (.getfield 10, 3) := by decide +kernel
theorem dX6_mixPetitions_58 : decode cX6_mixPetitions 58 = .ok (.getfield 86, 3) := by decide +kernel
theorem dX6_mixPetitions_61 : decode cX6_mixPetitions 61 = .ok (.iload 6, 2) := by decide +kernel
theorem dX6_mixPetitions_63 : decode cX6_mixPetitions 63 = .ok (.bipush 7, 2) := by decide +kernel
theorem dX6_mixPetitions_65 : decode cX6_mixPetitions 65 = .ok (.invokevirtual 125, 3) := by decide +kernel
theorem dX6_mixPetitions_68 : decode cX6_mixPetitions 68 = .ok (.invokestatic 205, 3) := by decide +kernel
theorem dX6_mixPetitions_71 : decode cX6_mixPetitions 71 = .ok (.lstore_n 3, 1) := by decide +kernel
theorem dX6_mixPetitions_72 : decode cX6_mixPetitions 72 = .ok (.iconst 0, 1) := by decide +kernel
theorem dX6_mixPetitions_73 : decode cX6_mixPetitions 73 = .ok (.istore 7, 2) := by decide +kernel
theorem dX6_mixPetitions_75 : decode cX6_mixPetitions 75 = .ok (.iload 7, 2) := by decide +kernel
theorem dX6_mixPetitions_77 : decode cX6_mixPetitions 77 = .ok (.bipush 9, 2) := by decide +kernel
theorem dX6_mixPetitions_79 : decode cX6_mixPetitions 79 = .ok (.if_icmp .gt 28, 3) := by decide +kernel
theorem dX6_mixPetitions_82 : decode cX6_mixPetitions 82 = .ok (.lload_n 3, 1) := by decide +kernel
theorem dX6_mixPetitions_83 : decode cX6_mixPetitions 83 = .ok (.aload_n 0, 1) := by decide +kernel
theorem dX6_mixPetitions_84 : decode cX6_mixPetitions 84 = .ok (.getfield 10, 3) := by decide +kernel
theorem dX6_mixPetitions_87 : decode cX6_mixPetitions 87 = .ok (.getfield 86, 3) := by decide +kernel
theorem dX6_mixPetitions_90 : decode cX6_mixPetitions 90 = .ok (.iload 6, 2) := by decide +kernel
theorem dX6_mixPetitions_92 : decode cX6_mixPetitions 92 = .ok (.iload 7, 2) := by decide +kernel
theorem dX6_mixPetitions_94 : decode cX6_mixPetitions 94 = .ok (.invokevirtual 116, 3) := by decide +kernel
theorem dX6_mixPetitions_97 : decode cX6_mixPetitions 97 = .ok (.invokestatic 205, 3) := by decide +kernel
theorem dX6_mixPetitions_100 : decode cX6_mixPetitions 100 = .ok (.lstore_n 3, 1) := by decide +kernel
theorem dX6_mixPetitions_101 : decode cX6_mixPetitions 101 = .ok (.iinc 7 1, 3) := by decide +kernel
theorem dX6_mixPetitions_104 : decode cX6_mixPetitions 104 = .ok (.goto (-29), 3) := by decide +kernel
theorem dX6_mixPetitions_107 : decode cX6_mixPetitions 107 = .ok (.iinc 5 1, 3) := by decide +kernel
theorem dX6_mixPetitions_110 : decode cX6_mixPetitions 110 = .ok (.goto (-91), 3) := by decide +kernel
theorem dX6_mixPetitions_113 : decode cX6_mixPetitions 113 = .ok (.lload_n 3, 1) := by decide +kernel
theorem dX6_mixPetitions_114 : decode cX6_mixPetitions 114 = .ok (.lreturn, 1) := by decide +kernel
theorem dX6_mixLog_0 : decode cX6_mixLog 0 = .ok (.lload_n 1, 1) := by decide +kernel
theorem dX6_mixLog_1 : decode cX6_mixLog 1 = .ok (.lstore_n 3, 1) := by decide +kernel
theorem dX6_mixLog_2 : decode cX6_mixLog 2 = .ok (.iconst 0, 1) := by decide +kernel
theorem dX6_mixLog_3 : decode cX6_mixLog 3 = .ok (.istore 5, 2) := by decide +kernel
theorem dX6_mixLog_5 : decode cX6_mixLog 5 = .ok (.iload 5, 2) := by decide +kernel
theorem dX6_mixLog_7 : decode cX6_mixLog 7 = .ok (.aload_n 0, 1) := by decide +kernel
theorem dX6_mixLog_8 : decode cX6_mixLog 8 = .ok (.getfield 10, 3) := by decide +kernel
theorem dX6_mixLog_11 : decode cX6_mixLog 11 = .ok (.getfield 134, 3) := by decide +kernel
theorem dX6_mixLog_14 : decode cX6_mixLog 14 = .ok (.getfield 138, 3) := by decide +kernel
theorem dX6_mixLog_17 : decode cX6_mixLog 17 = .ok (.if_icmp .ge 43, 3) := by decide +kernel
theorem dX6_mixLog_20 : decode cX6_mixLog 20 = .ok (.iconst 0, 1) := by decide +kernel
theorem dX6_mixLog_21 : decode cX6_mixLog 21 = .ok (.istore 6, 2) := by decide +kernel
theorem dX6_mixLog_23 : decode cX6_mixLog 23 = .ok (.iload 6, 2) := by decide +kernel
theorem dX6_mixLog_25 : decode cX6_mixLog 25 = .ok (.iconst 5, 1) := by decide +kernel
theorem dX6_mixLog_26 : decode cX6_mixLog 26 = .ok (.if_icmp .ge 28, 3) := by decide +kernel
theorem dX6_mixLog_29 : decode cX6_mixLog 29 = .ok (.lload_n 3, 1) := by decide +kernel
theorem dX6_mixLog_30 : decode cX6_mixLog 30 = .ok (.aload_n 0, 1) := by decide +kernel
theorem dX6_mixLog_31 : decode cX6_mixLog 31 = .ok (.getfield 10, 3) := by decide +kernel
theorem dX6_mixLog_34 : decode cX6_mixLog 34 = .ok (.getfield 134, 3) := by decide +kernel
theorem dX6_mixLog_37 : decode cX6_mixLog 37 = .ok (.iload 5, 2) := by decide +kernel
theorem dX6_mixLog_39 : decode cX6_mixLog 39 = .ok (.iload 6, 2) := by decide +kernel
theorem dX6_mixLog_41 : decode cX6_mixLog 41 = .ok (.invokevirtual 143, 3) := by decide +kernel
theorem dX6_mixLog_44 : decode cX6_mixLog 44 = .ok (.invokestatic 205, 3) := by decide +kernel
theorem dX6_mixLog_47 : decode cX6_mixLog 47 = .ok (.lstore_n 3, 1) := by decide +kernel
theorem dX6_mixLog_48 : decode cX6_mixLog 48 = .ok (.iinc 6 1, 3) := by decide +kernel
theorem dX6_mixLog_51 : decode cX6_mixLog 51 = .ok (.goto (-28), 3) := by decide +kernel
theorem dX6_mixLog_54 : decode cX6_mixLog 54 = .ok (.iinc 5 1, 3) := by decide +kernel
theorem dX6_mixLog_57 : decode cX6_mixLog 57 = .ok (.goto (-52), 3) := by decide +kernel
theorem dX6_mixLog_60 : decode cX6_mixLog 60 = .ok (.lload_n 3, 1) := by decide +kernel
theorem dX6_mixLog_61 : decode cX6_mixLog 61 = .ok (.lreturn, 1) := by decide +kernel
end
section
theorem dX7_init_0 : decode cX7_init 0 = .ok (.aload_n 0, 1) := by decide +kernel
theorem dX7_init_1 : decode cX7_init 1 = .ok (.invokespecial 1, 3) := by decide +kernel
theorem dX7_init_4 : decode cX7_init 4 = .ok (.aload_n 0, 1) := by decide +kernel
theorem dX7_init_5 : decode cX7_init 5 = .ok (.sipush 424, 3) := by decide +kernel
theorem dX7_init_8 : decode cX7_init 8 = .ok (.newarray .int, 2) := by decide +kernel
theorem dX7_init_10 : decode cX7_init 10 = .ok (.putfield 7, 3) := by decide +kernel
theorem dX7_init_13 : decode cX7_init 13 = .ok (.aload_n 0, 1) := by decide +kernel
theorem dX7_init_14 : decode cX7_init 14 = .ok (.sipush 1696, 3) := by decide +kernel
theorem dX7_init_17 : decode cX7_init 17 = .ok (.newarray .int, 2) := by decide +kernel
theorem dX7_init_19 : decode cX7_init 19 = .ok (.putfield 13, 3) := by decide +kernel
theorem dX7_init_22 : decode cX7_init 22 = .ok (.aload_n 0, 1) := by decide +kernel
theorem dX7_init_23 : decode cX7_init 23 = .ok (.sipush 424, 3) := by decide +kernel
theorem dX7_init_26 : decode cX7_init 26 = .ok (.newarray .int, 2) := by decide +kernel
theorem dX7_init_28 : decode cX7_init 28 = .ok (.putfield 16, 3) := by decide +kernel
theorem dX7_init_31 : decode cX7_init 31 = .ok (.aload_n 0, 1) := by decide +kernel
theorem dX7_init_32 : decode cX7_init 32 = .ok (.bipush 100, 2) := by decide +kernel
theorem dX7_init_34 : decode cX7_init 34 = .ok (.newarray .int, 2) := by decide +kernel
theorem dX7_init_36 : decode cX7_init 36 = .ok (.putfield 19, 3) := by decide +kernel
theorem dX7_init_39 : decode cX7_init 39 = .ok (.aload_n 0, 1) := by decide +kernel
theorem dX7_init_40 : decode cX7_init 40 = .ok (.iconst 4, 1) := by decide +kernel
theorem dX7_init_41 : decode cX7_init 41 = .ok (.newarray .int, 2) := by decide +kernel
theorem dX7_init_43 : decode cX7_init 43 = .ok (.putfield 22, 3) := by decide +kernel
theorem dX7_init_46 : decode cX7_init 46 = .ok (.aload_n 0, 1) := by decide +kernel
theorem dX7_init_47 : decode cX7_init 47 = .ok (.getfield 7, 3) := by decide +kernel
theorem dX7_init_50 : decode cX7_init 50 = .ok (.bipush 8, 2) := by decide +kernel
theorem dX7_init_52 : decode cX7_init 52 = .ok (.iconst 3, 1) := by decide +kernel
theorem dX7_init_53 : decode cX7_init 53 = .ok (.iastore, 1) := by decide +kernel
theorem dX7_init_54 : decode cX7_init 54 = .ok (.aload_n 0, 1) := by decide +kernel
theorem dX7_init_55 : decode cX7_init 55 = .ok (.getfield 7, 3) := by decide +kernel
theorem dX7_init_58 : decode cX7_init 58 = .ok (.bipush 9, 2) := by decide +kernel
theorem dX7_init_60 : decode cX7_init 60 = .ok (.bipush 10, 2) := by decide +kernel
theorem dX7_init_62 : decode cX7_init 62 = .ok (.iastore, 1) := by decide +kernel
theorem dX7_init_63 : decode cX7_init 63 = .ok (.aload_n 0, 1) := by decide +kernel
theorem dX7_init_64 : decode cX7_init 64 = .ok (.getfield 7, 3) := by decide +kernel
theorem dX7_init_67 : decode cX7_init 67 = .ok (.bipush 12, 2) := by decide +kernel
theorem dX7_init_69 : decode cX7_init 69 = .ok (.bipush 10, 2) := by decide +kernel
theorem dX7_init_71 : decode cX7_init 71 = .ok (.iastore, 1) := by decide +kernel
theorem dX7_init_72 : decode cX7_init 72 = .ok (.aload_n 0, 1) := by decide +kernel
theorem dX7_init_73 : decode cX7_init 73 = .ok (.getfield 7, 3) := by decide +kernel
theorem dX7_init_76 : decode cX7_init 76 = .ok (.bipush 13, 2) := by decide +kernel
theorem dX7_init_78 : decode cX7_init 78 = .ok (.bipush 8, 2) := by decide +kernel
theorem dX7_init_80 : decode cX7_init 80 = .ok (.iastore, 1) := by decide +kernel
theorem dX7_init_81 : decode cX7_init 81 = .ok (.aload_n 0, 1) := by decide +kernel
theorem dX7_init_82 : decode cX7_init 82 = .ok (.getfield 7, 3) := by decide +kernel
theorem dX7_init_85 : decode cX7_init 85 = .ok (.bipush 14, 2) := by decide +kernel
theorem dX7_init_87 : decode cX7_init 87 = .ok (.bipush 6, 2) := by decide +kernel
theorem dX7_init_89 : decode cX7_init 89 = .ok (.iastore, 1) := by decide +kernel
theorem dX7_init_90 : decode cX7_init 90 = .ok (.aload_n 0, 1) := by decide +kernel
theorem dX7_init_91 : decode cX7_init 91 = .ok (.getfield 7, 3) := by decide +kernel
theorem dX7_init_94 : decode cX7_init 94 = .ok (.bipush 15, 2) := by decide +kernel
theorem dX7_init_96 : decode cX7_init 96 = .ok (.iconst 4, 1) := by decide +kernel
theorem dX7_init_97 : decode cX7_init 97 = .ok (.iastore, 1) := by decide +kernel
theorem dX7_init_98 : decode cX7_init 98 = .ok (.return_, 1) := by decide +kernel
theorem dX7_thrown_0 : decode cX7_thrown 0 = .ok (.aload_n 0, 1) := by decide +kernel
theorem dX7_thrown_1 : decode cX7_thrown 1 = .ok (.getfield 25, 3) := by decide +kernel
theorem dX7_thrown_4 : decode cX7_thrown 4 = .ok (.ireturn, 1) := by decide +kernel
theorem dX7_in_0 : decode cX7_in 0 = .ok (.iload_n 0, 1) := by decide +kernel
theorem dX7_in_1 : decode cX7_in 1 = .ok (.iload_n 1, 1) := by decide +kernel
theorem dX7_in_2 : decode cX7_in 2 = .ok (.if_icmp .lt 12, 3) := by decide +kernel
theorem dX7_in_5 : decode cX7_in 5 = .ok (.iload_n 0, 1) := by decide +kernel
theorem dX7_in_6 : decode cX7_in 6 = .ok (.iload_n 2, 1) := by decide +kernel
theorem dX7_in_7 : decode cX7_in 7 = .ok (.if_icmp .gt 7, 3) := by decide +kernel
theorem dX7_in_10 : decode cX7_in 10 = .ok (.iconst 1, 1) := by decide +kernel
theorem dX7_in_11 : decode cX7_in 11 = .ok (.goto 4, 3) := by decide +kernel
theorem dX7_in_14 : decode cX7_in 14 = .ok (.iconst 0, 1) := by decide +kernel
theorem dX7_in_15 : decode cX7_in 15 = .ok (.ireturn, 1) := by decide +kernel
theorem dX7_fails_0 : decode cX7_fails 0 = .ok (.aload_n 0, 1) := by decide +kernel
theorem dX7_fails_1 : decode cX7_fails 1 = .ok (.iload_n 1, 1) := by decide +kernel
theorem dX7_fails_2 : decode cX7_fails 2 = .ok (.putfield 25, 3) := by decide +kernel
theorem dX7_fails_5 : decode cX7_fails 5 = .ok (.iconst 0, 1) := by decide +kernel
theorem dX7_fails_6 : decode cX7_fails 6 = .ok (.ireturn, 1) := by decide +kernel
theorem dX7_tells_0 : decode cX7_tells 0 = .ok (.aload_n 0, 1) := by decide +kernel
theorem dX7_tells_1 : decode cX7_tells 1 = .ok (.iconst 0, 1) := by decide +kernel
theorem dX7_tells_2 : decode cX7_tells 2 = .ok (.putfield 25, 3) := by decide +kernel
theorem dX7_tells_5 : decode cX7_tells 5 = .ok (.iload_n 1, 1) := by decide +kernel
theorem dX7_tells_6 : decode cX7_tells 6 = .ok (.ireturn, 1) := by decide +kernel
theorem dX7_laysAside_0 : decode cX7_laysAside 0 = .ok (.iconst 0, 1) := by decide +kernel
theorem dX7_laysAside_1 : decode cX7_laysAside 1 = .ok (.istore_n 1, 1) := by decide +kernel
theorem dX7_laysAside_2 : decode cX7_laysAside 2 = .ok (.iload_n 1, 1) := by decide +kernel
theorem dX7_laysAside_3 : decode cX7_laysAside 3 = .ok (.sipush 424, 3) := by decide +kernel
theorem dX7_laysAside_6 : decode cX7_laysAside 6 = .ok (.if_icmp .ge 21, 3) := by decide +kernel
theorem dX7_laysAside_9 : decode cX7_laysAside 9 = .ok (.aload_n 0, 1) := by decide +kernel
theorem dX7_laysAside_10 : decode cX7_laysAside 10 = .ok (.getfield 16, 3) := by decide +kernel
theorem dX7_laysAside_13 : decode cX7_laysAside 13 = .ok (.iload_n 1, 1) := by decide +kernel
theorem dX7_laysAside_14 : decode cX7_laysAside 14 = .ok (.aload_n 0, 1) := by decide +kernel
theorem dX7_laysAside_15 : decode cX7_laysAside 15 = .ok (.getfield 7, 3) := by decide +kernel
theorem dX7_laysAside_18 : decode cX7_laysAside 18 = .ok (.iload_n 1, 1) := by decide +kernel
theorem dX7_laysAside_19 : decode cX7_laysAside 19 = .ok (.iaload, 1) := by decide +kernel
theorem dX7_laysAside_20 : decode cX7_laysAside 20 = .ok (.iastore, 1) := by decide +kernel
theorem dX7_laysAside_21 : decode cX7_laysAside 21 = .ok (.iinc 1 1, 3) := by decide +kernel
theorem dX7_laysAside_24 : decode cX7_laysAside 24 = .ok (.goto (-22), 3) := by decide +kernel
theorem dX7_laysAside_27 : decode cX7_laysAside 27 = .ok (.return_, 1) := by decide +kernel
theorem dX7_bringsBack_0 : decode cX7_bringsBack 0 = .ok (.iconst 0, 1) := by decide +kernel
theorem dX7_bringsBack_1 : decode cX7_bringsBack 1 = .ok (.istore_n 1, 1) := by decide +kernel
theorem dX7_bringsBack_2 : decode cX7_bringsBack 2 = .ok (.iload_n 1, 1) := by decide +kernel
theorem dX7_bringsBack_3 : decode cX7_bringsBack 3 = .ok (.sipush 424, 3) := by decide +kernel
theorem dX7_bringsBack_6 : decode cX7_bringsBack 6 = .ok (.if_icmp .ge 21, 3) := by decide +kernel
theorem dX7_bringsBack_9 : decode cX7_bringsBack 9 = .ok (.aload_n 0, 1) := by decide +kernel
theorem dX7_bringsBack_10 : decode cX7_bringsBack 10 = .ok (.getfield 7, 3) := by decide +kernel
theorem dX7_bringsBack_13 : decode cX7_bringsBack 13 = .ok (.iload_n 1, 1) := by decide +kernel
theorem dX7_bringsBack_14 : decode cX7_bringsBack 14 = .ok (.aload_n 0, 1) := by decide +kernel
theorem dX7_bringsBack_15 : decode cX7_bringsBack 15 = .ok (.getfield 16, 3) := by decide +kernel
theorem dX7_bringsBack_18 : decode cX7_bringsBack 18 = .ok (.iload_n 1, 1) := by decide +kernel
theorem dX7_bringsBack_19 : decode cX7_bringsBack 19 = .ok (.iaload, 1) := by decide +kernel
theorem dX7_bringsBack_20 : decode cX7_bringsBack 20 = .ok (.iastore, 1) := by decide +kernel
theorem dX7_bringsBack_21 : decode cX7_bringsBack 21 = .ok (.iinc 1 1, 3) := by decide +kernel
theorem dX7_bringsBack_24 : decode cX7_bringsBack 24 = .ok (.goto (-22), 3) := by decide +kernel
theorem dX7_bringsBack_27 : decode cX7_bringsBack 27 = .ok (.return_, 1) := by decide +kernel
theorem dX7_keeps_0 : decode cX7_keeps 0 = .ok (.aload_n 0, 1) := by decide +kernel
theorem dX7_keeps_1 : decode cX7_keeps 1 = .ok (.getfield 29, 3) := by decide +kernel
theorem dX7_keeps_4 : decode cX7_keeps 4 = .ok (.iconst 4, 1) := by decide +kernel
theorem dX7_keeps_5 : decode cX7_keeps 5 = .ok (.if_icmp .ne 44, 3) := by decide +kernel
theorem dX7_keeps_8 : decode cX7_keeps 8 = .ok (.iconst 0, 1) := by decide +kernel
theorem dX7_keeps_9 : decode cX7_keeps 9 = .ok (.istore_n 1, 1) := by decide +kernel
theorem dX7_keeps_10 : decode cX7_keeps 10 = .ok (.iload_n 1, 1) := by decide +kernel
theorem dX7_keeps_11 : decode cX7_keeps 11 = .ok (.sipush 1272, 3) := by decide +kernel
theorem dX7_keeps_14 : decode cX7_keeps 14 = .ok (.if_icmp .ge 25, 3) := by decide +kernel
theorem dX7_keeps_17 : decode cX7_keeps 17 = .ok (.aload_n 0, 1) := by decide +kernel
theorem dX7_keeps_18 : decode cX7_keeps 18 = .ok (.getfield 13, 3) := by decide +kernel
theorem dX7_keeps_21 : decode cX7_keeps 21 = .ok (.iload_n 1, 1) := by decide +kernel
theorem dX7_keeps_22 : decode cX7_keeps 22 = .ok (.aload_n 0, 1) := by decide +kernel
theorem dX7_keeps_23 : decode cX7_keeps 23 = .ok (.getfield 13, 3) := by decide +kernel
theorem dX7_keeps_26 : decode cX7_keeps 26 = .ok (.iload_n 1, 1) := by decide +kernel
theorem dX7_keeps_27 : decode cX7_keeps 27 = .ok (.sipush 424, 3) := by decide +kernel
theorem dX7_keeps_30 : decode cX7_keeps 30 = .ok (.iadd, 1) := by decide +kernel
theorem dX7_keeps_31 : decode cX7_keeps 31 = .ok (.iaload, 1) := by decide +kernel
theorem dX7_keeps_32 : decode cX7_keeps 32 = .ok (.iastore, 1) := by decide +kernel
theorem dX7_keeps_33 : decode cX7_keeps 33 = .ok (.iinc 1 1, 3) := by decide +kernel
theorem dX7_keeps_36 : decode cX7_keeps 36 = .ok (.goto (-26), 3) := by decide +kernel
theorem dX7_keeps_39 : decode cX7_keeps 39 = .ok (.aload_n 0, 1) := by decide +kernel
theorem dX7_keeps_40 : decode cX7_keeps 40 = .ok (.dup, 1) := by decide +kernel
theorem dX7_keeps_41 : decode cX7_keeps 41 = .ok (.getfield 29, 3) := by decide +kernel
theorem dX7_keeps_44 : decode cX7_keeps 44 = .ok (.iconst 1, 1) := by decide +kernel
theorem dX7_keeps_45 : decode cX7_keeps 45 = .ok (.isub, 1) := by decide +kernel
theorem dX7_keeps_46 : decode cX7_keeps 46 = .ok (.putfield 29, 3) := by decide +kernel
theorem dX7_keeps_49 : decode cX7_keeps 49 = .ok (.iconst 0, 1) := by decide +kernel
theorem dX7_keeps_50 : decode cX7_keeps 50 = .ok (.istore_n 1, 1) := by decide +kernel
theorem dX7_keeps_51 : decode cX7_keeps 51 = .ok (.iload_n 1, 1) := by decide +kernel
theorem dX7_keeps_52 : decode cX7_keeps 52 = .ok (.sipush 424, 3) := by decide +kernel
theorem dX7_keeps_55 : decode cX7_keeps 55 = .ok (.if_icmp .ge 30, 3) := by decide +kernel
theorem dX7_keeps_58 : decode cX7_keeps 58 = .ok (.aload_n 0, 1) := by decide +kernel
theorem dX7_keeps_59 : decode cX7_keeps 59 = .ok (.getfield 13, 3) := by decide +kernel
theorem dX7_keeps_62 : decode cX7_keeps 62 = .ok (.sipush 424, 3) := by decide +kernel
theorem dX7_keeps_65 : decode cX7_keeps 65 = .ok (.aload_n 0, 1) := by decide +kernel
theorem dX7_keeps_66 : decode cX7_keeps 66 = .ok (.getfield 29, 3) := by decide +kernel
theorem dX7_keeps_69 : decode cX7_keeps 69 = .ok (.imul, 1) := by decide +kernel
theorem dX7_keeps_70 : decode cX7_keeps 70 = .ok (.iload_n 1, 1) := by decide +kernel
theorem dX7_keeps_71 : decode cX7_keeps 71 = .ok (.iadd, 1) := by decide +kernel
theorem dX7_keeps_72 : decode cX7_keeps 72 = .ok (.aload_n 0, 1) := by decide +kernel
theorem dX7_keeps_73 : decode cX7_keeps 73 = .ok (.getfield 7, 3) := by decide +kernel
theorem dX7_keeps_76 : decode cX7_keeps 76 = .ok (.iload_n 1, 1) := by decide +kernel
theorem dX7_keeps_77 : decode cX7_keeps 77 = .ok (.iaload, 1) := by decide +kernel
theorem dX7_keeps_78 : decode cX7_keeps 78 = .ok (.iastore, 1) := by decide +kernel
theorem dX7_keeps_79 : decode cX7_keeps 79 = .ok (.iinc 1 1, 3) := by decide +kernel
theorem dX7_keeps_82 : decode cX7_keeps 82 = .ok (.goto (-31), 3) := by decide +kernel
theorem dX7_keeps_85 : decode cX7_keeps 85 = .ok (.aload_n 0, 1) := by decide +kernel
theorem dX7_keeps_86 : decode cX7_keeps 86 = .ok (.dup, 1) := by decide +kernel
theorem dX7_keeps_87 : decode cX7_keeps 87 = .ok (.getfield 29, 3) := by decide +kernel
theorem dX7_keeps_90 : decode cX7_keeps 90 = .ok (.iconst 1, 1) := by decide +kernel
theorem dX7_keeps_91 : decode cX7_keeps 91 = .ok (.iadd, 1) := by decide +kernel
theorem dX7_keeps_92 : decode cX7_keeps 92 = .ok (.putfield 29, 3) := by decide +kernel
theorem dX7_keeps_95 : decode cX7_keeps 95 = .ok (.return_, 1) := by decide +kernel
theorem dX7_of_0 : decode cX7_of 0 = .ok (.aload_n 0, 1) := by decide +kernel
theorem dX7_of_1 : decode cX7_of 1 = .ok (.getfield 7, 3) := by decide +kernel
theorem dX7_of_4 : decode cX7_of 4 = .ok (.bipush 104, 2) := by decide +kernel
theorem dX7_of_6 : decode cX7_of 6 = .ok (.bipush 8, 2) := by decide +kernel
theorem dX7_of_8 : decode cX7_of 8 = .ok (.iload_n 1, 1) := by decide +kernel
theorem dX7_of_9 : decode cX7_of 9 = .ok (.imul, 1) := by decide +kernel
theorem dX7_of_10 : decode cX7_of 10 = .ok (.iadd, 1) := by decide +kernel
theorem dX7_of_11 : decode cX7_of 11 = .ok (.iload_n 2, 1) := by decide +kernel
theorem dX7_of_12 : decode cX7_of 12 = .ok (.iadd, 1) := by decide +kernel
theorem dX7_of_13 : decode cX7_of 13 = .ok (.iaload, 1) := by decide +kernel
theorem dX7_of_14 : decode cX7_of 14 = .ok (.ireturn, 1) := by decide +kernel
theorem dX7_put_0 : decode cX7_put 0 = .ok (.aload_n 0, 1) := by decide +kernel
theorem dX7_put_1 : decode cX7_put 1 = .ok (.getfield 7, 3) := by decide +kernel
theorem dX7_put_4 : decode cX7_put 4 = .ok (.bipush 104, 2) := by decide +kernel
theorem dX7_put_6 : decode cX7_put 6 = .ok (.bipush 8, 2) := by decide +kernel
theorem dX7_put_8 : decode cX7_put 8 = .ok (.iload_n 1, 1) := by decide +kernel
theorem dX7_put_9 : decode cX7_put 9 = .ok (.imul, 1) := by decide +kernel
theorem dX7_put_10 : decode cX7_put 10 = .ok (.iadd, 1) := by decide +kernel
theorem dX7_put_11 : decode cX7_put 11 = .ok (.iload_n 2, 1) := by decide +kernel
theorem dX7_put_12 : decode cX7_put 12 = .ok (.iadd, 1) := by decide +kernel
theorem dX7_put_13 : decode cX7_put 13 = .ok (.iload_n 3, 1) := by decide +kernel
theorem dX7_put_14 : decode cX7_put 14 = .ok (.iastore, 1) := by decide +kernel
theorem dX7_put_15 : decode cX7_put 15 = .ok (.return_, 1) := by decide +kernel
theorem dX7_find_0 : decode cX7_find 0 = .ok (.iconst (-1), 1) := by decide +kernel
theorem dX7_find_1 : decode cX7_find 1 = .ok (.istore_n 2, 1) := by decide +kernel
theorem dX7_find_2 : decode cX7_find 2 = .ok (.iconst 0, 1) := by decide +kernel
theorem dX7_find_3 : decode cX7_find 3 = .ok (.istore_n 3, 1) := by decide +kernel
theorem dX7_find_4 : decode cX7_find 4 = .ok (.iload_n 3, 1) := by decide +kernel
theorem dX7_find_5 : decode cX7_find 5 = .ok (.aload_n 0, 1) := by decide +kernel
theorem dX7_find_6 : decode cX7_find 6 = .ok (.getfield 7, 3) := by decide +kernel
theorem dX7_find_9 : decode cX7_find 9 = .ok (.iconst 1, 1) := by decide +kernel
theorem dX7_find_10 : decode cX7_find 10 = .ok (.iaload, 1) := by decide +kernel
theorem dX7_find_11 : decode cX7_find 11 = .ok (.if_icmp .ge 25, 3) := by decide +kernel
theorem dX7_find_14 : decode cX7_find 14 = .ok (.aload_n 0, 1) := by decide +kernel
theorem dX7_find_15 : decode cX7_find 15 = .ok (.iload_n 3, 1) := by decide +kernel
theorem dX7_find_16 : decode cX7_find 16 = .ok (.iconst 0, 1) := by decide +kernel
theorem dX7_find_17 : decode cX7_find 17 = .ok (.invokevirtual 32, 3) := by decide +kernel
theorem dX7_find_20 : decode cX7_find 20 = .ok (.iload_n 1, 1) := by decide +kernel
theorem dX7_find_21 : decode cX7_find 21 = .ok (.if_icmp .ne 7, 3) := by decide +kernel
theorem dX7_find_24 : decode cX7_find 24 = .ok (.iload_n 3, 1) := by decide +kernel
theorem dX7_find_25 : decode cX7_find 25 = .ok (.goto 4, 3) := by decide +kernel
theorem dX7_find_28 : decode cX7_find 28 = .ok (.iload_n 2, 1) := by decide +kernel
theorem dX7_find_29 : decode cX7_find 29 = .ok (.istore_n 2, 1) := by decide +kernel
theorem dX7_find_30 : decode cX7_find 30 = .ok (.iinc 3 1, 3) := by decide +kernel
theorem dX7_find_33 : decode cX7_find 33 = .ok (.goto (-29), 3) := by decide +kernel
theorem dX7_find_36 : decode cX7_find 36 = .ok (.iload_n 2, 1) := by decide +kernel
theorem dX7_find_37 : decode cX7_find 37 = .ok (.ireturn, 1) := by decide +kernel
theorem dX7_isAhead_0 : decode cX7_isAhead 0 = .ok (.aload_n 0, 1) := by decide +kernel
theorem dX7_isAhead_1 : decode cX7_isAhead 1 = .ok (.iload_n 1, 1) := by decide +kernel
theorem dX7_isAhead_2 : decode cX7_isAhead 2 = .ok (.iconst 3, 1) := by decide +kernel
theorem dX7_isAhead_3 : decode cX7_isAhead 3 = .ok (.invokevirtual 32, 3) := by decide +kernel
theorem dX7_isAhead_6 : decode cX7_isAhead 6 = .ok (.aload_n 0, 1) := by decide +kernel
theorem dX7_isAhead_7 : decode cX7_isAhead 7 = .ok (.iload_n 2, 1) := by decide +kernel
theorem dX7_isAhead_8 : decode cX7_isAhead 8 = .ok (.iconst 3, 1) := by decide +kernel
theorem dX7_isAhead_9 : decode cX7_isAhead 9 = .ok (.invokevirtual 32, 3) := by decide +kernel
theorem dX7_isAhead_12 : decode cX7_isAhead 12 = .ok (.isub, 1) := by decide +kernel
theorem dX7_isAhead_13 : decode cX7_isAhead 13 = .ok (.istore_n 3, 1) := by decide +kernel
theorem dX7_isAhead_14 : decode cX7_isAhead 14 = .ok (.iload_n 3, 1) := by decide +kernel
theorem dX7_isAhead_15 : decode cX7_isAhead 15 = .ok (.ifCond .ne 19, 3) := by decide +kernel
theorem dX7_isAhead_18 : decode cX7_isAhead 18 = .ok (.aload_n 0, 1) := by decide +kernel
theorem dX7_isAhead_19 : decode cX7_isAhead 19 = .ok (.iload_n 1, 1) := by decide +kernel
theorem dX7_isAhead_20 : decode cX7_isAhead 20 = .ok (.iconst 4, 1) := by decide +kernel
theorem dX7_isAhead_21 : decode cX7_isAhead 21 = .ok (.invokevirtual 32, 3) := by decide +kernel
theorem dX7_isAhead_24 : decode cX7_isAhead 24 = .ok (.aload_n 0, 1) := by decide +kernel
theorem dX7_isAhead_25 : decode cX7_isAhead 25 = .ok (.iload_n 2, 1) := by decide +kernel
theorem dX7_isAhead_26 : decode cX7_isAhead 26 = .ok (.iconst 4, 1) := by decide +kernel
theorem dX7_isAhead_27 : decode cX7_isAhead 27 = .ok (.invokevirtual 32, 3) := by decide +kernel
theorem dX7_isAhead_30 : decode cX7_isAhead 30 = .ok (.isub, 1) := by decide +kernel
theorem dX7_isAhead_31 : decode cX7_isAhead 31 = .ok (.goto 4, 3) := by decide +kernel
theorem dX7_isAhead_34 : decode cX7_isAhead 34 = .ok (.iload_n 3, 1) := by decide +kernel
theorem dX7_isAhead_35 : decode cX7_isAhead 35 = .ok (.istore_n 3, 1) := by decide +kernel
theorem dX7_isAhead_36 : decode cX7_isAhead 36 = .ok (.iload_n 3, 1) := by decide +kernel
theorem dX7_isAhead_37 : decode cX7_isAhead 37 = .ok (.ifCond .gt 12, 3) := by decide +kernel
theorem dX7_isAhead_40 : decode cX7_isAhead 40 = .ok (.iload_n 3, 1) := by decide +kernel
theorem dX7_isAhead_41 : decode cX7_isAhead 41 = .ok (.ifCond .ne 12, 3) := by decide +kernel
theorem dX7_isAhead_44 : decode cX7_isAhead 44 = .ok (.iload_n 1, 1) := by decide +kernel
theorem dX7_isAhead_45 : decode cX7_isAhead 45 = .ok (.iload_n 2, 1) := by decide +kernel
theorem dX7_isAhead_46 : decode cX7_isAhead 46 = .ok (.if_icmp .ge 7, 3) := by decide +kernel
theorem dX7_isAhead_49 : decode cX7_isAhead 49 = .ok (.iconst 1, 1) := by decide +kernel
theorem dX7_isAhead_50 : decode cX7_isAhead 50 = .ok (.goto 4, 3) := by decide +kernel
theorem dX7_isAhead_53 : decode cX7_isAhead 53 = .ok (.iconst 0, 1) := by decide +kernel
theorem dX7_isAhead_54 : decode cX7_isAhead 54 = .ok (.ireturn, 1) := by decide +kernel
theorem dX7_placeOf_0 : decode cX7_placeOf 0 = .ok (.iconst 0, 1) := by decide +kernel
theorem dX7_placeOf_1 : decode cX7_placeOf 1 = .ok (.istore_n 2, 1) := by decide +kernel
theorem dX7_placeOf_2 : decode cX7_placeOf 2 = .ok (.iconst 0, 1) := by decide +kernel
theorem dX7_placeOf_3 : decode cX7_placeOf 3 = .ok (.istore_n 3, 1) := by decide +kernel
theorem dX7_placeOf_4 : decode cX7_placeOf 4 = .ok (.iload_n 3, 1) := by decide +kernel
theorem dX7_placeOf_5 : decode cX7_placeOf 5 = .ok (.aload_n 0, 1) := by decide +kernel
theorem dX7_placeOf_6 : decode cX7_placeOf 6 = .ok (.getfield 7, 3) := by decide +kernel
theorem dX7_placeOf_9 : decode cX7_placeOf 9 = .ok (.iconst 1, 1) := by decide +kernel
theorem dX7_placeOf_10 : decode cX7_placeOf 10 = .ok (.iaload, 1) := by decide +kernel
theorem dX7_placeOf_11 : decode cX7_placeOf 11 = .ok (.if_icmp .ge 31, 3) := by decide +kernel
theorem dX7_placeOf_14 : decode cX7_placeOf 14 = .ok (.iload_n 2, 1) := by decide +kernel
theorem dX7_placeOf_15 : decode cX7_placeOf 15 = .ok (.iload_n 3, 1) := by decide +kernel
theorem dX7_placeOf_16 : decode cX7_placeOf 16 = .ok (.iload_n 1, 1) := by decide +kernel
theorem dX7_placeOf_17 : decode cX7_placeOf 17 = .ok (.if_icmp .eq 16, 3) := by decide +kernel
theorem dX7_placeOf_20 : decode cX7_placeOf 20 = .ok (.aload_n 0, 1) := by decide +kernel
theorem dX7_placeOf_21 : decode cX7_placeOf 21 = .ok (.iload_n 3, 1) := by decide +kernel
theorem dX7_placeOf_22 : decode cX7_placeOf 22 = .ok (.iload_n 1, 1) := by decide +kernel
theorem dX7_placeOf_23 : decode cX7_placeOf 23 = .ok (.invokevirtual 36, 3) := by decide +kernel
theorem dX7_placeOf_26 : decode cX7_placeOf 26 = .ok (.ifCond .eq 7, 3) := by decide +kernel
theorem dX7_placeOf_29 : decode cX7_placeOf 29 = .ok (.iconst 1, 1) := by decide +kernel
theorem dX7_placeOf_30 : decode cX7_placeOf 30 = .ok (.goto 4, 3) := by decide +kernel
theorem dX7_placeOf_33 : decode cX7_placeOf 33 = .ok (.iconst 0, 1) := by decide +kernel
theorem dX7_placeOf_34 : decode cX7_placeOf 34 = .ok (.iadd, 1) := by decide +kernel
theorem dX7_placeOf_35 : decode cX7_placeOf 35 = .ok (.istore_n 2, 1) := by decide +kernel
theorem dX7_placeOf_36 : decode cX7_placeOf 36 = .ok (.iinc 3 1, 3) := by decide +kernel
theorem dX7_placeOf_39 : decode cX7_placeOf 39 = .ok (.goto (-35), 3) := by decide +kernel
theorem dX7_placeOf_42 : decode cX7_placeOf 42 = .ok (.iload_n 2, 1) := by decide +kernel
theorem dX7_placeOf_43 : decode cX7_placeOf 43 = .ok (.ireturn, 1) := by decide +kernel
theorem dX7_atPlace_0 : decode cX7_atPlace 0 = .ok (.iconst 0, 1) := by decide +kernel
theorem dX7_atPlace_1 : decode cX7_atPlace 1 = .ok (.istore_n 2, 1) := by decide +kernel
theorem dX7_atPlace_2 : decode cX7_atPlace 2 = .ok (.aload_n 0, 1) := by decide +kernel
theorem dX7_atPlace_3 : decode cX7_atPlace 3 = .ok (.iload_n 2, 1) := by decide +kernel
theorem dX7_atPlace_4 : decode cX7_atPlace 4 = .ok (.invokevirtual 40, 3) := by decide +kernel
theorem dX7_atPlace_7 : decode cX7_atPlace 7 = .ok (.iload_n 1, 1) := by decide +kernel
theorem dX7_atPlace_8 : decode cX7_atPlace 8 = .ok (.if_icmp .eq 9, 3) := by decide +kernel
theorem dX7_atPlace_11 : decode cX7_atPlace 11 = .ok (.iinc 2 1, 3) := by decide +kernel
theorem dX7_atPlace_14 : decode cX7_atPlace 14 = .ok (.goto (-12), 3) := by decide +kernel
theorem dX7_atPlace_17 : decode cX7_atPlace 17 = .ok (.iload_n 2, 1) := by decide +kernel
theorem dX7_atPlace_18 : decode cX7_atPlace 18 = .ok (.ireturn, 1) := by decide +kernel
theorem dX7_sentOf_0 : decode cX7_sentOf 0 = .ok (.iconst 0, 1) := by decide +kernel
theorem dX7_sentOf_1 : decode cX7_sentOf 1 = .ok (.istore_n 2, 1) := by decide +kernel
theorem dX7_sentOf_2 : decode cX7_sentOf 2 = .ok (.iconst 0, 1) := by decide +kernel
theorem dX7_sentOf_3 : decode cX7_sentOf 3 = .ok (.istore_n 3, 1) := by decide +kernel
theorem dX7_sentOf_4 : decode cX7_sentOf 4 = .ok (.iload_n 3, 1) := by decide +kernel
theorem dX7_sentOf_5 : decode cX7_sentOf 5 = .ok (.aload_n 0, 1) := by decide +kernel
theorem dX7_sentOf_6 : decode cX7_sentOf 6 = .ok (.getfield 7, 3) := by decide +kernel
theorem dX7_sentOf_9 : decode cX7_sentOf 9 = .ok (.iconst 1, 1) := by decide +kernel
theorem dX7_sentOf_10 : decode cX7_sentOf 10 = .ok (.iaload, 1) := by decide +kernel
theorem dX7_sentOf_11 : decode cX7_sentOf 11 = .ok (.if_icmp .ge 37, 3) := by decide +kernel
theorem dX7_sentOf_14 : decode cX7_sentOf 14 = .ok (.iload_n 2, 1) := by decide +kernel
theorem dX7_sentOf_15 : decode cX7_sentOf 15 = .ok (.aload_n 0, 1) := by decide +kernel
theorem dX7_sentOf_16 : decode cX7_sentOf 16 = .ok (.iload_n 3, 1) := by decide +kernel
theorem dX7_sentOf_17 : decode cX7_sentOf 17 = .ok (.iconst 1, 1) := by decide +kernel
theorem dX7_sentOf_18 : decode cX7_sentOf 18 = .ok (.invokevirtual 32, 3) := by decide +kernel
theorem dX7_sentOf_21 : decode cX7_sentOf 21 = .ok (.iload_n 1, 1) := by decide +kernel
theorem dX7_sentOf_22 : decode cX7_sentOf 22 = .ok (.if_icmp .eq 13, 3) := by decide +kernel
theorem dX7_sentOf_25 : decode cX7_sentOf 25 = .ok (.aload_n 0, 1) := by decide +kernel
theorem dX7_sentOf_26 : decode cX7_sentOf 26 = .ok (.iload_n 3, 1) := by decide +kernel
theorem dX7_sentOf_27 : decode cX7_sentOf 27 = .ok (.iconst 2, 1) := by decide +kernel
theorem dX7_sentOf_28 : decode cX7_sentOf 28 = .ok (.invokevirtual 32, 3) := by decide +kernel
theorem dX7_sentOf_31 : decode cX7_sentOf 31 = .ok (.iload_n 1, 1) := by decide +kernel
theorem dX7_sentOf_32 : decode cX7_sentOf 32 = .ok (.if_icmp .ne 7, 3) := by decide +kernel
theorem dX7_sentOf_35 : decode cX7_sentOf 35 = .ok (.iconst 1, 1) := by decide +kernel
theorem dX7_sentOf_36 : decode cX7_sentOf 36 = .ok (.goto 4, 3) := by decide +kernel
theorem dX7_sentOf_39 : decode cX7_sentOf 39 = .ok (.iconst 0, 1) := by decide +kernel
theorem dX7_sentOf_40 : decode cX7_sentOf 40 = .ok (.iadd, 1) := by decide +kernel
theorem dX7_sentOf_41 : decode cX7_sentOf 41 = .ok (.istore_n 2, 1) := by decide +kernel
theorem dX7_sentOf_42 : decode cX7_sentOf 42 = .ok (.iinc 3 1, 3) := by decide +kernel
theorem dX7_sentOf_45 : decode cX7_sentOf 45 = .ok (.goto (-41), 3) := by decide +kernel
theorem dX7_sentOf_48 : decode cX7_sentOf 48 = .ok (.iload_n 2, 1) := by decide +kernel
theorem dX7_sentOf_49 : decode cX7_sentOf 49 = .ok (.ireturn, 1) := by decide +kernel
theorem dX7_isRoom_0 : decode cX7_isRoom 0 = .ok (.aload_n 0, 1) := by decide +kernel
theorem dX7_isRoom_1 : decode cX7_isRoom 1 = .ok (.getfield 7, 3) := by decide +kernel
theorem dX7_isRoom_4 : decode cX7_isRoom 4 = .ok (.iconst 1, 1) := by decide +kernel
theorem dX7_isRoom_5 : decode cX7_isRoom 5 = .ok (.iaload, 1) := by decide +kernel
theorem dX7_isRoom_6 : decode cX7_isRoom 6 = .ok (.bipush 40, 2) := by decide +kernel
theorem dX7_isRoom_8 : decode cX7_isRoom 8 = .ok (.if_icmp .ge 42, 3) := by decide +kernel
theorem dX7_isRoom_11 : decode cX7_isRoom 11 = .ok (.aload_n 0, 1) := by decide +kernel
theorem dX7_isRoom_12 : decode cX7_isRoom 12 = .ok (.iload_n 1, 1) := by decide +kernel
theorem dX7_isRoom_13 : decode cX7_isRoom 13 = .ok (.invokevirtual 44, 3) := by decide +kernel
theorem dX7_isRoom_16 : decode cX7_isRoom 16 = .ok (.aload_n 0, 1) := by decide +kernel
theorem dX7_isRoom_17 : decode cX7_isRoom 17 = .ok (.getfield 7, 3) := by decide +kernel
theorem dX7_isRoom_20 : decode cX7_isRoom 20 = .ok (.bipush 8, 2) := by decide +kernel
theorem dX7_isRoom_22 : decode cX7_isRoom 22 = .ok (.iaload, 1) := by decide +kernel
theorem dX7_isRoom_23 : decode cX7_isRoom 23 = .ok (.if_icmp .ge 27, 3) := by decide +kernel
theorem dX7_isRoom_26 : decode cX7_isRoom 26 = .ok (.iload_n 2, 1) := by decide +kernel
theorem dX7_isRoom_27 : decode cX7_isRoom 27 = .ok (.iconst (-1), 1) := by decide +kernel
theorem dX7_isRoom_28 : decode cX7_isRoom 28 = .ok (.if_icmp .eq 18, 3) := by decide +kernel
theorem dX7_isRoom_31 : decode cX7_isRoom 31 = .ok (.aload_n 0, 1) := by decide +kernel
theorem dX7_isRoom_32 : decode cX7_isRoom 32 = .ok (.iload_n 2, 1) := by decide +kernel
theorem dX7_isRoom_33 : decode cX7_isRoom 33 = .ok (.invokevirtual 44, 3) := by decide +kernel
theorem dX7_isRoom_36 : decode cX7_isRoom 36 = .ok (.aload_n 0, 1) := by decide +kernel
theorem dX7_isRoom_37 : decode cX7_isRoom 37 = .ok (.getfield 7, 3) := by decide +kernel
theorem dX7_isRoom_40 : decode cX7_isRoom 40 = .ok (.bipush 8, 2) := by decide +kernel
theorem dX7_isRoom_42 : decode cX7_isRoom 42 = .ok (.iaload, 1) := by decide +kernel
theorem dX7_isRoom_43 : decode cX7_isRoom 43 = .ok (.if_icmp .ge 7, 3) := by decide +kernel
theorem dX7_isRoom_46 : decode cX7_isRoom 46 = .ok (.iconst 1, 1) := by decide +kernel
theorem dX7_isRoom_47 : decode cX7_isRoom 47 = .ok (.goto 4, 3) := by decide +kernel
theorem dX7_isRoom_50 : decode cX7_isRoom 50 = .ok (.iconst 0, 1) := by decide +kernel
theorem dX7_isRoom_51 : decode cX7_isRoom 51 = .ok (.ireturn, 1) := by decide +kernel
theorem dX7_louder_0 : decode cX7_louder 0 = .ok (.iload_n 0, 1) := by decide +kernel
theorem dX7_louder_1 : decode cX7_louder 1 = .ok (.iload_n 1, 1) := by decide +kernel
theorem dX7_louder_2 : decode cX7_louder 2 = .ok (.bipush 25, 2) := by decide +kernel
theorem dX7_louder_4 : decode cX7_louder 4 = .ok (.idiv, 1) := by decide +kernel
theorem dX7_louder_5 : decode cX7_louder 5 = .ok (.iadd, 1) := by decide +kernel
theorem dX7_louder_6 : decode cX7_louder 6 = .ok (.istore_n 2, 1) := by decide +kernel
theorem dX7_louder_7 : decode cX7_louder 7 = .ok (.iload_n 2, 1) := by decide +kernel
theorem dX7_louder_8 : decode cX7_louder 8 = .ok (.iconst 4, 1) := by decide +kernel
theorem dX7_louder_9 : decode cX7_louder 9 = .ok (.if_icmp .le 7, 3) := by decide +kernel
theorem dX7_louder_12 : decode cX7_louder 12 = .ok (.iconst 4, 1) := by decide +kernel
theorem dX7_louder_13 : decode cX7_louder 13 = .ok (.goto 4, 3) := by decide +kernel
theorem dX7_louder_16 : decode cX7_louder 16 = .ok (.iload_n 2, 1) := by decide +kernel
theorem dX7_louder_17 : decode cX7_louder 17 = .ok (.ireturn, 1) := by decide +kernel
theorem dX7_comes_0 : decode cX7_comes 0 = .ok (.aload_n 0, 1) := by decide +kernel
theorem dX7_comes_1 : decode cX7_comes 1 = .ok (.getfield 7, 3) := by decide +kernel
theorem dX7_comes_4 : decode cX7_comes 4 = .ok (.iconst 1, 1) := by decide +kernel
theorem dX7_comes_5 : decode cX7_comes 5 = .ok (.iaload, 1) := by decide +kernel
theorem dX7_comes_6 : decode cX7_comes 6 = .ok (.istore 6, 2) := by decide +kernel
theorem dX7_comes_8 : decode cX7_comes 8 = .ok (.aload_n 0, 1) := by decide +kernel
theorem dX7_comes_9 : decode cX7_comes 9 = .ok (.getfield 7, 3) := by decide +kernel
theorem dX7_comes_12 : decode cX7_comes 12 = .ok (.iconst 1, 1) := by decide +kernel
theorem dX7_comes_13 : decode cX7_comes 13 = .ok (.dup2, 1) := by decide +kernel
theorem dX7_comes_14 : decode cX7_comes 14 = .ok (.iaload, 1) := by decide +kernel
theorem dX7_comes_15 : decode cX7_comes 15 = .ok (.iconst 1, 1) := by decide +kernel
theorem dX7_comes_16 : decode cX7_comes 16 = .ok (.iadd, 1) := by decide +kernel
theorem dX7_comes_17 : decode cX7_comes 17 = .ok (.iastore, 1) := by decide +kernel
theorem dX7_comes_18 : decode cX7_comes 18 = .ok (.aload_n 0, 1) := by decide +kernel
theorem dX7_comes_19 : decode cX7_comes 19 = .ok (.iload 6, 2) := by decide +kernel
theorem dX7_comes_21 : decode cX7_comes 21 = .ok (.iconst 0, 1) := by decide +kernel
theorem dX7_comes_22 : decode cX7_comes 22 = .ok (.aload_n 0, 1) := by decide +kernel
theorem dX7_comes_23 : decode cX7_comes 23 = .ok (.getfield 7, 3) := by decide +kernel
theorem dX7_comes_26 : decode cX7_comes 26 = .ok (.iconst 2, 1) := by decide +kernel
theorem dX7_comes_27 : decode cX7_comes 27 = .ok (.iaload, 1) := by decide +kernel
theorem dX7_comes_28 : decode cX7_comes 28 = .ok (.invokevirtual 47, 3) := by decide +kernel
theorem dX7_comes_31 : decode cX7_comes 31 = .ok (.aload_n 0, 1) := by decide +kernel
theorem dX7_comes_32 : decode cX7_comes 32 = .ok (.iload 6, 2) := by decide +kernel
theorem dX7_comes_34 : decode cX7_comes 34 = .ok (.iconst 1, 1) := by decide +kernel
theorem dX7_comes_35 : decode cX7_comes 35 = .ok (.iload_n 1, 1) := by decide +kernel
theorem dX7_comes_36 : decode cX7_comes 36 = .ok (.invokevirtual 47, 3) := by decide +kernel
theorem dX7_comes_39 : decode cX7_comes 39 = .ok (.aload_n 0, 1) := by decide +kernel
theorem dX7_comes_40 : decode cX7_comes 40 = .ok (.iload 6, 2) := by decide +kernel
theorem dX7_comes_42 : decode cX7_comes 42 = .ok (.iconst 2, 1) := by decide +kernel
theorem dX7_comes_43 : decode cX7_comes 43 = .ok (.iload_n 2, 1) := by decide +kernel
theorem dX7_comes_44 : decode cX7_comes 44 = .ok (.invokevirtual 47, 3) := by decide +kernel
theorem dX7_comes_47 : decode cX7_comes 47 = .ok (.aload_n 0, 1) := by decide +kernel
theorem dX7_comes_48 : decode cX7_comes 48 = .ok (.iload 6, 2) := by decide +kernel
theorem dX7_comes_50 : decode cX7_comes 50 = .ok (.iconst 3, 1) := by decide +kernel
theorem dX7_comes_51 : decode cX7_comes 51 = .ok (.iload_n 3, 1) := by decide +kernel
theorem dX7_comes_52 : decode cX7_comes 52 = .ok (.iload 5, 2) := by decide +kernel
theorem dX7_comes_54 : decode cX7_comes 54 = .ok (.invokestatic 51, 3) := by decide +kernel
theorem dX7_comes_57 : decode cX7_comes 57 = .ok (.invokevirtual 47, 3) := by decide +kernel
theorem dX7_comes_60 : decode cX7_comes 60 = .ok (.aload_n 0, 1) := by decide +kernel
theorem dX7_comes_61 : decode cX7_comes 61 = .ok (.iload 6, 2) := by decide +kernel
theorem dX7_comes_63 : decode cX7_comes 63 = .ok (.iconst 4, 1) := by decide +kernel
theorem dX7_comes_64 : decode cX7_comes 64 = .ok (.iconst 0, 1) := by decide +kernel
theorem dX7_comes_65 : decode cX7_comes 65 = .ok (.invokevirtual 47, 3) := by decide +kernel
theorem dX7_comes_68 : decode cX7_comes 68 = .ok (.aload_n 0, 1) := by decide +kernel
theorem dX7_comes_69 : decode cX7_comes 69 = .ok (.iload 6, 2) := by decide +kernel
theorem dX7_comes_71 : decode cX7_comes 71 = .ok (.iconst 5, 1) := by decide +kernel
theorem dX7_comes_72 : decode cX7_comes 72 = .ok (.iconst 0, 1) := by decide +kernel
theorem dX7_comes_73 : decode cX7_comes 73 = .ok (.invokevirtual 47, 3) := by decide +kernel
theorem dX7_comes_76 : decode cX7_comes 76 = .ok (.aload_n 0, 1) := by decide +kernel
theorem dX7_comes_77 : decode cX7_comes 77 = .ok (.iload 6, 2) := by decide +kernel
theorem dX7_comes_79 : decode cX7_comes 79 = .ok (.bipush 6, 2) := by decide +kernel
theorem dX7_comes_81 : decode cX7_comes 81 = .ok (.iload 4, 2) := by decide +kernel
theorem dX7_comes_83 : decode cX7_comes 83 = .ok (.invokevirtual 47, 3) := by decide +kernel
theorem dX7_comes_86 : decode cX7_comes 86 = .ok (.aload_n 0, 1) := by decide +kernel
theorem dX7_comes_87 : decode cX7_comes 87 = .ok (.iload 6, 2) := by decide +kernel
theorem dX7_comes_89 : decode cX7_comes 89 = .ok (.bipush 7, 2) := by decide +kernel
theorem dX7_comes_91 : decode cX7_comes 91 = .ok (.iload 5, 2) := by decide +kernel
theorem dX7_comes_93 : decode cX7_comes 93 = .ok (.invokevirtual 47, 3) := by decide +kernel
theorem dX7_comes_96 : decode cX7_comes 96 = .ok (.aload_n 0, 1) := by decide +kernel
theorem dX7_comes_97 : decode cX7_comes 97 = .ok (.getfield 7, 3) := by decide +kernel
theorem dX7_comes_100 : decode cX7_comes 100 = .ok (.iconst 2, 1) := by decide +kernel
theorem dX7_comes_101 : decode cX7_comes 101 = .ok (.dup2, 1) := by decide +kernel
theorem dX7_comes_102 : decode cX7_comes 102 = .ok (.iaload, 1) := by decide +kernel
theorem dX7_comes_103 : decode cX7_comes 103 = .ok (.iconst 1, 1) := by decide +kernel
theorem dX7_comes_104 : decode cX7_comes 104 = .ok (.iadd, 1) := by decide +kernel
theorem dX7_comes_105 : decode cX7_comes 105 = .ok (.iastore, 1) := by decide +kernel
theorem dX7_comes_106 : decode cX7_comes 106 = .ok (.aload_n 0, 1) := by decide +kernel
theorem dX7_comes_107 : decode cX7_comes 107 = .ok (.getfield 7, 3) := by decide +kernel
theorem dX7_comes_110 : decode cX7_comes 110 = .ok (.iconst 2, 1) := by decide +kernel
theorem dX7_comes_111 : decode cX7_comes 111 = .ok (.iaload, 1) := by decide +kernel
theorem dX7_comes_112 : decode cX7_comes 112 = .ok (.iconst 1, 1) := by decide +kernel
theorem dX7_comes_113 : decode cX7_comes 113 = .ok (.isub, 1) := by decide +kernel
theorem dX7_comes_114 : decode cX7_comes 114 = .ok (.ireturn, 1) := by decide +kernel
theorem dX7_backOf_0 : decode cX7_backOf 0 = .ok (.aload_n 0, 1) := by decide +kernel
theorem dX7_backOf_1 : decode cX7_backOf 1 = .ok (.iload_n 1, 1) := by decide +kernel
theorem dX7_backOf_2 : decode cX7_backOf 2 = .ok (.bipush 7, 2) := by decide +kernel
theorem dX7_backOf_4 : decode cX7_backOf 4 = .ok (.invokevirtual 32, 3) := by decide +kernel
theorem dX7_backOf_7 : decode cX7_backOf 7 = .ok (.istore_n 3, 1) := by decide +kernel
theorem dX7_backOf_8 : decode cX7_backOf 8 = .ok (.iload_n 2, 1) := by decide +kernel
theorem dX7_backOf_9 : decode cX7_backOf 9 = .ok (.ifCond .ne 27, 3) := by decide +kernel
theorem dX7_backOf_12 : decode cX7_backOf 12 = .ok (.aload_n 0, 1) := by decide +kernel
theorem dX7_backOf_13 : decode cX7_backOf 13 = .ok (.iload_n 1, 1) := by decide +kernel
theorem dX7_backOf_14 : decode cX7_backOf 14 = .ok (.iconst 4, 1) := by decide +kernel
theorem dX7_backOf_15 : decode cX7_backOf 15 = .ok (.invokevirtual 32, 3) := by decide +kernel
theorem dX7_backOf_18 : decode cX7_backOf 18 = .ok (.aload_n 0, 1) := by decide +kernel
theorem dX7_backOf_19 : decode cX7_backOf 19 = .ok (.getfield 7, 3) := by decide +kernel
theorem dX7_backOf_22 : decode cX7_backOf 22 = .ok (.bipush 9, 2) := by decide +kernel
theorem dX7_backOf_24 : decode cX7_backOf 24 = .ok (.iaload, 1) := by decide +kernel
theorem dX7_backOf_25 : decode cX7_backOf 25 = .ok (.if_icmp .gt 7, 3) := by decide +kernel
theorem dX7_backOf_28 : decode cX7_backOf 28 = .ok (.iconst 0, 1) := by decide +kernel
theorem dX7_backOf_29 : decode cX7_backOf 29 = .ok (.goto 6, 3) := by decide +kernel
theorem dX7_backOf_32 : decode cX7_backOf 32 = .ok (.iload_n 3, 1) := by decide +kernel
theorem dX7_backOf_33 : decode cX7_backOf 33 = .ok (.iconst 2, 1) := by decide +kernel
theorem dX7_backOf_34 : decode cX7_backOf 34 = .ok (.idiv, 1) := by decide +kernel
theorem dX7_backOf_35 : decode cX7_backOf 35 = .ok (.ireturn, 1) := by decide +kernel
theorem dX7_backOf_36 : decode cX7_backOf 36 = .ok (.iload_n 2, 1) := by decide +kernel
theorem dX7_backOf_37 : decode cX7_backOf 37 = .ok (.iconst 1, 1) := by decide +kernel
theorem dX7_backOf_38 : decode cX7_backOf 38 = .ok (.if_icmp .ne 7, 3) := by decide +kernel
theorem dX7_backOf_41 : decode cX7_backOf 41 = .ok (.iload_n 3, 1) := by decide +kernel
theorem dX7_backOf_42 : decode cX7_backOf 42 = .ok (.goto 8, 3) := by decide +kernel
theorem dX7_backOf_45 : decode cX7_backOf 45 = .ok (.iload_n 3, 1) := by decide +kernel
theorem dX7_backOf_46 : decode cX7_backOf 46 = .ok (.iload_n 3, 1) := by decide +kernel
theorem dX7_backOf_47 : decode cX7_backOf 47 = .ok (.iconst 4, 1) := by decide +kernel
theorem dX7_backOf_48 : decode cX7_backOf 48 = .ok (.idiv, 1) := by decide +kernel
theorem dX7_backOf_49 : decode cX7_backOf 49 = .ok (.isub, 1) := by decide +kernel
theorem dX7_backOf_50 : decode cX7_backOf 50 = .ok (.ireturn, 1) := by decide +kernel
theorem dX7_leaves_0 : decode cX7_leaves 0 = .ok (.aload_n 0, 1) := by decide +kernel
theorem dX7_leaves_1 : decode cX7_leaves 1 = .ok (.iload_n 1, 1) := by decide +kernel
theorem dX7_leaves_2 : decode cX7_leaves 2 = .ok (.iload_n 2, 1) := by decide +kernel
theorem dX7_leaves_3 : decode cX7_leaves 3 = .ok (.invokevirtual 54, 3) := by decide +kernel
theorem dX7_leaves_6 : decode cX7_leaves 6 = .ok (.istore_n 3, 1) := by decide +kernel
theorem dX7_leaves_7 : decode cX7_leaves 7 = .ok (.bipush 79, 2) := by decide +kernel
theorem dX7_leaves_9 : decode cX7_leaves 9 = .ok (.istore 4, 2) := by decide +kernel
theorem dX7_leaves_11 : decode cX7_leaves 11 = .ok (.iload 4, 2) := by decide +kernel
theorem dX7_leaves_13 : decode cX7_leaves 13 = .ok (.iconst 4, 1) := by decide +kernel
theorem dX7_leaves_14 : decode cX7_leaves 14 = .ok (.if_icmp .le 31, 3) := by decide +kernel
theorem dX7_leaves_17 : decode cX7_leaves 17 = .ok (.aload_n 0, 1) := by decide +kernel
theorem dX7_leaves_18 : decode cX7_leaves 18 = .ok (.getfield 7, 3) := by decide +kernel
theorem dX7_leaves_21 : decode cX7_leaves 21 = .ok (.bipush 24, 2) := by decide +kernel
theorem dX7_leaves_23 : decode cX7_leaves 23 = .ok (.iload 4, 2) := by decide +kernel
theorem dX7_leaves_25 : decode cX7_leaves 25 = .ok (.iadd, 1) := by decide +kernel
theorem dX7_leaves_26 : decode cX7_leaves 26 = .ok (.aload_n 0, 1) := by decide +kernel
theorem dX7_leaves_27 : decode cX7_leaves 27 = .ok (.getfield 7, 3) := by decide +kernel
theorem dX7_leaves_30 : decode cX7_leaves 30 = .ok (.bipush 24, 2) := by decide +kernel
theorem dX7_leaves_32 : decode cX7_leaves 32 = .ok (.iload 4, 2) := by decide +kernel
theorem dX7_leaves_34 : decode cX7_leaves 34 = .ok (.iadd, 1) := by decide +kernel
theorem dX7_leaves_35 : decode cX7_leaves 35 = .ok (.iconst 5, 1) := by decide +kernel
theorem dX7_leaves_36 : decode cX7_leaves 36 = .ok (.isub, 1) := by decide +kernel
theorem dX7_leaves_37 : decode cX7_leaves 37 = .ok (.iaload, 1) := by decide +kernel
theorem dX7_leaves_38 : decode cX7_leaves 38 = .ok (.iastore, 1) := by decide +kernel
theorem dX7_leaves_39 : decode cX7_leaves 39 = .ok (.iinc 4 (-1), 3) := by decide +kernel
theorem dX7_leaves_42 : decode cX7_leaves 42 = .ok (.goto (-31), 3) := by decide +kernel
theorem dX7_leaves_45 : decode cX7_leaves 45 = .ok (.aload_n 0, 1) := by decide +kernel
theorem dX7_leaves_46 : decode cX7_leaves 46 = .ok (.getfield 7, 3) := by decide +kernel
theorem dX7_leaves_49 : decode cX7_leaves 49 = .ok (.bipush 24, 2) := by decide +kernel
theorem dX7_leaves_51 : decode cX7_leaves 51 = .ok (.aload_n 0, 1) := by decide +kernel
theorem dX7_leaves_52 : decode cX7_leaves 52 = .ok (.iload_n 1, 1) := by decide +kernel
theorem dX7_leaves_53 : decode cX7_leaves 53 = .ok (.iconst 0, 1) := by decide +kernel
theorem dX7_leaves_54 : decode cX7_leaves 54 = .ok (.invokevirtual 32, 3) := by decide +kernel
theorem dX7_leaves_57 : decode cX7_leaves 57 = .ok (.iastore, 1) := by decide +kernel
theorem dX7_leaves_58 : decode cX7_leaves 58 = .ok (.aload_n 0, 1) := by decide +kernel
theorem dX7_leaves_59 : decode cX7_leaves 59 = .ok (.getfield 7, 3) := by decide +kernel
theorem dX7_leaves_62 : decode cX7_leaves 62 = .ok (.bipush 25, 2) := by decide +kernel
theorem dX7_leaves_64 : decode cX7_leaves 64 = .ok (.iload_n 2, 1) := by decide +kernel
theorem dX7_leaves_65 : decode cX7_leaves 65 = .ok (.iastore, 1) := by decide +kernel
theorem dX7_leaves_66 : decode cX7_leaves 66 = .ok (.aload_n 0, 1) := by decide +kernel
theorem dX7_leaves_67 : decode cX7_leaves 67 = .ok (.getfield 7, 3) := by decide +kernel
theorem dX7_leaves_70 : decode cX7_leaves 70 = .ok (.bipush 26, 2) := by decide +kernel
theorem dX7_leaves_72 : decode cX7_leaves 72 = .ok (.aload_n 0, 1) := by decide +kernel
theorem dX7_leaves_73 : decode cX7_leaves 73 = .ok (.iload_n 1, 1) := by decide +kernel
theorem dX7_leaves_74 : decode cX7_leaves 74 = .ok (.iconst 4, 1) := by decide +kernel
theorem dX7_leaves_75 : decode cX7_leaves 75 = .ok (.invokevirtual 32, 3) := by decide +kernel
theorem dX7_leaves_78 : decode cX7_leaves 78 = .ok (.iastore, 1) := by decide +kernel
theorem dX7_leaves_79 : decode cX7_leaves 79 = .ok (.aload_n 0, 1) := by decide +kernel
theorem dX7_leaves_80 : decode cX7_leaves 80 = .ok (.getfield 7, 3) := by decide +kernel
theorem dX7_leaves_83 : decode cX7_leaves 83 = .ok (.bipush 27, 2) := by decide +kernel
theorem dX7_leaves_85 : decode cX7_leaves 85 = .ok (.iload_n 3, 1) := by decide +kernel
theorem dX7_leaves_86 : decode cX7_leaves 86 = .ok (.iastore, 1) := by decide +kernel
theorem dX7_leaves_87 : decode cX7_leaves 87 = .ok (.aload_n 0, 1) := by decide +kernel
theorem dX7_leaves_88 : decode cX7_leaves 88 = .ok (.getfield 7, 3) := by decide +kernel
theorem dX7_leaves_91 : decode cX7_leaves 91 = .ok (.bipush 28, 2) := by decide +kernel
theorem dX7_leaves_93 : decode cX7_leaves 93 = .ok (.aload_n 0, 1) := by decide +kernel
theorem dX7_leaves_94 : decode cX7_leaves 94 = .ok (.iload_n 1, 1) := by decide +kernel
theorem dX7_leaves_95 : decode cX7_leaves 95 = .ok (.iconst 3, 1) := by decide +kernel
theorem dX7_leaves_96 : decode cX7_leaves 96 = .ok (.invokevirtual 32, 3) := by decide +kernel
theorem dX7_leaves_99 : decode cX7_leaves 99 = .ok (.iastore, 1) := by decide +kernel
theorem dX7_leaves_100 : decode cX7_leaves 100 = .ok (.aload_n 0, 1) := by decide +kernel
theorem dX7_leaves_101 : decode cX7_leaves 101 = .ok (.getfield 7, 3) := by decide +kernel
theorem dX7_leaves_104 : decode cX7_leaves 104 = .ok (.bipush 11, 2) := by decide +kernel
theorem dX7_leaves_106 : decode cX7_leaves 106 = .ok (.dup2, 1) := by decide +kernel
theorem dX7_leaves_107 : decode cX7_leaves 107 = .ok (.iaload, 1) := by decide +kernel
theorem dX7_leaves_108 : decode cX7_leaves 108 = .ok (.aload_n 0, 1) := by decide +kernel
theorem dX7_leaves_109 : decode cX7_leaves 109 = .ok (.getfield 7, 3) := by decide +kernel
theorem dX7_leaves_112 : decode cX7_leaves 112 = .ok (.bipush 11, 2) := by decide +kernel
theorem dX7_leaves_114 : decode cX7_leaves 114 = .ok (.iaload, 1) := by decide +kernel
theorem dX7_leaves_115 : decode cX7_leaves 115 = .ok (.bipush 16, 2) := by decide +kernel
theorem dX7_leaves_117 : decode cX7_leaves 117 = .ok (.if_icmp .ge 7, 3) := by decide +kernel
theorem dX7_leaves_120 : decode cX7_leaves 120 = .ok (.iconst 1, 1) := by decide +kernel
theorem dX7_leaves_121 : decode cX7_leaves 121 = .ok (.goto 4, 3) := by decide +kernel
theorem dX7_leaves_124 : decode cX7_leaves 124 = .ok (.iconst 0, 1) := by decide +kernel
theorem dX7_leaves_125 : decode cX7_leaves 125 = .ok (.iadd, 1) := by decide +kernel
theorem dX7_leaves_126 : decode cX7_leaves 126 = .ok (.iastore, 1) := by decide +kernel
theorem dX7_leaves_127 : decode cX7_leaves 127 = .ok (.aload_n 0, 1) := by decide +kernel
theorem dX7_leaves_128 : decode cX7_leaves 128 = .ok (.getfield 7, 3) := by decide +kernel
theorem dX7_leaves_131 : decode cX7_leaves 131 = .ok (.iconst 3, 1) := by decide +kernel
theorem dX7_leaves_132 : decode cX7_leaves 132 = .ok (.iload_n 2, 1) := by decide +kernel
theorem dX7_leaves_133 : decode cX7_leaves 133 = .ok (.iadd, 1) := by decide +kernel
theorem dX7_leaves_134 : decode cX7_leaves 134 = .ok (.dup2, 1) := by decide +kernel
theorem dX7_leaves_135 : decode cX7_leaves 135 = .ok (.iaload, 1) := by decide +kernel
theorem dX7_leaves_136 : decode cX7_leaves 136 = .ok (.iconst 1, 1) := by decide +kernel
theorem dX7_leaves_137 : decode cX7_leaves 137 = .ok (.iadd, 1) := by decide +kernel
theorem dX7_leaves_138 : decode cX7_leaves 138 = .ok (.iastore, 1) := by decide +kernel
theorem dX7_leaves_139 : decode cX7_leaves 139 = .ok (.aload_n 0, 1) := by decide +kernel
theorem dX7_leaves_140 : decode cX7_leaves 140 = .ok (.getfield 7, 3) := by decide +kernel
theorem dX7_leaves_143 : decode cX7_leaves 143 = .ok (.bipush 7, 2) := by decide +kernel
theorem dX7_leaves_145 : decode cX7_leaves 145 = .ok (.dup2, 1) := by decide +kernel
theorem dX7_leaves_146 : decode cX7_leaves 146 = .ok (.iaload, 1) := by decide +kernel
theorem dX7_leaves_147 : decode cX7_leaves 147 = .ok (.iload_n 3, 1) := by decide +kernel
theorem dX7_leaves_148 : decode cX7_leaves 148 = .ok (.iadd, 1) := by decide +kernel
theorem dX7_leaves_149 : decode cX7_leaves 149 = .ok (.iastore, 1) := by decide +kernel
theorem dX7_leaves_150 : decode cX7_leaves 150 = .ok (.aload_n 0, 1) := by decide +kernel
theorem dX7_leaves_151 : decode cX7_leaves 151 = .ok (.getfield 7, 3) := by decide +kernel
theorem dX7_leaves_154 : decode cX7_leaves 154 = .ok (.bipush 6, 2) := by decide +kernel
theorem dX7_leaves_156 : decode cX7_leaves 156 = .ok (.dup2, 1) := by decide +kernel
theorem dX7_leaves_157 : decode cX7_leaves 157 = .ok (.iaload, 1) := by decide +kernel
theorem dX7_leaves_158 : decode cX7_leaves 158 = .ok (.aload_n 0, 1) := by decide +kernel
theorem dX7_leaves_159 : decode cX7_leaves 159 = .ok (.iload_n 1, 1) := by decide +kernel
theorem dX7_leaves_160 : decode cX7_leaves 160 = .ok (.bipush 7, 2) := by decide +kernel
theorem dX7_leaves_162 : decode cX7_leaves 162 = .ok (.invokevirtual 32, 3) := by decide +kernel
theorem dX7_leaves_165 : decode cX7_leaves 165 = .ok (.iload_n 3, 1) := by decide +kernel
theorem dX7_leaves_166 : decode cX7_leaves 166 = .ok (.isub, 1) := by decide +kernel
theorem dX7_leaves_167 : decode cX7_leaves 167 = .ok (.iadd, 1) := by decide +kernel
theorem dX7_leaves_168 : decode cX7_leaves 168 = .ok (.iastore, 1) := by decide +kernel
theorem dX7_leaves_169 : decode cX7_leaves 169 = .ok (.aload_n 0, 1) := by decide +kernel
theorem dX7_leaves_170 : decode cX7_leaves 170 = .ok (.getfield 7, 3) := by decide +kernel
theorem dX7_leaves_173 : decode cX7_leaves 173 = .ok (.bipush 16, 2) := by decide +kernel
theorem dX7_leaves_175 : decode cX7_leaves 175 = .ok (.aload_n 0, 1) := by decide +kernel
theorem dX7_leaves_176 : decode cX7_leaves 176 = .ok (.iload_n 1, 1) := by decide +kernel
theorem dX7_leaves_177 : decode cX7_leaves 177 = .ok (.iconst 1, 1) := by decide +kernel
theorem dX7_leaves_178 : decode cX7_leaves 178 = .ok (.invokevirtual 32, 3) := by decide +kernel
theorem dX7_leaves_181 : decode cX7_leaves 181 = .ok (.iadd, 1) := by decide +kernel
theorem dX7_leaves_182 : decode cX7_leaves 182 = .ok (.dup2, 1) := by decide +kernel
theorem dX7_leaves_183 : decode cX7_leaves 183 = .ok (.iaload, 1) := by decide +kernel
theorem dX7_leaves_184 : decode cX7_leaves 184 = .ok (.iload_n 3, 1) := by decide +kernel
theorem dX7_leaves_185 : decode cX7_leaves 185 = .ok (.iadd, 1) := by decide +kernel
theorem dX7_leaves_186 : decode cX7_leaves 186 = .ok (.iastore, 1) := by decide +kernel
theorem dX7_leaves_187 : decode cX7_leaves 187 = .ok (.aload_n 0, 1) := by decide +kernel
theorem dX7_leaves_188 : decode cX7_leaves 188 = .ok (.getfield 7, 3) := by decide +kernel
theorem dX7_leaves_191 : decode cX7_leaves 191 = .ok (.bipush 10, 2) := by decide +kernel
theorem dX7_leaves_193 : decode cX7_leaves 193 = .ok (.dup2, 1) := by decide +kernel
theorem dX7_leaves_194 : decode cX7_leaves 194 = .ok (.iaload, 1) := by decide +kernel
theorem dX7_leaves_195 : decode cX7_leaves 195 = .ok (.iload_n 2, 1) := by decide +kernel
theorem dX7_leaves_196 : decode cX7_leaves 196 = .ok (.ifCond .ne 12, 3) := by decide +kernel
theorem dX7_leaves_199 : decode cX7_leaves 199 = .ok (.aload_n 0, 1) := by decide +kernel
theorem dX7_leaves_200 : decode cX7_leaves 200 = .ok (.iload_n 1, 1) := by decide +kernel
theorem dX7_leaves_201 : decode cX7_leaves 201 = .ok (.iconst 4, 1) := by decide +kernel
theorem dX7_leaves_202 : decode cX7_leaves 202 = .ok (.invokevirtual 32, 3) := by decide +kernel
theorem dX7_leaves_205 : decode cX7_leaves 205 = .ok (.goto 4, 3) := by decide +kernel
theorem dX7_leaves_208 : decode cX7_leaves 208 = .ok (.iconst 0, 1) := by decide +kernel
theorem dX7_leaves_209 : decode cX7_leaves 209 = .ok (.iadd, 1) := by decide +kernel
theorem dX7_leaves_210 : decode cX7_leaves 210 = .ok (.iastore, 1) := by decide +kernel
theorem dX7_leaves_211 : decode cX7_leaves 211 = .ok (.aload_n 0, 1) := by decide +kernel
theorem dX7_leaves_212 : decode cX7_leaves 212 = .ok (.getfield 7, 3) := by decide +kernel
theorem dX7_leaves_215 : decode cX7_leaves 215 = .ok (.iconst 1, 1) := by decide +kernel
theorem dX7_leaves_216 : decode cX7_leaves 216 = .ok (.dup2, 1) := by decide +kernel
theorem dX7_leaves_217 : decode cX7_leaves 217 = .ok (.iaload, 1) := by decide +kernel
theorem dX7_leaves_218 : decode cX7_leaves 218 = .ok (.iconst 1, 1) := by decide +kernel
theorem dX7_leaves_219 : decode cX7_leaves 219 = .ok (.isub, 1) := by decide +kernel
theorem dX7_leaves_220 : decode cX7_leaves 220 = .ok (.iastore, 1) := by decide +kernel
theorem dX7_leaves_221 : decode cX7_leaves 221 = .ok (.bipush 104, 2) := by decide +kernel
theorem dX7_leaves_223 : decode cX7_leaves 223 = .ok (.bipush 8, 2) := by decide +kernel
theorem dX7_leaves_225 : decode cX7_leaves 225 = .ok (.iload_n 1, 1) := by decide +kernel
theorem dX7_leaves_226 : decode cX7_leaves 226 = .ok (.imul, 1) := by decide +kernel
theorem dX7_leaves_227 : decode cX7_leaves 227 = .ok (.iadd, 1) := by decide +kernel
theorem dX7_leaves_228 : decode cX7_leaves 228 = .ok (.istore 4, 2) := by decide +kernel
theorem dX7_leaves_230 : decode cX7_leaves 230 = .ok (.iload 4, 2) := by decide +kernel
theorem dX7_leaves_232 : decode cX7_leaves 232 = .ok (.bipush 104, 2) := by decide +kernel
theorem dX7_leaves_234 : decode cX7_leaves 234 = .ok (.bipush 8, 2) := by decide +kernel
theorem dX7_leaves_236 : decode cX7_leaves 236 = .ok (.aload_n 0, 1) := by decide +kernel
theorem dX7_leaves_237 : decode cX7_leaves 237 = .ok (.getfield 7, 3) := by decide +kernel
theorem dX7_leaves_240 : decode cX7_leaves 240 = .ok (.iconst 1, 1) := by decide +kernel
theorem dX7_leaves_241 : decode cX7_leaves 241 = .ok (.iaload, 1) := by decide +kernel
theorem dX7_leaves_242 : decode cX7_leaves 242 = .ok (.imul, 1) := by decide +kernel
theorem dX7_leaves_243 : decode cX7_leaves 243 = .ok (.iadd, 1) := by decide +kernel
theorem dX7_leaves_244 : decode cX7_leaves 244 = .ok (.if_icmp .ge 26, 3) := by decide +kernel
theorem dX7_leaves_247 : decode cX7_leaves 247 = .ok (.aload_n 0, 1) := by decide +kernel
theorem dX7_leaves_248 : decode cX7_leaves 248 = .ok (.getfield 7, 3) := by decide +kernel
theorem dX7_leaves_251 : decode cX7_leaves 251 = .ok (.iload 4, 2) := by decide +kernel
theorem dX7_leaves_253 : decode cX7_leaves 253 = .ok (.aload_n 0, 1) := by decide +kernel
theorem dX7_leaves_254 : decode cX7_leaves 254 = .ok (.getfield 7, 3) := by decide +kernel
theorem dX7_leaves_257 : decode cX7_leaves 257 = .ok (.iload 4, 2) := by decide +kernel
theorem dX7_leaves_259 : decode cX7_leaves 259 = .ok (.bipush 8, 2) := by decide +kernel
theorem dX7_leaves_261 : decode cX7_leaves 261 = .ok (.iadd, 1) := by decide +kernel
theorem dX7_leaves_262 : decode cX7_leaves 262 = .ok (.iaload, 1) := by decide +kernel
theorem dX7_leaves_263 : decode cX7_leaves 263 = .ok (.iastore, 1) := by decide +kernel
theorem dX7_leaves_264 : decode cX7_leaves 264 = .ok (.iinc 4 1, 3) := by decide +kernel
theorem dX7_leaves_267 : decode cX7_leaves 267 = .ok (.goto (-37), 3) := by decide +kernel
theorem dX7_leaves_270 : decode cX7_leaves 270 = .ok (.iload_n 3, 1) := by decide +kernel
theorem dX7_leaves_271 : decode cX7_leaves 271 = .ok (.ireturn, 1) := by decide +kernel
theorem dX7_servesFirst_0 : decode cX7_servesFirst 0 = .ok (.aload_n 0, 1) := by decide +kernel
theorem dX7_servesFirst_1 : decode cX7_servesFirst 1 = .ok (.iconst 0, 1) := by decide +kernel
theorem dX7_servesFirst_2 : decode cX7_servesFirst 2 = .ok (.invokevirtual 57, 3) := by decide +kernel
theorem dX7_servesFirst_5 : decode cX7_servesFirst 5 = .ok (.istore_n 1, 1) := by decide +kernel
theorem dX7_servesFirst_6 : decode cX7_servesFirst 6 = .ok (.aload_n 0, 1) := by decide +kernel
theorem dX7_servesFirst_7 : decode cX7_servesFirst 7 = .ok (.iload_n 1, 1) := by decide +kernel
theorem dX7_servesFirst_8 : decode cX7_servesFirst 8 = .ok (.iconst 0, 1) := by decide +kernel
theorem dX7_servesFirst_9 : decode cX7_servesFirst 9 = .ok (.invokevirtual 32, 3) := by decide +kernel
theorem dX7_servesFirst_12 : decode cX7_servesFirst 12 = .ok (.istore_n 2, 1) := by decide +kernel
theorem dX7_servesFirst_13 : decode cX7_servesFirst 13 = .ok (.aload_n 0, 1) := by decide +kernel
theorem dX7_servesFirst_14 : decode cX7_servesFirst 14 = .ok (.iload_n 1, 1) := by decide +kernel
theorem dX7_servesFirst_15 : decode cX7_servesFirst 15 = .ok (.iconst 0, 1) := by decide +kernel
theorem dX7_servesFirst_16 : decode cX7_servesFirst 16 = .ok (.invokevirtual 60, 3) := by decide +kernel
theorem dX7_servesFirst_19 : decode cX7_servesFirst 19 = .ok (.ifCond .ge 7, 3) := by decide +kernel
theorem dX7_servesFirst_22 : decode cX7_servesFirst 22 = .ok (.iconst (-1), 1) := by decide +kernel
theorem dX7_servesFirst_23 : decode cX7_servesFirst 23 = .ok (.goto 4, 3) := by decide +kernel
theorem dX7_servesFirst_26 : decode cX7_servesFirst 26 = .ok (.iload_n 2, 1) := by decide +kernel
theorem dX7_servesFirst_27 : decode cX7_servesFirst 27 = .ok (.ireturn, 1) := by decide +kernel
theorem dX7_tick_0 : decode cX7_tick 0 = .ok (.iconst 0, 1) := by decide +kernel
theorem dX7_tick_1 : decode cX7_tick 1 = .ok (.istore_n 1, 1) := by decide +kernel
theorem dX7_tick_2 : decode cX7_tick 2 = .ok (.iconst 0, 1) := by decide +kernel
theorem dX7_tick_3 : decode cX7_tick 3 = .ok (.istore_n 2, 1) := by decide +kernel
theorem dX7_tick_4 : decode cX7_tick 4 = .ok (.iload_n 2, 1) := by decide +kernel
theorem dX7_tick_5 : decode cX7_tick 5 = .ok (.aload_n 0, 1) := by decide +kernel
theorem dX7_tick_6 : decode cX7_tick 6 = .ok (.getfield 7, 3) := by decide +kernel
theorem dX7_tick_9 : decode cX7_tick 9 = .ok (.iconst 1, 1) := by decide +kernel
theorem dX7_tick_10 : decode cX7_tick 10 = .ok (.iaload, 1) := by decide +kernel
theorem dX7_tick_11 : decode cX7_tick 11 = .ok (.if_icmp .ge 127, 3) := by decide +kernel
theorem dX7_tick_14 : decode cX7_tick 14 = .ok (.aload_n 0, 1) := by decide +kernel
theorem dX7_tick_15 : decode cX7_tick 15 = .ok (.iload_n 2, 1) := by decide +kernel
theorem dX7_tick_16 : decode cX7_tick 16 = .ok (.iconst 4, 1) := by decide +kernel
theorem dX7_tick_17 : decode cX7_tick 17 = .ok (.aload_n 0, 1) := by decide +kernel
theorem dX7_tick_18 : decode cX7_tick 18 = .ok (.iload_n 2, 1) := by decide +kernel
theorem dX7_tick_19 : decode cX7_tick 19 = .ok (.iconst 4, 1) := by decide +kernel
theorem dX7_tick_20 : decode cX7_tick 20 = .ok (.invokevirtual 32, 3) := by decide +kernel
theorem dX7_tick_23 : decode cX7_tick 23 = .ok (.iconst 1, 1) := by decide +kernel
theorem dX7_tick_24 : decode cX7_tick 24 = .ok (.iadd, 1) := by decide +kernel
theorem dX7_tick_25 : decode cX7_tick 25 = .ok (.invokevirtual 47, 3) := by decide +kernel
theorem dX7_tick_28 : decode cX7_tick 28 = .ok (.aload_n 0, 1) := by decide +kernel
theorem dX7_tick_29 : decode cX7_tick 29 = .ok (.iload_n 2, 1) := by decide +kernel
theorem dX7_tick_30 : decode cX7_tick 30 = .ok (.iconst 5, 1) := by decide +kernel
theorem dX7_tick_31 : decode cX7_tick 31 = .ok (.aload_n 0, 1) := by decide +kernel
theorem dX7_tick_32 : decode cX7_tick 32 = .ok (.iload_n 2, 1) := by decide +kernel
theorem dX7_tick_33 : decode cX7_tick 33 = .ok (.iconst 5, 1) := by decide +kernel
theorem dX7_tick_34 : decode cX7_tick 34 = .ok (.invokevirtual 32, 3) := by decide +kernel
theorem dX7_tick_37 : decode cX7_tick 37 = .ok (.iconst 1, 1) := by decide +kernel
theorem dX7_tick_38 : decode cX7_tick 38 = .ok (.iadd, 1) := by decide +kernel
theorem dX7_tick_39 : decode cX7_tick 39 = .ok (.invokevirtual 47, 3) := by decide +kernel
theorem dX7_tick_42 : decode cX7_tick 42 = .ok (.aload_n 0, 1) := by decide +kernel
theorem dX7_tick_43 : decode cX7_tick 43 = .ok (.iload_n 2, 1) := by decide +kernel
theorem dX7_tick_44 : decode cX7_tick 44 = .ok (.iconst 4, 1) := by decide +kernel
theorem dX7_tick_45 : decode cX7_tick 45 = .ok (.invokevirtual 32, 3) := by decide +kernel
theorem dX7_tick_48 : decode cX7_tick 48 = .ok (.aload_n 0, 1) := by decide +kernel
theorem dX7_tick_49 : decode cX7_tick 49 = .ok (.iload_n 2, 1) := by decide +kernel
theorem dX7_tick_50 : decode cX7_tick 50 = .ok (.bipush 6, 2) := by decide +kernel
theorem dX7_tick_52 : decode cX7_tick 52 = .ok (.invokevirtual 32, 3) := by decide +kernel
theorem dX7_tick_55 : decode cX7_tick 55 = .ok (.if_icmp .lt 23, 3) := by decide +kernel
theorem dX7_tick_58 : decode cX7_tick 58 = .ok (.iload_n 1, 1) := by decide +kernel
theorem dX7_tick_59 : decode cX7_tick 59 = .ok (.aload_n 0, 1) := by decide +kernel
theorem dX7_tick_60 : decode cX7_tick 60 = .ok (.iload_n 2, 1) := by decide +kernel
theorem dX7_tick_61 : decode cX7_tick 61 = .ok (.iconst 1, 1) := by decide +kernel
theorem dX7_tick_62 : decode cX7_tick 62 = .ok (.invokevirtual 60, 3) := by decide +kernel
theorem dX7_tick_65 : decode cX7_tick 65 = .ok (.ifCond .ge 7, 3) := by decide +kernel
theorem dX7_tick_68 : decode cX7_tick 68 = .ok (.iconst 0, 1) := by decide +kernel
theorem dX7_tick_69 : decode cX7_tick 69 = .ok (.goto 4, 3) := by decide +kernel
theorem dX7_tick_72 : decode cX7_tick 72 = .ok (.iconst 1, 1) := by decide +kernel
theorem dX7_tick_73 : decode cX7_tick 73 = .ok (.iadd, 1) := by decide +kernel
theorem dX7_tick_74 : decode cX7_tick 74 = .ok (.istore_n 1, 1) := by decide +kernel
theorem dX7_tick_75 : decode cX7_tick 75 = .ok (.goto (-71), 3) := by decide +kernel
theorem dX7_tick_78 : decode cX7_tick 78 = .ok (.aload_n 0, 1) := by decide +kernel
theorem dX7_tick_79 : decode cX7_tick 79 = .ok (.iload_n 2, 1) := by decide +kernel
theorem dX7_tick_80 : decode cX7_tick 80 = .ok (.iconst 3, 1) := by decide +kernel
theorem dX7_tick_81 : decode cX7_tick 81 = .ok (.invokevirtual 32, 3) := by decide +kernel
theorem dX7_tick_84 : decode cX7_tick 84 = .ok (.iconst 4, 1) := by decide +kernel
theorem dX7_tick_85 : decode cX7_tick 85 = .ok (.if_icmp .ge 47, 3) := by decide +kernel
theorem dX7_tick_88 : decode cX7_tick 88 = .ok (.aload_n 0, 1) := by decide +kernel
theorem dX7_tick_89 : decode cX7_tick 89 = .ok (.iload_n 2, 1) := by decide +kernel
theorem dX7_tick_90 : decode cX7_tick 90 = .ok (.iconst 5, 1) := by decide +kernel
theorem dX7_tick_91 : decode cX7_tick 91 = .ok (.invokevirtual 32, 3) := by decide +kernel
theorem dX7_tick_94 : decode cX7_tick 94 = .ok (.aload_n 0, 1) := by decide +kernel
theorem dX7_tick_95 : decode cX7_tick 95 = .ok (.getfield 7, 3) := by decide +kernel
theorem dX7_tick_98 : decode cX7_tick 98 = .ok (.bipush 12, 2) := by decide +kernel
theorem dX7_tick_100 : decode cX7_tick 100 = .ok (.aload_n 0, 1) := by decide +kernel
theorem dX7_tick_101 : decode cX7_tick 101 = .ok (.iload_n 2, 1) := by decide +kernel
theorem dX7_tick_102 : decode cX7_tick 102 = .ok (.iconst 3, 1) := by decide +kernel
theorem dX7_tick_103 : decode cX7_tick 103 = .ok (.invokevirtual 32, 3) := by decide +kernel
theorem dX7_tick_106 : decode cX7_tick 106 = .ok (.iadd, 1) := by decide +kernel
theorem dX7_tick_107 : decode cX7_tick 107 = .ok (.iaload, 1) := by decide +kernel
theorem dX7_tick_108 : decode cX7_tick 108 = .ok (.if_icmp .lt 24, 3) := by decide +kernel
theorem dX7_tick_111 : decode cX7_tick 111 = .ok (.aload_n 0, 1) := by decide +kernel
theorem dX7_tick_112 : decode cX7_tick 112 = .ok (.iload_n 2, 1) := by decide +kernel
theorem dX7_tick_113 : decode cX7_tick 113 = .ok (.iconst 3, 1) := by decide +kernel
theorem dX7_tick_114 : decode cX7_tick 114 = .ok (.aload_n 0, 1) := by decide +kernel
theorem dX7_tick_115 : decode cX7_tick 115 = .ok (.iload_n 2, 1) := by decide +kernel
theorem dX7_tick_116 : decode cX7_tick 116 = .ok (.iconst 3, 1) := by decide +kernel
theorem dX7_tick_117 : decode cX7_tick 117 = .ok (.invokevirtual 32, 3) := by decide +kernel
theorem dX7_tick_120 : decode cX7_tick 120 = .ok (.iconst 1, 1) := by decide +kernel
theorem dX7_tick_121 : decode cX7_tick 121 = .ok (.iadd, 1) := by decide +kernel
theorem dX7_tick_122 : decode cX7_tick 122 = .ok (.invokevirtual 47, 3) := by decide +kernel
theorem dX7_tick_125 : decode cX7_tick 125 = .ok (.aload_n 0, 1) := by decide +kernel
theorem dX7_tick_126 : decode cX7_tick 126 = .ok (.iload_n 2, 1) := by decide +kernel
theorem dX7_tick_127 : decode cX7_tick 127 = .ok (.iconst 5, 1) := by decide +kernel
theorem dX7_tick_128 : decode cX7_tick 128 = .ok (.iconst 0, 1) := by decide +kernel
theorem dX7_tick_129 : decode cX7_tick 129 = .ok (.invokevirtual 47, 3) := by decide +kernel
theorem dX7_tick_132 : decode cX7_tick 132 = .ok (.iinc 2 1, 3) := by decide +kernel
theorem dX7_tick_135 : decode cX7_tick 135 = .ok (.goto (-131), 3) := by decide +kernel
theorem dX7_tick_138 : decode cX7_tick 138 = .ok (.aload_n 0, 1) := by decide +kernel
theorem dX7_tick_139 : decode cX7_tick 139 = .ok (.getfield 7, 3) := by decide +kernel
theorem dX7_tick_142 : decode cX7_tick 142 = .ok (.iconst 0, 1) := by decide +kernel
theorem dX7_tick_143 : decode cX7_tick 143 = .ok (.dup2, 1) := by decide +kernel
theorem dX7_tick_144 : decode cX7_tick 144 = .ok (.iaload, 1) := by decide +kernel
theorem dX7_tick_145 : decode cX7_tick 145 = .ok (.iconst 1, 1) := by decide +kernel
theorem dX7_tick_146 : decode cX7_tick 146 = .ok (.iadd, 1) := by decide +kernel
theorem dX7_tick_147 : decode cX7_tick 147 = .ok (.iastore, 1) := by decide +kernel
theorem dX7_tick_148 : decode cX7_tick 148 = .ok (.iload_n 1, 1) := by decide +kernel
theorem dX7_tick_149 : decode cX7_tick 149 = .ok (.ireturn, 1) := by decide +kernel
theorem dX7_ticks_0 : decode cX7_ticks 0 = .ok (.iconst 0, 1) := by decide +kernel
theorem dX7_ticks_1 : decode cX7_ticks 1 = .ok (.istore_n 2, 1) := by decide +kernel
theorem dX7_ticks_2 : decode cX7_ticks 2 = .ok (.iconst 0, 1) := by decide +kernel
theorem dX7_ticks_3 : decode cX7_ticks 3 = .ok (.istore_n 3, 1) := by decide +kernel
theorem dX7_ticks_4 : decode cX7_ticks 4 = .ok (.iload_n 3, 1) := by decide +kernel
theorem dX7_ticks_5 : decode cX7_ticks 5 = .ok (.iload_n 1, 1) := by decide +kernel
theorem dX7_ticks_6 : decode cX7_ticks 6 = .ok (.if_icmp .ge 16, 3) := by decide +kernel
theorem dX7_ticks_9 : decode cX7_ticks 9 = .ok (.iload_n 2, 1) := by decide +kernel
theorem dX7_ticks_10 : decode cX7_ticks 10 = .ok (.aload_n 0, 1) := by decide +kernel
theorem dX7_ticks_11 : decode cX7_ticks 11 = .ok (.invokevirtual 63, 3) := by decide +kernel
theorem dX7_ticks_14 : decode cX7_ticks 14 = .ok (.iadd, 1) := by decide +kernel
theorem dX7_ticks_15 : decode cX7_ticks 15 = .ok (.istore_n 2, 1) := by decide +kernel
theorem dX7_ticks_16 : decode cX7_ticks 16 = .ok (.iinc 3 1, 3) := by decide +kernel
theorem dX7_ticks_19 : decode cX7_ticks 19 = .ok (.goto (-15), 3) := by decide +kernel
theorem dX7_ticks_22 : decode cX7_ticks 22 = .ok (.iload_n 2, 1) := by decide +kernel
theorem dX7_ticks_23 : decode cX7_ticks 23 = .ok (.ireturn, 1) := by decide +kernel
theorem dX7_sets_0 : decode cX7_sets 0 = .ok (.aload_n 0, 1) := by decide +kernel
theorem dX7_sets_1 : decode cX7_sets 1 = .ok (.invokevirtual 67, 3) := by decide +kernel
theorem dX7_sets_4 : decode cX7_sets 4 = .ok (.aload_n 0, 1) := by decide +kernel
theorem dX7_sets_5 : decode cX7_sets 5 = .ok (.getfield 7, 3) := by decide +kernel
theorem dX7_sets_8 : decode cX7_sets 8 = .ok (.iload_n 1, 1) := by decide +kernel
theorem dX7_sets_9 : decode cX7_sets 9 = .ok (.iaload, 1) := by decide +kernel
theorem dX7_sets_10 : decode cX7_sets 10 = .ok (.istore_n 3, 1) := by decide +kernel
theorem dX7_sets_11 : decode cX7_sets 11 = .ok (.aload_n 0, 1) := by decide +kernel
theorem dX7_sets_12 : decode cX7_sets 12 = .ok (.getfield 7, 3) := by decide +kernel
theorem dX7_sets_15 : decode cX7_sets 15 = .ok (.iload_n 1, 1) := by decide +kernel
theorem dX7_sets_16 : decode cX7_sets 16 = .ok (.iload_n 2, 1) := by decide +kernel
theorem dX7_sets_17 : decode cX7_sets 17 = .ok (.iastore, 1) := by decide +kernel
theorem dX7_sets_18 : decode cX7_sets 18 = .ok (.aload_n 0, 1) := by decide +kernel
theorem dX7_sets_19 : decode cX7_sets 19 = .ok (.iload_n 3, 1) := by decide +kernel
theorem dX7_sets_20 : decode cX7_sets 20 = .ok (.invokevirtual 70, 3) := by decide +kernel
theorem dX7_sets_23 : decode cX7_sets 23 = .ok (.ireturn, 1) := by decide +kernel
theorem dX7_setPatience_0 : decode cX7_setPatience 0 = .ok (.iload_n 1, 1) := by decide +kernel
theorem dX7_setPatience_1 : decode cX7_setPatience 1 = .ok (.iconst 0, 1) := by decide +kernel
theorem dX7_setPatience_2 : decode cX7_setPatience 2 = .ok (.iconst 3, 1) := by decide +kernel
theorem dX7_setPatience_3 : decode cX7_setPatience 3 = .ok (.invokestatic 73, 3) := by decide +kernel
theorem dX7_setPatience_6 : decode cX7_setPatience 6 = .ok (.ifCond .ne 9, 3) := by decide +kernel
theorem dX7_setPatience_9 : decode cX7_setPatience 9 = .ok (.aload_n 0, 1) := by decide +kernel
theorem dX7_setPatience_10 : decode cX7_setPatience 10 = .ok (.iconst 1, 1) := by decide +kernel
theorem dX7_setPatience_11 : decode cX7_setPatience 11 = .ok (.invokevirtual 77, 3) := by decide +kernel
theorem dX7_setPatience_14 : decode cX7_setPatience 14 = .ok (.ireturn, 1) := by decide +kernel
theorem dX7_setPatience_15 : decode cX7_setPatience 15 = .ok (.iload_n 2, 1) := by decide +kernel
theorem dX7_setPatience_16 : decode cX7_setPatience 16 = .ok (.iconst 1, 1) := by decide +kernel
theorem dX7_setPatience_17 : decode cX7_setPatience 17 = .ok (.bipush 50, 2) := by decide +kernel
theorem dX7_setPatience_19 : decode cX7_setPatience 19 = .ok (.invokestatic 73, 3) := by decide +kernel
theorem dX7_setPatience_22 : decode cX7_setPatience 22 = .ok (.ifCond .eq 15, 3) := by decide +kernel
theorem dX7_setPatience_25 : decode cX7_setPatience 25 = .ok (.aload_n 0, 1) := by decide +kernel
theorem dX7_setPatience_26 : decode cX7_setPatience 26 = .ok (.bipush 12, 2) := by decide +kernel
theorem dX7_setPatience_28 : decode cX7_setPatience 28 = .ok (.iload_n 1, 1) := by decide +kernel
theorem dX7_setPatience_29 : decode cX7_setPatience 29 = .ok (.iadd, 1) := by decide +kernel
theorem dX7_setPatience_30 : decode cX7_setPatience 30 = .ok (.iload_n 2, 1) := by decide +kernel
theorem dX7_setPatience_31 : decode cX7_setPatience 31 = .ok (.invokevirtual 80, 3) := by decide +kernel
theorem dX7_setPatience_34 : decode cX7_setPatience 34 = .ok (.goto 8, 3) := by decide +kernel
theorem dX7_setPatience_37 : decode cX7_setPatience 37 = .ok (.aload_n 0, 1) := by decide +kernel
theorem dX7_setPatience_38 : decode cX7_setPatience 38 = .ok (.iconst 2, 1) := by decide +kernel
theorem dX7_setPatience_39 : decode cX7_setPatience 39 = .ok (.invokevirtual 77, 3) := by decide +kernel
theorem dX7_setPatience_42 : decode cX7_setPatience 42 = .ok (.ireturn, 1) := by decide +kernel
theorem dX7_setQuota_0 : decode cX7_setQuota 0 = .ok (.iload_n 1, 1) := by decide +kernel
theorem dX7_setQuota_1 : decode cX7_setQuota 1 = .ok (.iconst 0, 1) := by decide +kernel
theorem dX7_setQuota_2 : decode cX7_setQuota 2 = .ok (.bipush 10, 2) := by decide +kernel
theorem dX7_setQuota_4 : decode cX7_setQuota 4 = .ok (.invokestatic 73, 3) := by decide +kernel
theorem dX7_setQuota_7 : decode cX7_setQuota 7 = .ok (.ifCond .eq 13, 3) := by decide +kernel
theorem dX7_setQuota_10 : decode cX7_setQuota 10 = .ok (.aload_n 0, 1) := by decide +kernel
theorem dX7_setQuota_11 : decode cX7_setQuota 11 = .ok (.bipush 8, 2) := by decide +kernel
theorem dX7_setQuota_13 : decode cX7_setQuota 13 = .ok (.iload_n 1, 1) := by decide +kernel
theorem dX7_setQuota_14 : decode cX7_setQuota 14 = .ok (.invokevirtual 80, 3) := by decide +kernel
theorem dX7_setQuota_17 : decode cX7_setQuota 17 = .ok (.goto 8, 3) := by decide +kernel
theorem dX7_setQuota_20 : decode cX7_setQuota 20 = .ok (.aload_n 0, 1) := by decide +kernel
theorem dX7_setQuota_21 : decode cX7_setQuota 21 = .ok (.iconst 1, 1) := by decide +kernel
theorem dX7_setQuota_22 : decode cX7_setQuota 22 = .ok (.invokevirtual 77, 3) := by decide +kernel
theorem dX7_setQuota_25 : decode cX7_setQuota 25 = .ok (.ireturn, 1) := by decide +kernel
theorem dX7_setGrace_0 : decode cX7_setGrace 0 = .ok (.iload_n 1, 1) := by decide +kernel
theorem dX7_setGrace_1 : decode cX7_setGrace 1 = .ok (.iconst 0, 1) := by decide +kernel
theorem dX7_setGrace_2 : decode cX7_setGrace 2 = .ok (.sipush 200, 3) := by decide +kernel
theorem dX7_setGrace_5 : decode cX7_setGrace 5 = .ok (.invokestatic 73, 3) := by decide +kernel
theorem dX7_setGrace_8 : decode cX7_setGrace 8 = .ok (.ifCond .eq 13, 3) := by decide +kernel
theorem dX7_setGrace_11 : decode cX7_setGrace 11 = .ok (.aload_n 0, 1) := by decide +kernel
theorem dX7_setGrace_12 : decode cX7_setGrace 12 = .ok (.bipush 9, 2) := by decide +kernel
theorem dX7_setGrace_14 : decode cX7_setGrace 14 = .ok (.iload_n 1, 1) := by decide +kernel
theorem dX7_setGrace_15 : decode cX7_setGrace 15 = .ok (.invokevirtual 80, 3) := by decide +kernel
theorem dX7_setGrace_18 : decode cX7_setGrace 18 = .ok (.goto 8, 3) := by decide +kernel
theorem dX7_setGrace_21 : decode cX7_setGrace 21 = .ok (.aload_n 0, 1) := by decide +kernel
theorem dX7_setGrace_22 : decode cX7_setGrace 22 = .ok (.iconst 1, 1) := by decide +kernel
theorem dX7_setGrace_23 : decode cX7_setGrace 23 = .ok (.invokevirtual 77, 3) := by decide +kernel
theorem dX7_setGrace_26 : decode cX7_setGrace 26 = .ok (.ireturn, 1) := by decide +kernel
theorem dX7_isSender_0 : decode cX7_isSender 0 = .ok (.iload_n 0, 1) := by decide +kernel
theorem dX7_isSender_1 : decode cX7_isSender 1 = .ok (.iconst 0, 1) := by decide +kernel
theorem dX7_isSender_2 : decode cX7_isSender 2 = .ok (.bipush 7, 2) := by decide +kernel
theorem dX7_isSender_4 : decode cX7_isSender 4 = .ok (.invokestatic 73, 3) := by decide +kernel
theorem dX7_isSender_7 : decode cX7_isSender 7 = .ok (.ireturn, 1) := by decide +kernel
theorem dX7_isPetition_0 : decode cX7_isPetition 0 = .ok (.iload_n 0, 1) := by decide +kernel
theorem dX7_isPetition_1 : decode cX7_isPetition 1 = .ok (.invokestatic 83, 3) := by decide +kernel
theorem dX7_isPetition_4 : decode cX7_isPetition 4 = .ok (.ifCond .eq 27, 3) := by decide +kernel
theorem dX7_isPetition_7 : decode cX7_isPetition 7 = .ok (.iload_n 1, 1) := by decide +kernel
theorem dX7_isPetition_8 : decode cX7_isPetition 8 = .ok (.iconst 0, 1) := by decide +kernel
theorem dX7_isPetition_9 : decode cX7_isPetition 9 = .ok (.iconst 4, 1) := by decide +kernel
theorem dX7_isPetition_10 : decode cX7_isPetition 10 = .ok (.invokestatic 73, 3) := by decide +kernel
theorem dX7_isPetition_13 : decode cX7_isPetition 13 = .ok (.ifCond .eq 18, 3) := by decide +kernel
theorem dX7_isPetition_16 : decode cX7_isPetition 16 = .ok (.iload_n 2, 1) := by decide +kernel
theorem dX7_isPetition_17 : decode cX7_isPetition 17 = .ok (.iconst 1, 1) := by decide +kernel
theorem dX7_isPetition_18 : decode cX7_isPetition 18 = .ok (.sipush 200, 3) := by decide +kernel
theorem dX7_isPetition_21 : decode cX7_isPetition 21 = .ok (.invokestatic 73, 3) := by decide +kernel
theorem dX7_isPetition_24 : decode cX7_isPetition 24 = .ok (.ifCond .eq 7, 3) := by decide +kernel
theorem dX7_isPetition_27 : decode cX7_isPetition 27 = .ok (.iconst 1, 1) := by decide +kernel
theorem dX7_isPetition_28 : decode cX7_isPetition 28 = .ok (.goto 4, 3) := by decide +kernel
theorem dX7_isPetition_31 : decode cX7_isPetition 31 = .ok (.iconst 0, 1) := by decide +kernel
theorem dX7_isPetition_32 : decode cX7_isPetition 32 = .ok (.ireturn, 1) := by decide +kernel
theorem dX7_puts_0 : decode cX7_puts 0 = .ok (.aload_n 0, 1) := by decide +kernel
theorem dX7_puts_1 : decode cX7_puts 1 = .ok (.iload_n 1, 1) := by decide +kernel
theorem dX7_puts_2 : decode cX7_puts 2 = .ok (.iload_n 2, 1) := by decide +kernel
theorem dX7_puts_3 : decode cX7_puts 3 = .ok (.invokevirtual 87, 3) := by decide +kernel
theorem dX7_puts_6 : decode cX7_puts 6 = .ok (.ifCond .ne 9, 3) := by decide +kernel
theorem dX7_puts_9 : decode cX7_puts 9 = .ok (.aload_n 0, 1) := by decide +kernel
theorem dX7_puts_10 : decode cX7_puts 10 = .ok (.iconst 2, 1) := by decide +kernel
theorem dX7_puts_11 : decode cX7_puts 11 = .ok (.invokevirtual 77, 3) := by decide +kernel
theorem dX7_puts_14 : decode cX7_puts 14 = .ok (.ireturn, 1) := by decide +kernel
theorem dX7_puts_15 : decode cX7_puts 15 = .ok (.aload_n 0, 1) := by decide +kernel
theorem dX7_puts_16 : decode cX7_puts 16 = .ok (.invokevirtual 67, 3) := by decide +kernel
theorem dX7_puts_19 : decode cX7_puts 19 = .ok (.aload_n 0, 1) := by decide +kernel
theorem dX7_puts_20 : decode cX7_puts 20 = .ok (.aload_n 0, 1) := by decide +kernel
theorem dX7_puts_21 : decode cX7_puts 21 = .ok (.iload_n 1, 1) := by decide +kernel
theorem dX7_puts_22 : decode cX7_puts 22 = .ok (.iload_n 2, 1) := by decide +kernel
theorem dX7_puts_23 : decode cX7_puts 23 = .ok (.iload_n 3, 1) := by decide +kernel
theorem dX7_puts_24 : decode cX7_puts 24 = .ok (.iload 4, 2) := by decide +kernel
theorem dX7_puts_26 : decode cX7_puts 26 = .ok (.iload 5, 2) := by decide +kernel
theorem dX7_puts_28 : decode cX7_puts 28 = .ok (.invokevirtual 90, 3) := by decide +kernel
theorem dX7_puts_31 : decode cX7_puts 31 = .ok (.invokevirtual 70, 3) := by decide +kernel
theorem dX7_puts_34 : decode cX7_puts 34 = .ok (.ireturn, 1) := by decide +kernel
theorem dX7_send_0 : decode cX7_send 0 = .ok (.iload_n 1, 1) := by decide +kernel
theorem dX7_send_1 : decode cX7_send 1 = .ok (.iload_n 2, 1) := by decide +kernel
theorem dX7_send_2 : decode cX7_send 2 = .ok (.iload_n 3, 1) := by decide +kernel
theorem dX7_send_3 : decode cX7_send 3 = .ok (.invokestatic 94, 3) := by decide +kernel
theorem dX7_send_6 : decode cX7_send 6 = .ok (.ifCond .eq 15, 3) := by decide +kernel
theorem dX7_send_9 : decode cX7_send 9 = .ok (.aload_n 0, 1) := by decide +kernel
theorem dX7_send_10 : decode cX7_send 10 = .ok (.iload_n 1, 1) := by decide +kernel
theorem dX7_send_11 : decode cX7_send 11 = .ok (.iconst (-1), 1) := by decide +kernel
theorem dX7_send_12 : decode cX7_send 12 = .ok (.iload_n 2, 1) := by decide +kernel
theorem dX7_send_13 : decode cX7_send 13 = .ok (.iload_n 3, 1) := by decide +kernel
theorem dX7_send_14 : decode cX7_send 14 = .ok (.iconst 0, 1) := by decide +kernel
theorem dX7_send_15 : decode cX7_send 15 = .ok (.invokevirtual 97, 3) := by decide +kernel
theorem dX7_send_18 : decode cX7_send 18 = .ok (.goto 8, 3) := by decide +kernel
theorem dX7_send_21 : decode cX7_send 21 = .ok (.aload_n 0, 1) := by decide +kernel
theorem dX7_send_22 : decode cX7_send 22 = .ok (.iconst 1, 1) := by decide +kernel
theorem dX7_send_23 : decode cX7_send 23 = .ok (.invokevirtual 77, 3) := by decide +kernel
theorem dX7_send_26 : decode cX7_send 26 = .ok (.ireturn, 1) := by decide +kernel
theorem dX7_sendBribed_0 : decode cX7_sendBribed 0 = .ok (.iload_n 1, 1) := by decide +kernel
theorem dX7_sendBribed_1 : decode cX7_sendBribed 1 = .ok (.iload_n 2, 1) := by decide +kernel
theorem dX7_sendBribed_2 : decode cX7_sendBribed 2 = .ok (.iload_n 3, 1) := by decide +kernel
theorem dX7_sendBribed_3 : decode cX7_sendBribed 3 = .ok (.invokestatic 94, 3) := by decide +kernel
theorem dX7_sendBribed_6 : decode cX7_sendBribed 6 = .ok (.ifCond .eq 27, 3) := by decide +kernel
theorem dX7_sendBribed_9 : decode cX7_sendBribed 9 = .ok (.iload 4, 2) := by decide +kernel
theorem dX7_sendBribed_11 : decode cX7_sendBribed 11 = .ok (.iconst 1, 1) := by decide +kernel
theorem dX7_sendBribed_12 : decode cX7_sendBribed 12 = .ok (.bipush 100, 2) := by decide +kernel
theorem dX7_sendBribed_14 : decode cX7_sendBribed 14 = .ok (.invokestatic 73, 3) := by decide +kernel
theorem dX7_sendBribed_17 : decode cX7_sendBribed 17 = .ok (.ifCond .eq 16, 3) := by decide +kernel
theorem dX7_sendBribed_20 : decode cX7_sendBribed 20 = .ok (.aload_n 0, 1) := by decide +kernel
theorem dX7_sendBribed_21 : decode cX7_sendBribed 21 = .ok (.iload_n 1, 1) := by decide +kernel
theorem dX7_sendBribed_22 : decode cX7_sendBribed 22 = .ok (.iconst (-1), 1) := by decide +kernel
theorem dX7_sendBribed_23 : decode cX7_sendBribed 23 = .ok (.iload_n 2, 1) := by decide +kernel
theorem dX7_sendBribed_24 : decode cX7_sendBribed 24 = .ok (.iload_n 3, 1) := by decide +kernel
theorem dX7_sendBribed_25 : decode cX7_sendBribed 25 = .ok (.iload 4, 2) := by decide +kernel
theorem dX7_sendBribed_27 : decode cX7_sendBribed 27 = .ok (.invokevirtual 97, 3) := by decide +kernel
theorem dX7_sendBribed_30 : decode cX7_sendBribed 30 = .ok (.goto 8, 3) := by decide +kernel
theorem dX7_sendBribed_33 : decode cX7_sendBribed 33 = .ok (.aload_n 0, 1) := by decide +kernel
theorem dX7_sendBribed_34 : decode cX7_sendBribed 34 = .ok (.iconst 1, 1) := by decide +kernel
theorem dX7_sendBribed_35 : decode cX7_sendBribed 35 = .ok (.invokevirtual 77, 3) := by decide +kernel
theorem dX7_sendBribed_38 : decode cX7_sendBribed 38 = .ok (.ireturn, 1) := by decide +kernel
theorem dX7_sendJoint_0 : decode cX7_sendJoint 0 = .ok (.iload_n 1, 1) := by decide +kernel
theorem dX7_sendJoint_1 : decode cX7_sendJoint 1 = .ok (.iload_n 3, 1) := by decide +kernel
theorem dX7_sendJoint_2 : decode cX7_sendJoint 2 = .ok (.iload 4, 2) := by decide +kernel
theorem dX7_sendJoint_4 : decode cX7_sendJoint 4 = .ok (.invokestatic 94, 3) := by decide +kernel
theorem dX7_sendJoint_7 : decode cX7_sendJoint 7 = .ok (.ifCond .eq 28, 3) := by decide +kernel
theorem dX7_sendJoint_10 : decode cX7_sendJoint 10 = .ok (.iload_n 2, 1) := by decide +kernel
theorem dX7_sendJoint_11 : decode cX7_sendJoint 11 = .ok (.invokestatic 83, 3) := by decide +kernel
theorem dX7_sendJoint_14 : decode cX7_sendJoint 14 = .ok (.ifCond .eq 21, 3) := by decide +kernel
theorem dX7_sendJoint_17 : decode cX7_sendJoint 17 = .ok (.iload_n 1, 1) := by decide +kernel
theorem dX7_sendJoint_18 : decode cX7_sendJoint 18 = .ok (.iload_n 2, 1) := by decide +kernel
theorem dX7_sendJoint_19 : decode cX7_sendJoint 19 = .ok (.if_icmp .eq 16, 3) := by decide +kernel
theorem dX7_sendJoint_22 : decode cX7_sendJoint 22 = .ok (.aload_n 0, 1) := by decide +kernel
theorem dX7_sendJoint_23 : decode cX7_sendJoint 23 = .ok (.iload_n 1, 1) := by decide +kernel
theorem dX7_sendJoint_24 : decode cX7_sendJoint 24 = .ok (.iload_n 2, 1) := by decide +kernel
theorem dX7_sendJoint_25 : decode cX7_sendJoint 25 = .ok (.iload_n 3, 1) := by decide +kernel
theorem dX7_sendJoint_26 : decode cX7_sendJoint 26 = .ok (.iload 4, 2) := by decide +kernel
theorem dX7_sendJoint_28 : decode cX7_sendJoint 28 = .ok (.iconst 0, 1) := by decide +kernel
theorem dX7_sendJoint_29 : decode cX7_sendJoint 29 = .ok (.invokevirtual 97, 3) := by decide +kernel
theorem dX7_sendJoint_32 : decode cX7_sendJoint 32 = .ok (.goto 8, 3) := by decide +kernel
theorem dX7_sendJoint_35 : decode cX7_sendJoint 35 = .ok (.aload_n 0, 1) := by decide +kernel
theorem dX7_sendJoint_36 : decode cX7_sendJoint 36 = .ok (.iconst 1, 1) := by decide +kernel
theorem dX7_sendJoint_37 : decode cX7_sendJoint 37 = .ok (.invokevirtual 77, 3) := by decide +kernel
theorem dX7_sendJoint_40 : decode cX7_sendJoint 40 = .ok (.ireturn, 1) := by decide +kernel
theorem dX7_withdraw_0 : decode cX7_withdraw 0 = .ok (.aload_n 0, 1) := by decide +kernel
theorem dX7_withdraw_1 : decode cX7_withdraw 1 = .ok (.iload_n 1, 1) := by decide +kernel
theorem dX7_withdraw_2 : decode cX7_withdraw 2 = .ok (.invokevirtual 100, 3) := by decide +kernel
theorem dX7_withdraw_5 : decode cX7_withdraw 5 = .ok (.istore_n 2, 1) := by decide +kernel
theorem dX7_withdraw_6 : decode cX7_withdraw 6 = .ok (.iload_n 2, 1) := by decide +kernel
theorem dX7_withdraw_7 : decode cX7_withdraw 7 = .ok (.iconst (-1), 1) := by decide +kernel
theorem dX7_withdraw_8 : decode cX7_withdraw 8 = .ok (.if_icmp .ne 9, 3) := by decide +kernel
theorem dX7_withdraw_11 : decode cX7_withdraw 11 = .ok (.aload_n 0, 1) := by decide +kernel
theorem dX7_withdraw_12 : decode cX7_withdraw 12 = .ok (.iconst 1, 1) := by decide +kernel
theorem dX7_withdraw_13 : decode cX7_withdraw 13 = .ok (.invokevirtual 77, 3) := by decide +kernel
theorem dX7_withdraw_16 : decode cX7_withdraw 16 = .ok (.ireturn, 1) := by decide +kernel
theorem dX7_withdraw_17 : decode cX7_withdraw 17 = .ok (.aload_n 0, 1) := by decide +kernel
theorem dX7_withdraw_18 : decode cX7_withdraw 18 = .ok (.invokevirtual 67, 3) := by decide +kernel
theorem dX7_withdraw_21 : decode cX7_withdraw 21 = .ok (.aload_n 0, 1) := by decide +kernel
theorem dX7_withdraw_22 : decode cX7_withdraw 22 = .ok (.aload_n 0, 1) := by decide +kernel
theorem dX7_withdraw_23 : decode cX7_withdraw 23 = .ok (.iload_n 2, 1) := by decide +kernel
theorem dX7_withdraw_24 : decode cX7_withdraw 24 = .ok (.iconst 2, 1) := by decide +kernel
theorem dX7_withdraw_25 : decode cX7_withdraw 25 = .ok (.invokevirtual 60, 3) := by decide +kernel
theorem dX7_withdraw_28 : decode cX7_withdraw 28 = .ok (.invokevirtual 70, 3) := by decide +kernel
theorem dX7_withdraw_31 : decode cX7_withdraw 31 = .ok (.ireturn, 1) := by decide +kernel
theorem dX7_serve_0 : decode cX7_serve 0 = .ok (.aload_n 0, 1) := by decide +kernel
theorem dX7_serve_1 : decode cX7_serve 1 = .ok (.getfield 7, 3) := by decide +kernel
theorem dX7_serve_4 : decode cX7_serve 4 = .ok (.iconst 1, 1) := by decide +kernel
theorem dX7_serve_5 : decode cX7_serve 5 = .ok (.iaload, 1) := by decide +kernel
theorem dX7_serve_6 : decode cX7_serve 6 = .ok (.ifCond .ne 9, 3) := by decide +kernel
theorem dX7_serve_9 : decode cX7_serve 9 = .ok (.aload_n 0, 1) := by decide +kernel
theorem dX7_serve_10 : decode cX7_serve 10 = .ok (.iconst 1, 1) := by decide +kernel
theorem dX7_serve_11 : decode cX7_serve 11 = .ok (.invokevirtual 77, 3) := by decide +kernel
theorem dX7_serve_14 : decode cX7_serve 14 = .ok (.ireturn, 1) := by decide +kernel
theorem dX7_serve_15 : decode cX7_serve 15 = .ok (.aload_n 0, 1) := by decide +kernel
theorem dX7_serve_16 : decode cX7_serve 16 = .ok (.invokevirtual 67, 3) := by decide +kernel
theorem dX7_serve_19 : decode cX7_serve 19 = .ok (.aload_n 0, 1) := by decide +kernel
theorem dX7_serve_20 : decode cX7_serve 20 = .ok (.aload_n 0, 1) := by decide +kernel
theorem dX7_serve_21 : decode cX7_serve 21 = .ok (.invokevirtual 103, 3) := by decide +kernel
theorem dX7_serve_24 : decode cX7_serve 24 = .ok (.invokevirtual 70, 3) := by decide +kernel
theorem dX7_serve_27 : decode cX7_serve 27 = .ok (.ireturn, 1) := by decide +kernel
theorem dX7_pass_0 : decode cX7_pass 0 = .ok (.iload_n 1, 1) := by decide +kernel
theorem dX7_pass_1 : decode cX7_pass 1 = .ok (.iconst 1, 1) := by decide +kernel
theorem dX7_pass_2 : decode cX7_pass 2 = .ok (.sipush 200, 3) := by decide +kernel
theorem dX7_pass_5 : decode cX7_pass 5 = .ok (.invokestatic 73, 3) := by decide +kernel
theorem dX7_pass_8 : decode cX7_pass 8 = .ok (.ifCond .ne 9, 3) := by decide +kernel
theorem dX7_pass_11 : decode cX7_pass 11 = .ok (.aload_n 0, 1) := by decide +kernel
theorem dX7_pass_12 : decode cX7_pass 12 = .ok (.iconst 1, 1) := by decide +kernel
theorem dX7_pass_13 : decode cX7_pass 13 = .ok (.invokevirtual 77, 3) := by decide +kernel
theorem dX7_pass_16 : decode cX7_pass 16 = .ok (.ireturn, 1) := by decide +kernel
theorem dX7_pass_17 : decode cX7_pass 17 = .ok (.aload_n 0, 1) := by decide +kernel
theorem dX7_pass_18 : decode cX7_pass 18 = .ok (.getfield 7, 3) := by decide +kernel
theorem dX7_pass_21 : decode cX7_pass 21 = .ok (.iconst 0, 1) := by decide +kernel
theorem dX7_pass_22 : decode cX7_pass 22 = .ok (.iaload, 1) := by decide +kernel
theorem dX7_pass_23 : decode cX7_pass 23 = .ok (.iload_n 1, 1) := by decide +kernel
theorem dX7_pass_24 : decode cX7_pass 24 = .ok (.iadd, 1) := by decide +kernel
theorem dX7_pass_25 : decode cX7_pass 25 = .ok (.ldc 106, 2) := by decide +kernel
theorem dX7_pass_27 : decode cX7_pass 27 = .ok (.if_icmp .le 9, 3) := by decide +kernel
theorem dX7_pass_30 : decode cX7_pass 30 = .ok (.aload_n 0, 1) := by decide +kernel
theorem dX7_pass_31 : decode cX7_pass 31 = .ok (.iconst 2, 1) := by decide +kernel
theorem dX7_pass_32 : decode cX7_pass 32 = .ok (.invokevirtual 77, 3) := by decide +kernel
theorem dX7_pass_35 : decode cX7_pass 35 = .ok (.ireturn, 1) := by decide +kernel
theorem dX7_pass_36 : decode cX7_pass 36 = .ok (.aload_n 0, 1) := by decide +kernel
theorem dX7_pass_37 : decode cX7_pass 37 = .ok (.invokevirtual 67, 3) := by decide +kernel
theorem dX7_pass_40 : decode cX7_pass 40 = .ok (.aload_n 0, 1) := by decide +kernel
theorem dX7_pass_41 : decode cX7_pass 41 = .ok (.aload_n 0, 1) := by decide +kernel
theorem dX7_pass_42 : decode cX7_pass 42 = .ok (.iload_n 1, 1) := by decide +kernel
theorem dX7_pass_43 : decode cX7_pass 43 = .ok (.invokevirtual 107, 3) := by decide +kernel
theorem dX7_pass_46 : decode cX7_pass 46 = .ok (.invokevirtual 70, 3) := by decide +kernel
theorem dX7_pass_49 : decode cX7_pass 49 = .ok (.ireturn, 1) := by decide +kernel
theorem dX7_told_0 : decode cX7_told 0 = .ok (.iload_n 2, 1) := by decide +kernel
theorem dX7_told_1 : decode cX7_told 1 = .ok (.tableswitch 90 6 9 #[82, 31, 46, 52], 31) := by decide +kernel
theorem dX7_told_32 : decode cX7_told 32 = .ok (.aload_n 0, 1) := by decide +kernel
theorem dX7_told_33 : decode cX7_told 33 = .ok (.iload_n 1, 1) := by decide +kernel
theorem dX7_told_34 : decode cX7_told 34 = .ok (.bipush 6, 2) := by decide +kernel
theorem dX7_told_36 : decode cX7_told 36 = .ok (.invokevirtual 32, 3) := by decide +kernel
theorem dX7_told_39 : decode cX7_told 39 = .ok (.aload_n 0, 1) := by decide +kernel
theorem dX7_told_40 : decode cX7_told 40 = .ok (.iload_n 1, 1) := by decide +kernel
theorem dX7_told_41 : decode cX7_told 41 = .ok (.iconst 4, 1) := by decide +kernel
theorem dX7_told_42 : decode cX7_told 42 = .ok (.invokevirtual 32, 3) := by decide +kernel
theorem dX7_told_45 : decode cX7_told 45 = .ok (.isub, 1) := by decide +kernel
theorem dX7_told_46 : decode cX7_told 46 = .ok (.ireturn, 1) := by decide +kernel
theorem dX7_told_47 : decode cX7_told 47 = .ok (.aload_n 0, 1) := by decide +kernel
theorem dX7_told_48 : decode cX7_told 48 = .ok (.iload_n 1, 1) := by decide +kernel
theorem dX7_told_49 : decode cX7_told 49 = .ok (.invokevirtual 40, 3) := by decide +kernel
theorem dX7_told_52 : decode cX7_told 52 = .ok (.ireturn, 1) := by decide +kernel
theorem dX7_told_53 : decode cX7_told 53 = .ok (.aload_n 0, 1) := by decide +kernel
theorem dX7_told_54 : decode cX7_told 54 = .ok (.iload_n 1, 1) := by decide +kernel
theorem dX7_told_55 : decode cX7_told 55 = .ok (.bipush 7, 2) := by decide +kernel
theorem dX7_told_57 : decode cX7_told 57 = .ok (.invokevirtual 32, 3) := by decide +kernel
theorem dX7_told_60 : decode cX7_told 60 = .ok (.ifCond .le 7, 3) := by decide +kernel
theorem dX7_told_63 : decode cX7_told 63 = .ok (.iconst 1, 1) := by decide +kernel
theorem dX7_told_64 : decode cX7_told 64 = .ok (.goto 18, 3) := by decide +kernel
theorem dX7_told_67 : decode cX7_told 67 = .ok (.aload_n 0, 1) := by decide +kernel
theorem dX7_told_68 : decode cX7_told 68 = .ok (.iload_n 1, 1) := by decide +kernel
theorem dX7_told_69 : decode cX7_told 69 = .ok (.iconst 2, 1) := by decide +kernel
theorem dX7_told_70 : decode cX7_told 70 = .ok (.invokevirtual 32, 3) := by decide +kernel
theorem dX7_told_73 : decode cX7_told 73 = .ok (.iconst (-1), 1) := by decide +kernel
theorem dX7_told_74 : decode cX7_told 74 = .ok (.if_icmp .ne 7, 3) := by decide +kernel
theorem dX7_told_77 : decode cX7_told 77 = .ok (.iconst 0, 1) := by decide +kernel
theorem dX7_told_78 : decode cX7_told 78 = .ok (.goto 4, 3) := by decide +kernel
theorem dX7_told_81 : decode cX7_told 81 = .ok (.iconst 2, 1) := by decide +kernel
theorem dX7_told_82 : decode cX7_told 82 = .ok (.ireturn, 1) := by decide +kernel
theorem dX7_told_83 : decode cX7_told 83 = .ok (.aload_n 0, 1) := by decide +kernel
theorem dX7_told_84 : decode cX7_told 84 = .ok (.iload_n 1, 1) := by decide +kernel
theorem dX7_told_85 : decode cX7_told 85 = .ok (.bipush 7, 2) := by decide +kernel
theorem dX7_told_87 : decode cX7_told 87 = .ok (.invokevirtual 32, 3) := by decide +kernel
theorem dX7_told_90 : decode cX7_told 90 = .ok (.ireturn, 1) := by decide +kernel
theorem dX7_told_91 : decode cX7_told 91 = .ok (.aload_n 0, 1) := by decide +kernel
theorem dX7_told_92 : decode cX7_told 92 = .ok (.iload_n 1, 1) := by decide +kernel
theorem dX7_told_93 : decode cX7_told 93 = .ok (.iload_n 2, 1) := by decide +kernel
theorem dX7_told_94 : decode cX7_told 94 = .ok (.iconst 1, 1) := by decide +kernel
theorem dX7_told_95 : decode cX7_told 95 = .ok (.iadd, 1) := by decide +kernel
theorem dX7_told_96 : decode cX7_told 96 = .ok (.invokevirtual 32, 3) := by decide +kernel
theorem dX7_told_99 : decode cX7_told 99 = .ok (.ireturn, 1) := by decide +kernel
theorem dX7_petition_0 : decode cX7_petition 0 = .ok (.aload_n 0, 1) := by decide +kernel
theorem dX7_petition_1 : decode cX7_petition 1 = .ok (.iload_n 1, 1) := by decide +kernel
theorem dX7_petition_2 : decode cX7_petition 2 = .ok (.invokevirtual 100, 3) := by decide +kernel
theorem dX7_petition_5 : decode cX7_petition 5 = .ok (.istore_n 3, 1) := by decide +kernel
theorem dX7_petition_6 : decode cX7_petition 6 = .ok (.iload_n 3, 1) := by decide +kernel
theorem dX7_petition_7 : decode cX7_petition 7 = .ok (.iconst (-1), 1) := by decide +kernel
theorem dX7_petition_8 : decode cX7_petition 8 = .ok (.if_icmp .ne 9, 3) := by decide +kernel
theorem dX7_petition_11 : decode cX7_petition 11 = .ok (.aload_n 0, 1) := by decide +kernel
theorem dX7_petition_12 : decode cX7_petition 12 = .ok (.iconst 1, 1) := by decide +kernel
theorem dX7_petition_13 : decode cX7_petition 13 = .ok (.invokevirtual 77, 3) := by decide +kernel
theorem dX7_petition_16 : decode cX7_petition 16 = .ok (.ireturn, 1) := by decide +kernel
theorem dX7_petition_17 : decode cX7_petition 17 = .ok (.iload_n 2, 1) := by decide +kernel
theorem dX7_petition_18 : decode cX7_petition 18 = .ok (.iconst 0, 1) := by decide +kernel
theorem dX7_petition_19 : decode cX7_petition 19 = .ok (.bipush 9, 2) := by decide +kernel
theorem dX7_petition_21 : decode cX7_petition 21 = .ok (.invokestatic 73, 3) := by decide +kernel
theorem dX7_petition_24 : decode cX7_petition 24 = .ok (.ifCond .eq 16, 3) := by decide +kernel
theorem dX7_petition_27 : decode cX7_petition 27 = .ok (.aload_n 0, 1) := by decide +kernel
theorem dX7_petition_28 : decode cX7_petition 28 = .ok (.aload_n 0, 1) := by decide +kernel
theorem dX7_petition_29 : decode cX7_petition 29 = .ok (.iload_n 3, 1) := by decide +kernel
theorem dX7_petition_30 : decode cX7_petition 30 = .ok (.iload_n 2, 1) := by decide +kernel
theorem dX7_petition_31 : decode cX7_petition 31 = .ok (.invokevirtual 110, 3) := by decide +kernel
theorem dX7_petition_34 : decode cX7_petition 34 = .ok (.invokevirtual 70, 3) := by decide +kernel
theorem dX7_petition_37 : decode cX7_petition 37 = .ok (.goto 8, 3) := by decide +kernel
theorem dX7_petition_40 : decode cX7_petition 40 = .ok (.aload_n 0, 1) := by decide +kernel
theorem dX7_petition_41 : decode cX7_petition 41 = .ok (.iconst 2, 1) := by decide +kernel
theorem dX7_petition_42 : decode cX7_petition 42 = .ok (.invokevirtual 77, 3) := by decide +kernel
theorem dX7_petition_45 : decode cX7_petition 45 = .ok (.ireturn, 1) := by decide +kernel
theorem dX7_peek_0 : decode cX7_peek 0 = .ok (.iload_n 1, 1) := by decide +kernel
theorem dX7_peek_1 : decode cX7_peek 1 = .ok (.iconst 0, 1) := by decide +kernel
theorem dX7_peek_2 : decode cX7_peek 2 = .ok (.aload_n 0, 1) := by decide +kernel
theorem dX7_peek_3 : decode cX7_peek 3 = .ok (.getfield 7, 3) := by decide +kernel
theorem dX7_peek_6 : decode cX7_peek 6 = .ok (.iconst 1, 1) := by decide +kernel
theorem dX7_peek_7 : decode cX7_peek 7 = .ok (.iaload, 1) := by decide +kernel
theorem dX7_peek_8 : decode cX7_peek 8 = .ok (.iconst 1, 1) := by decide +kernel
theorem dX7_peek_9 : decode cX7_peek 9 = .ok (.isub, 1) := by decide +kernel
theorem dX7_peek_10 : decode cX7_peek 10 = .ok (.invokestatic 73, 3) := by decide +kernel
theorem dX7_peek_13 : decode cX7_peek 13 = .ok (.ifCond .eq 20, 3) := by decide +kernel
theorem dX7_peek_16 : decode cX7_peek 16 = .ok (.aload_n 0, 1) := by decide +kernel
theorem dX7_peek_17 : decode cX7_peek 17 = .ok (.aload_n 0, 1) := by decide +kernel
theorem dX7_peek_18 : decode cX7_peek 18 = .ok (.aload_n 0, 1) := by decide +kernel
theorem dX7_peek_19 : decode cX7_peek 19 = .ok (.iload_n 1, 1) := by decide +kernel
theorem dX7_peek_20 : decode cX7_peek 20 = .ok (.invokevirtual 57, 3) := by decide +kernel
theorem dX7_peek_23 : decode cX7_peek 23 = .ok (.iconst 0, 1) := by decide +kernel
theorem dX7_peek_24 : decode cX7_peek 24 = .ok (.invokevirtual 32, 3) := by decide +kernel
theorem dX7_peek_27 : decode cX7_peek 27 = .ok (.invokevirtual 70, 3) := by decide +kernel
theorem dX7_peek_30 : decode cX7_peek 30 = .ok (.goto 8, 3) := by decide +kernel
theorem dX7_peek_33 : decode cX7_peek 33 = .ok (.aload_n 0, 1) := by decide +kernel
theorem dX7_peek_34 : decode cX7_peek 34 = .ok (.iconst 1, 1) := by decide +kernel
theorem dX7_peek_35 : decode cX7_peek 35 = .ok (.invokevirtual 77, 3) := by decide +kernel
theorem dX7_peek_38 : decode cX7_peek 38 = .ok (.ireturn, 1) := by decide +kernel
theorem dX7_sentBy_0 : decode cX7_sentBy 0 = .ok (.iload_n 1, 1) := by decide +kernel
theorem dX7_sentBy_1 : decode cX7_sentBy 1 = .ok (.invokestatic 83, 3) := by decide +kernel
theorem dX7_sentBy_4 : decode cX7_sentBy 4 = .ok (.ifCond .eq 15, 3) := by decide +kernel
theorem dX7_sentBy_7 : decode cX7_sentBy 7 = .ok (.aload_n 0, 1) := by decide +kernel
theorem dX7_sentBy_8 : decode cX7_sentBy 8 = .ok (.aload_n 0, 1) := by decide +kernel
theorem dX7_sentBy_9 : decode cX7_sentBy 9 = .ok (.iload_n 1, 1) := by decide +kernel
theorem dX7_sentBy_10 : decode cX7_sentBy 10 = .ok (.invokevirtual 44, 3) := by decide +kernel
theorem dX7_sentBy_13 : decode cX7_sentBy 13 = .ok (.invokevirtual 70, 3) := by decide +kernel
theorem dX7_sentBy_16 : decode cX7_sentBy 16 = .ok (.goto 8, 3) := by decide +kernel
theorem dX7_sentBy_19 : decode cX7_sentBy 19 = .ok (.aload_n 0, 1) := by decide +kernel
theorem dX7_sentBy_20 : decode cX7_sentBy 20 = .ok (.iconst 1, 1) := by decide +kernel
theorem dX7_sentBy_21 : decode cX7_sentBy 21 = .ok (.invokevirtual 77, 3) := by decide +kernel
theorem dX7_sentBy_24 : decode cX7_sentBy 24 = .ok (.ireturn, 1) := by decide +kernel
theorem dX7_returned_0 : decode cX7_returned 0 = .ok (.iload_n 1, 1) := by decide +kernel
theorem dX7_returned_1 : decode cX7_returned 1 = .ok (.invokestatic 83, 3) := by decide +kernel
theorem dX7_returned_4 : decode cX7_returned 4 = .ok (.ifCond .eq 19, 3) := by decide +kernel
theorem dX7_returned_7 : decode cX7_returned 7 = .ok (.aload_n 0, 1) := by decide +kernel
theorem dX7_returned_8 : decode cX7_returned 8 = .ok (.aload_n 0, 1) := by decide +kernel
theorem dX7_returned_9 : decode cX7_returned 9 = .ok (.getfield 7, 3) := by decide +kernel
theorem dX7_returned_12 : decode cX7_returned 12 = .ok (.bipush 16, 2) := by decide +kernel
theorem dX7_returned_14 : decode cX7_returned 14 = .ok (.iload_n 1, 1) := by decide +kernel
theorem dX7_returned_15 : decode cX7_returned 15 = .ok (.iadd, 1) := by decide +kernel
theorem dX7_returned_16 : decode cX7_returned 16 = .ok (.iaload, 1) := by decide +kernel
theorem dX7_returned_17 : decode cX7_returned 17 = .ok (.invokevirtual 70, 3) := by decide +kernel
theorem dX7_returned_20 : decode cX7_returned 20 = .ok (.goto 8, 3) := by decide +kernel
theorem dX7_returned_23 : decode cX7_returned 23 = .ok (.aload_n 0, 1) := by decide +kernel
theorem dX7_returned_24 : decode cX7_returned 24 = .ok (.iconst 1, 1) := by decide +kernel
theorem dX7_returned_25 : decode cX7_returned 25 = .ok (.invokevirtual 77, 3) := by decide +kernel
theorem dX7_returned_28 : decode cX7_returned 28 = .ok (.ireturn, 1) := by decide +kernel
theorem dX7_entry_0 : decode cX7_entry 0 = .ok (.iload_n 1, 1) := by decide +kernel
theorem dX7_entry_1 : decode cX7_entry 1 = .ok (.iconst 0, 1) := by decide +kernel
theorem dX7_entry_2 : decode cX7_entry 2 = .ok (.aload_n 0, 1) := by decide +kernel
theorem dX7_entry_3 : decode cX7_entry 3 = .ok (.getfield 7, 3) := by decide +kernel
theorem dX7_entry_6 : decode cX7_entry 6 = .ok (.bipush 11, 2) := by decide +kernel
theorem dX7_entry_8 : decode cX7_entry 8 = .ok (.iaload, 1) := by decide +kernel
theorem dX7_entry_9 : decode cX7_entry 9 = .ok (.iconst 1, 1) := by decide +kernel
theorem dX7_entry_10 : decode cX7_entry 10 = .ok (.isub, 1) := by decide +kernel
theorem dX7_entry_11 : decode cX7_entry 11 = .ok (.invokestatic 73, 3) := by decide +kernel
theorem dX7_entry_14 : decode cX7_entry 14 = .ok (.ifCond .ne 9, 3) := by decide +kernel
theorem dX7_entry_17 : decode cX7_entry 17 = .ok (.aload_n 0, 1) := by decide +kernel
theorem dX7_entry_18 : decode cX7_entry 18 = .ok (.iconst 1, 1) := by decide +kernel
theorem dX7_entry_19 : decode cX7_entry 19 = .ok (.invokevirtual 77, 3) := by decide +kernel
theorem dX7_entry_22 : decode cX7_entry 22 = .ok (.ireturn, 1) := by decide +kernel
theorem dX7_entry_23 : decode cX7_entry 23 = .ok (.iload_n 2, 1) := by decide +kernel
theorem dX7_entry_24 : decode cX7_entry 24 = .ok (.iconst 0, 1) := by decide +kernel
theorem dX7_entry_25 : decode cX7_entry 25 = .ok (.iconst 4, 1) := by decide +kernel
theorem dX7_entry_26 : decode cX7_entry 26 = .ok (.invokestatic 73, 3) := by decide +kernel
theorem dX7_entry_29 : decode cX7_entry 29 = .ok (.ifCond .eq 23, 3) := by decide +kernel
theorem dX7_entry_32 : decode cX7_entry 32 = .ok (.aload_n 0, 1) := by decide +kernel
theorem dX7_entry_33 : decode cX7_entry 33 = .ok (.aload_n 0, 1) := by decide +kernel
theorem dX7_entry_34 : decode cX7_entry 34 = .ok (.getfield 7, 3) := by decide +kernel
theorem dX7_entry_37 : decode cX7_entry 37 = .ok (.bipush 24, 2) := by decide +kernel
theorem dX7_entry_39 : decode cX7_entry 39 = .ok (.iconst 5, 1) := by decide +kernel
theorem dX7_entry_40 : decode cX7_entry 40 = .ok (.iload_n 1, 1) := by decide +kernel
theorem dX7_entry_41 : decode cX7_entry 41 = .ok (.imul, 1) := by decide +kernel
theorem dX7_entry_42 : decode cX7_entry 42 = .ok (.iadd, 1) := by decide +kernel
theorem dX7_entry_43 : decode cX7_entry 43 = .ok (.iload_n 2, 1) := by decide +kernel
theorem dX7_entry_44 : decode cX7_entry 44 = .ok (.iadd, 1) := by decide +kernel
theorem dX7_entry_45 : decode cX7_entry 45 = .ok (.iaload, 1) := by decide +kernel
theorem dX7_entry_46 : decode cX7_entry 46 = .ok (.invokevirtual 70, 3) := by decide +kernel
theorem dX7_entry_49 : decode cX7_entry 49 = .ok (.goto 8, 3) := by decide +kernel
theorem dX7_entry_52 : decode cX7_entry 52 = .ok (.aload_n 0, 1) := by decide +kernel
theorem dX7_entry_53 : decode cX7_entry 53 = .ok (.iconst 2, 1) := by decide +kernel
theorem dX7_entry_54 : decode cX7_entry 54 = .ok (.invokevirtual 77, 3) := by decide +kernel
theorem dX7_entry_57 : decode cX7_entry 57 = .ok (.ireturn, 1) := by decide +kernel
theorem dX7_loudest_0 : decode cX7_loudest 0 = .ok (.iconst (-1), 1) := by decide +kernel
theorem dX7_loudest_1 : decode cX7_loudest 1 = .ok (.istore_n 1, 1) := by decide +kernel
theorem dX7_loudest_2 : decode cX7_loudest 2 = .ok (.iconst 0, 1) := by decide +kernel
theorem dX7_loudest_3 : decode cX7_loudest 3 = .ok (.istore_n 2, 1) := by decide +kernel
theorem dX7_loudest_4 : decode cX7_loudest 4 = .ok (.iload_n 2, 1) := by decide +kernel
theorem dX7_loudest_5 : decode cX7_loudest 5 = .ok (.aload_n 0, 1) := by decide +kernel
theorem dX7_loudest_6 : decode cX7_loudest 6 = .ok (.getfield 7, 3) := by decide +kernel
theorem dX7_loudest_9 : decode cX7_loudest 9 = .ok (.iconst 1, 1) := by decide +kernel
theorem dX7_loudest_10 : decode cX7_loudest 10 = .ok (.iaload, 1) := by decide +kernel
theorem dX7_loudest_11 : decode cX7_loudest 11 = .ok (.if_icmp .ge 30, 3) := by decide +kernel
theorem dX7_loudest_14 : decode cX7_loudest 14 = .ok (.aload_n 0, 1) := by decide +kernel
theorem dX7_loudest_15 : decode cX7_loudest 15 = .ok (.iload_n 2, 1) := by decide +kernel
theorem dX7_loudest_16 : decode cX7_loudest 16 = .ok (.iconst 3, 1) := by decide +kernel
theorem dX7_loudest_17 : decode cX7_loudest 17 = .ok (.invokevirtual 32, 3) := by decide +kernel
theorem dX7_loudest_20 : decode cX7_loudest 20 = .ok (.iload_n 1, 1) := by decide +kernel
theorem dX7_loudest_21 : decode cX7_loudest 21 = .ok (.if_icmp .le 12, 3) := by decide +kernel
theorem dX7_loudest_24 : decode cX7_loudest 24 = .ok (.aload_n 0, 1) := by decide +kernel
theorem dX7_loudest_25 : decode cX7_loudest 25 = .ok (.iload_n 2, 1) := by decide +kernel
theorem dX7_loudest_26 : decode cX7_loudest 26 = .ok (.iconst 3, 1) := by decide +kernel
theorem dX7_loudest_27 : decode cX7_loudest 27 = .ok (.invokevirtual 32, 3) := by decide +kernel
theorem dX7_loudest_30 : decode cX7_loudest 30 = .ok (.goto 4, 3) := by decide +kernel
theorem dX7_loudest_33 : decode cX7_loudest 33 = .ok (.iload_n 1, 1) := by decide +kernel
theorem dX7_loudest_34 : decode cX7_loudest 34 = .ok (.istore_n 1, 1) := by decide +kernel
theorem dX7_loudest_35 : decode cX7_loudest 35 = .ok (.iinc 2 1, 3) := by decide +kernel
theorem dX7_loudest_38 : decode cX7_loudest 38 = .ok (.goto (-34), 3) := by decide +kernel
theorem dX7_loudest_41 : decode cX7_loudest 41 = .ok (.iload_n 1, 1) := by decide +kernel
theorem dX7_loudest_42 : decode cX7_loudest 42 = .ok (.ireturn, 1) := by decide +kernel
theorem dX7_bribes_0 : decode cX7_bribes 0 = .ok (.iconst 0, 1) := by decide +kernel
theorem dX7_bribes_1 : decode cX7_bribes 1 = .ok (.istore_n 1, 1) := by decide +kernel
theorem dX7_bribes_2 : decode cX7_bribes 2 = .ok (.iconst 0, 1) := by decide +kernel
theorem dX7_bribes_3 : decode cX7_bribes 3 = .ok (.istore_n 2, 1) := by decide +kernel
theorem dX7_bribes_4 : decode cX7_bribes 4 = .ok (.iload_n 2, 1) := by decide +kernel
theorem dX7_bribes_5 : decode cX7_bribes 5 = .ok (.aload_n 0, 1) := by decide +kernel
theorem dX7_bribes_6 : decode cX7_bribes 6 = .ok (.getfield 7, 3) := by decide +kernel
theorem dX7_bribes_9 : decode cX7_bribes 9 = .ok (.iconst 1, 1) := by decide +kernel
theorem dX7_bribes_10 : decode cX7_bribes 10 = .ok (.iaload, 1) := by decide +kernel
theorem dX7_bribes_11 : decode cX7_bribes 11 = .ok (.if_icmp .ge 19, 3) := by decide +kernel
theorem dX7_bribes_14 : decode cX7_bribes 14 = .ok (.iload_n 1, 1) := by decide +kernel
theorem dX7_bribes_15 : decode cX7_bribes 15 = .ok (.aload_n 0, 1) := by decide +kernel
theorem dX7_bribes_16 : decode cX7_bribes 16 = .ok (.iload_n 2, 1) := by decide +kernel
theorem dX7_bribes_17 : decode cX7_bribes 17 = .ok (.bipush 7, 2) := by decide +kernel
theorem dX7_bribes_19 : decode cX7_bribes 19 = .ok (.invokevirtual 32, 3) := by decide +kernel
theorem dX7_bribes_22 : decode cX7_bribes 22 = .ok (.iadd, 1) := by decide +kernel
theorem dX7_bribes_23 : decode cX7_bribes 23 = .ok (.istore_n 1, 1) := by decide +kernel
theorem dX7_bribes_24 : decode cX7_bribes 24 = .ok (.iinc 2 1, 3) := by decide +kernel
theorem dX7_bribes_27 : decode cX7_bribes 27 = .ok (.goto (-23), 3) := by decide +kernel
theorem dX7_bribes_30 : decode cX7_bribes 30 = .ok (.iload_n 1, 1) := by decide +kernel
theorem dX7_bribes_31 : decode cX7_bribes 31 = .ok (.ireturn, 1) := by decide +kernel
theorem dX7_valueTold_0 : decode cX7_valueTold 0 = .ok (.iload_n 1, 1) := by decide +kernel
theorem dX7_valueTold_1 : decode cX7_valueTold 1 = .ok (.tableswitch 127 0 13 #[71, 78, 127, 127, 127, 127, 127, 127, 85, 90, 95, 103, 111, 119], 71) := by decide +kernel
theorem dX7_valueTold_72 : decode cX7_valueTold 72 = .ok (.aload_n 0, 1) := by decide +kernel
theorem dX7_valueTold_73 : decode cX7_valueTold 73 = .ok (.getfield 7, 3) := by decide +kernel
theorem dX7_valueTold_76 : decode cX7_valueTold 76 = .ok (.iconst 1, 1) := by decide +kernel
theorem dX7_valueTold_77 : decode cX7_valueTold 77 = .ok (.iaload, 1) := by decide +kernel
theorem dX7_valueTold_78 : decode cX7_valueTold 78 = .ok (.ireturn, 1) := by decide +kernel
theorem dX7_valueTold_79 : decode cX7_valueTold 79 = .ok (.aload_n 0, 1) := by decide +kernel
theorem dX7_valueTold_80 : decode cX7_valueTold 80 = .ok (.getfield 7, 3) := by decide +kernel
theorem dX7_valueTold_83 : decode cX7_valueTold 83 = .ok (.iconst 0, 1) := by decide +kernel
theorem dX7_valueTold_84 : decode cX7_valueTold 84 = .ok (.iaload, 1) := by decide +kernel
theorem dX7_valueTold_85 : decode cX7_valueTold 85 = .ok (.ireturn, 1) := by decide +kernel
theorem dX7_valueTold_86 : decode cX7_valueTold 86 = .ok (.aload_n 0, 1) := by decide +kernel
theorem dX7_valueTold_87 : decode cX7_valueTold 87 = .ok (.invokevirtual 113, 3) := by decide +kernel
theorem dX7_valueTold_90 : decode cX7_valueTold 90 = .ok (.ireturn, 1) := by decide +kernel
theorem dX7_valueTold_91 : decode cX7_valueTold 91 = .ok (.aload_n 0, 1) := by decide +kernel
theorem dX7_valueTold_92 : decode cX7_valueTold 92 = .ok (.invokevirtual 116, 3) := by decide +kernel
theorem dX7_valueTold_95 : decode cX7_valueTold 95 = .ok (.ireturn, 1) := by decide +kernel
theorem dX7_valueTold_96 : decode cX7_valueTold 96 = .ok (.aload_n 0, 1) := by decide +kernel
theorem dX7_valueTold_97 : decode cX7_valueTold 97 = .ok (.getfield 7, 3) := by decide +kernel
theorem dX7_valueTold_100 : decode cX7_valueTold 100 = .ok (.bipush 11, 2) := by decide +kernel
theorem dX7_valueTold_102 : decode cX7_valueTold 102 = .ok (.iaload, 1) := by decide +kernel
theorem dX7_valueTold_103 : decode cX7_valueTold 103 = .ok (.ireturn, 1) := by decide +kernel
theorem dX7_valueTold_104 : decode cX7_valueTold 104 = .ok (.aload_n 0, 1) := by decide +kernel
theorem dX7_valueTold_105 : decode cX7_valueTold 105 = .ok (.getfield 7, 3) := by decide +kernel
theorem dX7_valueTold_108 : decode cX7_valueTold 108 = .ok (.bipush 8, 2) := by decide +kernel
theorem dX7_valueTold_110 : decode cX7_valueTold 110 = .ok (.iaload, 1) := by decide +kernel
theorem dX7_valueTold_111 : decode cX7_valueTold 111 = .ok (.ireturn, 1) := by decide +kernel
theorem dX7_valueTold_112 : decode cX7_valueTold 112 = .ok (.aload_n 0, 1) := by decide +kernel
theorem dX7_valueTold_113 : decode cX7_valueTold 113 = .ok (.getfield 7, 3) := by decide +kernel
theorem dX7_valueTold_116 : decode cX7_valueTold 116 = .ok (.bipush 9, 2) := by decide +kernel
theorem dX7_valueTold_118 : decode cX7_valueTold 118 = .ok (.iaload, 1) := by decide +kernel
theorem dX7_valueTold_119 : decode cX7_valueTold 119 = .ok (.ireturn, 1) := by decide +kernel
theorem dX7_valueTold_120 : decode cX7_valueTold 120 = .ok (.aload_n 0, 1) := by decide +kernel
theorem dX7_valueTold_121 : decode cX7_valueTold 121 = .ok (.getfield 7, 3) := by decide +kernel
theorem dX7_valueTold_124 : decode cX7_valueTold 124 = .ok (.bipush 10, 2) := by decide +kernel
theorem dX7_valueTold_126 : decode cX7_valueTold 126 = .ok (.iaload, 1) := by decide +kernel
theorem dX7_valueTold_127 : decode cX7_valueTold 127 = .ok (.ireturn, 1) := by decide +kernel
theorem dX7_valueTold_128 : decode cX7_valueTold 128 = .ok (.aload_n 0, 1) := by decide +kernel
theorem dX7_valueTold_129 : decode cX7_valueTold 129 = .ok (.getfield 7, 3) := by decide +kernel
theorem dX7_valueTold_132 : decode cX7_valueTold 132 = .ok (.iload_n 1, 1) := by decide +kernel
theorem dX7_valueTold_133 : decode cX7_valueTold 133 = .ok (.iaload, 1) := by decide +kernel
theorem dX7_valueTold_134 : decode cX7_valueTold 134 = .ok (.ireturn, 1) := by decide +kernel
theorem dX7_value_0 : decode cX7_value 0 = .ok (.iload_n 1, 1) := by decide +kernel
theorem dX7_value_1 : decode cX7_value 1 = .ok (.iconst 0, 1) := by decide +kernel
theorem dX7_value_2 : decode cX7_value 2 = .ok (.bipush 13, 2) := by decide +kernel
theorem dX7_value_4 : decode cX7_value 4 = .ok (.invokestatic 73, 3) := by decide +kernel
theorem dX7_value_7 : decode cX7_value 7 = .ok (.ifCond .eq 15, 3) := by decide +kernel
theorem dX7_value_10 : decode cX7_value 10 = .ok (.aload_n 0, 1) := by decide +kernel
theorem dX7_value_11 : decode cX7_value 11 = .ok (.aload_n 0, 1) := by decide +kernel
theorem dX7_value_12 : decode cX7_value 12 = .ok (.iload_n 1, 1) := by decide +kernel
theorem dX7_value_13 : decode cX7_value 13 = .ok (.invokevirtual 119, 3) := by decide +kernel
theorem dX7_value_16 : decode cX7_value 16 = .ok (.invokevirtual 70, 3) := by decide +kernel
theorem dX7_value_19 : decode cX7_value 19 = .ok (.goto 8, 3) := by decide +kernel
theorem dX7_value_22 : decode cX7_value 22 = .ok (.aload_n 0, 1) := by decide +kernel
theorem dX7_value_23 : decode cX7_value 23 = .ok (.iconst 1, 1) := by decide +kernel
theorem dX7_value_24 : decode cX7_value 24 = .ok (.invokevirtual 77, 3) := by decide +kernel
theorem dX7_value_27 : decode cX7_value 27 = .ok (.ireturn, 1) := by decide +kernel
theorem dX7_ofRank_0 : decode cX7_ofRank 0 = .ok (.iload_n 1, 1) := by decide +kernel
theorem dX7_ofRank_1 : decode cX7_ofRank 1 = .ok (.iconst 0, 1) := by decide +kernel
theorem dX7_ofRank_2 : decode cX7_ofRank 2 = .ok (.iconst 4, 1) := by decide +kernel
theorem dX7_ofRank_3 : decode cX7_ofRank 3 = .ok (.invokestatic 73, 3) := by decide +kernel
theorem dX7_ofRank_6 : decode cX7_ofRank 6 = .ok (.ifCond .ne 9, 3) := by decide +kernel
theorem dX7_ofRank_9 : decode cX7_ofRank 9 = .ok (.aload_n 0, 1) := by decide +kernel
theorem dX7_ofRank_10 : decode cX7_ofRank 10 = .ok (.iconst 1, 1) := by decide +kernel
theorem dX7_ofRank_11 : decode cX7_ofRank 11 = .ok (.invokevirtual 77, 3) := by decide +kernel
theorem dX7_ofRank_14 : decode cX7_ofRank 14 = .ok (.ireturn, 1) := by decide +kernel
theorem dX7_ofRank_15 : decode cX7_ofRank 15 = .ok (.iconst 0, 1) := by decide +kernel
theorem dX7_ofRank_16 : decode cX7_ofRank 16 = .ok (.istore_n 2, 1) := by decide +kernel
theorem dX7_ofRank_17 : decode cX7_ofRank 17 = .ok (.iconst 0, 1) := by decide +kernel
theorem dX7_ofRank_18 : decode cX7_ofRank 18 = .ok (.istore_n 3, 1) := by decide +kernel
theorem dX7_ofRank_19 : decode cX7_ofRank 19 = .ok (.iload_n 3, 1) := by decide +kernel
theorem dX7_ofRank_20 : decode cX7_ofRank 20 = .ok (.aload_n 0, 1) := by decide +kernel
theorem dX7_ofRank_21 : decode cX7_ofRank 21 = .ok (.getfield 7, 3) := by decide +kernel
theorem dX7_ofRank_24 : decode cX7_ofRank 24 = .ok (.iconst 1, 1) := by decide +kernel
theorem dX7_ofRank_25 : decode cX7_ofRank 25 = .ok (.iaload, 1) := by decide +kernel
theorem dX7_ofRank_26 : decode cX7_ofRank 26 = .ok (.if_icmp .ge 27, 3) := by decide +kernel
theorem dX7_ofRank_29 : decode cX7_ofRank 29 = .ok (.iload_n 2, 1) := by decide +kernel
theorem dX7_ofRank_30 : decode cX7_ofRank 30 = .ok (.aload_n 0, 1) := by decide +kernel
theorem dX7_ofRank_31 : decode cX7_ofRank 31 = .ok (.iload_n 3, 1) := by decide +kernel
theorem dX7_ofRank_32 : decode cX7_ofRank 32 = .ok (.iconst 3, 1) := by decide +kernel
theorem dX7_ofRank_33 : decode cX7_ofRank 33 = .ok (.invokevirtual 32, 3) := by decide +kernel
theorem dX7_ofRank_36 : decode cX7_ofRank 36 = .ok (.iload_n 1, 1) := by decide +kernel
theorem dX7_ofRank_37 : decode cX7_ofRank 37 = .ok (.if_icmp .ne 7, 3) := by decide +kernel
theorem dX7_ofRank_40 : decode cX7_ofRank 40 = .ok (.iconst 1, 1) := by decide +kernel
theorem dX7_ofRank_41 : decode cX7_ofRank 41 = .ok (.goto 4, 3) := by decide +kernel
theorem dX7_ofRank_44 : decode cX7_ofRank 44 = .ok (.iconst 0, 1) := by decide +kernel
theorem dX7_ofRank_45 : decode cX7_ofRank 45 = .ok (.iadd, 1) := by decide +kernel
theorem dX7_ofRank_46 : decode cX7_ofRank 46 = .ok (.istore_n 2, 1) := by decide +kernel
theorem dX7_ofRank_47 : decode cX7_ofRank 47 = .ok (.iinc 3 1, 3) := by decide +kernel
theorem dX7_ofRank_50 : decode cX7_ofRank 50 = .ok (.goto (-31), 3) := by decide +kernel
theorem dX7_ofRank_53 : decode cX7_ofRank 53 = .ok (.aload_n 0, 1) := by decide +kernel
theorem dX7_ofRank_54 : decode cX7_ofRank 54 = .ok (.iload_n 2, 1) := by decide +kernel
theorem dX7_ofRank_55 : decode cX7_ofRank 55 = .ok (.invokevirtual 70, 3) := by decide +kernel
theorem dX7_ofRank_58 : decode cX7_ofRank 58 = .ok (.ireturn, 1) := by decide +kernel
theorem dX7_rankIn_0 : decode cX7_rankIn 0 = .ok (.aload_n 0, 1) := by decide +kernel
theorem dX7_rankIn_1 : decode cX7_rankIn 1 = .ok (.iload_n 1, 1) := by decide +kernel
theorem dX7_rankIn_2 : decode cX7_rankIn 2 = .ok (.invokevirtual 100, 3) := by decide +kernel
theorem dX7_rankIn_5 : decode cX7_rankIn 5 = .ok (.istore_n 3, 1) := by decide +kernel
theorem dX7_rankIn_6 : decode cX7_rankIn 6 = .ok (.iload_n 3, 1) := by decide +kernel
theorem dX7_rankIn_7 : decode cX7_rankIn 7 = .ok (.iconst (-1), 1) := by decide +kernel
theorem dX7_rankIn_8 : decode cX7_rankIn 8 = .ok (.if_icmp .ne 9, 3) := by decide +kernel
theorem dX7_rankIn_11 : decode cX7_rankIn 11 = .ok (.aload_n 0, 1) := by decide +kernel
theorem dX7_rankIn_12 : decode cX7_rankIn 12 = .ok (.iconst 1, 1) := by decide +kernel
theorem dX7_rankIn_13 : decode cX7_rankIn 13 = .ok (.invokevirtual 77, 3) := by decide +kernel
theorem dX7_rankIn_16 : decode cX7_rankIn 16 = .ok (.ireturn, 1) := by decide +kernel
theorem dX7_rankIn_17 : decode cX7_rankIn 17 = .ok (.iload_n 2, 1) := by decide +kernel
theorem dX7_rankIn_18 : decode cX7_rankIn 18 = .ok (.iconst 0, 1) := by decide +kernel
theorem dX7_rankIn_19 : decode cX7_rankIn 19 = .ok (.sipush 200, 3) := by decide +kernel
theorem dX7_rankIn_22 : decode cX7_rankIn 22 = .ok (.invokestatic 73, 3) := by decide +kernel
theorem dX7_rankIn_25 : decode cX7_rankIn 25 = .ok (.ifCond .ne 9, 3) := by decide +kernel
theorem dX7_rankIn_28 : decode cX7_rankIn 28 = .ok (.aload_n 0, 1) := by decide +kernel
theorem dX7_rankIn_29 : decode cX7_rankIn 29 = .ok (.iconst 2, 1) := by decide +kernel
theorem dX7_rankIn_30 : decode cX7_rankIn 30 = .ok (.invokevirtual 77, 3) := by decide +kernel
theorem dX7_rankIn_33 : decode cX7_rankIn 33 = .ok (.ireturn, 1) := by decide +kernel
theorem dX7_rankIn_34 : decode cX7_rankIn 34 = .ok (.iload_n 2, 1) := by decide +kernel
theorem dX7_rankIn_35 : decode cX7_rankIn 35 = .ok (.ifCond .le 27, 3) := by decide +kernel
theorem dX7_rankIn_38 : decode cX7_rankIn 38 = .ok (.aload_n 0, 1) := by decide +kernel
theorem dX7_rankIn_39 : decode cX7_rankIn 39 = .ok (.iload_n 3, 1) := by decide +kernel
theorem dX7_rankIn_40 : decode cX7_rankIn 40 = .ok (.iconst 4, 1) := by decide +kernel
theorem dX7_rankIn_41 : decode cX7_rankIn 41 = .ok (.invokevirtual 32, 3) := by decide +kernel
theorem dX7_rankIn_44 : decode cX7_rankIn 44 = .ok (.iload_n 2, 1) := by decide +kernel
theorem dX7_rankIn_45 : decode cX7_rankIn 45 = .ok (.iadd, 1) := by decide +kernel
theorem dX7_rankIn_46 : decode cX7_rankIn 46 = .ok (.aload_n 0, 1) := by decide +kernel
theorem dX7_rankIn_47 : decode cX7_rankIn 47 = .ok (.iload_n 3, 1) := by decide +kernel
theorem dX7_rankIn_48 : decode cX7_rankIn 48 = .ok (.bipush 6, 2) := by decide +kernel
theorem dX7_rankIn_50 : decode cX7_rankIn 50 = .ok (.invokevirtual 32, 3) := by decide +kernel
theorem dX7_rankIn_53 : decode cX7_rankIn 53 = .ok (.if_icmp .lt 9, 3) := by decide +kernel
theorem dX7_rankIn_56 : decode cX7_rankIn 56 = .ok (.aload_n 0, 1) := by decide +kernel
theorem dX7_rankIn_57 : decode cX7_rankIn 57 = .ok (.iconst (-1), 1) := by decide +kernel
theorem dX7_rankIn_58 : decode cX7_rankIn 58 = .ok (.invokevirtual 70, 3) := by decide +kernel
theorem dX7_rankIn_61 : decode cX7_rankIn 61 = .ok (.ireturn, 1) := by decide +kernel
theorem dX7_rankIn_62 : decode cX7_rankIn 62 = .ok (.aload_n 0, 1) := by decide +kernel
theorem dX7_rankIn_63 : decode cX7_rankIn 63 = .ok (.iload_n 3, 1) := by decide +kernel
theorem dX7_rankIn_64 : decode cX7_rankIn 64 = .ok (.iconst 3, 1) := by decide +kernel
theorem dX7_rankIn_65 : decode cX7_rankIn 65 = .ok (.invokevirtual 32, 3) := by decide +kernel
theorem dX7_rankIn_68 : decode cX7_rankIn 68 = .ok (.istore 4, 2) := by decide +kernel
theorem dX7_rankIn_70 : decode cX7_rankIn 70 = .ok (.aload_n 0, 1) := by decide +kernel
theorem dX7_rankIn_71 : decode cX7_rankIn 71 = .ok (.iload_n 3, 1) := by decide +kernel
theorem dX7_rankIn_72 : decode cX7_rankIn 72 = .ok (.iconst 5, 1) := by decide +kernel
theorem dX7_rankIn_73 : decode cX7_rankIn 73 = .ok (.invokevirtual 32, 3) := by decide +kernel
theorem dX7_rankIn_76 : decode cX7_rankIn 76 = .ok (.istore 5, 2) := by decide +kernel
theorem dX7_rankIn_78 : decode cX7_rankIn 78 = .ok (.iconst 0, 1) := by decide +kernel
theorem dX7_rankIn_79 : decode cX7_rankIn 79 = .ok (.istore 6, 2) := by decide +kernel
theorem dX7_rankIn_81 : decode cX7_rankIn 81 = .ok (.iload 6, 2) := by decide +kernel
theorem dX7_rankIn_83 : decode cX7_rankIn 83 = .ok (.iload_n 2, 1) := by decide +kernel
theorem dX7_rankIn_84 : decode cX7_rankIn 84 = .ok (.if_icmp .ge 68, 3) := by decide +kernel
theorem dX7_rankIn_87 : decode cX7_rankIn 87 = .ok (.iinc 5 1, 3) := by decide +kernel
theorem dX7_rankIn_90 : decode cX7_rankIn 90 = .ok (.iload 4, 2) := by decide +kernel
theorem dX7_rankIn_92 : decode cX7_rankIn 92 = .ok (.iconst 4, 1) := by decide +kernel
theorem dX7_rankIn_93 : decode cX7_rankIn 93 = .ok (.if_icmp .ge 22, 3) := by decide +kernel
theorem dX7_rankIn_96 : decode cX7_rankIn 96 = .ok (.iload 5, 2) := by decide +kernel
theorem dX7_rankIn_98 : decode cX7_rankIn 98 = .ok (.aload_n 0, 1) := by decide +kernel
theorem dX7_rankIn_99 : decode cX7_rankIn 99 = .ok (.getfield 7, 3) := by decide +kernel
theorem dX7_rankIn_102 : decode cX7_rankIn 102 = .ok (.bipush 12, 2) := by decide +kernel
theorem dX7_rankIn_104 : decode cX7_rankIn 104 = .ok (.iload 4, 2) := by decide +kernel
theorem dX7_rankIn_106 : decode cX7_rankIn 106 = .ok (.iadd, 1) := by decide +kernel
theorem dX7_rankIn_107 : decode cX7_rankIn 107 = .ok (.iaload, 1) := by decide +kernel
theorem dX7_rankIn_108 : decode cX7_rankIn 108 = .ok (.if_icmp .lt 7, 3) := by decide +kernel
theorem dX7_rankIn_111 : decode cX7_rankIn 111 = .ok (.iconst 1, 1) := by decide +kernel
theorem dX7_rankIn_112 : decode cX7_rankIn 112 = .ok (.goto 4, 3) := by decide +kernel
theorem dX7_rankIn_115 : decode cX7_rankIn 115 = .ok (.iconst 0, 1) := by decide +kernel
theorem dX7_rankIn_116 : decode cX7_rankIn 116 = .ok (.istore 7, 2) := by decide +kernel
theorem dX7_rankIn_118 : decode cX7_rankIn 118 = .ok (.iload 4, 2) := by decide +kernel
theorem dX7_rankIn_120 : decode cX7_rankIn 120 = .ok (.iload 7, 2) := by decide +kernel
theorem dX7_rankIn_122 : decode cX7_rankIn 122 = .ok (.ifCond .eq 7, 3) := by decide +kernel
theorem dX7_rankIn_125 : decode cX7_rankIn 125 = .ok (.iconst 1, 1) := by decide +kernel
theorem dX7_rankIn_126 : decode cX7_rankIn 126 = .ok (.goto 4, 3) := by decide +kernel
theorem dX7_rankIn_129 : decode cX7_rankIn 129 = .ok (.iconst 0, 1) := by decide +kernel
theorem dX7_rankIn_130 : decode cX7_rankIn 130 = .ok (.iadd, 1) := by decide +kernel
theorem dX7_rankIn_131 : decode cX7_rankIn 131 = .ok (.istore 4, 2) := by decide +kernel
theorem dX7_rankIn_133 : decode cX7_rankIn 133 = .ok (.iload 7, 2) := by decide +kernel
theorem dX7_rankIn_135 : decode cX7_rankIn 135 = .ok (.ifCond .eq 7, 3) := by decide +kernel
theorem dX7_rankIn_138 : decode cX7_rankIn 138 = .ok (.iconst 0, 1) := by decide +kernel
theorem dX7_rankIn_139 : decode cX7_rankIn 139 = .ok (.goto 5, 3) := by decide +kernel
theorem dX7_rankIn_142 : decode cX7_rankIn 142 = .ok (.iload 5, 2) := by decide +kernel
theorem dX7_rankIn_144 : decode cX7_rankIn 144 = .ok (.istore 5, 2) := by decide +kernel
theorem dX7_rankIn_146 : decode cX7_rankIn 146 = .ok (.iinc 6 1, 3) := by decide +kernel
theorem dX7_rankIn_149 : decode cX7_rankIn 149 = .ok (.goto (-68), 3) := by decide +kernel
theorem dX7_rankIn_152 : decode cX7_rankIn 152 = .ok (.aload_n 0, 1) := by decide +kernel
theorem dX7_rankIn_153 : decode cX7_rankIn 153 = .ok (.iload 4, 2) := by decide +kernel
theorem dX7_rankIn_155 : decode cX7_rankIn 155 = .ok (.invokevirtual 70, 3) := by decide +kernel
theorem dX7_rankIn_158 : decode cX7_rankIn 158 = .ok (.ireturn, 1) := by decide +kernel
theorem dX7_firstToExpire_0 : decode cX7_firstToExpire 0 = .ok (.iconst (-1), 1) := by decide +kernel
theorem dX7_firstToExpire_1 : decode cX7_firstToExpire 1 = .ok (.istore_n 1, 1) := by decide +kernel
theorem dX7_firstToExpire_2 : decode cX7_firstToExpire 2 = .ok (.iconst 0, 1) := by decide +kernel
theorem dX7_firstToExpire_3 : decode cX7_firstToExpire 3 = .ok (.istore_n 2, 1) := by decide +kernel
theorem dX7_firstToExpire_4 : decode cX7_firstToExpire 4 = .ok (.iconst 0, 1) := by decide +kernel
theorem dX7_firstToExpire_5 : decode cX7_firstToExpire 5 = .ok (.istore_n 3, 1) := by decide +kernel
theorem dX7_firstToExpire_6 : decode cX7_firstToExpire 6 = .ok (.iload_n 3, 1) := by decide +kernel
theorem dX7_firstToExpire_7 : decode cX7_firstToExpire 7 = .ok (.aload_n 0, 1) := by decide +kernel
theorem dX7_firstToExpire_8 : decode cX7_firstToExpire 8 = .ok (.getfield 7, 3) := by decide +kernel
theorem dX7_firstToExpire_11 : decode cX7_firstToExpire 11 = .ok (.iconst 1, 1) := by decide +kernel
theorem dX7_firstToExpire_12 : decode cX7_firstToExpire 12 = .ok (.iaload, 1) := by decide +kernel
theorem dX7_firstToExpire_13 : decode cX7_firstToExpire 13 = .ok (.if_icmp .ge 64, 3) := by decide +kernel
theorem dX7_firstToExpire_16 : decode cX7_firstToExpire 16 = .ok (.aload_n 0, 1) := by decide +kernel
theorem dX7_firstToExpire_17 : decode cX7_firstToExpire 17 = .ok (.iload_n 3, 1) := by decide +kernel
theorem dX7_firstToExpire_18 : decode cX7_firstToExpire 18 = .ok (.bipush 7, 2) := by decide +kernel
theorem dX7_firstToExpire_20 : decode cX7_firstToExpire 20 = .ok (.invokevirtual 110, 3) := by decide +kernel
theorem dX7_firstToExpire_23 : decode cX7_firstToExpire 23 = .ok (.istore 4, 2) := by decide +kernel
theorem dX7_firstToExpire_25 : decode cX7_firstToExpire 25 = .ok (.iload_n 1, 1) := by decide +kernel
theorem dX7_firstToExpire_26 : decode cX7_firstToExpire 26 = .ok (.iconst (-1), 1) := by decide +kernel
theorem dX7_firstToExpire_27 : decode cX7_firstToExpire 27 = .ok (.if_icmp .eq 9, 3) := by decide +kernel
theorem dX7_firstToExpire_30 : decode cX7_firstToExpire 30 = .ok (.iload 4, 2) := by decide +kernel
theorem dX7_firstToExpire_32 : decode cX7_firstToExpire 32 = .ok (.iload_n 2, 1) := by decide +kernel
theorem dX7_firstToExpire_33 : decode cX7_firstToExpire 33 = .ok (.if_icmp .ge 7, 3) := by decide +kernel
theorem dX7_firstToExpire_36 : decode cX7_firstToExpire 36 = .ok (.iconst 1, 1) := by decide +kernel
theorem dX7_firstToExpire_37 : decode cX7_firstToExpire 37 = .ok (.goto 4, 3) := by decide +kernel
theorem dX7_firstToExpire_40 : decode cX7_firstToExpire 40 = .ok (.iconst 0, 1) := by decide +kernel
theorem dX7_firstToExpire_41 : decode cX7_firstToExpire 41 = .ok (.istore 5, 2) := by decide +kernel
theorem dX7_firstToExpire_43 : decode cX7_firstToExpire 43 = .ok (.iload 5, 2) := by decide +kernel
theorem dX7_firstToExpire_45 : decode cX7_firstToExpire 45 = .ok (.ifCond .eq 12, 3) := by decide +kernel
theorem dX7_firstToExpire_48 : decode cX7_firstToExpire 48 = .ok (.aload_n 0, 1) := by decide +kernel
theorem dX7_firstToExpire_49 : decode cX7_firstToExpire 49 = .ok (.iload_n 3, 1) := by decide +kernel
theorem dX7_firstToExpire_50 : decode cX7_firstToExpire 50 = .ok (.iconst 0, 1) := by decide +kernel
theorem dX7_firstToExpire_51 : decode cX7_firstToExpire 51 = .ok (.invokevirtual 32, 3) := by decide +kernel
theorem dX7_firstToExpire_54 : decode cX7_firstToExpire 54 = .ok (.goto 4, 3) := by decide +kernel
theorem dX7_firstToExpire_57 : decode cX7_firstToExpire 57 = .ok (.iload_n 1, 1) := by decide +kernel
theorem dX7_firstToExpire_58 : decode cX7_firstToExpire 58 = .ok (.istore_n 1, 1) := by decide +kernel
theorem dX7_firstToExpire_59 : decode cX7_firstToExpire 59 = .ok (.iload 5, 2) := by decide +kernel
theorem dX7_firstToExpire_61 : decode cX7_firstToExpire 61 = .ok (.ifCond .eq 8, 3) := by decide +kernel
theorem dX7_firstToExpire_64 : decode cX7_firstToExpire 64 = .ok (.iload 4, 2) := by decide +kernel
theorem dX7_firstToExpire_66 : decode cX7_firstToExpire 66 = .ok (.goto 4, 3) := by decide +kernel
theorem dX7_firstToExpire_69 : decode cX7_firstToExpire 69 = .ok (.iload_n 2, 1) := by decide +kernel
theorem dX7_firstToExpire_70 : decode cX7_firstToExpire 70 = .ok (.istore_n 2, 1) := by decide +kernel
theorem dX7_firstToExpire_71 : decode cX7_firstToExpire 71 = .ok (.iinc 3 1, 3) := by decide +kernel
theorem dX7_firstToExpire_74 : decode cX7_firstToExpire 74 = .ok (.goto (-68), 3) := by decide +kernel
theorem dX7_firstToExpire_77 : decode cX7_firstToExpire 77 = .ok (.aload_n 0, 1) := by decide +kernel
theorem dX7_firstToExpire_78 : decode cX7_firstToExpire 78 = .ok (.iload_n 1, 1) := by decide +kernel
theorem dX7_firstToExpire_79 : decode cX7_firstToExpire 79 = .ok (.invokevirtual 70, 3) := by decide +kernel
theorem dX7_firstToExpire_82 : decode cX7_firstToExpire 82 = .ok (.ireturn, 1) := by decide +kernel
theorem dX7_servedIn_0 : decode cX7_servedIn 0 = .ok (.aload_n 0, 1) := by decide +kernel
theorem dX7_servedIn_1 : decode cX7_servedIn 1 = .ok (.iload_n 1, 1) := by decide +kernel
theorem dX7_servedIn_2 : decode cX7_servedIn 2 = .ok (.invokevirtual 100, 3) := by decide +kernel
theorem dX7_servedIn_5 : decode cX7_servedIn 5 = .ok (.iconst (-1), 1) := by decide +kernel
theorem dX7_servedIn_6 : decode cX7_servedIn 6 = .ok (.if_icmp .ne 9, 3) := by decide +kernel
theorem dX7_servedIn_9 : decode cX7_servedIn 9 = .ok (.aload_n 0, 1) := by decide +kernel
theorem dX7_servedIn_10 : decode cX7_servedIn 10 = .ok (.iconst 1, 1) := by decide +kernel
theorem dX7_servedIn_11 : decode cX7_servedIn 11 = .ok (.invokevirtual 77, 3) := by decide +kernel
theorem dX7_servedIn_14 : decode cX7_servedIn 14 = .ok (.ireturn, 1) := by decide +kernel
theorem dX7_servedIn_15 : decode cX7_servedIn 15 = .ok (.aload_n 0, 1) := by decide +kernel
theorem dX7_servedIn_16 : decode cX7_servedIn 16 = .ok (.invokevirtual 122, 3) := by decide +kernel
theorem dX7_servedIn_19 : decode cX7_servedIn 19 = .ok (.iconst 0, 1) := by decide +kernel
theorem dX7_servedIn_20 : decode cX7_servedIn 20 = .ok (.istore_n 2, 1) := by decide +kernel
theorem dX7_servedIn_21 : decode cX7_servedIn 21 = .ok (.iconst (-1), 1) := by decide +kernel
theorem dX7_servedIn_22 : decode cX7_servedIn 22 = .ok (.istore_n 3, 1) := by decide +kernel
theorem dX7_servedIn_23 : decode cX7_servedIn 23 = .ok (.iconst 1, 1) := by decide +kernel
theorem dX7_servedIn_24 : decode cX7_servedIn 24 = .ok (.istore 4, 2) := by decide +kernel
theorem dX7_servedIn_26 : decode cX7_servedIn 26 = .ok (.iload 4, 2) := by decide +kernel
theorem dX7_servedIn_28 : decode cX7_servedIn 28 = .ok (.ifCond .eq 76, 3) := by decide +kernel
theorem dX7_servedIn_31 : decode cX7_servedIn 31 = .ok (.aload_n 0, 1) := by decide +kernel
theorem dX7_servedIn_32 : decode cX7_servedIn 32 = .ok (.invokevirtual 103, 3) := by decide +kernel
theorem dX7_servedIn_35 : decode cX7_servedIn 35 = .ok (.iload_n 1, 1) := by decide +kernel
theorem dX7_servedIn_36 : decode cX7_servedIn 36 = .ok (.if_icmp .ne 7, 3) := by decide +kernel
theorem dX7_servedIn_39 : decode cX7_servedIn 39 = .ok (.iconst 1, 1) := by decide +kernel
theorem dX7_servedIn_40 : decode cX7_servedIn 40 = .ok (.goto 4, 3) := by decide +kernel
theorem dX7_servedIn_43 : decode cX7_servedIn 43 = .ok (.iconst 0, 1) := by decide +kernel
theorem dX7_servedIn_44 : decode cX7_servedIn 44 = .ok (.istore 5, 2) := by decide +kernel
theorem dX7_servedIn_46 : decode cX7_servedIn 46 = .ok (.iload 5, 2) := by decide +kernel
theorem dX7_servedIn_48 : decode cX7_servedIn 48 = .ok (.ifCond .eq 7, 3) := by decide +kernel
theorem dX7_servedIn_51 : decode cX7_servedIn 51 = .ok (.iload_n 2, 1) := by decide +kernel
theorem dX7_servedIn_52 : decode cX7_servedIn 52 = .ok (.goto 4, 3) := by decide +kernel
theorem dX7_servedIn_55 : decode cX7_servedIn 55 = .ok (.iload_n 3, 1) := by decide +kernel
theorem dX7_servedIn_56 : decode cX7_servedIn 56 = .ok (.istore_n 3, 1) := by decide +kernel
theorem dX7_servedIn_57 : decode cX7_servedIn 57 = .ok (.iload 5, 2) := by decide +kernel
theorem dX7_servedIn_59 : decode cX7_servedIn 59 = .ok (.ifCond .eq 7, 3) := by decide +kernel
theorem dX7_servedIn_62 : decode cX7_servedIn 62 = .ok (.iconst 0, 1) := by decide +kernel
theorem dX7_servedIn_63 : decode cX7_servedIn 63 = .ok (.goto 7, 3) := by decide +kernel
theorem dX7_servedIn_66 : decode cX7_servedIn 66 = .ok (.aload_n 0, 1) := by decide +kernel
theorem dX7_servedIn_67 : decode cX7_servedIn 67 = .ok (.invokevirtual 63, 3) := by decide +kernel
theorem dX7_servedIn_70 : decode cX7_servedIn 70 = .ok (.istore 6, 2) := by decide +kernel
theorem dX7_servedIn_72 : decode cX7_servedIn 72 = .ok (.iinc 2 1, 3) := by decide +kernel
theorem dX7_servedIn_75 : decode cX7_servedIn 75 = .ok (.iload 5, 2) := by decide +kernel
theorem dX7_servedIn_77 : decode cX7_servedIn 77 = .ok (.ifCond .ne 21, 3) := by decide +kernel
theorem dX7_servedIn_80 : decode cX7_servedIn 80 = .ok (.iload 6, 2) := by decide +kernel
theorem dX7_servedIn_82 : decode cX7_servedIn 82 = .ok (.ifCond .lt 16, 3) := by decide +kernel
theorem dX7_servedIn_85 : decode cX7_servedIn 85 = .ok (.aload_n 0, 1) := by decide +kernel
theorem dX7_servedIn_86 : decode cX7_servedIn 86 = .ok (.iload_n 1, 1) := by decide +kernel
theorem dX7_servedIn_87 : decode cX7_servedIn 87 = .ok (.invokevirtual 100, 3) := by decide +kernel
theorem dX7_servedIn_90 : decode cX7_servedIn 90 = .ok (.iconst (-1), 1) := by decide +kernel
theorem dX7_servedIn_91 : decode cX7_servedIn 91 = .ok (.if_icmp .eq 7, 3) := by decide +kernel
theorem dX7_servedIn_94 : decode cX7_servedIn 94 = .ok (.iconst 1, 1) := by decide +kernel
theorem dX7_servedIn_95 : decode cX7_servedIn 95 = .ok (.goto 4, 3) := by decide +kernel
theorem dX7_servedIn_98 : decode cX7_servedIn 98 = .ok (.iconst 0, 1) := by decide +kernel
theorem dX7_servedIn_99 : decode cX7_servedIn 99 = .ok (.istore 4, 2) := by decide +kernel
theorem dX7_servedIn_101 : decode cX7_servedIn 101 = .ok (.goto (-75), 3) := by decide +kernel
theorem dX7_servedIn_104 : decode cX7_servedIn 104 = .ok (.aload_n 0, 1) := by decide +kernel
theorem dX7_servedIn_105 : decode cX7_servedIn 105 = .ok (.invokevirtual 125, 3) := by decide +kernel
theorem dX7_servedIn_108 : decode cX7_servedIn 108 = .ok (.aload_n 0, 1) := by decide +kernel
theorem dX7_servedIn_109 : decode cX7_servedIn 109 = .ok (.iload_n 3, 1) := by decide +kernel
theorem dX7_servedIn_110 : decode cX7_servedIn 110 = .ok (.invokevirtual 70, 3) := by decide +kernel
theorem dX7_servedIn_113 : decode cX7_servedIn 113 = .ok (.ireturn, 1) := by decide +kernel
theorem dX7_bribeToLead_0 : decode cX7_bribeToLead 0 = .ok (.iload_n 1, 1) := by decide +kernel
theorem dX7_bribeToLead_1 : decode cX7_bribeToLead 1 = .ok (.iconst 0, 1) := by decide +kernel
theorem dX7_bribeToLead_2 : decode cX7_bribeToLead 2 = .ok (.iconst 4, 1) := by decide +kernel
theorem dX7_bribeToLead_3 : decode cX7_bribeToLead 3 = .ok (.invokestatic 73, 3) := by decide +kernel
theorem dX7_bribeToLead_6 : decode cX7_bribeToLead 6 = .ok (.ifCond .ne 9, 3) := by decide +kernel
theorem dX7_bribeToLead_9 : decode cX7_bribeToLead 9 = .ok (.aload_n 0, 1) := by decide +kernel
theorem dX7_bribeToLead_10 : decode cX7_bribeToLead 10 = .ok (.iconst 1, 1) := by decide +kernel
theorem dX7_bribeToLead_11 : decode cX7_bribeToLead 11 = .ok (.invokevirtual 77, 3) := by decide +kernel
theorem dX7_bribeToLead_14 : decode cX7_bribeToLead 14 = .ok (.ireturn, 1) := by decide +kernel
theorem dX7_bribeToLead_15 : decode cX7_bribeToLead 15 = .ok (.aload_n 0, 1) := by decide +kernel
theorem dX7_bribeToLead_16 : decode cX7_bribeToLead 16 = .ok (.invokevirtual 116, 3) := by decide +kernel
theorem dX7_bribeToLead_19 : decode cX7_bribeToLead 19 = .ok (.iconst 1, 1) := by decide +kernel
theorem dX7_bribeToLead_20 : decode cX7_bribeToLead 20 = .ok (.iadd, 1) := by decide +kernel
theorem dX7_bribeToLead_21 : decode cX7_bribeToLead 21 = .ok (.istore_n 2, 1) := by decide +kernel
theorem dX7_bribeToLead_22 : decode cX7_bribeToLead 22 = .ok (.iload_n 2, 1) := by decide +kernel
theorem dX7_bribeToLead_23 : decode cX7_bribeToLead 23 = .ok (.iconst 4, 1) := by decide +kernel
theorem dX7_bribeToLead_24 : decode cX7_bribeToLead 24 = .ok (.if_icmp .le 9, 3) := by decide +kernel
theorem dX7_bribeToLead_27 : decode cX7_bribeToLead 27 = .ok (.aload_n 0, 1) := by decide +kernel
theorem dX7_bribeToLead_28 : decode cX7_bribeToLead 28 = .ok (.iconst (-1), 1) := by decide +kernel
theorem dX7_bribeToLead_29 : decode cX7_bribeToLead 29 = .ok (.invokevirtual 70, 3) := by decide +kernel
theorem dX7_bribeToLead_32 : decode cX7_bribeToLead 32 = .ok (.ireturn, 1) := by decide +kernel
theorem dX7_bribeToLead_33 : decode cX7_bribeToLead 33 = .ok (.aload_n 0, 1) := by decide +kernel
theorem dX7_bribeToLead_34 : decode cX7_bribeToLead 34 = .ok (.iload_n 1, 1) := by decide +kernel
theorem dX7_bribeToLead_35 : decode cX7_bribeToLead 35 = .ok (.iload_n 2, 1) := by decide +kernel
theorem dX7_bribeToLead_36 : decode cX7_bribeToLead 36 = .ok (.if_icmp .lt 7, 3) := by decide +kernel
theorem dX7_bribeToLead_39 : decode cX7_bribeToLead 39 = .ok (.iconst 0, 1) := by decide +kernel
theorem dX7_bribeToLead_40 : decode cX7_bribeToLead 40 = .ok (.goto 9, 3) := by decide +kernel
theorem dX7_bribeToLead_43 : decode cX7_bribeToLead 43 = .ok (.bipush 25, 2) := by decide +kernel
theorem dX7_bribeToLead_45 : decode cX7_bribeToLead 45 = .ok (.iload_n 2, 1) := by decide +kernel
theorem dX7_bribeToLead_46 : decode cX7_bribeToLead 46 = .ok (.iload_n 1, 1) := by decide +kernel
theorem dX7_bribeToLead_47 : decode cX7_bribeToLead 47 = .ok (.isub, 1) := by decide +kernel
theorem dX7_bribeToLead_48 : decode cX7_bribeToLead 48 = .ok (.imul, 1) := by decide +kernel
theorem dX7_bribeToLead_49 : decode cX7_bribeToLead 49 = .ok (.invokevirtual 70, 3) := by decide +kernel
theorem dX7_bribeToLead_52 : decode cX7_bribeToLead 52 = .ok (.ireturn, 1) := by decide +kernel
theorem dX7_meanWait_0 : decode cX7_meanWait 0 = .ok (.aload_n 0, 1) := by decide +kernel
theorem dX7_meanWait_1 : decode cX7_meanWait 1 = .ok (.iconst 0, 1) := by decide +kernel
theorem dX7_meanWait_2 : decode cX7_meanWait 2 = .ok (.putfield 25, 3) := by decide +kernel
theorem dX7_meanWait_5 : decode cX7_meanWait 5 = .ok (.aload_n 0, 1) := by decide +kernel
theorem dX7_meanWait_6 : decode cX7_meanWait 6 = .ok (.getfield 7, 3) := by decide +kernel
theorem dX7_meanWait_9 : decode cX7_meanWait 9 = .ok (.iconst 3, 1) := by decide +kernel
theorem dX7_meanWait_10 : decode cX7_meanWait 10 = .ok (.iaload, 1) := by decide +kernel
theorem dX7_meanWait_11 : decode cX7_meanWait 11 = .ok (.ifCond .ne 7, 3) := by decide +kernel
theorem dX7_meanWait_14 : decode cX7_meanWait 14 = .ok (.dconst 0, 1) := by decide +kernel
theorem dX7_meanWait_15 : decode cX7_meanWait 15 = .ok (.goto 19, 3) := by decide +kernel
theorem dX7_meanWait_18 : decode cX7_meanWait 18 = .ok (.aload_n 0, 1) := by decide +kernel
theorem dX7_meanWait_19 : decode cX7_meanWait 19 = .ok (.getfield 7, 3) := by decide +kernel
theorem dX7_meanWait_22 : decode cX7_meanWait 22 = .ok (.bipush 10, 2) := by decide +kernel
theorem dX7_meanWait_24 : decode cX7_meanWait 24 = .ok (.iaload, 1) := by decide +kernel
theorem dX7_meanWait_25 : decode cX7_meanWait 25 = .ok (.i2d, 1) := by decide +kernel
theorem dX7_meanWait_26 : decode cX7_meanWait 26 = .ok (.aload_n 0, 1) := by decide +kernel
theorem dX7_meanWait_27 : decode cX7_meanWait 27 = .ok (.getfield 7, 3) := by decide +kernel
theorem dX7_meanWait_30 : decode cX7_meanWait 30 = .ok (.iconst 3, 1) := by decide +kernel
theorem dX7_meanWait_31 : decode cX7_meanWait 31 = .ok (.iaload, 1) := by decide +kernel
theorem dX7_meanWait_32 : decode cX7_meanWait 32 = .ok (.i2d, 1) := by decide +kernel
theorem dX7_meanWait_33 : decode cX7_meanWait 33 = .ok (.ddiv, 1) := by decide +kernel
theorem dX7_meanWait_34 : decode cX7_meanWait 34 = .ok (.dreturn, 1) := by decide +kernel
theorem dX7_append_0 : decode cX7_append 0 = .ok (.iload_n 1, 1) := by decide +kernel
theorem dX7_append_1 : decode cX7_append 1 = .ok (.iconst 0, 1) := by decide +kernel
theorem dX7_append_2 : decode cX7_append 2 = .ok (.bipush 127, 2) := by decide +kernel
theorem dX7_append_4 : decode cX7_append 4 = .ok (.invokestatic 73, 3) := by decide +kernel
theorem dX7_append_7 : decode cX7_append 7 = .ok (.ifCond .ne 9, 3) := by decide +kernel
theorem dX7_append_10 : decode cX7_append 10 = .ok (.aload_n 0, 1) := by decide +kernel
theorem dX7_append_11 : decode cX7_append 11 = .ok (.iconst 1, 1) := by decide +kernel
theorem dX7_append_12 : decode cX7_append 12 = .ok (.invokevirtual 77, 3) := by decide +kernel
theorem dX7_append_15 : decode cX7_append 15 = .ok (.ireturn, 1) := by decide +kernel
theorem dX7_append_16 : decode cX7_append 16 = .ok (.aload_n 0, 1) := by decide +kernel
theorem dX7_append_17 : decode cX7_append 17 = .ok (.getfield 128, 3) := by decide +kernel
theorem dX7_append_20 : decode cX7_append 20 = .ok (.bipush 100, 2) := by decide +kernel
theorem dX7_append_22 : decode cX7_append 22 = .ok (.if_icmp .ne 9, 3) := by decide +kernel
theorem dX7_append_25 : decode cX7_append 25 = .ok (.aload_n 0, 1) := by decide +kernel
theorem dX7_append_26 : decode cX7_append 26 = .ok (.iconst 2, 1) := by decide +kernel
theorem dX7_append_27 : decode cX7_append 27 = .ok (.invokevirtual 77, 3) := by decide +kernel
theorem dX7_append_30 : decode cX7_append 30 = .ok (.ireturn, 1) := by decide +kernel
theorem dX7_append_31 : decode cX7_append 31 = .ok (.aload_n 0, 1) := by decide +kernel
theorem dX7_append_32 : decode cX7_append 32 = .ok (.getfield 19, 3) := by decide +kernel
theorem dX7_append_35 : decode cX7_append 35 = .ok (.aload_n 0, 1) := by decide +kernel
theorem dX7_append_36 : decode cX7_append 36 = .ok (.getfield 128, 3) := by decide +kernel
theorem dX7_append_39 : decode cX7_append 39 = .ok (.iload_n 1, 1) := by decide +kernel
theorem dX7_append_40 : decode cX7_append 40 = .ok (.iastore, 1) := by decide +kernel
theorem dX7_append_41 : decode cX7_append 41 = .ok (.aload_n 0, 1) := by decide +kernel
theorem dX7_append_42 : decode cX7_append 42 = .ok (.dup, 1) := by decide +kernel
theorem dX7_append_43 : decode cX7_append 43 = .ok (.getfield 128, 3) := by decide +kernel
theorem dX7_append_46 : decode cX7_append 46 = .ok (.iconst 1, 1) := by decide +kernel
theorem dX7_append_47 : decode cX7_append 47 = .ok (.iadd, 1) := by decide +kernel
theorem dX7_append_48 : decode cX7_append 48 = .ok (.putfield 128, 3) := by decide +kernel
theorem dX7_append_51 : decode cX7_append 51 = .ok (.aload_n 0, 1) := by decide +kernel
theorem dX7_append_52 : decode cX7_append 52 = .ok (.aload_n 0, 1) := by decide +kernel
theorem dX7_append_53 : decode cX7_append 53 = .ok (.getfield 128, 3) := by decide +kernel
theorem dX7_append_56 : decode cX7_append 56 = .ok (.invokevirtual 70, 3) := by decide +kernel
theorem dX7_append_59 : decode cX7_append 59 = .ok (.ireturn, 1) := by decide +kernel
theorem dX7_clearText_0 : decode cX7_clearText 0 = .ok (.aload_n 0, 1) := by decide +kernel
theorem dX7_clearText_1 : decode cX7_clearText 1 = .ok (.getfield 128, 3) := by decide +kernel
theorem dX7_clearText_4 : decode cX7_clearText 4 = .ok (.istore_n 1, 1) := by decide +kernel
theorem dX7_clearText_5 : decode cX7_clearText 5 = .ok (.aload_n 0, 1) := by decide +kernel
theorem dX7_clearText_6 : decode cX7_clearText 6 = .ok (.iconst 0, 1) := by decide +kernel
theorem dX7_clearText_7 : decode cX7_clearText 7 = .ok (.putfield 128, 3) := by decide +kernel
theorem dX7_clearText_10 : decode cX7_clearText 10 = .ok (.aload_n 0, 1) := by decide +kernel
theorem dX7_clearText_11 : decode cX7_clearText 11 = .ok (.iload_n 1, 1) := by decide +kernel
theorem dX7_clearText_12 : decode cX7_clearText 12 = .ok (.invokevirtual 70, 3) := by decide +kernel
theorem dX7_clearText_15 : decode cX7_clearText 15 = .ok (.ireturn, 1) := by decide +kernel
theorem dX7_isAt_0 : decode cX7_isAt 0 = .ok (.aload_n 0, 1) := by decide +kernel
theorem dX7_isAt_1 : decode cX7_isAt 1 = .ok (.getfield 131, 3) := by decide +kernel
theorem dX7_isAt_4 : decode cX7_isAt 4 = .ok (.aload_n 0, 1) := by decide +kernel
theorem dX7_isAt_5 : decode cX7_isAt 5 = .ok (.getfield 128, 3) := by decide +kernel
theorem dX7_isAt_8 : decode cX7_isAt 8 = .ok (.if_icmp .ge 24, 3) := by decide +kernel
theorem dX7_isAt_11 : decode cX7_isAt 11 = .ok (.aload_n 0, 1) := by decide +kernel
theorem dX7_isAt_12 : decode cX7_isAt 12 = .ok (.getfield 19, 3) := by decide +kernel
theorem dX7_isAt_15 : decode cX7_isAt 15 = .ok (.aload_n 0, 1) := by decide +kernel
theorem dX7_isAt_16 : decode cX7_isAt 16 = .ok (.getfield 131, 3) := by decide +kernel
theorem dX7_isAt_19 : decode cX7_isAt 19 = .ok (.iaload, 1) := by decide +kernel
theorem dX7_isAt_20 : decode cX7_isAt 20 = .ok (.iload_n 1, 1) := by decide +kernel
theorem dX7_isAt_21 : decode cX7_isAt 21 = .ok (.iload_n 2, 1) := by decide +kernel
theorem dX7_isAt_22 : decode cX7_isAt 22 = .ok (.invokestatic 73, 3) := by decide +kernel
theorem dX7_isAt_25 : decode cX7_isAt 25 = .ok (.ifCond .eq 7, 3) := by decide +kernel
theorem dX7_isAt_28 : decode cX7_isAt 28 = .ok (.iconst 1, 1) := by decide +kernel
theorem dX7_isAt_29 : decode cX7_isAt 29 = .ok (.goto 4, 3) := by decide +kernel
theorem dX7_isAt_32 : decode cX7_isAt 32 = .ok (.iconst 0, 1) := by decide +kernel
theorem dX7_isAt_33 : decode cX7_isAt 33 = .ok (.ireturn, 1) := by decide +kernel
theorem dX7_takes_0 : decode cX7_takes 0 = .ok (.aload_n 0, 1) := by decide +kernel
theorem dX7_takes_1 : decode cX7_takes 1 = .ok (.iload_n 1, 1) := by decide +kernel
theorem dX7_takes_2 : decode cX7_takes 2 = .ok (.iload_n 1, 1) := by decide +kernel
theorem dX7_takes_3 : decode cX7_takes 3 = .ok (.invokevirtual 134, 3) := by decide +kernel
theorem dX7_takes_6 : decode cX7_takes 6 = .ok (.istore_n 2, 1) := by decide +kernel
theorem dX7_takes_7 : decode cX7_takes 7 = .ok (.aload_n 0, 1) := by decide +kernel
theorem dX7_takes_8 : decode cX7_takes 8 = .ok (.dup, 1) := by decide +kernel
theorem dX7_takes_9 : decode cX7_takes 9 = .ok (.getfield 131, 3) := by decide +kernel
theorem dX7_takes_12 : decode cX7_takes 12 = .ok (.iload_n 2, 1) := by decide +kernel
theorem dX7_takes_13 : decode cX7_takes 13 = .ok (.ifCond .eq 7, 3) := by decide +kernel
theorem dX7_takes_16 : decode cX7_takes 16 = .ok (.iconst 1, 1) := by decide +kernel
theorem dX7_takes_17 : decode cX7_takes 17 = .ok (.goto 4, 3) := by decide +kernel
theorem dX7_takes_20 : decode cX7_takes 20 = .ok (.iconst 0, 1) := by decide +kernel
theorem dX7_takes_21 : decode cX7_takes 21 = .ok (.iadd, 1) := by decide +kernel
theorem dX7_takes_22 : decode cX7_takes 22 = .ok (.putfield 131, 3) := by decide +kernel
theorem dX7_takes_25 : decode cX7_takes 25 = .ok (.iload_n 2, 1) := by decide +kernel
theorem dX7_takes_26 : decode cX7_takes 26 = .ok (.ireturn, 1) := by decide +kernel
theorem dX7_takesDigit_0 : decode cX7_takesDigit 0 = .ok (.aload_n 0, 1) := by decide +kernel
theorem dX7_takesDigit_1 : decode cX7_takesDigit 1 = .ok (.bipush 48, 2) := by decide +kernel
theorem dX7_takesDigit_3 : decode cX7_takesDigit 3 = .ok (.bipush 48, 2) := by decide +kernel
theorem dX7_takesDigit_5 : decode cX7_takesDigit 5 = .ok (.iload_n 2, 1) := by decide +kernel
theorem dX7_takesDigit_6 : decode cX7_takesDigit 6 = .ok (.iadd, 1) := by decide +kernel
theorem dX7_takesDigit_7 : decode cX7_takesDigit 7 = .ok (.invokevirtual 134, 3) := by decide +kernel
theorem dX7_takesDigit_10 : decode cX7_takesDigit 10 = .ok (.ifCond .ne 5, 3) := by decide +kernel
theorem dX7_takesDigit_13 : decode cX7_takesDigit 13 = .ok (.iconst 0, 1) := by decide +kernel
theorem dX7_takesDigit_14 : decode cX7_takesDigit 14 = .ok (.ireturn, 1) := by decide +kernel
theorem dX7_takesDigit_15 : decode cX7_takesDigit 15 = .ok (.aload_n 0, 1) := by decide +kernel
theorem dX7_takesDigit_16 : decode cX7_takesDigit 16 = .ok (.getfield 22, 3) := by decide +kernel
theorem dX7_takesDigit_19 : decode cX7_takesDigit 19 = .ok (.iload_n 1, 1) := by decide +kernel
theorem dX7_takesDigit_20 : decode cX7_takesDigit 20 = .ok (.aload_n 0, 1) := by decide +kernel
theorem dX7_takesDigit_21 : decode cX7_takesDigit 21 = .ok (.getfield 19, 3) := by decide +kernel
theorem dX7_takesDigit_24 : decode cX7_takesDigit 24 = .ok (.aload_n 0, 1) := by decide +kernel
theorem dX7_takesDigit_25 : decode cX7_takesDigit 25 = .ok (.getfield 131, 3) := by decide +kernel
theorem dX7_takesDigit_28 : decode cX7_takesDigit 28 = .ok (.iaload, 1) := by decide +kernel
theorem dX7_takesDigit_29 : decode cX7_takesDigit 29 = .ok (.bipush 48, 2) := by decide +kernel
theorem dX7_takesDigit_31 : decode cX7_takesDigit 31 = .ok (.isub, 1) := by decide +kernel
theorem dX7_takesDigit_32 : decode cX7_takesDigit 32 = .ok (.iastore, 1) := by decide +kernel
theorem dX7_takesDigit_33 : decode cX7_takesDigit 33 = .ok (.aload_n 0, 1) := by decide +kernel
theorem dX7_takesDigit_34 : decode cX7_takesDigit 34 = .ok (.dup, 1) := by decide +kernel
theorem dX7_takesDigit_35 : decode cX7_takesDigit 35 = .ok (.getfield 131, 3) := by decide +kernel
theorem dX7_takesDigit_38 : decode cX7_takesDigit 38 = .ok (.iconst 1, 1) := by decide +kernel
theorem dX7_takesDigit_39 : decode cX7_takesDigit 39 = .ok (.iadd, 1) := by decide +kernel
theorem dX7_takesDigit_40 : decode cX7_takesDigit 40 = .ok (.putfield 131, 3) := by decide +kernel
theorem dX7_takesDigit_43 : decode cX7_takesDigit 43 = .ok (.iconst 1, 1) := by decide +kernel
theorem dX7_takesDigit_44 : decode cX7_takesDigit 44 = .ok (.ireturn, 1) := by decide +kernel
theorem dX7_takesNumber_0 : decode cX7_takesNumber 0 = .ok (.aload_n 0, 1) := by decide +kernel
theorem dX7_takesNumber_1 : decode cX7_takesNumber 1 = .ok (.getfield 131, 3) := by decide +kernel
theorem dX7_takesNumber_4 : decode cX7_takesNumber 4 = .ok (.istore 4, 2) := by decide +kernel
theorem dX7_takesNumber_6 : decode cX7_takesNumber 6 = .ok (.iconst 0, 1) := by decide +kernel
theorem dX7_takesNumber_7 : decode cX7_takesNumber 7 = .ok (.istore 5, 2) := by decide +kernel
theorem dX7_takesNumber_9 : decode cX7_takesNumber 9 = .ok (.aload_n 0, 1) := by decide +kernel
theorem dX7_takesNumber_10 : decode cX7_takesNumber 10 = .ok (.bipush 48, 2) := by decide +kernel
theorem dX7_takesNumber_12 : decode cX7_takesNumber 12 = .ok (.bipush 57, 2) := by decide +kernel
theorem dX7_takesNumber_14 : decode cX7_takesNumber 14 = .ok (.invokevirtual 134, 3) := by decide +kernel
theorem dX7_takesNumber_17 : decode cX7_takesNumber 17 = .ok (.ifCond .eq 47, 3) := by decide +kernel
theorem dX7_takesNumber_20 : decode cX7_takesNumber 20 = .ok (.aload_n 0, 1) := by decide +kernel
theorem dX7_takesNumber_21 : decode cX7_takesNumber 21 = .ok (.getfield 131, 3) := by decide +kernel
theorem dX7_takesNumber_24 : decode cX7_takesNumber 24 = .ok (.iload 4, 2) := by decide +kernel
theorem dX7_takesNumber_26 : decode cX7_takesNumber 26 = .ok (.iload_n 2, 1) := by decide +kernel
theorem dX7_takesNumber_27 : decode cX7_takesNumber 27 = .ok (.iadd, 1) := by decide +kernel
theorem dX7_takesNumber_28 : decode cX7_takesNumber 28 = .ok (.if_icmp .ge 36, 3) := by decide +kernel
theorem dX7_takesNumber_31 : decode cX7_takesNumber 31 = .ok (.bipush 10, 2) := by decide +kernel
theorem dX7_takesNumber_33 : decode cX7_takesNumber 33 = .ok (.iload 5, 2) := by decide +kernel
theorem dX7_takesNumber_35 : decode cX7_takesNumber 35 = .ok (.imul, 1) := by decide +kernel
theorem dX7_takesNumber_36 : decode cX7_takesNumber 36 = .ok (.aload_n 0, 1) := by decide +kernel
theorem dX7_takesNumber_37 : decode cX7_takesNumber 37 = .ok (.getfield 19, 3) := by decide +kernel
theorem dX7_takesNumber_40 : decode cX7_takesNumber 40 = .ok (.aload_n 0, 1) := by decide +kernel
theorem dX7_takesNumber_41 : decode cX7_takesNumber 41 = .ok (.getfield 131, 3) := by decide +kernel
theorem dX7_takesNumber_44 : decode cX7_takesNumber 44 = .ok (.iaload, 1) := by decide +kernel
theorem dX7_takesNumber_45 : decode cX7_takesNumber 45 = .ok (.iadd, 1) := by decide +kernel
theorem dX7_takesNumber_46 : decode cX7_takesNumber 46 = .ok (.bipush 48, 2) := by decide +kernel
theorem dX7_takesNumber_48 : decode cX7_takesNumber 48 = .ok (.isub, 1) := by decide +kernel
theorem dX7_takesNumber_49 : decode cX7_takesNumber 49 = .ok (.istore 5, 2) := by decide +kernel
theorem dX7_takesNumber_51 : decode cX7_takesNumber 51 = .ok (.aload_n 0, 1) := by decide +kernel
theorem dX7_takesNumber_52 : decode cX7_takesNumber 52 = .ok (.dup, 1) := by decide +kernel
theorem dX7_takesNumber_53 : decode cX7_takesNumber 53 = .ok (.getfield 131, 3) := by decide +kernel
theorem dX7_takesNumber_56 : decode cX7_takesNumber 56 = .ok (.iconst 1, 1) := by decide +kernel
theorem dX7_takesNumber_57 : decode cX7_takesNumber 57 = .ok (.iadd, 1) := by decide +kernel
theorem dX7_takesNumber_58 : decode cX7_takesNumber 58 = .ok (.putfield 131, 3) := by decide +kernel
theorem dX7_takesNumber_61 : decode cX7_takesNumber 61 = .ok (.goto (-52), 3) := by decide +kernel
theorem dX7_takesNumber_64 : decode cX7_takesNumber 64 = .ok (.aload_n 0, 1) := by decide +kernel
theorem dX7_takesNumber_65 : decode cX7_takesNumber 65 = .ok (.getfield 131, 3) := by decide +kernel
theorem dX7_takesNumber_68 : decode cX7_takesNumber 68 = .ok (.iload 4, 2) := by decide +kernel
theorem dX7_takesNumber_70 : decode cX7_takesNumber 70 = .ok (.if_icmp .eq 14, 3) := by decide +kernel
theorem dX7_takesNumber_73 : decode cX7_takesNumber 73 = .ok (.aload_n 0, 1) := by decide +kernel
theorem dX7_takesNumber_74 : decode cX7_takesNumber 74 = .ok (.bipush 48, 2) := by decide +kernel
theorem dX7_takesNumber_76 : decode cX7_takesNumber 76 = .ok (.bipush 57, 2) := by decide +kernel
theorem dX7_takesNumber_78 : decode cX7_takesNumber 78 = .ok (.invokevirtual 134, 3) := by decide +kernel
theorem dX7_takesNumber_81 : decode cX7_takesNumber 81 = .ok (.ifCond .eq 5, 3) := by decide +kernel
theorem dX7_takesNumber_84 : decode cX7_takesNumber 84 = .ok (.iconst 0, 1) := by decide +kernel
theorem dX7_takesNumber_85 : decode cX7_takesNumber 85 = .ok (.ireturn, 1) := by decide +kernel
theorem dX7_takesNumber_86 : decode cX7_takesNumber 86 = .ok (.aload_n 0, 1) := by decide +kernel
theorem dX7_takesNumber_87 : decode cX7_takesNumber 87 = .ok (.getfield 22, 3) := by decide +kernel
theorem dX7_takesNumber_90 : decode cX7_takesNumber 90 = .ok (.iload_n 1, 1) := by decide +kernel
theorem dX7_takesNumber_91 : decode cX7_takesNumber 91 = .ok (.iload 5, 2) := by decide +kernel
theorem dX7_takesNumber_93 : decode cX7_takesNumber 93 = .ok (.iastore, 1) := by decide +kernel
theorem dX7_takesNumber_94 : decode cX7_takesNumber 94 = .ok (.iload 5, 2) := by decide +kernel
theorem dX7_takesNumber_96 : decode cX7_takesNumber 96 = .ok (.iconst 1, 1) := by decide +kernel
theorem dX7_takesNumber_97 : decode cX7_takesNumber 97 = .ok (.iload_n 3, 1) := by decide +kernel
theorem dX7_takesNumber_98 : decode cX7_takesNumber 98 = .ok (.invokestatic 73, 3) := by decide +kernel
theorem dX7_takesNumber_101 : decode cX7_takesNumber 101 = .ok (.istore 6, 2) := by decide +kernel
theorem dX7_takesNumber_103 : decode cX7_takesNumber 103 = .ok (.aload_n 0, 1) := by decide +kernel
theorem dX7_takesNumber_104 : decode cX7_takesNumber 104 = .ok (.iload 6, 2) := by decide +kernel
theorem dX7_takesNumber_106 : decode cX7_takesNumber 106 = .ok (.ifCond .eq 10, 3) := by decide +kernel
theorem dX7_takesNumber_109 : decode cX7_takesNumber 109 = .ok (.aload_n 0, 1) := by decide +kernel
theorem dX7_takesNumber_110 : decode cX7_takesNumber 110 = .ok (.getfield 131, 3) := by decide +kernel
theorem dX7_takesNumber_113 : decode cX7_takesNumber 113 = .ok (.goto 5, 3) := by decide +kernel
theorem dX7_takesNumber_116 : decode cX7_takesNumber 116 = .ok (.iload 4, 2) := by decide +kernel
theorem dX7_takesNumber_118 : decode cX7_takesNumber 118 = .ok (.putfield 131, 3) := by decide +kernel
theorem dX7_takesNumber_121 : decode cX7_takesNumber 121 = .ok (.iload 6, 2) := by decide +kernel
theorem dX7_takesNumber_123 : decode cX7_takesNumber 123 = .ok (.ireturn, 1) := by decide +kernel
theorem dX7_takesOrder_0 : decode cX7_takesOrder 0 = .ok (.aload_n 0, 1) := by decide +kernel
theorem dX7_takesOrder_1 : decode cX7_takesOrder 1 = .ok (.getfield 19, 3) := by decide +kernel
theorem dX7_takesOrder_4 : decode cX7_takesOrder 4 = .ok (.aload_n 0, 1) := by decide +kernel
theorem dX7_takesOrder_5 : decode cX7_takesOrder 5 = .ok (.getfield 131, 3) := by decide +kernel
theorem dX7_takesOrder_8 : decode cX7_takesOrder 8 = .ok (.iaload, 1) := by decide +kernel
theorem dX7_takesOrder_9 : decode cX7_takesOrder 9 = .ok (.istore_n 1, 1) := by decide +kernel
theorem dX7_takesOrder_10 : decode cX7_takesOrder 10 = .ok (.iload_n 1, 1) := by decide +kernel
theorem dX7_takesOrder_11 : decode cX7_takesOrder 11 = .ok (.bipush 115, 2) := by decide +kernel
theorem dX7_takesOrder_13 : decode cX7_takesOrder 13 = .ok (.if_icmp .eq 23, 3) := by decide +kernel
theorem dX7_takesOrder_16 : decode cX7_takesOrder 16 = .ok (.iload_n 1, 1) := by decide +kernel
theorem dX7_takesOrder_17 : decode cX7_takesOrder 17 = .ok (.bipush 112, 2) := by decide +kernel
theorem dX7_takesOrder_19 : decode cX7_takesOrder 19 = .ok (.if_icmp .eq 17, 3) := by decide +kernel
theorem dX7_takesOrder_22 : decode cX7_takesOrder 22 = .ok (.iload_n 1, 1) := by decide +kernel
theorem dX7_takesOrder_23 : decode cX7_takesOrder 23 = .ok (.bipush 98, 2) := by decide +kernel
theorem dX7_takesOrder_25 : decode cX7_takesOrder 25 = .ok (.if_icmp .eq 11, 3) := by decide +kernel
theorem dX7_takesOrder_28 : decode cX7_takesOrder 28 = .ok (.iload_n 1, 1) := by decide +kernel
theorem dX7_takesOrder_29 : decode cX7_takesOrder 29 = .ok (.bipush 116, 2) := by decide +kernel
theorem dX7_takesOrder_31 : decode cX7_takesOrder 31 = .ok (.if_icmp .eq 5, 3) := by decide +kernel
theorem dX7_takesOrder_34 : decode cX7_takesOrder 34 = .ok (.iconst 0, 1) := by decide +kernel
theorem dX7_takesOrder_35 : decode cX7_takesOrder 35 = .ok (.ireturn, 1) := by decide +kernel
theorem dX7_takesOrder_36 : decode cX7_takesOrder 36 = .ok (.aload_n 0, 1) := by decide +kernel
theorem dX7_takesOrder_37 : decode cX7_takesOrder 37 = .ok (.dup, 1) := by decide +kernel
theorem dX7_takesOrder_38 : decode cX7_takesOrder 38 = .ok (.getfield 131, 3) := by decide +kernel
theorem dX7_takesOrder_41 : decode cX7_takesOrder 41 = .ok (.iconst 1, 1) := by decide +kernel
theorem dX7_takesOrder_42 : decode cX7_takesOrder 42 = .ok (.iadd, 1) := by decide +kernel
theorem dX7_takesOrder_43 : decode cX7_takesOrder 43 = .ok (.putfield 131, 3) := by decide +kernel
theorem dX7_takesOrder_46 : decode cX7_takesOrder 46 = .ok (.iconst 1, 1) := by decide +kernel
theorem dX7_takesOrder_47 : decode cX7_takesOrder 47 = .ok (.istore_n 2, 1) := by decide +kernel
theorem dX7_takesOrder_48 : decode cX7_takesOrder 48 = .ok (.aload_n 0, 1) := by decide +kernel
theorem dX7_takesOrder_49 : decode cX7_takesOrder 49 = .ok (.getfield 22, 3) := by decide +kernel
theorem dX7_takesOrder_52 : decode cX7_takesOrder 52 = .ok (.iconst 3, 1) := by decide +kernel
theorem dX7_takesOrder_53 : decode cX7_takesOrder 53 = .ok (.iconst 0, 1) := by decide +kernel
theorem dX7_takesOrder_54 : decode cX7_takesOrder 54 = .ok (.iastore, 1) := by decide +kernel
theorem dX7_takesOrder_55 : decode cX7_takesOrder 55 = .ok (.iload_n 1, 1) := by decide +kernel
theorem dX7_takesOrder_56 : decode cX7_takesOrder 56 = .ok (.bipush 112, 2) := by decide +kernel
theorem dX7_takesOrder_58 : decode cX7_takesOrder 58 = .ok (.if_icmp .eq 9, 3) := by decide +kernel
theorem dX7_takesOrder_61 : decode cX7_takesOrder 61 = .ok (.iload_n 1, 1) := by decide +kernel
theorem dX7_takesOrder_62 : decode cX7_takesOrder 62 = .ok (.bipush 98, 2) := by decide +kernel
theorem dX7_takesOrder_64 : decode cX7_takesOrder 64 = .ok (.if_icmp .ne 49, 3) := by decide +kernel
theorem dX7_takesOrder_67 : decode cX7_takesOrder 67 = .ok (.aload_n 0, 1) := by decide +kernel
theorem dX7_takesOrder_68 : decode cX7_takesOrder 68 = .ok (.iconst 0, 1) := by decide +kernel
theorem dX7_takesOrder_69 : decode cX7_takesOrder 69 = .ok (.bipush 7, 2) := by decide +kernel
theorem dX7_takesOrder_71 : decode cX7_takesOrder 71 = .ok (.invokevirtual 137, 3) := by decide +kernel
theorem dX7_takesOrder_74 : decode cX7_takesOrder 74 = .ok (.ifCond .eq 37, 3) := by decide +kernel
theorem dX7_takesOrder_77 : decode cX7_takesOrder 77 = .ok (.aload_n 0, 1) := by decide +kernel
theorem dX7_takesOrder_78 : decode cX7_takesOrder 78 = .ok (.iconst 1, 1) := by decide +kernel
theorem dX7_takesOrder_79 : decode cX7_takesOrder 79 = .ok (.iconst 4, 1) := by decide +kernel
theorem dX7_takesOrder_80 : decode cX7_takesOrder 80 = .ok (.invokevirtual 137, 3) := by decide +kernel
theorem dX7_takesOrder_83 : decode cX7_takesOrder 83 = .ok (.ifCond .eq 28, 3) := by decide +kernel
theorem dX7_takesOrder_86 : decode cX7_takesOrder 86 = .ok (.aload_n 0, 1) := by decide +kernel
theorem dX7_takesOrder_87 : decode cX7_takesOrder 87 = .ok (.bipush 44, 2) := by decide +kernel
theorem dX7_takesOrder_89 : decode cX7_takesOrder 89 = .ok (.invokevirtual 140, 3) := by decide +kernel
theorem dX7_takesOrder_92 : decode cX7_takesOrder 92 = .ok (.ifCond .eq 19, 3) := by decide +kernel
theorem dX7_takesOrder_95 : decode cX7_takesOrder 95 = .ok (.aload_n 0, 1) := by decide +kernel
theorem dX7_takesOrder_96 : decode cX7_takesOrder 96 = .ok (.iconst 2, 1) := by decide +kernel
theorem dX7_takesOrder_97 : decode cX7_takesOrder 97 = .ok (.iconst 3, 1) := by decide +kernel
theorem dX7_takesOrder_98 : decode cX7_takesOrder 98 = .ok (.sipush 200, 3) := by decide +kernel
theorem dX7_takesOrder_101 : decode cX7_takesOrder 101 = .ok (.invokevirtual 143, 3) := by decide +kernel
theorem dX7_takesOrder_104 : decode cX7_takesOrder 104 = .ok (.ifCond .eq 7, 3) := by decide +kernel
theorem dX7_takesOrder_107 : decode cX7_takesOrder 107 = .ok (.iconst 1, 1) := by decide +kernel
theorem dX7_takesOrder_108 : decode cX7_takesOrder 108 = .ok (.goto 4, 3) := by decide +kernel
theorem dX7_takesOrder_111 : decode cX7_takesOrder 111 = .ok (.iconst 0, 1) := by decide +kernel
theorem dX7_takesOrder_112 : decode cX7_takesOrder 112 = .ok (.istore_n 2, 1) := by decide +kernel
theorem dX7_takesOrder_113 : decode cX7_takesOrder 113 = .ok (.iload_n 1, 1) := by decide +kernel
theorem dX7_takesOrder_114 : decode cX7_takesOrder 114 = .ok (.bipush 98, 2) := by decide +kernel
theorem dX7_takesOrder_116 : decode cX7_takesOrder 116 = .ok (.if_icmp .ne 33, 3) := by decide +kernel
theorem dX7_takesOrder_119 : decode cX7_takesOrder 119 = .ok (.iload_n 2, 1) := by decide +kernel
theorem dX7_takesOrder_120 : decode cX7_takesOrder 120 = .ok (.ifCond .eq 27, 3) := by decide +kernel
theorem dX7_takesOrder_123 : decode cX7_takesOrder 123 = .ok (.aload_n 0, 1) := by decide +kernel
theorem dX7_takesOrder_124 : decode cX7_takesOrder 124 = .ok (.bipush 44, 2) := by decide +kernel
theorem dX7_takesOrder_126 : decode cX7_takesOrder 126 = .ok (.invokevirtual 140, 3) := by decide +kernel
theorem dX7_takesOrder_129 : decode cX7_takesOrder 129 = .ok (.ifCond .eq 18, 3) := by decide +kernel
theorem dX7_takesOrder_132 : decode cX7_takesOrder 132 = .ok (.aload_n 0, 1) := by decide +kernel
theorem dX7_takesOrder_133 : decode cX7_takesOrder 133 = .ok (.iconst 3, 1) := by decide +kernel
theorem dX7_takesOrder_134 : decode cX7_takesOrder 134 = .ok (.iconst 3, 1) := by decide +kernel
theorem dX7_takesOrder_135 : decode cX7_takesOrder 135 = .ok (.bipush 100, 2) := by decide +kernel
theorem dX7_takesOrder_137 : decode cX7_takesOrder 137 = .ok (.invokevirtual 143, 3) := by decide +kernel
theorem dX7_takesOrder_140 : decode cX7_takesOrder 140 = .ok (.ifCond .eq 7, 3) := by decide +kernel
theorem dX7_takesOrder_143 : decode cX7_takesOrder 143 = .ok (.iconst 1, 1) := by decide +kernel
theorem dX7_takesOrder_144 : decode cX7_takesOrder 144 = .ok (.goto 4, 3) := by decide +kernel
theorem dX7_takesOrder_147 : decode cX7_takesOrder 147 = .ok (.iconst 0, 1) := by decide +kernel
theorem dX7_takesOrder_148 : decode cX7_takesOrder 148 = .ok (.istore_n 2, 1) := by decide +kernel
theorem dX7_takesOrder_149 : decode cX7_takesOrder 149 = .ok (.iload_n 1, 1) := by decide +kernel
theorem dX7_takesOrder_150 : decode cX7_takesOrder 150 = .ok (.bipush 116, 2) := by decide +kernel
theorem dX7_takesOrder_152 : decode cX7_takesOrder 152 = .ok (.if_icmp .ne 12, 3) := by decide +kernel
theorem dX7_takesOrder_155 : decode cX7_takesOrder 155 = .ok (.aload_n 0, 1) := by decide +kernel
theorem dX7_takesOrder_156 : decode cX7_takesOrder 156 = .ok (.iconst 0, 1) := by decide +kernel
theorem dX7_takesOrder_157 : decode cX7_takesOrder 157 = .ok (.iconst 2, 1) := by decide +kernel
theorem dX7_takesOrder_158 : decode cX7_takesOrder 158 = .ok (.bipush 50, 2) := by decide +kernel
theorem dX7_takesOrder_160 : decode cX7_takesOrder 160 = .ok (.invokevirtual 143, 3) := by decide +kernel
theorem dX7_takesOrder_163 : decode cX7_takesOrder 163 = .ok (.istore_n 2, 1) := by decide +kernel
theorem dX7_takesOrder_164 : decode cX7_takesOrder 164 = .ok (.iload_n 2, 1) := by decide +kernel
theorem dX7_takesOrder_165 : decode cX7_takesOrder 165 = .ok (.ifCond .eq 16, 3) := by decide +kernel
theorem dX7_takesOrder_168 : decode cX7_takesOrder 168 = .ok (.aload_n 0, 1) := by decide +kernel
theorem dX7_takesOrder_169 : decode cX7_takesOrder 169 = .ok (.bipush 59, 2) := by decide +kernel
theorem dX7_takesOrder_171 : decode cX7_takesOrder 171 = .ok (.invokevirtual 140, 3) := by decide +kernel
theorem dX7_takesOrder_174 : decode cX7_takesOrder 174 = .ok (.ifCond .eq 7, 3) := by decide +kernel
theorem dX7_takesOrder_177 : decode cX7_takesOrder 177 = .ok (.iconst 1, 1) := by decide +kernel
theorem dX7_takesOrder_178 : decode cX7_takesOrder 178 = .ok (.goto 4, 3) := by decide +kernel
theorem dX7_takesOrder_181 : decode cX7_takesOrder 181 = .ok (.iconst 0, 1) := by decide +kernel
theorem dX7_takesOrder_182 : decode cX7_takesOrder 182 = .ok (.ireturn, 1) := by decide +kernel
theorem dX7_does_0 : decode cX7_does 0 = .ok (.iload_n 1, 1) := by decide +kernel
theorem dX7_does_1 : decode cX7_does 1 = .ok (.bipush 115, 2) := by decide +kernel
theorem dX7_does_3 : decode cX7_does 3 = .ok (.if_icmp .ne 25, 3) := by decide +kernel
theorem dX7_does_6 : decode cX7_does 6 = .ok (.aload_n 0, 1) := by decide +kernel
theorem dX7_does_7 : decode cX7_does 7 = .ok (.getfield 7, 3) := by decide +kernel
theorem dX7_does_10 : decode cX7_does 10 = .ok (.iconst 1, 1) := by decide +kernel
theorem dX7_does_11 : decode cX7_does 11 = .ok (.iaload, 1) := by decide +kernel
theorem dX7_does_12 : decode cX7_does 12 = .ok (.ifCond .le 14, 3) := by decide +kernel
theorem dX7_does_15 : decode cX7_does 15 = .ok (.aload_n 0, 1) := by decide +kernel
theorem dX7_does_16 : decode cX7_does 16 = .ok (.invokevirtual 103, 3) := by decide +kernel
theorem dX7_does_19 : decode cX7_does 19 = .ok (.ifCond .lt 7, 3) := by decide +kernel
theorem dX7_does_22 : decode cX7_does 22 = .ok (.iconst 1, 1) := by decide +kernel
theorem dX7_does_23 : decode cX7_does 23 = .ok (.goto 4, 3) := by decide +kernel
theorem dX7_does_26 : decode cX7_does 26 = .ok (.iconst 0, 1) := by decide +kernel
theorem dX7_does_27 : decode cX7_does 27 = .ok (.ireturn, 1) := by decide +kernel
theorem dX7_does_28 : decode cX7_does 28 = .ok (.iload_n 1, 1) := by decide +kernel
theorem dX7_does_29 : decode cX7_does 29 = .ok (.bipush 116, 2) := by decide +kernel
theorem dX7_does_31 : decode cX7_does 31 = .ok (.if_icmp .ne 40, 3) := by decide +kernel
theorem dX7_does_34 : decode cX7_does 34 = .ok (.aload_n 0, 1) := by decide +kernel
theorem dX7_does_35 : decode cX7_does 35 = .ok (.getfield 7, 3) := by decide +kernel
theorem dX7_does_38 : decode cX7_does 38 = .ok (.iconst 0, 1) := by decide +kernel
theorem dX7_does_39 : decode cX7_does 39 = .ok (.iaload, 1) := by decide +kernel
theorem dX7_does_40 : decode cX7_does 40 = .ok (.aload_n 0, 1) := by decide +kernel
theorem dX7_does_41 : decode cX7_does 41 = .ok (.getfield 22, 3) := by decide +kernel
theorem dX7_does_44 : decode cX7_does 44 = .ok (.iconst 0, 1) := by decide +kernel
theorem dX7_does_45 : decode cX7_does 45 = .ok (.iaload, 1) := by decide +kernel
theorem dX7_does_46 : decode cX7_does 46 = .ok (.iadd, 1) := by decide +kernel
theorem dX7_does_47 : decode cX7_does 47 = .ok (.ldc 106, 2) := by decide +kernel
theorem dX7_does_49 : decode cX7_does 49 = .ok (.if_icmp .gt 20, 3) := by decide +kernel
theorem dX7_does_52 : decode cX7_does 52 = .ok (.aload_n 0, 1) := by decide +kernel
theorem dX7_does_53 : decode cX7_does 53 = .ok (.aload_n 0, 1) := by decide +kernel
theorem dX7_does_54 : decode cX7_does 54 = .ok (.getfield 22, 3) := by decide +kernel
theorem dX7_does_57 : decode cX7_does 57 = .ok (.iconst 0, 1) := by decide +kernel
theorem dX7_does_58 : decode cX7_does 58 = .ok (.iaload, 1) := by decide +kernel
theorem dX7_does_59 : decode cX7_does 59 = .ok (.invokevirtual 107, 3) := by decide +kernel
theorem dX7_does_62 : decode cX7_does 62 = .ok (.ifCond .lt 7, 3) := by decide +kernel
theorem dX7_does_65 : decode cX7_does 65 = .ok (.iconst 1, 1) := by decide +kernel
theorem dX7_does_66 : decode cX7_does 66 = .ok (.goto 4, 3) := by decide +kernel
theorem dX7_does_69 : decode cX7_does 69 = .ok (.iconst 0, 1) := by decide +kernel
theorem dX7_does_70 : decode cX7_does 70 = .ok (.ireturn, 1) := by decide +kernel
theorem dX7_does_71 : decode cX7_does 71 = .ok (.aload_n 0, 1) := by decide +kernel
theorem dX7_does_72 : decode cX7_does 72 = .ok (.aload_n 0, 1) := by decide +kernel
theorem dX7_does_73 : decode cX7_does 73 = .ok (.getfield 22, 3) := by decide +kernel
theorem dX7_does_76 : decode cX7_does 76 = .ok (.iconst 0, 1) := by decide +kernel
theorem dX7_does_77 : decode cX7_does 77 = .ok (.iaload, 1) := by decide +kernel
theorem dX7_does_78 : decode cX7_does 78 = .ok (.iconst (-1), 1) := by decide +kernel
theorem dX7_does_79 : decode cX7_does 79 = .ok (.invokevirtual 87, 3) := by decide +kernel
theorem dX7_does_82 : decode cX7_does 82 = .ok (.ifCond .eq 39, 3) := by decide +kernel
theorem dX7_does_85 : decode cX7_does 85 = .ok (.aload_n 0, 1) := by decide +kernel
theorem dX7_does_86 : decode cX7_does 86 = .ok (.aload_n 0, 1) := by decide +kernel
theorem dX7_does_87 : decode cX7_does 87 = .ok (.getfield 22, 3) := by decide +kernel
theorem dX7_does_90 : decode cX7_does 90 = .ok (.iconst 0, 1) := by decide +kernel
theorem dX7_does_91 : decode cX7_does 91 = .ok (.iaload, 1) := by decide +kernel
theorem dX7_does_92 : decode cX7_does 92 = .ok (.iconst (-1), 1) := by decide +kernel
theorem dX7_does_93 : decode cX7_does 93 = .ok (.aload_n 0, 1) := by decide +kernel
theorem dX7_does_94 : decode cX7_does 94 = .ok (.getfield 22, 3) := by decide +kernel
theorem dX7_does_97 : decode cX7_does 97 = .ok (.iconst 1, 1) := by decide +kernel
theorem dX7_does_98 : decode cX7_does 98 = .ok (.iaload, 1) := by decide +kernel
theorem dX7_does_99 : decode cX7_does 99 = .ok (.aload_n 0, 1) := by decide +kernel
theorem dX7_does_100 : decode cX7_does 100 = .ok (.getfield 22, 3) := by decide +kernel
theorem dX7_does_103 : decode cX7_does 103 = .ok (.iconst 2, 1) := by decide +kernel
theorem dX7_does_104 : decode cX7_does 104 = .ok (.iaload, 1) := by decide +kernel
theorem dX7_does_105 : decode cX7_does 105 = .ok (.aload_n 0, 1) := by decide +kernel
theorem dX7_does_106 : decode cX7_does 106 = .ok (.getfield 22, 3) := by decide +kernel
theorem dX7_does_109 : decode cX7_does 109 = .ok (.iconst 3, 1) := by decide +kernel
theorem dX7_does_110 : decode cX7_does 110 = .ok (.iaload, 1) := by decide +kernel
theorem dX7_does_111 : decode cX7_does 111 = .ok (.invokevirtual 90, 3) := by decide +kernel
theorem dX7_does_114 : decode cX7_does 114 = .ok (.ifCond .lt 7, 3) := by decide +kernel
theorem dX7_does_117 : decode cX7_does 117 = .ok (.iconst 1, 1) := by decide +kernel
theorem dX7_does_118 : decode cX7_does 118 = .ok (.goto 4, 3) := by decide +kernel
theorem dX7_does_121 : decode cX7_does 121 = .ok (.iconst 0, 1) := by decide +kernel
theorem dX7_does_122 : decode cX7_does 122 = .ok (.ireturn, 1) := by decide +kernel
theorem dX7_carryOut_0 : decode cX7_carryOut 0 = .ok (.aload_n 0, 1) := by decide +kernel
theorem dX7_carryOut_1 : decode cX7_carryOut 1 = .ok (.iconst 0, 1) := by decide +kernel
theorem dX7_carryOut_2 : decode cX7_carryOut 2 = .ok (.putfield 131, 3) := by decide +kernel
theorem dX7_carryOut_5 : decode cX7_carryOut 5 = .ok (.aload_n 0, 1) := by decide +kernel
theorem dX7_carryOut_6 : decode cX7_carryOut 6 = .ok (.getfield 131, 3) := by decide +kernel
theorem dX7_carryOut_9 : decode cX7_carryOut 9 = .ok (.aload_n 0, 1) := by decide +kernel
theorem dX7_carryOut_10 : decode cX7_carryOut 10 = .ok (.getfield 128, 3) := by decide +kernel
theorem dX7_carryOut_13 : decode cX7_carryOut 13 = .ok (.if_icmp .ge 22, 3) := by decide +kernel
theorem dX7_carryOut_16 : decode cX7_carryOut 16 = .ok (.aload_n 0, 1) := by decide +kernel
theorem dX7_carryOut_17 : decode cX7_carryOut 17 = .ok (.invokevirtual 146, 3) := by decide +kernel
theorem dX7_carryOut_20 : decode cX7_carryOut 20 = .ok (.ifCond .ne (-15), 3) := by decide +kernel
theorem dX7_carryOut_23 : decode cX7_carryOut 23 = .ok (.aload_n 0, 1) := by decide +kernel
theorem dX7_carryOut_24 : decode cX7_carryOut 24 = .ok (.bipush (-10), 2) := by decide +kernel
theorem dX7_carryOut_26 : decode cX7_carryOut 26 = .ok (.aload_n 0, 1) := by decide +kernel
theorem dX7_carryOut_27 : decode cX7_carryOut 27 = .ok (.getfield 131, 3) := by decide +kernel
theorem dX7_carryOut_30 : decode cX7_carryOut 30 = .ok (.isub, 1) := by decide +kernel
theorem dX7_carryOut_31 : decode cX7_carryOut 31 = .ok (.invokevirtual 70, 3) := by decide +kernel
theorem dX7_carryOut_34 : decode cX7_carryOut 34 = .ok (.ireturn, 1) := by decide +kernel
theorem dX7_carryOut_35 : decode cX7_carryOut 35 = .ok (.aload_n 0, 1) := by decide +kernel
theorem dX7_carryOut_36 : decode cX7_carryOut 36 = .ok (.invokevirtual 67, 3) := by decide +kernel
theorem dX7_carryOut_39 : decode cX7_carryOut 39 = .ok (.aload_n 0, 1) := by decide +kernel
theorem dX7_carryOut_40 : decode cX7_carryOut 40 = .ok (.iconst 0, 1) := by decide +kernel
theorem dX7_carryOut_41 : decode cX7_carryOut 41 = .ok (.putfield 131, 3) := by decide +kernel
theorem dX7_carryOut_44 : decode cX7_carryOut 44 = .ok (.iconst 0, 1) := by decide +kernel
theorem dX7_carryOut_45 : decode cX7_carryOut 45 = .ok (.istore_n 1, 1) := by decide +kernel
theorem dX7_carryOut_46 : decode cX7_carryOut 46 = .ok (.iconst 1, 1) := by decide +kernel
theorem dX7_carryOut_47 : decode cX7_carryOut 47 = .ok (.istore_n 2, 1) := by decide +kernel
theorem dX7_carryOut_48 : decode cX7_carryOut 48 = .ok (.iload_n 2, 1) := by decide +kernel
theorem dX7_carryOut_49 : decode cX7_carryOut 49 = .ok (.ifCond .eq 60, 3) := by decide +kernel
theorem dX7_carryOut_52 : decode cX7_carryOut 52 = .ok (.aload_n 0, 1) := by decide +kernel
theorem dX7_carryOut_53 : decode cX7_carryOut 53 = .ok (.getfield 131, 3) := by decide +kernel
theorem dX7_carryOut_56 : decode cX7_carryOut 56 = .ok (.aload_n 0, 1) := by decide +kernel
theorem dX7_carryOut_57 : decode cX7_carryOut 57 = .ok (.getfield 128, 3) := by decide +kernel
theorem dX7_carryOut_60 : decode cX7_carryOut 60 = .ok (.if_icmp .ge 49, 3) := by decide +kernel
theorem dX7_carryOut_63 : decode cX7_carryOut 63 = .ok (.aload_n 0, 1) := by decide +kernel
theorem dX7_carryOut_64 : decode cX7_carryOut 64 = .ok (.getfield 19, 3) := by decide +kernel
theorem dX7_carryOut_67 : decode cX7_carryOut 67 = .ok (.aload_n 0, 1) := by decide +kernel
theorem dX7_carryOut_68 : decode cX7_carryOut 68 = .ok (.getfield 131, 3) := by decide +kernel
theorem dX7_carryOut_71 : decode cX7_carryOut 71 = .ok (.iaload, 1) := by decide +kernel
theorem dX7_carryOut_72 : decode cX7_carryOut 72 = .ok (.istore_n 3, 1) := by decide +kernel
theorem dX7_carryOut_73 : decode cX7_carryOut 73 = .ok (.aload_n 0, 1) := by decide +kernel
theorem dX7_carryOut_74 : decode cX7_carryOut 74 = .ok (.invokevirtual 146, 3) := by decide +kernel
theorem dX7_carryOut_77 : decode cX7_carryOut 77 = .ok (.ifCond .eq 15, 3) := by decide +kernel
theorem dX7_carryOut_80 : decode cX7_carryOut 80 = .ok (.aload_n 0, 1) := by decide +kernel
theorem dX7_carryOut_81 : decode cX7_carryOut 81 = .ok (.iload_n 3, 1) := by decide +kernel
theorem dX7_carryOut_82 : decode cX7_carryOut 82 = .ok (.invokevirtual 150, 3) := by decide +kernel
theorem dX7_carryOut_85 : decode cX7_carryOut 85 = .ok (.ifCond .eq 7, 3) := by decide +kernel
theorem dX7_carryOut_88 : decode cX7_carryOut 88 = .ok (.iconst 1, 1) := by decide +kernel
theorem dX7_carryOut_89 : decode cX7_carryOut 89 = .ok (.goto 4, 3) := by decide +kernel
theorem dX7_carryOut_92 : decode cX7_carryOut 92 = .ok (.iconst 0, 1) := by decide +kernel
theorem dX7_carryOut_93 : decode cX7_carryOut 93 = .ok (.istore_n 2, 1) := by decide +kernel
theorem dX7_carryOut_94 : decode cX7_carryOut 94 = .ok (.iload_n 1, 1) := by decide +kernel
theorem dX7_carryOut_95 : decode cX7_carryOut 95 = .ok (.iload_n 2, 1) := by decide +kernel
theorem dX7_carryOut_96 : decode cX7_carryOut 96 = .ok (.ifCond .eq 7, 3) := by decide +kernel
theorem dX7_carryOut_99 : decode cX7_carryOut 99 = .ok (.iconst 1, 1) := by decide +kernel
theorem dX7_carryOut_100 : decode cX7_carryOut 100 = .ok (.goto 4, 3) := by decide +kernel
theorem dX7_carryOut_103 : decode cX7_carryOut 103 = .ok (.iconst 0, 1) := by decide +kernel
theorem dX7_carryOut_104 : decode cX7_carryOut 104 = .ok (.iadd, 1) := by decide +kernel
theorem dX7_carryOut_105 : decode cX7_carryOut 105 = .ok (.istore_n 1, 1) := by decide +kernel
theorem dX7_carryOut_106 : decode cX7_carryOut 106 = .ok (.goto (-58), 3) := by decide +kernel
theorem dX7_carryOut_109 : decode cX7_carryOut 109 = .ok (.aload_n 0, 1) := by decide +kernel
theorem dX7_carryOut_110 : decode cX7_carryOut 110 = .ok (.iload_n 1, 1) := by decide +kernel
theorem dX7_carryOut_111 : decode cX7_carryOut 111 = .ok (.invokevirtual 70, 3) := by decide +kernel
theorem dX7_carryOut_114 : decode cX7_carryOut 114 = .ok (.ireturn, 1) := by decide +kernel
theorem dX7_undo_0 : decode cX7_undo 0 = .ok (.aload_n 0, 1) := by decide +kernel
theorem dX7_undo_1 : decode cX7_undo 1 = .ok (.getfield 29, 3) := by decide +kernel
theorem dX7_undo_4 : decode cX7_undo 4 = .ok (.ifCond .ne 9, 3) := by decide +kernel
theorem dX7_undo_7 : decode cX7_undo 7 = .ok (.aload_n 0, 1) := by decide +kernel
theorem dX7_undo_8 : decode cX7_undo 8 = .ok (.iconst 1, 1) := by decide +kernel
theorem dX7_undo_9 : decode cX7_undo 9 = .ok (.invokevirtual 77, 3) := by decide +kernel
theorem dX7_undo_12 : decode cX7_undo 12 = .ok (.ireturn, 1) := by decide +kernel
theorem dX7_undo_13 : decode cX7_undo 13 = .ok (.aload_n 0, 1) := by decide +kernel
theorem dX7_undo_14 : decode cX7_undo 14 = .ok (.dup, 1) := by decide +kernel
theorem dX7_undo_15 : decode cX7_undo 15 = .ok (.getfield 29, 3) := by decide +kernel
theorem dX7_undo_18 : decode cX7_undo 18 = .ok (.iconst 1, 1) := by decide +kernel
theorem dX7_undo_19 : decode cX7_undo 19 = .ok (.isub, 1) := by decide +kernel
theorem dX7_undo_20 : decode cX7_undo 20 = .ok (.putfield 29, 3) := by decide +kernel
theorem dX7_undo_23 : decode cX7_undo 23 = .ok (.iconst 0, 1) := by decide +kernel
theorem dX7_undo_24 : decode cX7_undo 24 = .ok (.istore_n 1, 1) := by decide +kernel
theorem dX7_undo_25 : decode cX7_undo 25 = .ok (.iload_n 1, 1) := by decide +kernel
theorem dX7_undo_26 : decode cX7_undo 26 = .ok (.sipush 424, 3) := by decide +kernel
theorem dX7_undo_29 : decode cX7_undo 29 = .ok (.if_icmp .ge 30, 3) := by decide +kernel
theorem dX7_undo_32 : decode cX7_undo 32 = .ok (.aload_n 0, 1) := by decide +kernel
theorem dX7_undo_33 : decode cX7_undo 33 = .ok (.getfield 7, 3) := by decide +kernel
theorem dX7_undo_36 : decode cX7_undo 36 = .ok (.iload_n 1, 1) := by decide +kernel
theorem dX7_undo_37 : decode cX7_undo 37 = .ok (.aload_n 0, 1) := by decide +kernel
theorem dX7_undo_38 : decode cX7_undo 38 = .ok (.getfield 13, 3) := by decide +kernel
theorem dX7_undo_41 : decode cX7_undo 41 = .ok (.sipush 424, 3) := by decide +kernel
theorem dX7_undo_44 : decode cX7_undo 44 = .ok (.aload_n 0, 1) := by decide +kernel
theorem dX7_undo_45 : decode cX7_undo 45 = .ok (.getfield 29, 3) := by decide +kernel
theorem dX7_undo_48 : decode cX7_undo 48 = .ok (.imul, 1) := by decide +kernel
theorem dX7_undo_49 : decode cX7_undo 49 = .ok (.iload_n 1, 1) := by decide +kernel
theorem dX7_undo_50 : decode cX7_undo 50 = .ok (.iadd, 1) := by decide +kernel
theorem dX7_undo_51 : decode cX7_undo 51 = .ok (.iaload, 1) := by decide +kernel
theorem dX7_undo_52 : decode cX7_undo 52 = .ok (.iastore, 1) := by decide +kernel
theorem dX7_undo_53 : decode cX7_undo 53 = .ok (.iinc 1 1, 3) := by decide +kernel
theorem dX7_undo_56 : decode cX7_undo 56 = .ok (.goto (-31), 3) := by decide +kernel
theorem dX7_undo_59 : decode cX7_undo 59 = .ok (.aload_n 0, 1) := by decide +kernel
theorem dX7_undo_60 : decode cX7_undo 60 = .ok (.aload_n 0, 1) := by decide +kernel
theorem dX7_undo_61 : decode cX7_undo 61 = .ok (.getfield 29, 3) := by decide +kernel
theorem dX7_undo_64 : decode cX7_undo 64 = .ok (.invokevirtual 70, 3) := by decide +kernel
theorem dX7_undo_67 : decode cX7_undo 67 = .ok (.ireturn, 1) := by decide +kernel
theorem dX7_mix_0 : decode cX7_mix 0 = .ok (.aload_n 0, 1) := by decide +kernel
theorem dX7_mix_1 : decode cX7_mix 1 = .ok (.ldc2_w 153, 3) := by decide +kernel
theorem dX7_mix_4 : decode cX7_mix 4 = .ok (.aload_n 0, 1) := by decide +kernel
theorem dX7_mix_5 : decode cX7_mix 5 = .ok (.getfield 155, 3) := by decide +kernel
theorem dX7_mix_8 : decode cX7_mix 8 = .ok (.lmul, 1) := by decide +kernel
theorem dX7_mix_9 : decode cX7_mix 9 = .ok (.iload_n 1, 1) := by decide +kernel
theorem dX7_mix_10 : decode cX7_mix 10 = .ok (.i2l, 1) := by decide +kernel
theorem dX7_mix_11 : decode cX7_mix 11 = .ok (.ladd, 1) := by decide +kernel
theorem dX7_mix_12 : decode cX7_mix 12 = .ok (.putfield 155, 3) := by decide +kernel
theorem dX7_mix_15 : decode cX7_mix 15 = .ok (.return_, 1) := by decide +kernel
theorem dX7_digest_0 : decode cX7_digest 0 = .ok (.aload_n 0, 1) := by decide +kernel
theorem dX7_digest_1 : decode cX7_digest 1 = .ok (.iconst 0, 1) := by decide +kernel
theorem dX7_digest_2 : decode cX7_digest 2 = .ok (.putfield 25, 3) := by decide +kernel
theorem dX7_digest_5 : decode cX7_digest 5 = .ok (.aload_n 0, 1) := by decide +kernel
theorem dX7_digest_6 : decode cX7_digest 6 = .ok (.ldc2_w 159, 3) := by decide +kernel
theorem dX7_digest_9 : decode cX7_digest 9 = .ok (.putfield 155, 3) := by decide +kernel
theorem dX7_digest_12 : decode cX7_digest 12 = .ok (.aload_n 0, 1) := by decide +kernel
theorem dX7_digest_13 : decode cX7_digest 13 = .ok (.aload_n 0, 1) := by decide +kernel
theorem dX7_digest_14 : decode cX7_digest 14 = .ok (.getfield 128, 3) := by decide +kernel
theorem dX7_digest_17 : decode cX7_digest 17 = .ok (.invokevirtual 161, 3) := by decide +kernel
theorem dX7_digest_20 : decode cX7_digest 20 = .ok (.iconst 0, 1) := by decide +kernel
theorem dX7_digest_21 : decode cX7_digest 21 = .ok (.istore_n 1, 1) := by decide +kernel
theorem dX7_digest_22 : decode cX7_digest 22 = .ok (.iload_n 1, 1) := by decide +kernel
theorem dX7_digest_23 : decode cX7_digest 23 = .ok (.bipush 14, 2) := by decide +kernel
theorem dX7_digest_25 : decode cX7_digest 25 = .ok (.if_icmp .ge 18, 3) := by decide +kernel
theorem dX7_digest_28 : decode cX7_digest 28 = .ok (.aload_n 0, 1) := by decide +kernel
theorem dX7_digest_29 : decode cX7_digest 29 = .ok (.aload_n 0, 1) := by decide +kernel
theorem dX7_digest_30 : decode cX7_digest 30 = .ok (.iload_n 1, 1) := by decide +kernel
theorem dX7_digest_31 : decode cX7_digest 31 = .ok (.invokevirtual 119, 3) := by decide +kernel
theorem dX7_digest_34 : decode cX7_digest 34 = .ok (.invokevirtual 161, 3) := by decide +kernel
theorem dX7_digest_37 : decode cX7_digest 37 = .ok (.iinc 1 1, 3) := by decide +kernel
theorem dX7_digest_40 : decode cX7_digest 40 = .ok (.goto (-18), 3) := by decide +kernel
theorem dX7_digest_43 : decode cX7_digest 43 = .ok (.iconst 0, 1) := by decide +kernel
theorem dX7_digest_44 : decode cX7_digest 44 = .ok (.istore_n 1, 1) := by decide +kernel
theorem dX7_digest_45 : decode cX7_digest 45 = .ok (.iload_n 1, 1) := by decide +kernel
theorem dX7_digest_46 : decode cX7_digest 46 = .ok (.iconst 4, 1) := by decide +kernel
theorem dX7_digest_47 : decode cX7_digest 47 = .ok (.if_icmp .ge 22, 3) := by decide +kernel
theorem dX7_digest_50 : decode cX7_digest 50 = .ok (.aload_n 0, 1) := by decide +kernel
theorem dX7_digest_51 : decode cX7_digest 51 = .ok (.aload_n 0, 1) := by decide +kernel
theorem dX7_digest_52 : decode cX7_digest 52 = .ok (.getfield 7, 3) := by decide +kernel
theorem dX7_digest_55 : decode cX7_digest 55 = .ok (.bipush 12, 2) := by decide +kernel
theorem dX7_digest_57 : decode cX7_digest 57 = .ok (.iload_n 1, 1) := by decide +kernel
theorem dX7_digest_58 : decode cX7_digest 58 = .ok (.iadd, 1) := by decide +kernel
theorem dX7_digest_59 : decode cX7_digest 59 = .ok (.iaload, 1) := by decide +kernel
theorem dX7_digest_60 : decode cX7_digest 60 = .ok (.invokevirtual 161, 3) := by decide +kernel
theorem dX7_digest_63 : decode cX7_digest 63 = .ok (.iinc 1 1, 3) := by decide +kernel
theorem dX7_digest_66 : decode cX7_digest 66 = .ok (.goto (-21), 3) := by decide +kernel
theorem dX7_digest_69 : decode cX7_digest 69 = .ok (.iconst 0, 1) := by decide +kernel
theorem dX7_digest_70 : decode cX7_digest 70 = .ok (.istore_n 1, 1) := by decide +kernel
theorem dX7_digest_71 : decode cX7_digest 71 = .ok (.iload_n 1, 1) := by decide +kernel
theorem dX7_digest_72 : decode cX7_digest 72 = .ok (.bipush 8, 2) := by decide +kernel
theorem dX7_digest_74 : decode cX7_digest 74 = .ok (.if_icmp .ge 22, 3) := by decide +kernel
theorem dX7_digest_77 : decode cX7_digest 77 = .ok (.aload_n 0, 1) := by decide +kernel
theorem dX7_digest_78 : decode cX7_digest 78 = .ok (.aload_n 0, 1) := by decide +kernel
theorem dX7_digest_79 : decode cX7_digest 79 = .ok (.getfield 7, 3) := by decide +kernel
theorem dX7_digest_82 : decode cX7_digest 82 = .ok (.bipush 16, 2) := by decide +kernel
theorem dX7_digest_84 : decode cX7_digest 84 = .ok (.iload_n 1, 1) := by decide +kernel
theorem dX7_digest_85 : decode cX7_digest 85 = .ok (.iadd, 1) := by decide +kernel
theorem dX7_digest_86 : decode cX7_digest 86 = .ok (.iaload, 1) := by decide +kernel
theorem dX7_digest_87 : decode cX7_digest 87 = .ok (.invokevirtual 161, 3) := by decide +kernel
theorem dX7_digest_90 : decode cX7_digest 90 = .ok (.iinc 1 1, 3) := by decide +kernel
theorem dX7_digest_93 : decode cX7_digest 93 = .ok (.goto (-22), 3) := by decide +kernel
theorem dX7_digest_96 : decode cX7_digest 96 = .ok (.iconst 0, 1) := by decide +kernel
theorem dX7_digest_97 : decode cX7_digest 97 = .ok (.istore_n 1, 1) := by decide +kernel
theorem dX7_digest_98 : decode cX7_digest 98 = .ok (.iload_n 1, 1) := by decide +kernel
theorem dX7_digest_99 : decode cX7_digest 99 = .ok (.aload_n 0, 1) := by decide +kernel
theorem dX7_digest_100 : decode cX7_digest 100 = .ok (.getfield 7, 3) := by decide +kernel
theorem dX7_digest_103 : decode cX7_digest 103 = .ok (.iconst 1, 1) := by decide +kernel
theorem dX7_digest_104 : decode cX7_digest 104 = .ok (.iaload, 1) := by decide +kernel
theorem dX7_digest_105 : decode cX7_digest 105 = .ok (.if_icmp .ge 49, 3) := by decide +kernel
theorem dX7_digest_108 : decode cX7_digest 108 = .ok (.aload_n 0, 1) := by decide +kernel
theorem dX7_digest_109 : decode cX7_digest 109 = .ok (.iload_n 1, 1) := by decide +kernel
theorem dX7_digest_110 : decode cX7_digest 110 = .ok (.invokevirtual 57, 3) := by decide +kernel
theorem dX7_digest_113 : decode cX7_digest 113 = .ok (.istore_n 2, 1) := by decide +kernel
theorem dX7_digest_114 : decode cX7_digest 114 = .ok (.aload_n 0, 1) := by decide +kernel
theorem dX7_digest_115 : decode cX7_digest 115 = .ok (.aload_n 0, 1) := by decide +kernel
theorem dX7_digest_116 : decode cX7_digest 116 = .ok (.iload_n 2, 1) := by decide +kernel
theorem dX7_digest_117 : decode cX7_digest 117 = .ok (.iconst 0, 1) := by decide +kernel
theorem dX7_digest_118 : decode cX7_digest 118 = .ok (.invokevirtual 32, 3) := by decide +kernel
theorem dX7_digest_121 : decode cX7_digest 121 = .ok (.invokevirtual 161, 3) := by decide +kernel
theorem dX7_digest_124 : decode cX7_digest 124 = .ok (.iconst 0, 1) := by decide +kernel
theorem dX7_digest_125 : decode cX7_digest 125 = .ok (.istore_n 3, 1) := by decide +kernel
theorem dX7_digest_126 : decode cX7_digest 126 = .ok (.iload_n 3, 1) := by decide +kernel
theorem dX7_digest_127 : decode cX7_digest 127 = .ok (.bipush 10, 2) := by decide +kernel
theorem dX7_digest_129 : decode cX7_digest 129 = .ok (.if_icmp .ge 19, 3) := by decide +kernel
theorem dX7_digest_132 : decode cX7_digest 132 = .ok (.aload_n 0, 1) := by decide +kernel
theorem dX7_digest_133 : decode cX7_digest 133 = .ok (.aload_n 0, 1) := by decide +kernel
theorem dX7_digest_134 : decode cX7_digest 134 = .ok (.iload_n 2, 1) := by decide +kernel
theorem dX7_digest_135 : decode cX7_digest 135 = .ok (.iload_n 3, 1) := by decide +kernel
theorem dX7_digest_136 : decode cX7_digest 136 = .ok (.invokevirtual 110, 3) := by decide +kernel
theorem dX7_digest_139 : decode cX7_digest 139 = .ok (.invokevirtual 161, 3) := by decide +kernel
theorem dX7_digest_142 : decode cX7_digest 142 = .ok (.iinc 3 1, 3) := by decide +kernel
theorem dX7_digest_145 : decode cX7_digest 145 = .ok (.goto (-19), 3) := by decide +kernel
theorem dX7_digest_148 : decode cX7_digest 148 = .ok (.iinc 1 1, 3) := by decide +kernel
theorem dX7_digest_151 : decode cX7_digest 151 = .ok (.goto (-53), 3) := by decide +kernel
theorem dX7_digest_154 : decode cX7_digest 154 = .ok (.iconst 0, 1) := by decide +kernel
theorem dX7_digest_155 : decode cX7_digest 155 = .ok (.istore_n 1, 1) := by decide +kernel
theorem dX7_digest_156 : decode cX7_digest 156 = .ok (.iload_n 1, 1) := by decide +kernel
theorem dX7_digest_157 : decode cX7_digest 157 = .ok (.iconst 5, 1) := by decide +kernel
theorem dX7_digest_158 : decode cX7_digest 158 = .ok (.aload_n 0, 1) := by decide +kernel
theorem dX7_digest_159 : decode cX7_digest 159 = .ok (.getfield 7, 3) := by decide +kernel
theorem dX7_digest_162 : decode cX7_digest 162 = .ok (.bipush 11, 2) := by decide +kernel
theorem dX7_digest_164 : decode cX7_digest 164 = .ok (.iaload, 1) := by decide +kernel
theorem dX7_digest_165 : decode cX7_digest 165 = .ok (.imul, 1) := by decide +kernel
theorem dX7_digest_166 : decode cX7_digest 166 = .ok (.if_icmp .ge 22, 3) := by decide +kernel
theorem dX7_digest_169 : decode cX7_digest 169 = .ok (.aload_n 0, 1) := by decide +kernel
theorem dX7_digest_170 : decode cX7_digest 170 = .ok (.aload_n 0, 1) := by decide +kernel
theorem dX7_digest_171 : decode cX7_digest 171 = .ok (.getfield 7, 3) := by decide +kernel
theorem dX7_digest_174 : decode cX7_digest 174 = .ok (.bipush 24, 2) := by decide +kernel
theorem dX7_digest_176 : decode cX7_digest 176 = .ok (.iload_n 1, 1) := by decide +kernel
theorem dX7_digest_177 : decode cX7_digest 177 = .ok (.iadd, 1) := by decide +kernel
theorem dX7_digest_178 : decode cX7_digest 178 = .ok (.iaload, 1) := by decide +kernel
theorem dX7_digest_179 : decode cX7_digest 179 = .ok (.invokevirtual 161, 3) := by decide +kernel
theorem dX7_digest_182 : decode cX7_digest 182 = .ok (.iinc 1 1, 3) := by decide +kernel
theorem dX7_digest_185 : decode cX7_digest 185 = .ok (.goto (-29), 3) := by decide +kernel
theorem dX7_digest_188 : decode cX7_digest 188 = .ok (.aload_n 0, 1) := by decide +kernel
theorem dX7_digest_189 : decode cX7_digest 189 = .ok (.aload_n 0, 1) := by decide +kernel
theorem dX7_digest_190 : decode cX7_digest 190 = .ok (.getfield 29, 3) := by decide +kernel
theorem dX7_digest_193 : decode cX7_digest 193 = .ok (.invokevirtual 161, 3) := by decide +kernel
theorem dX7_digest_196 : decode cX7_digest 196 = .ok (.aload_n 0, 1) := by decide +kernel
theorem dX7_digest_197 : decode cX7_digest 197 = .ok (.getfield 155, 3) := by decide +kernel
theorem dX7_digest_200 : decode cX7_digest 200 = .ok (.lreturn, 1) := by decide +kernel
end
section
theorem dL_setPatience_0 : decode cL_setPatience 0 = .ok (.aload_n 3, 1) := by decide +kernel
theorem dL_setPatience_1 : decode cL_setPatience 1 = .ok (.iconst 0, 1) := by decide +kernel
theorem dL_setPatience_2 : decode cL_setPatience 2 = .ok (.aload_n 0, 1) := by decide +kernel
theorem dL_setPatience_3 : decode cL_setPatience 3 = .ok (.iload_n 1, 1) := by decide +kernel
theorem dL_setPatience_4 : decode cL_setPatience 4 = .ok (.iload_n 2, 1) := by decide +kernel
theorem dL_setPatience_5 : decode cL_setPatience 5 = .ok (.invokevirtual 7, 3) := by decide +kernel
theorem dL_setPatience_8 : decode cL_setPatience 8 = .ok (.i2l, 1) := by decide +kernel
theorem dL_setPatience_9 : decode cL_setPatience 9 = .ok (.lastore, 1) := by decide +kernel
theorem dL_setPatience_10 : decode cL_setPatience 10 = .ok (.goto 11, 3) := by decide +kernel
theorem dL_setPatience_13 : decode cL_setPatience 13 = .ok (.astore 4, 2) := by decide +kernel
theorem dL_setPatience_15 : decode cL_setPatience 15 = .ok (.iconst 1, 1) := by decide +kernel
theorem dL_setPatience_16 : decode cL_setPatience 16 = .ok (.ireturn, 1) := by decide +kernel
theorem dL_setPatience_17 : decode cL_setPatience 17 = .ok (.astore 4, 2) := by decide +kernel
theorem dL_setPatience_19 : decode cL_setPatience 19 = .ok (.iconst 2, 1) := by decide +kernel
theorem dL_setPatience_20 : decode cL_setPatience 20 = .ok (.ireturn, 1) := by decide +kernel
theorem dL_setPatience_21 : decode cL_setPatience 21 = .ok (.iconst 0, 1) := by decide +kernel
theorem dL_setPatience_22 : decode cL_setPatience 22 = .ok (.ireturn, 1) := by decide +kernel
theorem dL_setQuota_0 : decode cL_setQuota 0 = .ok (.aload_n 2, 1) := by decide +kernel
theorem dL_setQuota_1 : decode cL_setQuota 1 = .ok (.iconst 0, 1) := by decide +kernel
theorem dL_setQuota_2 : decode cL_setQuota 2 = .ok (.aload_n 0, 1) := by decide +kernel
theorem dL_setQuota_3 : decode cL_setQuota 3 = .ok (.iload_n 1, 1) := by decide +kernel
theorem dL_setQuota_4 : decode cL_setQuota 4 = .ok (.invokevirtual 17, 3) := by decide +kernel
theorem dL_setQuota_7 : decode cL_setQuota 7 = .ok (.i2l, 1) := by decide +kernel
theorem dL_setQuota_8 : decode cL_setQuota 8 = .ok (.lastore, 1) := by decide +kernel
theorem dL_setQuota_9 : decode cL_setQuota 9 = .ok (.goto 6, 3) := by decide +kernel
theorem dL_setQuota_12 : decode cL_setQuota 12 = .ok (.astore_n 3, 1) := by decide +kernel
theorem dL_setQuota_13 : decode cL_setQuota 13 = .ok (.iconst 1, 1) := by decide +kernel
theorem dL_setQuota_14 : decode cL_setQuota 14 = .ok (.ireturn, 1) := by decide +kernel
theorem dL_setQuota_15 : decode cL_setQuota 15 = .ok (.iconst 0, 1) := by decide +kernel
theorem dL_setQuota_16 : decode cL_setQuota 16 = .ok (.ireturn, 1) := by decide +kernel
theorem dL_setGrace_0 : decode cL_setGrace 0 = .ok (.aload_n 2, 1) := by decide +kernel
theorem dL_setGrace_1 : decode cL_setGrace 1 = .ok (.iconst 0, 1) := by decide +kernel
theorem dL_setGrace_2 : decode cL_setGrace 2 = .ok (.aload_n 0, 1) := by decide +kernel
theorem dL_setGrace_3 : decode cL_setGrace 3 = .ok (.iload_n 1, 1) := by decide +kernel
theorem dL_setGrace_4 : decode cL_setGrace 4 = .ok (.invokevirtual 21, 3) := by decide +kernel
theorem dL_setGrace_7 : decode cL_setGrace 7 = .ok (.i2l, 1) := by decide +kernel
theorem dL_setGrace_8 : decode cL_setGrace 8 = .ok (.lastore, 1) := by decide +kernel
theorem dL_setGrace_9 : decode cL_setGrace 9 = .ok (.goto 6, 3) := by decide +kernel
theorem dL_setGrace_12 : decode cL_setGrace 12 = .ok (.astore_n 3, 1) := by decide +kernel
theorem dL_setGrace_13 : decode cL_setGrace 13 = .ok (.iconst 1, 1) := by decide +kernel
theorem dL_setGrace_14 : decode cL_setGrace 14 = .ok (.ireturn, 1) := by decide +kernel
theorem dL_setGrace_15 : decode cL_setGrace 15 = .ok (.iconst 0, 1) := by decide +kernel
theorem dL_setGrace_16 : decode cL_setGrace 16 = .ok (.ireturn, 1) := by decide +kernel
theorem dL_send_0 : decode cL_send 0 = .ok (.aload 4, 2) := by decide +kernel
theorem dL_send_2 : decode cL_send 2 = .ok (.iconst 0, 1) := by decide +kernel
theorem dL_send_3 : decode cL_send 3 = .ok (.aload_n 0, 1) := by decide +kernel
theorem dL_send_4 : decode cL_send 4 = .ok (.iload_n 1, 1) := by decide +kernel
theorem dL_send_5 : decode cL_send 5 = .ok (.iload_n 2, 1) := by decide +kernel
theorem dL_send_6 : decode cL_send 6 = .ok (.iload_n 3, 1) := by decide +kernel
theorem dL_send_7 : decode cL_send 7 = .ok (.invokevirtual 24, 3) := by decide +kernel
theorem dL_send_10 : decode cL_send 10 = .ok (.i2l, 1) := by decide +kernel
theorem dL_send_11 : decode cL_send 11 = .ok (.lastore, 1) := by decide +kernel
theorem dL_send_12 : decode cL_send 12 = .ok (.goto 11, 3) := by decide +kernel
theorem dL_send_15 : decode cL_send 15 = .ok (.astore 5, 2) := by decide +kernel
theorem dL_send_17 : decode cL_send 17 = .ok (.iconst 1, 1) := by decide +kernel
theorem dL_send_18 : decode cL_send 18 = .ok (.ireturn, 1) := by decide +kernel
theorem dL_send_19 : decode cL_send 19 = .ok (.astore 5, 2) := by decide +kernel
theorem dL_send_21 : decode cL_send 21 = .ok (.iconst 2, 1) := by decide +kernel
theorem dL_send_22 : decode cL_send 22 = .ok (.ireturn, 1) := by decide +kernel
theorem dL_send_23 : decode cL_send 23 = .ok (.iconst 0, 1) := by decide +kernel
theorem dL_send_24 : decode cL_send 24 = .ok (.ireturn, 1) := by decide +kernel
theorem dL_sendBribed_0 : decode cL_sendBribed 0 = .ok (.aload 5, 2) := by decide +kernel
theorem dL_sendBribed_2 : decode cL_sendBribed 2 = .ok (.iconst 0, 1) := by decide +kernel
theorem dL_sendBribed_3 : decode cL_sendBribed 3 = .ok (.aload_n 0, 1) := by decide +kernel
theorem dL_sendBribed_4 : decode cL_sendBribed 4 = .ok (.iload_n 1, 1) := by decide +kernel
theorem dL_sendBribed_5 : decode cL_sendBribed 5 = .ok (.iload_n 2, 1) := by decide +kernel
theorem dL_sendBribed_6 : decode cL_sendBribed 6 = .ok (.iload_n 3, 1) := by decide +kernel
theorem dL_sendBribed_7 : decode cL_sendBribed 7 = .ok (.iload 4, 2) := by decide +kernel
theorem dL_sendBribed_9 : decode cL_sendBribed 9 = .ok (.invokevirtual 30, 3) := by decide +kernel
theorem dL_sendBribed_12 : decode cL_sendBribed 12 = .ok (.i2l, 1) := by decide +kernel
theorem dL_sendBribed_13 : decode cL_sendBribed 13 = .ok (.lastore, 1) := by decide +kernel
theorem dL_sendBribed_14 : decode cL_sendBribed 14 = .ok (.goto 11, 3) := by decide +kernel
theorem dL_sendBribed_17 : decode cL_sendBribed 17 = .ok (.astore 6, 2) := by decide +kernel
theorem dL_sendBribed_19 : decode cL_sendBribed 19 = .ok (.iconst 1, 1) := by decide +kernel
theorem dL_sendBribed_20 : decode cL_sendBribed 20 = .ok (.ireturn, 1) := by decide +kernel
theorem dL_sendBribed_21 : decode cL_sendBribed 21 = .ok (.astore 6, 2) := by decide +kernel
theorem dL_sendBribed_23 : decode cL_sendBribed 23 = .ok (.iconst 2, 1) := by decide +kernel
theorem dL_sendBribed_24 : decode cL_sendBribed 24 = .ok (.ireturn, 1) := by decide +kernel
theorem dL_sendBribed_25 : decode cL_sendBribed 25 = .ok (.iconst 0, 1) := by decide +kernel
theorem dL_sendBribed_26 : decode cL_sendBribed 26 = .ok (.ireturn, 1) := by decide +kernel
theorem dL_sendJoint_0 : decode cL_sendJoint 0 = .ok (.aload 5, 2) := by decide +kernel
theorem dL_sendJoint_2 : decode cL_sendJoint 2 = .ok (.iconst 0, 1) := by decide +kernel
theorem dL_sendJoint_3 : decode cL_sendJoint 3 = .ok (.aload_n 0, 1) := by decide +kernel
theorem dL_sendJoint_4 : decode cL_sendJoint 4 = .ok (.iload_n 1, 1) := by decide +kernel
theorem dL_sendJoint_5 : decode cL_sendJoint 5 = .ok (.iload_n 2, 1) := by decide +kernel
theorem dL_sendJoint_6 : decode cL_sendJoint 6 = .ok (.iload_n 3, 1) := by decide +kernel
theorem dL_sendJoint_7 : decode cL_sendJoint 7 = .ok (.iload 4, 2) := by decide +kernel
theorem dL_sendJoint_9 : decode cL_sendJoint 9 = .ok (.invokevirtual 34, 3) := by decide +kernel
theorem dL_sendJoint_12 : decode cL_sendJoint 12 = .ok (.i2l, 1) := by decide +kernel
theorem dL_sendJoint_13 : decode cL_sendJoint 13 = .ok (.lastore, 1) := by decide +kernel
theorem dL_sendJoint_14 : decode cL_sendJoint 14 = .ok (.goto 11, 3) := by decide +kernel
theorem dL_sendJoint_17 : decode cL_sendJoint 17 = .ok (.astore 6, 2) := by decide +kernel
theorem dL_sendJoint_19 : decode cL_sendJoint 19 = .ok (.iconst 1, 1) := by decide +kernel
theorem dL_sendJoint_20 : decode cL_sendJoint 20 = .ok (.ireturn, 1) := by decide +kernel
theorem dL_sendJoint_21 : decode cL_sendJoint 21 = .ok (.astore 6, 2) := by decide +kernel
theorem dL_sendJoint_23 : decode cL_sendJoint 23 = .ok (.iconst 2, 1) := by decide +kernel
theorem dL_sendJoint_24 : decode cL_sendJoint 24 = .ok (.ireturn, 1) := by decide +kernel
theorem dL_sendJoint_25 : decode cL_sendJoint 25 = .ok (.iconst 0, 1) := by decide +kernel
theorem dL_sendJoint_26 : decode cL_sendJoint 26 = .ok (.ireturn, 1) := by decide +kernel
theorem dL_withdraw_0 : decode cL_withdraw 0 = .ok (.aload_n 2, 1) := by decide +kernel
theorem dL_withdraw_1 : decode cL_withdraw 1 = .ok (.iconst 0, 1) := by decide +kernel
theorem dL_withdraw_2 : decode cL_withdraw 2 = .ok (.aload_n 0, 1) := by decide +kernel
theorem dL_withdraw_3 : decode cL_withdraw 3 = .ok (.iload_n 1, 1) := by decide +kernel
theorem dL_withdraw_4 : decode cL_withdraw 4 = .ok (.invokevirtual 37, 3) := by decide +kernel
theorem dL_withdraw_7 : decode cL_withdraw 7 = .ok (.i2l, 1) := by decide +kernel
theorem dL_withdraw_8 : decode cL_withdraw 8 = .ok (.lastore, 1) := by decide +kernel
theorem dL_withdraw_9 : decode cL_withdraw 9 = .ok (.goto 6, 3) := by decide +kernel
theorem dL_withdraw_12 : decode cL_withdraw 12 = .ok (.astore_n 3, 1) := by decide +kernel
theorem dL_withdraw_13 : decode cL_withdraw 13 = .ok (.iconst 1, 1) := by decide +kernel
theorem dL_withdraw_14 : decode cL_withdraw 14 = .ok (.ireturn, 1) := by decide +kernel
theorem dL_withdraw_15 : decode cL_withdraw 15 = .ok (.iconst 0, 1) := by decide +kernel
theorem dL_withdraw_16 : decode cL_withdraw 16 = .ok (.ireturn, 1) := by decide +kernel
theorem dL_serve_0 : decode cL_serve 0 = .ok (.aload_n 1, 1) := by decide +kernel
theorem dL_serve_1 : decode cL_serve 1 = .ok (.iconst 0, 1) := by decide +kernel
theorem dL_serve_2 : decode cL_serve 2 = .ok (.aload_n 0, 1) := by decide +kernel
theorem dL_serve_3 : decode cL_serve 3 = .ok (.invokevirtual 40, 3) := by decide +kernel
theorem dL_serve_6 : decode cL_serve 6 = .ok (.i2l, 1) := by decide +kernel
theorem dL_serve_7 : decode cL_serve 7 = .ok (.lastore, 1) := by decide +kernel
theorem dL_serve_8 : decode cL_serve 8 = .ok (.goto 6, 3) := by decide +kernel
theorem dL_serve_11 : decode cL_serve 11 = .ok (.astore_n 2, 1) := by decide +kernel
theorem dL_serve_12 : decode cL_serve 12 = .ok (.iconst 1, 1) := by decide +kernel
theorem dL_serve_13 : decode cL_serve 13 = .ok (.ireturn, 1) := by decide +kernel
theorem dL_serve_14 : decode cL_serve 14 = .ok (.iconst 0, 1) := by decide +kernel
theorem dL_serve_15 : decode cL_serve 15 = .ok (.ireturn, 1) := by decide +kernel
theorem dL_pass_0 : decode cL_pass 0 = .ok (.aload_n 2, 1) := by decide +kernel
theorem dL_pass_1 : decode cL_pass 1 = .ok (.iconst 0, 1) := by decide +kernel
theorem dL_pass_2 : decode cL_pass 2 = .ok (.aload_n 0, 1) := by decide +kernel
theorem dL_pass_3 : decode cL_pass 3 = .ok (.iload_n 1, 1) := by decide +kernel
theorem dL_pass_4 : decode cL_pass 4 = .ok (.invokevirtual 46, 3) := by decide +kernel
theorem dL_pass_7 : decode cL_pass 7 = .ok (.i2l, 1) := by decide +kernel
theorem dL_pass_8 : decode cL_pass 8 = .ok (.lastore, 1) := by decide +kernel
theorem dL_pass_9 : decode cL_pass 9 = .ok (.goto 9, 3) := by decide +kernel
theorem dL_pass_12 : decode cL_pass 12 = .ok (.astore_n 3, 1) := by decide +kernel
theorem dL_pass_13 : decode cL_pass 13 = .ok (.iconst 1, 1) := by decide +kernel
theorem dL_pass_14 : decode cL_pass 14 = .ok (.ireturn, 1) := by decide +kernel
theorem dL_pass_15 : decode cL_pass 15 = .ok (.astore_n 3, 1) := by decide +kernel
theorem dL_pass_16 : decode cL_pass 16 = .ok (.iconst 2, 1) := by decide +kernel
theorem dL_pass_17 : decode cL_pass 17 = .ok (.ireturn, 1) := by decide +kernel
theorem dL_pass_18 : decode cL_pass 18 = .ok (.iconst 0, 1) := by decide +kernel
theorem dL_pass_19 : decode cL_pass 19 = .ok (.ireturn, 1) := by decide +kernel
theorem dL_petition_0 : decode cL_petition 0 = .ok (.aload_n 3, 1) := by decide +kernel
theorem dL_petition_1 : decode cL_petition 1 = .ok (.iconst 0, 1) := by decide +kernel
theorem dL_petition_2 : decode cL_petition 2 = .ok (.aload_n 0, 1) := by decide +kernel
theorem dL_petition_3 : decode cL_petition 3 = .ok (.iload_n 1, 1) := by decide +kernel
theorem dL_petition_4 : decode cL_petition 4 = .ok (.iload_n 2, 1) := by decide +kernel
theorem dL_petition_5 : decode cL_petition 5 = .ok (.invokevirtual 49, 3) := by decide +kernel
theorem dL_petition_8 : decode cL_petition 8 = .ok (.i2l, 1) := by decide +kernel
theorem dL_petition_9 : decode cL_petition 9 = .ok (.lastore, 1) := by decide +kernel
theorem dL_petition_10 : decode cL_petition 10 = .ok (.goto 11, 3) := by decide +kernel
theorem dL_petition_13 : decode cL_petition 13 = .ok (.astore 4, 2) := by decide +kernel
theorem dL_petition_15 : decode cL_petition 15 = .ok (.iconst 1, 1) := by decide +kernel
theorem dL_petition_16 : decode cL_petition 16 = .ok (.ireturn, 1) := by decide +kernel
theorem dL_petition_17 : decode cL_petition 17 = .ok (.astore 4, 2) := by decide +kernel
theorem dL_petition_19 : decode cL_petition 19 = .ok (.iconst 2, 1) := by decide +kernel
theorem dL_petition_20 : decode cL_petition 20 = .ok (.ireturn, 1) := by decide +kernel
theorem dL_petition_21 : decode cL_petition 21 = .ok (.iconst 0, 1) := by decide +kernel
theorem dL_petition_22 : decode cL_petition 22 = .ok (.ireturn, 1) := by decide +kernel
theorem dL_peek_0 : decode cL_peek 0 = .ok (.aload_n 2, 1) := by decide +kernel
theorem dL_peek_1 : decode cL_peek 1 = .ok (.iconst 0, 1) := by decide +kernel
theorem dL_peek_2 : decode cL_peek 2 = .ok (.aload_n 0, 1) := by decide +kernel
theorem dL_peek_3 : decode cL_peek 3 = .ok (.iload_n 1, 1) := by decide +kernel
theorem dL_peek_4 : decode cL_peek 4 = .ok (.invokevirtual 52, 3) := by decide +kernel
theorem dL_peek_7 : decode cL_peek 7 = .ok (.i2l, 1) := by decide +kernel
theorem dL_peek_8 : decode cL_peek 8 = .ok (.lastore, 1) := by decide +kernel
theorem dL_peek_9 : decode cL_peek 9 = .ok (.goto 6, 3) := by decide +kernel
theorem dL_peek_12 : decode cL_peek 12 = .ok (.astore_n 3, 1) := by decide +kernel
theorem dL_peek_13 : decode cL_peek 13 = .ok (.iconst 1, 1) := by decide +kernel
theorem dL_peek_14 : decode cL_peek 14 = .ok (.ireturn, 1) := by decide +kernel
theorem dL_peek_15 : decode cL_peek 15 = .ok (.iconst 0, 1) := by decide +kernel
theorem dL_peek_16 : decode cL_peek 16 = .ok (.ireturn, 1) := by decide +kernel
theorem dL_sentBy_0 : decode cL_sentBy 0 = .ok (.aload_n 2, 1) := by decide +kernel
theorem dL_sentBy_1 : decode cL_sentBy 1 = .ok (.iconst 0, 1) := by decide +kernel
theorem dL_sentBy_2 : decode cL_sentBy 2 = .ok (.aload_n 0, 1) := by decide +kernel
theorem dL_sentBy_3 : decode cL_sentBy 3 = .ok (.iload_n 1, 1) := by decide +kernel
theorem dL_sentBy_4 : decode cL_sentBy 4 = .ok (.invokevirtual 55, 3) := by decide +kernel
theorem dL_sentBy_7 : decode cL_sentBy 7 = .ok (.i2l, 1) := by decide +kernel
theorem dL_sentBy_8 : decode cL_sentBy 8 = .ok (.lastore, 1) := by decide +kernel
theorem dL_sentBy_9 : decode cL_sentBy 9 = .ok (.goto 6, 3) := by decide +kernel
theorem dL_sentBy_12 : decode cL_sentBy 12 = .ok (.astore_n 3, 1) := by decide +kernel
theorem dL_sentBy_13 : decode cL_sentBy 13 = .ok (.iconst 1, 1) := by decide +kernel
theorem dL_sentBy_14 : decode cL_sentBy 14 = .ok (.ireturn, 1) := by decide +kernel
theorem dL_sentBy_15 : decode cL_sentBy 15 = .ok (.iconst 0, 1) := by decide +kernel
theorem dL_sentBy_16 : decode cL_sentBy 16 = .ok (.ireturn, 1) := by decide +kernel
theorem dL_returned_0 : decode cL_returned 0 = .ok (.aload_n 2, 1) := by decide +kernel
theorem dL_returned_1 : decode cL_returned 1 = .ok (.iconst 0, 1) := by decide +kernel
theorem dL_returned_2 : decode cL_returned 2 = .ok (.aload_n 0, 1) := by decide +kernel
theorem dL_returned_3 : decode cL_returned 3 = .ok (.iload_n 1, 1) := by decide +kernel
theorem dL_returned_4 : decode cL_returned 4 = .ok (.invokevirtual 58, 3) := by decide +kernel
theorem dL_returned_7 : decode cL_returned 7 = .ok (.i2l, 1) := by decide +kernel
theorem dL_returned_8 : decode cL_returned 8 = .ok (.lastore, 1) := by decide +kernel
theorem dL_returned_9 : decode cL_returned 9 = .ok (.goto 6, 3) := by decide +kernel
theorem dL_returned_12 : decode cL_returned 12 = .ok (.astore_n 3, 1) := by decide +kernel
theorem dL_returned_13 : decode cL_returned 13 = .ok (.iconst 1, 1) := by decide +kernel
theorem dL_returned_14 : decode cL_returned 14 = .ok (.ireturn, 1) := by decide +kernel
theorem dL_returned_15 : decode cL_returned 15 = .ok (.iconst 0, 1) := by decide +kernel
theorem dL_returned_16 : decode cL_returned 16 = .ok (.ireturn, 1) := by decide +kernel
theorem dL_entry_0 : decode cL_entry 0 = .ok (.aload_n 3, 1) := by decide +kernel
theorem dL_entry_1 : decode cL_entry 1 = .ok (.iconst 0, 1) := by decide +kernel
theorem dL_entry_2 : decode cL_entry 2 = .ok (.aload_n 0, 1) := by decide +kernel
theorem dL_entry_3 : decode cL_entry 3 = .ok (.iload_n 1, 1) := by decide +kernel
theorem dL_entry_4 : decode cL_entry 4 = .ok (.iload_n 2, 1) := by decide +kernel
theorem dL_entry_5 : decode cL_entry 5 = .ok (.invokevirtual 61, 3) := by decide +kernel
theorem dL_entry_8 : decode cL_entry 8 = .ok (.i2l, 1) := by decide +kernel
theorem dL_entry_9 : decode cL_entry 9 = .ok (.lastore, 1) := by decide +kernel
theorem dL_entry_10 : decode cL_entry 10 = .ok (.goto 11, 3) := by decide +kernel
theorem dL_entry_13 : decode cL_entry 13 = .ok (.astore 4, 2) := by decide +kernel
theorem dL_entry_15 : decode cL_entry 15 = .ok (.iconst 1, 1) := by decide +kernel
theorem dL_entry_16 : decode cL_entry 16 = .ok (.ireturn, 1) := by decide +kernel
theorem dL_entry_17 : decode cL_entry 17 = .ok (.astore 4, 2) := by decide +kernel
theorem dL_entry_19 : decode cL_entry 19 = .ok (.iconst 2, 1) := by decide +kernel
theorem dL_entry_20 : decode cL_entry 20 = .ok (.ireturn, 1) := by decide +kernel
theorem dL_entry_21 : decode cL_entry 21 = .ok (.iconst 0, 1) := by decide +kernel
theorem dL_entry_22 : decode cL_entry 22 = .ok (.ireturn, 1) := by decide +kernel
theorem dL_value_0 : decode cL_value 0 = .ok (.aload_n 2, 1) := by decide +kernel
theorem dL_value_1 : decode cL_value 1 = .ok (.iconst 0, 1) := by decide +kernel
theorem dL_value_2 : decode cL_value 2 = .ok (.aload_n 0, 1) := by decide +kernel
theorem dL_value_3 : decode cL_value 3 = .ok (.iload_n 1, 1) := by decide +kernel
theorem dL_value_4 : decode cL_value 4 = .ok (.invokevirtual 64, 3) := by decide +kernel
theorem dL_value_7 : decode cL_value 7 = .ok (.i2l, 1) := by decide +kernel
theorem dL_value_8 : decode cL_value 8 = .ok (.lastore, 1) := by decide +kernel
theorem dL_value_9 : decode cL_value 9 = .ok (.goto 6, 3) := by decide +kernel
theorem dL_value_12 : decode cL_value 12 = .ok (.astore_n 3, 1) := by decide +kernel
theorem dL_value_13 : decode cL_value 13 = .ok (.iconst 1, 1) := by decide +kernel
theorem dL_value_14 : decode cL_value 14 = .ok (.ireturn, 1) := by decide +kernel
theorem dL_value_15 : decode cL_value 15 = .ok (.iconst 0, 1) := by decide +kernel
theorem dL_value_16 : decode cL_value 16 = .ok (.ireturn, 1) := by decide +kernel
theorem dL_ofRank_0 : decode cL_ofRank 0 = .ok (.aload_n 2, 1) := by decide +kernel
theorem dL_ofRank_1 : decode cL_ofRank 1 = .ok (.iconst 0, 1) := by decide +kernel
theorem dL_ofRank_2 : decode cL_ofRank 2 = .ok (.aload_n 0, 1) := by decide +kernel
theorem dL_ofRank_3 : decode cL_ofRank 3 = .ok (.iload_n 1, 1) := by decide +kernel
theorem dL_ofRank_4 : decode cL_ofRank 4 = .ok (.invokevirtual 67, 3) := by decide +kernel
theorem dL_ofRank_7 : decode cL_ofRank 7 = .ok (.i2l, 1) := by decide +kernel
theorem dL_ofRank_8 : decode cL_ofRank 8 = .ok (.lastore, 1) := by decide +kernel
theorem dL_ofRank_9 : decode cL_ofRank 9 = .ok (.goto 6, 3) := by decide +kernel
theorem dL_ofRank_12 : decode cL_ofRank 12 = .ok (.astore_n 3, 1) := by decide +kernel
theorem dL_ofRank_13 : decode cL_ofRank 13 = .ok (.iconst 1, 1) := by decide +kernel
theorem dL_ofRank_14 : decode cL_ofRank 14 = .ok (.ireturn, 1) := by decide +kernel
theorem dL_ofRank_15 : decode cL_ofRank 15 = .ok (.iconst 0, 1) := by decide +kernel
theorem dL_ofRank_16 : decode cL_ofRank 16 = .ok (.ireturn, 1) := by decide +kernel
theorem dL_rankIn_0 : decode cL_rankIn 0 = .ok (.aload_n 3, 1) := by decide +kernel
theorem dL_rankIn_1 : decode cL_rankIn 1 = .ok (.iconst 0, 1) := by decide +kernel
theorem dL_rankIn_2 : decode cL_rankIn 2 = .ok (.aload_n 0, 1) := by decide +kernel
theorem dL_rankIn_3 : decode cL_rankIn 3 = .ok (.iload_n 1, 1) := by decide +kernel
theorem dL_rankIn_4 : decode cL_rankIn 4 = .ok (.iload_n 2, 1) := by decide +kernel
theorem dL_rankIn_5 : decode cL_rankIn 5 = .ok (.invokevirtual 70, 3) := by decide +kernel
theorem dL_rankIn_8 : decode cL_rankIn 8 = .ok (.i2l, 1) := by decide +kernel
theorem dL_rankIn_9 : decode cL_rankIn 9 = .ok (.lastore, 1) := by decide +kernel
theorem dL_rankIn_10 : decode cL_rankIn 10 = .ok (.goto 11, 3) := by decide +kernel
theorem dL_rankIn_13 : decode cL_rankIn 13 = .ok (.astore 4, 2) := by decide +kernel
theorem dL_rankIn_15 : decode cL_rankIn 15 = .ok (.iconst 1, 1) := by decide +kernel
theorem dL_rankIn_16 : decode cL_rankIn 16 = .ok (.ireturn, 1) := by decide +kernel
theorem dL_rankIn_17 : decode cL_rankIn 17 = .ok (.astore 4, 2) := by decide +kernel
theorem dL_rankIn_19 : decode cL_rankIn 19 = .ok (.iconst 2, 1) := by decide +kernel
theorem dL_rankIn_20 : decode cL_rankIn 20 = .ok (.ireturn, 1) := by decide +kernel
theorem dL_rankIn_21 : decode cL_rankIn 21 = .ok (.iconst 0, 1) := by decide +kernel
theorem dL_rankIn_22 : decode cL_rankIn 22 = .ok (.ireturn, 1) := by decide +kernel
theorem dL_servedIn_0 : decode cL_servedIn 0 = .ok (.aload_n 2, 1) := by decide +kernel
theorem dL_servedIn_1 : decode cL_servedIn 1 = .ok (.iconst 0, 1) := by decide +kernel
theorem dL_servedIn_2 : decode cL_servedIn 2 = .ok (.aload_n 0, 1) := by decide +kernel
theorem dL_servedIn_3 : decode cL_servedIn 3 = .ok (.iload_n 1, 1) := by decide +kernel
theorem dL_servedIn_4 : decode cL_servedIn 4 = .ok (.invokevirtual 73, 3) := by decide +kernel
theorem dL_servedIn_7 : decode cL_servedIn 7 = .ok (.i2l, 1) := by decide +kernel
theorem dL_servedIn_8 : decode cL_servedIn 8 = .ok (.lastore, 1) := by decide +kernel
theorem dL_servedIn_9 : decode cL_servedIn 9 = .ok (.goto 6, 3) := by decide +kernel
theorem dL_servedIn_12 : decode cL_servedIn 12 = .ok (.astore_n 3, 1) := by decide +kernel
theorem dL_servedIn_13 : decode cL_servedIn 13 = .ok (.iconst 1, 1) := by decide +kernel
theorem dL_servedIn_14 : decode cL_servedIn 14 = .ok (.ireturn, 1) := by decide +kernel
theorem dL_servedIn_15 : decode cL_servedIn 15 = .ok (.iconst 0, 1) := by decide +kernel
theorem dL_servedIn_16 : decode cL_servedIn 16 = .ok (.ireturn, 1) := by decide +kernel
theorem dL_bribeToLead_0 : decode cL_bribeToLead 0 = .ok (.aload_n 2, 1) := by decide +kernel
theorem dL_bribeToLead_1 : decode cL_bribeToLead 1 = .ok (.iconst 0, 1) := by decide +kernel
theorem dL_bribeToLead_2 : decode cL_bribeToLead 2 = .ok (.aload_n 0, 1) := by decide +kernel
theorem dL_bribeToLead_3 : decode cL_bribeToLead 3 = .ok (.iload_n 1, 1) := by decide +kernel
theorem dL_bribeToLead_4 : decode cL_bribeToLead 4 = .ok (.invokevirtual 76, 3) := by decide +kernel
theorem dL_bribeToLead_7 : decode cL_bribeToLead 7 = .ok (.i2l, 1) := by decide +kernel
theorem dL_bribeToLead_8 : decode cL_bribeToLead 8 = .ok (.lastore, 1) := by decide +kernel
theorem dL_bribeToLead_9 : decode cL_bribeToLead 9 = .ok (.goto 6, 3) := by decide +kernel
theorem dL_bribeToLead_12 : decode cL_bribeToLead 12 = .ok (.astore_n 3, 1) := by decide +kernel
theorem dL_bribeToLead_13 : decode cL_bribeToLead 13 = .ok (.iconst 1, 1) := by decide +kernel
theorem dL_bribeToLead_14 : decode cL_bribeToLead 14 = .ok (.ireturn, 1) := by decide +kernel
theorem dL_bribeToLead_15 : decode cL_bribeToLead 15 = .ok (.iconst 0, 1) := by decide +kernel
theorem dL_bribeToLead_16 : decode cL_bribeToLead 16 = .ok (.ireturn, 1) := by decide +kernel
theorem dL_append_0 : decode cL_append 0 = .ok (.aload_n 2, 1) := by decide +kernel
theorem dL_append_1 : decode cL_append 1 = .ok (.iconst 0, 1) := by decide +kernel
theorem dL_append_2 : decode cL_append 2 = .ok (.aload_n 0, 1) := by decide +kernel
theorem dL_append_3 : decode cL_append 3 = .ok (.iload_n 1, 1) := by decide +kernel
theorem dL_append_4 : decode cL_append 4 = .ok (.invokevirtual 79, 3) := by decide +kernel
theorem dL_append_7 : decode cL_append 7 = .ok (.i2l, 1) := by decide +kernel
theorem dL_append_8 : decode cL_append 8 = .ok (.lastore, 1) := by decide +kernel
theorem dL_append_9 : decode cL_append 9 = .ok (.goto 9, 3) := by decide +kernel
theorem dL_append_12 : decode cL_append 12 = .ok (.astore_n 3, 1) := by decide +kernel
theorem dL_append_13 : decode cL_append 13 = .ok (.iconst 1, 1) := by decide +kernel
theorem dL_append_14 : decode cL_append 14 = .ok (.ireturn, 1) := by decide +kernel
theorem dL_append_15 : decode cL_append 15 = .ok (.astore_n 3, 1) := by decide +kernel
theorem dL_append_16 : decode cL_append 16 = .ok (.iconst 2, 1) := by decide +kernel
theorem dL_append_17 : decode cL_append 17 = .ok (.ireturn, 1) := by decide +kernel
theorem dL_append_18 : decode cL_append 18 = .ok (.iconst 0, 1) := by decide +kernel
theorem dL_append_19 : decode cL_append 19 = .ok (.ireturn, 1) := by decide +kernel
theorem dL_undo_0 : decode cL_undo 0 = .ok (.aload_n 1, 1) := by decide +kernel
theorem dL_undo_1 : decode cL_undo 1 = .ok (.iconst 0, 1) := by decide +kernel
theorem dL_undo_2 : decode cL_undo 2 = .ok (.aload_n 0, 1) := by decide +kernel
theorem dL_undo_3 : decode cL_undo 3 = .ok (.invokevirtual 82, 3) := by decide +kernel
theorem dL_undo_6 : decode cL_undo 6 = .ok (.i2l, 1) := by decide +kernel
theorem dL_undo_7 : decode cL_undo 7 = .ok (.lastore, 1) := by decide +kernel
theorem dL_undo_8 : decode cL_undo 8 = .ok (.goto 6, 3) := by decide +kernel
theorem dL_undo_11 : decode cL_undo 11 = .ok (.astore_n 2, 1) := by decide +kernel
theorem dL_undo_12 : decode cL_undo 12 = .ok (.iconst 1, 1) := by decide +kernel
theorem dL_undo_13 : decode cL_undo 13 = .ok (.ireturn, 1) := by decide +kernel
theorem dL_undo_14 : decode cL_undo 14 = .ok (.iconst 0, 1) := by decide +kernel
theorem dL_undo_15 : decode cL_undo 15 = .ok (.ireturn, 1) := by decide +kernel
theorem dL_law_0 : decode cL_law 0 = .ok (.new 8, 3) := by decide +kernel
theorem dL_law_3 : decode cL_law 3 = .ok (.dup, 1) := by decide +kernel
theorem dL_law_4 : decode cL_law 4 = .ok (.invokespecial 85, 3) := by decide +kernel
theorem dL_law_7 : decode cL_law 7 = .ok (.astore_n 1, 1) := by decide +kernel
theorem dL_law_8 : decode cL_law 8 = .ok (.new 86, 3) := by decide +kernel
theorem dL_law_11 : decode cL_law 11 = .ok (.dup, 1) := by decide +kernel
theorem dL_law_12 : decode cL_law 12 = .ok (.invokespecial 88, 3) := by decide +kernel
theorem dL_law_15 : decode cL_law 15 = .ok (.astore_n 2, 1) := by decide +kernel
theorem dL_law_16 : decode cL_law 16 = .ok (.iconst 1, 1) := by decide +kernel
theorem dL_law_17 : decode cL_law 17 = .ok (.newarray .long, 2) := by decide +kernel
theorem dL_law_19 : decode cL_law 19 = .ok (.astore_n 3, 1) := by decide +kernel
theorem dL_law_20 : decode cL_law 20 = .ok (.iconst 0, 1) := by decide +kernel
theorem dL_law_21 : decode cL_law 21 = .ok (.istore 4, 2) := by decide +kernel
theorem dL_law_23 : decode cL_law 23 = .ok (.iload 4, 2) := by decide +kernel
theorem dL_law_25 : decode cL_law 25 = .ok (.aload_n 0, 1) := by decide +kernel
theorem dL_law_26 : decode cL_law 26 = .ok (.arraylength, 1) := by decide +kernel
theorem dL_law_27 : decode cL_law 27 = .ok (.iconst 5, 1) := by decide +kernel
theorem dL_law_28 : decode cL_law 28 = .ok (.isub, 1) := by decide +kernel
theorem dL_law_29 : decode cL_law 29 = .ok (.if_icmp .gt 1523, 3) := by decide +kernel
theorem dL_law_32 : decode cL_law 32 = .ok (.aload_n 0, 1) := by decide +kernel
theorem dL_law_33 : decode cL_law 33 = .ok (.iload 4, 2) := by decide +kernel
theorem dL_law_35 : decode cL_law 35 = .ok (.iaload, 1) := by decide +kernel
theorem dL_law_36 : decode cL_law 36 = .ok (.bipush 31, 2) := by decide +kernel
theorem dL_law_38 : decode cL_law 38 = .ok (.iand, 1) := by decide +kernel
theorem dL_law_39 : decode cL_law 39 = .ok (.tableswitch 1507 0 25 #[117, 185, 241, 297, 377, 469, 561, 617, 661, 717, 785, 841, 897, 953, 1021, 1077, 1133, 1201, 1214, 1270, 1326, 1367, 1423, 1436, 1449, 1493], 117) := by decide +kernel
theorem dL_law_156 : decode cL_law 156 = .ok (.aload_n 1, 1) := by decide +kernel
theorem dL_law_157 : decode cL_law 157 = .ok (.aload_n 0, 1) := by decide +kernel
theorem dL_law_158 : decode cL_law 158 = .ok (.iload 4, 2) := by decide +kernel
theorem dL_law_160 : decode cL_law 160 = .ok (.iconst 1, 1) := by decide +kernel
theorem dL_law_161 : decode cL_law 161 = .ok (.iadd, 1) := by decide +kernel
theorem dL_law_162 : decode cL_law 162 = .ok (.iaload, 1) := by decide +kernel
theorem dL_law_163 : decode cL_law 163 = .ok (.aload_n 0, 1) := by decide +kernel
theorem dL_law_164 : decode cL_law 164 = .ok (.iload 4, 2) := by decide +kernel
theorem dL_law_166 : decode cL_law 166 = .ok (.iconst 2, 1) := by decide +kernel
theorem dL_law_167 : decode cL_law 167 = .ok (.iadd, 1) := by decide +kernel
theorem dL_law_168 : decode cL_law 168 = .ok (.iaload, 1) := by decide +kernel
theorem dL_law_169 : decode cL_law 169 = .ok (.aload_n 3, 1) := by decide +kernel
theorem dL_law_170 : decode cL_law 170 = .ok (.invokestatic 89, 3) := by decide +kernel
theorem dL_law_173 : decode cL_law 173 = .ok (.istore 5, 2) := by decide +kernel
theorem dL_law_175 : decode cL_law 175 = .ok (.aload_n 2, 1) := by decide +kernel
theorem dL_law_176 : decode cL_law 176 = .ok (.aload_n 0, 1) := by decide +kernel
theorem dL_law_177 : decode cL_law 177 = .ok (.iload 4, 2) := by decide +kernel
theorem dL_law_179 : decode cL_law 179 = .ok (.iconst 1, 1) := by decide +kernel
theorem dL_law_180 : decode cL_law 180 = .ok (.iadd, 1) := by decide +kernel
theorem dL_law_181 : decode cL_law 181 = .ok (.iaload, 1) := by decide +kernel
theorem dL_law_182 : decode cL_law 182 = .ok (.aload_n 0, 1) := by decide +kernel
theorem dL_law_183 : decode cL_law 183 = .ok (.iload 4, 2) := by decide +kernel
theorem dL_law_185 : decode cL_law 185 = .ok (.iconst 2, 1) := by decide +kernel
theorem dL_law_186 : decode cL_law 186 = .ok (.iadd, 1) := by decide +kernel
theorem dL_law_187 : decode cL_law 187 = .ok (.iaload, 1) := by decide +kernel
theorem dL_law_188 : decode cL_law 188 = .ok (.invokevirtual 94, 3) := by decide +kernel
theorem dL_law_191 : decode cL_law 191 = .ok (.istore 6, 2) := by decide +kernel
theorem dL_law_193 : decode cL_law 193 = .ok (.aload_n 2, 1) := by decide +kernel
theorem dL_law_194 : decode cL_law 194 = .ok (.invokevirtual 95, 3) := by decide +kernel
theorem dL_law_197 : decode cL_law 197 = .ok (.iload 5, 2) := by decide +kernel
theorem dL_law_199 : decode cL_law 199 = .ok (.if_icmp .eq 5, 3) := by decide +kernel
theorem dL_law_202 : decode cL_law 202 = .ok (.iconst 0, 1) := by decide +kernel
theorem dL_law_203 : decode cL_law 203 = .ok (.ireturn, 1) := by decide +kernel
theorem dL_law_204 : decode cL_law 204 = .ok (.iload 5, 2) := by decide +kernel
theorem dL_law_206 : decode cL_law 206 = .ok (.ifCond .ne 15, 3) := by decide +kernel
theorem dL_law_209 : decode cL_law 209 = .ok (.aload_n 3, 1) := by decide +kernel
theorem dL_law_210 : decode cL_law 210 = .ok (.iconst 0, 1) := by decide +kernel
theorem dL_law_211 : decode cL_law 211 = .ok (.laload, 1) := by decide +kernel
theorem dL_law_212 : decode cL_law 212 = .ok (.iload 6, 2) := by decide +kernel
theorem dL_law_214 : decode cL_law 214 = .ok (.i2l, 1) := by decide +kernel
theorem dL_law_215 : decode cL_law 215 = .ok (.lcmp, 1) := by decide +kernel
theorem dL_law_216 : decode cL_law 216 = .ok (.ifCond .eq 5, 3) := by decide +kernel
theorem dL_law_219 : decode cL_law 219 = .ok (.iconst 0, 1) := by decide +kernel
theorem dL_law_220 : decode cL_law 220 = .ok (.ireturn, 1) := by decide +kernel
theorem dL_law_221 : decode cL_law 221 = .ok (.goto 1325, 3) := by decide +kernel
theorem dL_law_224 : decode cL_law 224 = .ok (.aload_n 1, 1) := by decide +kernel
theorem dL_law_225 : decode cL_law 225 = .ok (.aload_n 0, 1) := by decide +kernel
theorem dL_law_226 : decode cL_law 226 = .ok (.iload 4, 2) := by decide +kernel
theorem dL_law_228 : decode cL_law 228 = .ok (.iconst 1, 1) := by decide +kernel
theorem dL_law_229 : decode cL_law 229 = .ok (.iadd, 1) := by decide +kernel
theorem dL_law_230 : decode cL_law 230 = .ok (.iaload, 1) := by decide +kernel
theorem dL_law_231 : decode cL_law 231 = .ok (.aload_n 3, 1) := by decide +kernel
theorem dL_law_232 : decode cL_law 232 = .ok (.invokestatic 98, 3) := by decide +kernel
theorem dL_law_235 : decode cL_law 235 = .ok (.istore 5, 2) := by decide +kernel
theorem dL_law_237 : decode cL_law 237 = .ok (.aload_n 2, 1) := by decide +kernel
theorem dL_law_238 : decode cL_law 238 = .ok (.aload_n 0, 1) := by decide +kernel
theorem dL_law_239 : decode cL_law 239 = .ok (.iload 4, 2) := by decide +kernel
theorem dL_law_241 : decode cL_law 241 = .ok (.iconst 1, 1) := by decide +kernel
theorem dL_law_242 : decode cL_law 242 = .ok (.iadd, 1) := by decide +kernel
theorem dL_law_243 : decode cL_law 243 = .ok (.iaload, 1) := by decide +kernel
theorem dL_law_244 : decode cL_law 244 = .ok (.invokevirtual 101, 3) := by decide +kernel
theorem dL_law_247 : decode cL_law 247 = .ok (.istore 6, 2) := by decide +kernel
theorem dL_law_249 : decode cL_law 249 = .ok (.aload_n 2, 1) := by decide +kernel
theorem dL_law_250 : decode cL_law 250 = .ok (.invokevirtual 95, 3) := by decide +kernel
theorem dL_law_253 : decode cL_law 253 = .ok (.iload 5, 2) := by decide +kernel
theorem dL_law_255 : decode cL_law 255 = .ok (.if_icmp .eq 5, 3) := by decide +kernel
theorem dL_law_258 : decode cL_law 258 = .ok (.iconst 0, 1) := by decide +kernel
theorem dL_law_259 : decode cL_law 259 = .ok (.ireturn, 1) := by decide +kernel
theorem dL_law_260 : decode cL_law 260 = .ok (.iload 5, 2) := by decide +kernel
theorem dL_law_262 : decode cL_law 262 = .ok (.ifCond .ne 15, 3) := by decide +kernel
theorem dL_law_265 : decode cL_law 265 = .ok (.aload_n 3, 1) := by decide +kernel
theorem dL_law_266 : decode cL_law 266 = .ok (.iconst 0, 1) := by decide +kernel
theorem dL_law_267 : decode cL_law 267 = .ok (.laload, 1) := by decide +kernel
theorem dL_law_268 : decode cL_law 268 = .ok (.iload 6, 2) := by decide +kernel
theorem dL_law_270 : decode cL_law 270 = .ok (.i2l, 1) := by decide +kernel
theorem dL_law_271 : decode cL_law 271 = .ok (.lcmp, 1) := by decide +kernel
theorem dL_law_272 : decode cL_law 272 = .ok (.ifCond .eq 5, 3) := by decide +kernel
theorem dL_law_275 : decode cL_law 275 = .ok (.iconst 0, 1) := by decide +kernel
theorem dL_law_276 : decode cL_law 276 = .ok (.ireturn, 1) := by decide +kernel
theorem dL_law_277 : decode cL_law 277 = .ok (.goto 1269, 3) := by decide +kernel
theorem dL_law_280 : decode cL_law 280 = .ok (.aload_n 1, 1) := by decide +kernel
theorem dL_law_281 : decode cL_law 281 = .ok (.aload_n 0, 1) := by decide +kernel
theorem dL_law_282 : decode cL_law 282 = .ok (.iload 4, 2) := by decide +kernel
theorem dL_law_284 : decode cL_law 284 = .ok (.iconst 1, 1) := by decide +kernel
theorem dL_law_285 : decode cL_law 285 = .ok (.iadd, 1) := by decide +kernel
theorem dL_law_286 : decode cL_law 286 = .ok (.iaload, 1) := by decide +kernel
theorem dL_law_287 : decode cL_law 287 = .ok (.aload_n 3, 1) := by decide +kernel
theorem dL_law_288 : decode cL_law 288 = .ok (.invokestatic 102, 3) := by decide +kernel
theorem dL_law_291 : decode cL_law 291 = .ok (.istore 5, 2) := by decide +kernel
theorem dL_law_293 : decode cL_law 293 = .ok (.aload_n 2, 1) := by decide +kernel
theorem dL_law_294 : decode cL_law 294 = .ok (.aload_n 0, 1) := by decide +kernel
theorem dL_law_295 : decode cL_law 295 = .ok (.iload 4, 2) := by decide +kernel
theorem dL_law_297 : decode cL_law 297 = .ok (.iconst 1, 1) := by decide +kernel
theorem dL_law_298 : decode cL_law 298 = .ok (.iadd, 1) := by decide +kernel
theorem dL_law_299 : decode cL_law 299 = .ok (.iaload, 1) := by decide +kernel
theorem dL_law_300 : decode cL_law 300 = .ok (.invokevirtual 104, 3) := by decide +kernel
theorem dL_law_303 : decode cL_law 303 = .ok (.istore 6, 2) := by decide +kernel
theorem dL_law_305 : decode cL_law 305 = .ok (.aload_n 2, 1) := by decide +kernel
theorem dL_law_306 : decode cL_law 306 = .ok (.invokevirtual 95, 3) := by decide +kernel
theorem dL_law_309 : decode cL_law 309 = .ok (.iload 5, 2) := by decide +kernel
theorem dL_law_311 : decode cL_law 311 = .ok (.if_icmp .eq 5, 3) := by decide +kernel
theorem dL_law_314 : decode cL_law 314 = .ok (.iconst 0, 1) := by decide +kernel
theorem dL_law_315 : decode cL_law 315 = .ok (.ireturn, 1) := by decide +kernel
theorem dL_law_316 : decode cL_law 316 = .ok (.iload 5, 2) := by decide +kernel
theorem dL_law_318 : decode cL_law 318 = .ok (.ifCond .ne 15, 3) := by decide +kernel
theorem dL_law_321 : decode cL_law 321 = .ok (.aload_n 3, 1) := by decide +kernel
theorem dL_law_322 : decode cL_law 322 = .ok (.iconst 0, 1) := by decide +kernel
theorem dL_law_323 : decode cL_law 323 = .ok (.laload, 1) := by decide +kernel
theorem dL_law_324 : decode cL_law 324 = .ok (.iload 6, 2) := by decide +kernel
theorem dL_law_326 : decode cL_law 326 = .ok (.i2l, 1) := by decide +kernel
theorem dL_law_327 : decode cL_law 327 = .ok (.lcmp, 1) := by decide +kernel
theorem dL_law_328 : decode cL_law 328 = .ok (.ifCond .eq 5, 3) := by decide +kernel
theorem dL_law_331 : decode cL_law 331 = .ok (.iconst 0, 1) := by decide +kernel
theorem dL_law_332 : decode cL_law 332 = .ok (.ireturn, 1) := by decide +kernel
theorem dL_law_333 : decode cL_law 333 = .ok (.goto 1213, 3) := by decide +kernel
theorem dL_law_336 : decode cL_law 336 = .ok (.aload_n 1, 1) := by decide +kernel
theorem dL_law_337 : decode cL_law 337 = .ok (.aload_n 0, 1) := by decide +kernel
theorem dL_law_338 : decode cL_law 338 = .ok (.iload 4, 2) := by decide +kernel
theorem dL_law_340 : decode cL_law 340 = .ok (.iconst 1, 1) := by decide +kernel
theorem dL_law_341 : decode cL_law 341 = .ok (.iadd, 1) := by decide +kernel
theorem dL_law_342 : decode cL_law 342 = .ok (.iaload, 1) := by decide +kernel
theorem dL_law_343 : decode cL_law 343 = .ok (.aload_n 0, 1) := by decide +kernel
theorem dL_law_344 : decode cL_law 344 = .ok (.iload 4, 2) := by decide +kernel
theorem dL_law_346 : decode cL_law 346 = .ok (.iconst 2, 1) := by decide +kernel
theorem dL_law_347 : decode cL_law 347 = .ok (.iadd, 1) := by decide +kernel
theorem dL_law_348 : decode cL_law 348 = .ok (.iaload, 1) := by decide +kernel
theorem dL_law_349 : decode cL_law 349 = .ok (.aload_n 0, 1) := by decide +kernel
theorem dL_law_350 : decode cL_law 350 = .ok (.iload 4, 2) := by decide +kernel
theorem dL_law_352 : decode cL_law 352 = .ok (.iconst 3, 1) := by decide +kernel
theorem dL_law_353 : decode cL_law 353 = .ok (.iadd, 1) := by decide +kernel
theorem dL_law_354 : decode cL_law 354 = .ok (.iaload, 1) := by decide +kernel
theorem dL_law_355 : decode cL_law 355 = .ok (.aload_n 3, 1) := by decide +kernel
theorem dL_law_356 : decode cL_law 356 = .ok (.invokestatic 105, 3) := by decide +kernel
theorem dL_law_359 : decode cL_law 359 = .ok (.istore 5, 2) := by decide +kernel
theorem dL_law_361 : decode cL_law 361 = .ok (.aload_n 2, 1) := by decide +kernel
theorem dL_law_362 : decode cL_law 362 = .ok (.aload_n 0, 1) := by decide +kernel
theorem dL_law_363 : decode cL_law 363 = .ok (.iload 4, 2) := by decide +kernel
theorem dL_law_365 : decode cL_law 365 = .ok (.iconst 1, 1) := by decide +kernel
theorem dL_law_366 : decode cL_law 366 = .ok (.iadd, 1) := by decide +kernel
theorem dL_law_367 : decode cL_law 367 = .ok (.iaload, 1) := by decide +kernel
theorem dL_law_368 : decode cL_law 368 = .ok (.aload_n 0, 1) := by decide +kernel
theorem dL_law_369 : decode cL_law 369 = .ok (.iload 4, 2) := by decide +kernel
theorem dL_law_371 : decode cL_law 371 = .ok (.iconst 2, 1) := by decide +kernel
theorem dL_law_372 : decode cL_law 372 = .ok (.iadd, 1) := by decide +kernel
theorem dL_law_373 : decode cL_law 373 = .ok (.iaload, 1) := by decide +kernel
theorem dL_law_374 : decode cL_law 374 = .ok (.aload_n 0, 1) := by decide +kernel
theorem dL_law_375 : decode cL_law 375 = .ok (.iload 4, 2) := by decide +kernel
theorem dL_law_377 : decode cL_law 377 = .ok (.iconst 3, 1) := by decide +kernel
theorem dL_law_378 : decode cL_law 378 = .ok (.iadd, 1) := by decide +kernel
theorem dL_law_379 : decode cL_law 379 = .ok (.iaload, 1) := by decide +kernel
theorem dL_law_380 : decode cL_law 380 = .ok (.invokevirtual 108, 3) := by decide +kernel
theorem dL_law_383 : decode cL_law 383 = .ok (.istore 6, 2) := by decide +kernel
theorem dL_law_385 : decode cL_law 385 = .ok (.aload_n 2, 1) := by decide +kernel
theorem dL_law_386 : decode cL_law 386 = .ok (.invokevirtual 95, 3) := by decide +kernel
theorem dL_law_389 : decode cL_law 389 = .ok (.iload 5, 2) := by decide +kernel
theorem dL_law_391 : decode cL_law 391 = .ok (.if_icmp .eq 5, 3) := by decide +kernel
theorem dL_law_394 : decode cL_law 394 = .ok (.iconst 0, 1) := by decide +kernel
theorem dL_law_395 : decode cL_law 395 = .ok (.ireturn, 1) := by decide +kernel
theorem dL_law_396 : decode cL_law 396 = .ok (.iload 5, 2) := by decide +kernel
theorem dL_law_398 : decode cL_law 398 = .ok (.ifCond .ne 15, 3) := by decide +kernel
theorem dL_law_401 : decode cL_law 401 = .ok (.aload_n 3, 1) := by decide +kernel
theorem dL_law_402 : decode cL_law 402 = .ok (.iconst 0, 1) := by decide +kernel
theorem dL_law_403 : decode cL_law 403 = .ok (.laload, 1) := by decide +kernel
theorem dL_law_404 : decode cL_law 404 = .ok (.iload 6, 2) := by decide +kernel
theorem dL_law_406 : decode cL_law 406 = .ok (.i2l, 1) := by decide +kernel
theorem dL_law_407 : decode cL_law 407 = .ok (.lcmp, 1) := by decide +kernel
theorem dL_law_408 : decode cL_law 408 = .ok (.ifCond .eq 5, 3) := by decide +kernel
theorem dL_law_411 : decode cL_law 411 = .ok (.iconst 0, 1) := by decide +kernel
theorem dL_law_412 : decode cL_law 412 = .ok (.ireturn, 1) := by decide +kernel
theorem dL_law_413 : decode cL_law 413 = .ok (.goto 1133, 3) := by decide +kernel
theorem dL_law_416 : decode cL_law 416 = .ok (.aload_n 1, 1) := by decide +kernel
theorem dL_law_417 : decode cL_law 417 = .ok (.aload_n 0, 1) := by decide +kernel
theorem dL_law_418 : decode cL_law 418 = .ok (.iload 4, 2) := by decide +kernel
theorem dL_law_420 : decode cL_law 420 = .ok (.iconst 1, 1) := by decide +kernel
theorem dL_law_421 : decode cL_law 421 = .ok (.iadd, 1) := by decide +kernel
theorem dL_law_422 : decode cL_law 422 = .ok (.iaload, 1) := by decide +kernel
theorem dL_law_423 : decode cL_law 423 = .ok (.aload_n 0, 1) := by decide +kernel
theorem dL_law_424 : decode cL_law 424 = .ok (.iload 4, 2) := by decide +kernel
theorem dL_law_426 : decode cL_law 426 = .ok (.iconst 2, 1) := by decide +kernel
theorem dL_law_427 : decode cL_law 427 = .ok (.iadd, 1) := by decide +kernel
theorem dL_law_428 : decode cL_law 428 = .ok (.iaload, 1) := by decide +kernel
theorem dL_law_429 : decode cL_law 429 = .ok (.aload_n 0, 1) := by decide +kernel
theorem dL_law_430 : decode cL_law 430 = .ok (.iload 4, 2) := by decide +kernel
theorem dL_law_432 : decode cL_law 432 = .ok (.iconst 3, 1) := by decide +kernel
theorem dL_law_433 : decode cL_law 433 = .ok (.iadd, 1) := by decide +kernel
theorem dL_law_434 : decode cL_law 434 = .ok (.iaload, 1) := by decide +kernel
theorem dL_law_435 : decode cL_law 435 = .ok (.aload_n 0, 1) := by decide +kernel
theorem dL_law_436 : decode cL_law 436 = .ok (.iload 4, 2) := by decide +kernel
theorem dL_law_438 : decode cL_law 438 = .ok (.iconst 4, 1) := by decide +kernel
theorem dL_law_439 : decode cL_law 439 = .ok (.iadd, 1) := by decide +kernel
theorem dL_law_440 : decode cL_law 440 = .ok (.iaload, 1) := by decide +kernel
theorem dL_law_441 : decode cL_law 441 = .ok (.aload_n 3, 1) := by decide +kernel
theorem dL_law_442 : decode cL_law 442 = .ok (.invokestatic 109, 3) := by decide +kernel
theorem dL_law_445 : decode cL_law 445 = .ok (.istore 5, 2) := by decide +kernel
theorem dL_law_447 : decode cL_law 447 = .ok (.aload_n 2, 1) := by decide +kernel
theorem dL_law_448 : decode cL_law 448 = .ok (.aload_n 0, 1) := by decide +kernel
theorem dL_law_449 : decode cL_law 449 = .ok (.iload 4, 2) := by decide +kernel
theorem dL_law_451 : decode cL_law 451 = .ok (.iconst 1, 1) := by decide +kernel
theorem dL_law_452 : decode cL_law 452 = .ok (.iadd, 1) := by decide +kernel
theorem dL_law_453 : decode cL_law 453 = .ok (.iaload, 1) := by decide +kernel
theorem dL_law_454 : decode cL_law 454 = .ok (.aload_n 0, 1) := by decide +kernel
theorem dL_law_455 : decode cL_law 455 = .ok (.iload 4, 2) := by decide +kernel
theorem dL_law_457 : decode cL_law 457 = .ok (.iconst 2, 1) := by decide +kernel
theorem dL_law_458 : decode cL_law 458 = .ok (.iadd, 1) := by decide +kernel
theorem dL_law_459 : decode cL_law 459 = .ok (.iaload, 1) := by decide +kernel
theorem dL_law_460 : decode cL_law 460 = .ok (.aload_n 0, 1) := by decide +kernel
theorem dL_law_461 : decode cL_law 461 = .ok (.iload 4, 2) := by decide +kernel
theorem dL_law_463 : decode cL_law 463 = .ok (.iconst 3, 1) := by decide +kernel
theorem dL_law_464 : decode cL_law 464 = .ok (.iadd, 1) := by decide +kernel
theorem dL_law_465 : decode cL_law 465 = .ok (.iaload, 1) := by decide +kernel
theorem dL_law_466 : decode cL_law 466 = .ok (.aload_n 0, 1) := by decide +kernel
theorem dL_law_467 : decode cL_law 467 = .ok (.iload 4, 2) := by decide +kernel
theorem dL_law_469 : decode cL_law 469 = .ok (.iconst 4, 1) := by decide +kernel
theorem dL_law_470 : decode cL_law 470 = .ok (.iadd, 1) := by decide +kernel
theorem dL_law_471 : decode cL_law 471 = .ok (.iaload, 1) := by decide +kernel
theorem dL_law_472 : decode cL_law 472 = .ok (.invokevirtual 112, 3) := by decide +kernel
theorem dL_law_475 : decode cL_law 475 = .ok (.istore 6, 2) := by decide +kernel
theorem dL_law_477 : decode cL_law 477 = .ok (.aload_n 2, 1) := by decide +kernel
theorem dL_law_478 : decode cL_law 478 = .ok (.invokevirtual 95, 3) := by decide +kernel
theorem dL_law_481 : decode cL_law 481 = .ok (.iload 5, 2) := by decide +kernel
theorem dL_law_483 : decode cL_law 483 = .ok (.if_icmp .eq 5, 3) := by decide +kernel
theorem dL_law_486 : decode cL_law 486 = .ok (.iconst 0, 1) := by decide +kernel
theorem dL_law_487 : decode cL_law 487 = .ok (.ireturn, 1) := by decide +kernel
theorem dL_law_488 : decode cL_law 488 = .ok (.iload 5, 2) := by decide +kernel
theorem dL_law_490 : decode cL_law 490 = .ok (.ifCond .ne 15, 3) := by decide +kernel
theorem dL_law_493 : decode cL_law 493 = .ok (.aload_n 3, 1) := by decide +kernel
theorem dL_law_494 : decode cL_law 494 = .ok (.iconst 0, 1) := by decide +kernel
theorem dL_law_495 : decode cL_law 495 = .ok (.laload, 1) := by decide +kernel
theorem dL_law_496 : decode cL_law 496 = .ok (.iload 6, 2) := by decide +kernel
theorem dL_law_498 : decode cL_law 498 = .ok (.i2l, 1) := by decide +kernel
theorem dL_law_499 : decode cL_law 499 = .ok (.lcmp, 1) := by decide +kernel
theorem dL_law_500 : decode cL_law 500 = .ok (.ifCond .eq 5, 3) := by decide +kernel
theorem dL_law_503 : decode cL_law 503 = .ok (.iconst 0, 1) := by decide +kernel
theorem dL_law_504 : decode cL_law 504 = .ok (.ireturn, 1) := by decide +kernel
theorem dL_law_505 : decode cL_law 505 = .ok (.goto 1041, 3) := by decide +kernel
theorem dL_law_508 : decode cL_law 508 = .ok (.aload_n 1, 1) := by decide +kernel
theorem dL_law_509 : decode cL_law 509 = .ok (.aload_n 0, 1) := by decide +kernel
theorem dL_law_510 : decode cL_law 510 = .ok (.iload 4, 2) := by decide +kernel
theorem dL_law_512 : decode cL_law 512 = .ok (.iconst 1, 1) := by decide +kernel
theorem dL_law_513 : decode cL_law 513 = .ok (.iadd, 1) := by decide +kernel
theorem dL_law_514 : decode cL_law 514 = .ok (.iaload, 1) := by decide +kernel
theorem dL_law_515 : decode cL_law 515 = .ok (.aload_n 0, 1) := by decide +kernel
theorem dL_law_516 : decode cL_law 516 = .ok (.iload 4, 2) := by decide +kernel
theorem dL_law_518 : decode cL_law 518 = .ok (.iconst 2, 1) := by decide +kernel
theorem dL_law_519 : decode cL_law 519 = .ok (.iadd, 1) := by decide +kernel
theorem dL_law_520 : decode cL_law 520 = .ok (.iaload, 1) := by decide +kernel
theorem dL_law_521 : decode cL_law 521 = .ok (.aload_n 0, 1) := by decide +kernel
theorem dL_law_522 : decode cL_law 522 = .ok (.iload 4, 2) := by decide +kernel
theorem dL_law_524 : decode cL_law 524 = .ok (.iconst 3, 1) := by decide +kernel
theorem dL_law_525 : decode cL_law 525 = .ok (.iadd, 1) := by decide +kernel
theorem dL_law_526 : decode cL_law 526 = .ok (.iaload, 1) := by decide +kernel
theorem dL_law_527 : decode cL_law 527 = .ok (.aload_n 0, 1) := by decide +kernel
theorem dL_law_528 : decode cL_law 528 = .ok (.iload 4, 2) := by decide +kernel
theorem dL_law_530 : decode cL_law 530 = .ok (.iconst 4, 1) := by decide +kernel
theorem dL_law_531 : decode cL_law 531 = .ok (.iadd, 1) := by decide +kernel
theorem dL_law_532 : decode cL_law 532 = .ok (.iaload, 1) := by decide +kernel
theorem dL_law_533 : decode cL_law 533 = .ok (.aload_n 3, 1) := by decide +kernel
theorem dL_law_534 : decode cL_law 534 = .ok (.invokestatic 113, 3) := by decide +kernel
theorem dL_law_537 : decode cL_law 537 = .ok (.istore 5, 2) := by decide +kernel
theorem dL_law_539 : decode cL_law 539 = .ok (.aload_n 2, 1) := by decide +kernel
theorem dL_law_540 : decode cL_law 540 = .ok (.aload_n 0, 1) := by decide +kernel
theorem dL_law_541 : decode cL_law 541 = .ok (.iload 4, 2) := by decide +kernel
theorem dL_law_543 : decode cL_law 543 = .ok (.iconst 1, 1) := by decide +kernel
theorem dL_law_544 : decode cL_law 544 = .ok (.iadd, 1) := by decide +kernel
theorem dL_law_545 : decode cL_law 545 = .ok (.iaload, 1) := by decide +kernel
theorem dL_law_546 : decode cL_law 546 = .ok (.aload_n 0, 1) := by decide +kernel
theorem dL_law_547 : decode cL_law 547 = .ok (.iload 4, 2) := by decide +kernel
theorem dL_law_549 : decode cL_law 549 = .ok (.iconst 2, 1) := by decide +kernel
theorem dL_law_550 : decode cL_law 550 = .ok (.iadd, 1) := by decide +kernel
theorem dL_law_551 : decode cL_law 551 = .ok (.iaload, 1) := by decide +kernel
theorem dL_law_552 : decode cL_law 552 = .ok (.aload_n 0, 1) := by decide +kernel
theorem dL_law_553 : decode cL_law 553 = .ok (.iload 4, 2) := by decide +kernel
theorem dL_law_555 : decode cL_law 555 = .ok (.iconst 3, 1) := by decide +kernel
theorem dL_law_556 : decode cL_law 556 = .ok (.iadd, 1) := by decide +kernel
theorem dL_law_557 : decode cL_law 557 = .ok (.iaload, 1) := by decide +kernel
theorem dL_law_558 : decode cL_law 558 = .ok (.aload_n 0, 1) := by decide +kernel
theorem dL_law_559 : decode cL_law 559 = .ok (.iload 4, 2) := by decide +kernel
theorem dL_law_561 : decode cL_law 561 = .ok (.iconst 4, 1) := by decide +kernel
theorem dL_law_562 : decode cL_law 562 = .ok (.iadd, 1) := by decide +kernel
theorem dL_law_563 : decode cL_law 563 = .ok (.iaload, 1) := by decide +kernel
theorem dL_law_564 : decode cL_law 564 = .ok (.invokevirtual 115, 3) := by decide +kernel
theorem dL_law_567 : decode cL_law 567 = .ok (.istore 6, 2) := by decide +kernel
theorem dL_law_569 : decode cL_law 569 = .ok (.aload_n 2, 1) := by decide +kernel
theorem dL_law_570 : decode cL_law 570 = .ok (.invokevirtual 95, 3) := by decide +kernel
theorem dL_law_573 : decode cL_law 573 = .ok (.iload 5, 2) := by decide +kernel
theorem dL_law_575 : decode cL_law 575 = .ok (.if_icmp .eq 5, 3) := by decide +kernel
theorem dL_law_578 : decode cL_law 578 = .ok (.iconst 0, 1) := by decide +kernel
theorem dL_law_579 : decode cL_law 579 = .ok (.ireturn, 1) := by decide +kernel
theorem dL_law_580 : decode cL_law 580 = .ok (.iload 5, 2) := by decide +kernel
theorem dL_law_582 : decode cL_law 582 = .ok (.ifCond .ne 15, 3) := by decide +kernel
theorem dL_law_585 : decode cL_law 585 = .ok (.aload_n 3, 1) := by decide +kernel
theorem dL_law_586 : decode cL_law 586 = .ok (.iconst 0, 1) := by decide +kernel
theorem dL_law_587 : decode cL_law 587 = .ok (.laload, 1) := by decide +kernel
theorem dL_law_588 : decode cL_law 588 = .ok (.iload 6, 2) := by decide +kernel
theorem dL_law_590 : decode cL_law 590 = .ok (.i2l, 1) := by decide +kernel
theorem dL_law_591 : decode cL_law 591 = .ok (.lcmp, 1) := by decide +kernel
theorem dL_law_592 : decode cL_law 592 = .ok (.ifCond .eq 5, 3) := by decide +kernel
theorem dL_law_595 : decode cL_law 595 = .ok (.iconst 0, 1) := by decide +kernel
theorem dL_law_596 : decode cL_law 596 = .ok (.ireturn, 1) := by decide +kernel
theorem dL_law_597 : decode cL_law 597 = .ok (.goto 949, 3) := by decide +kernel
theorem dL_law_600 : decode cL_law 600 = .ok (.aload_n 1, 1) := by decide +kernel
theorem dL_law_601 : decode cL_law 601 = .ok (.aload_n 0, 1) := by decide +kernel
theorem dL_law_602 : decode cL_law 602 = .ok (.iload 4, 2) := by decide +kernel
theorem dL_law_604 : decode cL_law 604 = .ok (.iconst 1, 1) := by decide +kernel
theorem dL_law_605 : decode cL_law 605 = .ok (.iadd, 1) := by decide +kernel
theorem dL_law_606 : decode cL_law 606 = .ok (.iaload, 1) := by decide +kernel
theorem dL_law_607 : decode cL_law 607 = .ok (.aload_n 3, 1) := by decide +kernel
theorem dL_law_608 : decode cL_law 608 = .ok (.invokestatic 116, 3) := by decide +kernel
theorem dL_law_611 : decode cL_law 611 = .ok (.istore 5, 2) := by decide +kernel
theorem dL_law_613 : decode cL_law 613 = .ok (.aload_n 2, 1) := by decide +kernel
theorem dL_law_614 : decode cL_law 614 = .ok (.aload_n 0, 1) := by decide +kernel
theorem dL_law_615 : decode cL_law 615 = .ok (.iload 4, 2) := by decide +kernel
theorem dL_law_617 : decode cL_law 617 = .ok (.iconst 1, 1) := by decide +kernel
theorem dL_law_618 : decode cL_law 618 = .ok (.iadd, 1) := by decide +kernel
theorem dL_law_619 : decode cL_law 619 = .ok (.iaload, 1) := by decide +kernel
theorem dL_law_620 : decode cL_law 620 = .ok (.invokevirtual 118, 3) := by decide +kernel
theorem dL_law_623 : decode cL_law 623 = .ok (.istore 6, 2) := by decide +kernel
theorem dL_law_625 : decode cL_law 625 = .ok (.aload_n 2, 1) := by decide +kernel
theorem dL_law_626 : decode cL_law 626 = .ok (.invokevirtual 95, 3) := by decide +kernel
theorem dL_law_629 : decode cL_law 629 = .ok (.iload 5, 2) := by decide +kernel
theorem dL_law_631 : decode cL_law 631 = .ok (.if_icmp .eq 5, 3) := by decide +kernel
theorem dL_law_634 : decode cL_law 634 = .ok (.iconst 0, 1) := by decide +kernel
theorem dL_law_635 : decode cL_law 635 = .ok (.ireturn, 1) := by decide +kernel
theorem dL_law_636 : decode cL_law 636 = .ok (.iload 5, 2) := by decide +kernel
theorem dL_law_638 : decode cL_law 638 = .ok (.ifCond .ne 15, 3) := by decide +kernel
theorem dL_law_641 : decode cL_law 641 = .ok (.aload_n 3, 1) := by decide +kernel
theorem dL_law_642 : decode cL_law 642 = .ok (.iconst 0, 1) := by decide +kernel
theorem dL_law_643 : decode cL_law 643 = .ok (.laload, 1) := by decide +kernel
theorem dL_law_644 : decode cL_law 644 = .ok (.iload 6, 2) := by decide +kernel
theorem dL_law_646 : decode cL_law 646 = .ok (.i2l, 1) := by decide +kernel
theorem dL_law_647 : decode cL_law 647 = .ok (.lcmp, 1) := by decide +kernel
theorem dL_law_648 : decode cL_law 648 = .ok (.ifCond .eq 5, 3) := by decide +kernel
theorem dL_law_651 : decode cL_law 651 = .ok (.iconst 0, 1) := by decide +kernel
theorem dL_law_652 : decode cL_law 652 = .ok (.ireturn, 1) := by decide +kernel
theorem dL_law_653 : decode cL_law 653 = .ok (.goto 893, 3) := by decide +kernel
theorem dL_law_656 : decode cL_law 656 = .ok (.aload_n 1, 1) := by decide +kernel
theorem dL_law_657 : decode cL_law 657 = .ok (.aload_n 3, 1) := by decide +kernel
theorem dL_law_658 : decode cL_law 658 = .ok (.invokestatic 119, 3) := by decide +kernel
theorem dL_law_661 : decode cL_law 661 = .ok (.istore 5, 2) := by decide +kernel
theorem dL_law_663 : decode cL_law 663 = .ok (.aload_n 2, 1) := by decide +kernel
theorem dL_law_664 : decode cL_law 664 = .ok (.invokevirtual 122, 3) := by decide +kernel
theorem dL_law_667 : decode cL_law 667 = .ok (.istore 6, 2) := by decide +kernel
theorem dL_law_669 : decode cL_law 669 = .ok (.aload_n 2, 1) := by decide +kernel
theorem dL_law_670 : decode cL_law 670 = .ok (.invokevirtual 95, 3) := by decide +kernel
theorem dL_law_673 : decode cL_law 673 = .ok (.iload 5, 2) := by decide +kernel
theorem dL_law_675 : decode cL_law 675 = .ok (.if_icmp .eq 5, 3) := by decide +kernel
theorem dL_law_678 : decode cL_law 678 = .ok (.iconst 0, 1) := by decide +kernel
theorem dL_law_679 : decode cL_law 679 = .ok (.ireturn, 1) := by decide +kernel
theorem dL_law_680 : decode cL_law 680 = .ok (.iload 5, 2) := by decide +kernel
theorem dL_law_682 : decode cL_law 682 = .ok (.ifCond .ne 15, 3) := by decide +kernel
theorem dL_law_685 : decode cL_law 685 = .ok (.aload_n 3, 1) := by decide +kernel
theorem dL_law_686 : decode cL_law 686 = .ok (.iconst 0, 1) := by decide +kernel
theorem dL_law_687 : decode cL_law 687 = .ok (.laload, 1) := by decide +kernel
theorem dL_law_688 : decode cL_law 688 = .ok (.iload 6, 2) := by decide +kernel
theorem dL_law_690 : decode cL_law 690 = .ok (.i2l, 1) := by decide +kernel
theorem dL_law_691 : decode cL_law 691 = .ok (.lcmp, 1) := by decide +kernel
theorem dL_law_692 : decode cL_law 692 = .ok (.ifCond .eq 5, 3) := by decide +kernel
theorem dL_law_695 : decode cL_law 695 = .ok (.iconst 0, 1) := by decide +kernel
theorem dL_law_696 : decode cL_law 696 = .ok (.ireturn, 1) := by decide +kernel
theorem dL_law_697 : decode cL_law 697 = .ok (.goto 849, 3) := by decide +kernel
theorem dL_law_700 : decode cL_law 700 = .ok (.aload_n 1, 1) := by decide +kernel
theorem dL_law_701 : decode cL_law 701 = .ok (.aload_n 0, 1) := by decide +kernel
theorem dL_law_702 : decode cL_law 702 = .ok (.iload 4, 2) := by decide +kernel
theorem dL_law_704 : decode cL_law 704 = .ok (.iconst 1, 1) := by decide +kernel
theorem dL_law_705 : decode cL_law 705 = .ok (.iadd, 1) := by decide +kernel
theorem dL_law_706 : decode cL_law 706 = .ok (.iaload, 1) := by decide +kernel
theorem dL_law_707 : decode cL_law 707 = .ok (.aload_n 3, 1) := by decide +kernel
theorem dL_law_708 : decode cL_law 708 = .ok (.invokestatic 123, 3) := by decide +kernel
theorem dL_law_711 : decode cL_law 711 = .ok (.istore 5, 2) := by decide +kernel
theorem dL_law_713 : decode cL_law 713 = .ok (.aload_n 2, 1) := by decide +kernel
theorem dL_law_714 : decode cL_law 714 = .ok (.aload_n 0, 1) := by decide +kernel
theorem dL_law_715 : decode cL_law 715 = .ok (.iload 4, 2) := by decide +kernel
theorem dL_law_717 : decode cL_law 717 = .ok (.iconst 1, 1) := by decide +kernel
theorem dL_law_718 : decode cL_law 718 = .ok (.iadd, 1) := by decide +kernel
theorem dL_law_719 : decode cL_law 719 = .ok (.iaload, 1) := by decide +kernel
theorem dL_law_720 : decode cL_law 720 = .ok (.invokevirtual 125, 3) := by decide +kernel
theorem dL_law_723 : decode cL_law 723 = .ok (.istore 6, 2) := by decide +kernel
theorem dL_law_725 : decode cL_law 725 = .ok (.aload_n 2, 1) := by decide +kernel
theorem dL_law_726 : decode cL_law 726 = .ok (.invokevirtual 95, 3) := by decide +kernel
theorem dL_law_729 : decode cL_law 729 = .ok (.iload 5, 2) := by decide +kernel
theorem dL_law_731 : decode cL_law 731 = .ok (.if_icmp .eq 5, 3) := by decide +kernel
theorem dL_law_734 : decode cL_law 734 = .ok (.iconst 0, 1) := by decide +kernel
theorem dL_law_735 : decode cL_law 735 = .ok (.ireturn, 1) := by decide +kernel
theorem dL_law_736 : decode cL_law 736 = .ok (.iload 5, 2) := by decide +kernel
theorem dL_law_738 : decode cL_law 738 = .ok (.ifCond .ne 15, 3) := by decide +kernel
theorem dL_law_741 : decode cL_law 741 = .ok (.aload_n 3, 1) := by decide +kernel
theorem dL_law_742 : decode cL_law 742 = .ok (.iconst 0, 1) := by decide +kernel
theorem dL_law_743 : decode cL_law 743 = .ok (.laload, 1) := by decide +kernel
theorem dL_law_744 : decode cL_law 744 = .ok (.iload 6, 2) := by decide +kernel
theorem dL_law_746 : decode cL_law 746 = .ok (.i2l, 1) := by decide +kernel
theorem dL_law_747 : decode cL_law 747 = .ok (.lcmp, 1) := by decide +kernel
theorem dL_law_748 : decode cL_law 748 = .ok (.ifCond .eq 5, 3) := by decide +kernel
theorem dL_law_751 : decode cL_law 751 = .ok (.iconst 0, 1) := by decide +kernel
theorem dL_law_752 : decode cL_law 752 = .ok (.ireturn, 1) := by decide +kernel
theorem dL_law_753 : decode cL_law 753 = .ok (.goto 793, 3) := by decide +kernel
theorem dL_law_756 : decode cL_law 756 = .ok (.aload_n 1, 1) := by decide +kernel
theorem dL_law_757 : decode cL_law 757 = .ok (.aload_n 0, 1) := by decide +kernel
theorem dL_law_758 : decode cL_law 758 = .ok (.iload 4, 2) := by decide +kernel
theorem dL_law_760 : decode cL_law 760 = .ok (.iconst 1, 1) := by decide +kernel
theorem dL_law_761 : decode cL_law 761 = .ok (.iadd, 1) := by decide +kernel
theorem dL_law_762 : decode cL_law 762 = .ok (.iaload, 1) := by decide +kernel
theorem dL_law_763 : decode cL_law 763 = .ok (.aload_n 0, 1) := by decide +kernel
theorem dL_law_764 : decode cL_law 764 = .ok (.iload 4, 2) := by decide +kernel
theorem dL_law_766 : decode cL_law 766 = .ok (.iconst 2, 1) := by decide +kernel
theorem dL_law_767 : decode cL_law 767 = .ok (.iadd, 1) := by decide +kernel
theorem dL_law_768 : decode cL_law 768 = .ok (.iaload, 1) := by decide +kernel
theorem dL_law_769 : decode cL_law 769 = .ok (.aload_n 3, 1) := by decide +kernel
theorem dL_law_770 : decode cL_law 770 = .ok (.invokestatic 126, 3) := by decide +kernel
theorem dL_law_773 : decode cL_law 773 = .ok (.istore 5, 2) := by decide +kernel
theorem dL_law_775 : decode cL_law 775 = .ok (.aload_n 2, 1) := by decide +kernel
theorem dL_law_776 : decode cL_law 776 = .ok (.aload_n 0, 1) := by decide +kernel
theorem dL_law_777 : decode cL_law 777 = .ok (.iload 4, 2) := by decide +kernel
theorem dL_law_779 : decode cL_law 779 = .ok (.iconst 1, 1) := by decide +kernel
theorem dL_law_780 : decode cL_law 780 = .ok (.iadd, 1) := by decide +kernel
theorem dL_law_781 : decode cL_law 781 = .ok (.iaload, 1) := by decide +kernel
theorem dL_law_782 : decode cL_law 782 = .ok (.aload_n 0, 1) := by decide +kernel
theorem dL_law_783 : decode cL_law 783 = .ok (.iload 4, 2) := by decide +kernel
theorem dL_law_785 : decode cL_law 785 = .ok (.iconst 2, 1) := by decide +kernel
theorem dL_law_786 : decode cL_law 786 = .ok (.iadd, 1) := by decide +kernel
theorem dL_law_787 : decode cL_law 787 = .ok (.iaload, 1) := by decide +kernel
theorem dL_law_788 : decode cL_law 788 = .ok (.invokevirtual 128, 3) := by decide +kernel
theorem dL_law_791 : decode cL_law 791 = .ok (.istore 6, 2) := by decide +kernel
theorem dL_law_793 : decode cL_law 793 = .ok (.aload_n 2, 1) := by decide +kernel
theorem dL_law_794 : decode cL_law 794 = .ok (.invokevirtual 95, 3) := by decide +kernel
theorem dL_law_797 : decode cL_law 797 = .ok (.iload 5, 2) := by decide +kernel
theorem dL_law_799 : decode cL_law 799 = .ok (.if_icmp .eq 5, 3) := by decide +kernel
theorem dL_law_802 : decode cL_law 802 = .ok (.iconst 0, 1) := by decide +kernel
theorem dL_law_803 : decode cL_law 803 = .ok (.ireturn, 1) := by decide +kernel
theorem dL_law_804 : decode cL_law 804 = .ok (.iload 5, 2) := by decide +kernel
theorem dL_law_806 : decode cL_law 806 = .ok (.ifCond .ne 15, 3) := by decide +kernel
theorem dL_law_809 : decode cL_law 809 = .ok (.aload_n 3, 1) := by decide +kernel
theorem dL_law_810 : decode cL_law 810 = .ok (.iconst 0, 1) := by decide +kernel
theorem dL_law_811 : decode cL_law 811 = .ok (.laload, 1) := by decide +kernel
theorem dL_law_812 : decode cL_law 812 = .ok (.iload 6, 2) := by decide +kernel
theorem dL_law_814 : decode cL_law 814 = .ok (.i2l, 1) := by decide +kernel
theorem dL_law_815 : decode cL_law 815 = .ok (.lcmp, 1) := by decide +kernel
theorem dL_law_816 : decode cL_law 816 = .ok (.ifCond .eq 5, 3) := by decide +kernel
theorem dL_law_819 : decode cL_law 819 = .ok (.iconst 0, 1) := by decide +kernel
theorem dL_law_820 : decode cL_law 820 = .ok (.ireturn, 1) := by decide +kernel
theorem dL_law_821 : decode cL_law 821 = .ok (.goto 725, 3) := by decide +kernel
theorem dL_law_824 : decode cL_law 824 = .ok (.aload_n 1, 1) := by decide +kernel
theorem dL_law_825 : decode cL_law 825 = .ok (.aload_n 0, 1) := by decide +kernel
theorem dL_law_826 : decode cL_law 826 = .ok (.iload 4, 2) := by decide +kernel
theorem dL_law_828 : decode cL_law 828 = .ok (.iconst 1, 1) := by decide +kernel
theorem dL_law_829 : decode cL_law 829 = .ok (.iadd, 1) := by decide +kernel
theorem dL_law_830 : decode cL_law 830 = .ok (.iaload, 1) := by decide +kernel
theorem dL_law_831 : decode cL_law 831 = .ok (.aload_n 3, 1) := by decide +kernel
theorem dL_law_832 : decode cL_law 832 = .ok (.invokestatic 129, 3) := by decide +kernel
theorem dL_law_835 : decode cL_law 835 = .ok (.istore 5, 2) := by decide +kernel
theorem dL_law_837 : decode cL_law 837 = .ok (.aload_n 2, 1) := by decide +kernel
theorem dL_law_838 : decode cL_law 838 = .ok (.aload_n 0, 1) := by decide +kernel
theorem dL_law_839 : decode cL_law 839 = .ok (.iload 4, 2) := by decide +kernel
theorem dL_law_841 : decode cL_law 841 = .ok (.iconst 1, 1) := by decide +kernel
theorem dL_law_842 : decode cL_law 842 = .ok (.iadd, 1) := by decide +kernel
theorem dL_law_843 : decode cL_law 843 = .ok (.iaload, 1) := by decide +kernel
theorem dL_law_844 : decode cL_law 844 = .ok (.invokevirtual 131, 3) := by decide +kernel
theorem dL_law_847 : decode cL_law 847 = .ok (.istore 6, 2) := by decide +kernel
theorem dL_law_849 : decode cL_law 849 = .ok (.aload_n 2, 1) := by decide +kernel
theorem dL_law_850 : decode cL_law 850 = .ok (.invokevirtual 95, 3) := by decide +kernel
theorem dL_law_853 : decode cL_law 853 = .ok (.iload 5, 2) := by decide +kernel
theorem dL_law_855 : decode cL_law 855 = .ok (.if_icmp .eq 5, 3) := by decide +kernel
theorem dL_law_858 : decode cL_law 858 = .ok (.iconst 0, 1) := by decide +kernel
theorem dL_law_859 : decode cL_law 859 = .ok (.ireturn, 1) := by decide +kernel
theorem dL_law_860 : decode cL_law 860 = .ok (.iload 5, 2) := by decide +kernel
theorem dL_law_862 : decode cL_law 862 = .ok (.ifCond .ne 15, 3) := by decide +kernel
theorem dL_law_865 : decode cL_law 865 = .ok (.aload_n 3, 1) := by decide +kernel
theorem dL_law_866 : decode cL_law 866 = .ok (.iconst 0, 1) := by decide +kernel
theorem dL_law_867 : decode cL_law 867 = .ok (.laload, 1) := by decide +kernel
theorem dL_law_868 : decode cL_law 868 = .ok (.iload 6, 2) := by decide +kernel
theorem dL_law_870 : decode cL_law 870 = .ok (.i2l, 1) := by decide +kernel
theorem dL_law_871 : decode cL_law 871 = .ok (.lcmp, 1) := by decide +kernel
theorem dL_law_872 : decode cL_law 872 = .ok (.ifCond .eq 5, 3) := by decide +kernel
theorem dL_law_875 : decode cL_law 875 = .ok (.iconst 0, 1) := by decide +kernel
theorem dL_law_876 : decode cL_law 876 = .ok (.ireturn, 1) := by decide +kernel
theorem dL_law_877 : decode cL_law 877 = .ok (.goto 669, 3) := by decide +kernel
theorem dL_law_880 : decode cL_law 880 = .ok (.aload_n 1, 1) := by decide +kernel
theorem dL_law_881 : decode cL_law 881 = .ok (.aload_n 0, 1) := by decide +kernel
theorem dL_law_882 : decode cL_law 882 = .ok (.iload 4, 2) := by decide +kernel
theorem dL_law_884 : decode cL_law 884 = .ok (.iconst 1, 1) := by decide +kernel
theorem dL_law_885 : decode cL_law 885 = .ok (.iadd, 1) := by decide +kernel
theorem dL_law_886 : decode cL_law 886 = .ok (.iaload, 1) := by decide +kernel
theorem dL_law_887 : decode cL_law 887 = .ok (.aload_n 3, 1) := by decide +kernel
theorem dL_law_888 : decode cL_law 888 = .ok (.invokestatic 132, 3) := by decide +kernel
theorem dL_law_891 : decode cL_law 891 = .ok (.istore 5, 2) := by decide +kernel
theorem dL_law_893 : decode cL_law 893 = .ok (.aload_n 2, 1) := by decide +kernel
theorem dL_law_894 : decode cL_law 894 = .ok (.aload_n 0, 1) := by decide +kernel
theorem dL_law_895 : decode cL_law 895 = .ok (.iload 4, 2) := by decide +kernel
theorem dL_law_897 : decode cL_law 897 = .ok (.iconst 1, 1) := by decide +kernel
theorem dL_law_898 : decode cL_law 898 = .ok (.iadd, 1) := by decide +kernel
theorem dL_law_899 : decode cL_law 899 = .ok (.iaload, 1) := by decide +kernel
theorem dL_law_900 : decode cL_law 900 = .ok (.invokevirtual 134, 3) := by decide +kernel
theorem dL_law_903 : decode cL_law 903 = .ok (.istore 6, 2) := by decide +kernel
theorem dL_law_905 : decode cL_law 905 = .ok (.aload_n 2, 1) := by decide +kernel
theorem dL_law_906 : decode cL_law 906 = .ok (.invokevirtual 95, 3) := by decide +kernel
theorem dL_law_909 : decode cL_law 909 = .ok (.iload 5, 2) := by decide +kernel
theorem dL_law_911 : decode cL_law 911 = .ok (.if_icmp .eq 5, 3) := by decide +kernel
theorem dL_law_914 : decode cL_law 914 = .ok (.iconst 0, 1) := by decide +kernel
theorem dL_law_915 : decode cL_law 915 = .ok (.ireturn, 1) := by decide +kernel
theorem dL_law_916 : decode cL_law 916 = .ok (.iload 5, 2) := by decide +kernel
theorem dL_law_918 : decode cL_law 918 = .ok (.ifCond .ne 15, 3) := by decide +kernel
theorem dL_law_921 : decode cL_law 921 = .ok (.aload_n 3, 1) := by decide +kernel
theorem dL_law_922 : decode cL_law 922 = .ok (.iconst 0, 1) := by decide +kernel
theorem dL_law_923 : decode cL_law 923 = .ok (.laload, 1) := by decide +kernel
theorem dL_law_924 : decode cL_law 924 = .ok (.iload 6, 2) := by decide +kernel
theorem dL_law_926 : decode cL_law 926 = .ok (.i2l, 1) := by decide +kernel
theorem dL_law_927 : decode cL_law 927 = .ok (.lcmp, 1) := by decide +kernel
theorem dL_law_928 : decode cL_law 928 = .ok (.ifCond .eq 5, 3) := by decide +kernel
theorem dL_law_931 : decode cL_law 931 = .ok (.iconst 0, 1) := by decide +kernel
theorem dL_law_932 : decode cL_law 932 = .ok (.ireturn, 1) := by decide +kernel
theorem dL_law_933 : decode cL_law 933 = .ok (.goto 613, 3) := by decide +kernel
theorem dL_law_936 : decode cL_law 936 = .ok (.aload_n 1, 1) := by decide +kernel
theorem dL_law_937 : decode cL_law 937 = .ok (.aload_n 0, 1) := by decide +kernel
theorem dL_law_938 : decode cL_law 938 = .ok (.iload 4, 2) := by decide +kernel
theorem dL_law_940 : decode cL_law 940 = .ok (.iconst 1, 1) := by decide +kernel
theorem dL_law_941 : decode cL_law 941 = .ok (.iadd, 1) := by decide +kernel
theorem dL_law_942 : decode cL_law 942 = .ok (.iaload, 1) := by decide +kernel
theorem dL_law_943 : decode cL_law 943 = .ok (.aload_n 3, 1) := by decide +kernel
theorem dL_law_944 : decode cL_law 944 = .ok (.invokestatic 135, 3) := by decide +kernel
theorem dL_law_947 : decode cL_law 947 = .ok (.istore 5, 2) := by decide +kernel
theorem dL_law_949 : decode cL_law 949 = .ok (.aload_n 2, 1) := by decide +kernel
theorem dL_law_950 : decode cL_law 950 = .ok (.aload_n 0, 1) := by decide +kernel
theorem dL_law_951 : decode cL_law 951 = .ok (.iload 4, 2) := by decide +kernel
theorem dL_law_953 : decode cL_law 953 = .ok (.iconst 1, 1) := by decide +kernel
theorem dL_law_954 : decode cL_law 954 = .ok (.iadd, 1) := by decide +kernel
theorem dL_law_955 : decode cL_law 955 = .ok (.iaload, 1) := by decide +kernel
theorem dL_law_956 : decode cL_law 956 = .ok (.invokevirtual 137, 3) := by decide +kernel
theorem dL_law_959 : decode cL_law 959 = .ok (.istore 6, 2) := by decide +kernel
theorem dL_law_961 : decode cL_law 961 = .ok (.aload_n 2, 1) := by decide +kernel
theorem dL_law_962 : decode cL_law 962 = .ok (.invokevirtual 95, 3) := by decide +kernel
theorem dL_law_965 : decode cL_law 965 = .ok (.iload 5, 2) := by decide +kernel
theorem dL_law_967 : decode cL_law 967 = .ok (.if_icmp .eq 5, 3) := by decide +kernel
theorem dL_law_970 : decode cL_law 970 = .ok (.iconst 0, 1) := by decide +kernel
theorem dL_law_971 : decode cL_law 971 = .ok (.ireturn, 1) := by decide +kernel
theorem dL_law_972 : decode cL_law 972 = .ok (.iload 5, 2) := by decide +kernel
theorem dL_law_974 : decode cL_law 974 = .ok (.ifCond .ne 15, 3) := by decide +kernel
theorem dL_law_977 : decode cL_law 977 = .ok (.aload_n 3, 1) := by decide +kernel
theorem dL_law_978 : decode cL_law 978 = .ok (.iconst 0, 1) := by decide +kernel
theorem dL_law_979 : decode cL_law 979 = .ok (.laload, 1) := by decide +kernel
theorem dL_law_980 : decode cL_law 980 = .ok (.iload 6, 2) := by decide +kernel
theorem dL_law_982 : decode cL_law 982 = .ok (.i2l, 1) := by decide +kernel
theorem dL_law_983 : decode cL_law 983 = .ok (.lcmp, 1) := by decide +kernel
theorem dL_law_984 : decode cL_law 984 = .ok (.ifCond .eq 5, 3) := by decide +kernel
theorem dL_law_987 : decode cL_law 987 = .ok (.iconst 0, 1) := by decide +kernel
theorem dL_law_988 : decode cL_law 988 = .ok (.ireturn, 1) := by decide +kernel
theorem dL_law_989 : decode cL_law 989 = .ok (.goto 557, 3) := by decide +kernel
theorem dL_law_992 : decode cL_law 992 = .ok (.aload_n 1, 1) := by decide +kernel
theorem dL_law_993 : decode cL_law 993 = .ok (.aload_n 0, 1) := by decide +kernel
theorem dL_law_994 : decode cL_law 994 = .ok (.iload 4, 2) := by decide +kernel
theorem dL_law_996 : decode cL_law 996 = .ok (.iconst 1, 1) := by decide +kernel
theorem dL_law_997 : decode cL_law 997 = .ok (.iadd, 1) := by decide +kernel
theorem dL_law_998 : decode cL_law 998 = .ok (.iaload, 1) := by decide +kernel
theorem dL_law_999 : decode cL_law 999 = .ok (.aload_n 0, 1) := by decide +kernel
theorem dL_law_1000 : decode cL_law 1000 = .ok (.iload 4, 2) := by decide +kernel
theorem dL_law_1002 : decode cL_law 1002 = .ok (.iconst 2, 1) := by decide +kernel
theorem dL_law_1003 : decode cL_law 1003 = .ok (.iadd, 1) := by decide +kernel
theorem dL_law_1004 : decode cL_law 1004 = .ok (.iaload, 1) := by decide +kernel
theorem dL_law_1005 : decode cL_law 1005 = .ok (.aload_n 3, 1) := by decide +kernel
theorem dL_law_1006 : decode cL_law 1006 = .ok (.invokestatic 138, 3) := by decide +kernel
theorem dL_law_1009 : decode cL_law 1009 = .ok (.istore 5, 2) := by decide +kernel
theorem dL_law_1011 : decode cL_law 1011 = .ok (.aload_n 2, 1) := by decide +kernel
theorem dL_law_1012 : decode cL_law 1012 = .ok (.aload_n 0, 1) := by decide +kernel
theorem dL_law_1013 : decode cL_law 1013 = .ok (.iload 4, 2) := by decide +kernel
theorem dL_law_1015 : decode cL_law 1015 = .ok (.iconst 1, 1) := by decide +kernel
theorem dL_law_1016 : decode cL_law 1016 = .ok (.iadd, 1) := by decide +kernel
theorem dL_law_1017 : decode cL_law 1017 = .ok (.iaload, 1) := by decide +kernel
theorem dL_law_1018 : decode cL_law 1018 = .ok (.aload_n 0, 1) := by decide +kernel
theorem dL_law_1019 : decode cL_law 1019 = .ok (.iload 4, 2) := by decide +kernel
theorem dL_law_1021 : decode cL_law 1021 = .ok (.iconst 2, 1) := by decide +kernel
theorem dL_law_1022 : decode cL_law 1022 = .ok (.iadd, 1) := by decide +kernel
theorem dL_law_1023 : decode cL_law 1023 = .ok (.iaload, 1) := by decide +kernel
theorem dL_law_1024 : decode cL_law 1024 = .ok (.invokevirtual 140, 3) := by decide +kernel
theorem dL_law_1027 : decode cL_law 1027 = .ok (.istore 6, 2) := by decide +kernel
theorem dL_law_1029 : decode cL_law 1029 = .ok (.aload_n 2, 1) := by decide +kernel
theorem dL_law_1030 : decode cL_law 1030 = .ok (.invokevirtual 95, 3) := by decide +kernel
theorem dL_law_1033 : decode cL_law 1033 = .ok (.iload 5, 2) := by decide +kernel
theorem dL_law_1035 : decode cL_law 1035 = .ok (.if_icmp .eq 5, 3) := by decide +kernel
theorem dL_law_1038 : decode cL_law 1038 = .ok (.iconst 0, 1) := by decide +kernel
theorem dL_law_1039 : decode cL_law 1039 = .ok (.ireturn, 1) := by decide +kernel
theorem dL_law_1040 : decode cL_law 1040 = .ok (.iload 5, 2) := by decide +kernel
theorem dL_law_1042 : decode cL_law 1042 = .ok (.ifCond .ne 15, 3) := by decide +kernel
theorem dL_law_1045 : decode cL_law 1045 = .ok (.aload_n 3, 1) := by decide +kernel
theorem dL_law_1046 : decode cL_law 1046 = .ok (.iconst 0, 1) := by decide +kernel
theorem dL_law_1047 : decode cL_law 1047 = .ok (.laload, 1) := by decide +kernel
theorem dL_law_1048 : decode cL_law 1048 = .ok (.iload 6, 2) := by decide +kernel
theorem dL_law_1050 : decode cL_law 1050 = .ok (.i2l, 1) := by decide +kernel
theorem dL_law_1051 : decode cL_law 1051 = .ok (.lcmp, 1) := by decide +kernel
theorem dL_law_1052 : decode cL_law 1052 = .ok (.ifCond .eq 5, 3) := by decide +kernel
theorem dL_law_1055 : decode cL_law 1055 = .ok (.iconst 0, 1) := by decide +kernel
theorem dL_law_1056 : decode cL_law 1056 = .ok (.ireturn, 1) := by decide +kernel
theorem dL_law_1057 : decode cL_law 1057 = .ok (.goto 489, 3) := by decide +kernel
theorem dL_law_1060 : decode cL_law 1060 = .ok (.aload_n 1, 1) := by decide +kernel
theorem dL_law_1061 : decode cL_law 1061 = .ok (.aload_n 0, 1) := by decide +kernel
theorem dL_law_1062 : decode cL_law 1062 = .ok (.iload 4, 2) := by decide +kernel
theorem dL_law_1064 : decode cL_law 1064 = .ok (.iconst 1, 1) := by decide +kernel
theorem dL_law_1065 : decode cL_law 1065 = .ok (.iadd, 1) := by decide +kernel
theorem dL_law_1066 : decode cL_law 1066 = .ok (.iaload, 1) := by decide +kernel
theorem dL_law_1067 : decode cL_law 1067 = .ok (.aload_n 3, 1) := by decide +kernel
theorem dL_law_1068 : decode cL_law 1068 = .ok (.invokestatic 141, 3) := by decide +kernel
theorem dL_law_1071 : decode cL_law 1071 = .ok (.istore 5, 2) := by decide +kernel
theorem dL_law_1073 : decode cL_law 1073 = .ok (.aload_n 2, 1) := by decide +kernel
theorem dL_law_1074 : decode cL_law 1074 = .ok (.aload_n 0, 1) := by decide +kernel
theorem dL_law_1075 : decode cL_law 1075 = .ok (.iload 4, 2) := by decide +kernel
theorem dL_law_1077 : decode cL_law 1077 = .ok (.iconst 1, 1) := by decide +kernel
theorem dL_law_1078 : decode cL_law 1078 = .ok (.iadd, 1) := by decide +kernel
theorem dL_law_1079 : decode cL_law 1079 = .ok (.iaload, 1) := by decide +kernel
theorem dL_law_1080 : decode cL_law 1080 = .ok (.invokevirtual 143, 3) := by decide +kernel
theorem dL_law_1083 : decode cL_law 1083 = .ok (.istore 6, 2) := by decide +kernel
theorem dL_law_1085 : decode cL_law 1085 = .ok (.aload_n 2, 1) := by decide +kernel
theorem dL_law_1086 : decode cL_law 1086 = .ok (.invokevirtual 95, 3) := by decide +kernel
theorem dL_law_1089 : decode cL_law 1089 = .ok (.iload 5, 2) := by decide +kernel
theorem dL_law_1091 : decode cL_law 1091 = .ok (.if_icmp .eq 5, 3) := by decide +kernel
theorem dL_law_1094 : decode cL_law 1094 = .ok (.iconst 0, 1) := by decide +kernel
theorem dL_law_1095 : decode cL_law 1095 = .ok (.ireturn, 1) := by decide +kernel
theorem dL_law_1096 : decode cL_law 1096 = .ok (.iload 5, 2) := by decide +kernel
theorem dL_law_1098 : decode cL_law 1098 = .ok (.ifCond .ne 15, 3) := by decide +kernel
theorem dL_law_1101 : decode cL_law 1101 = .ok (.aload_n 3, 1) := by decide +kernel
theorem dL_law_1102 : decode cL_law 1102 = .ok (.iconst 0, 1) := by decide +kernel
theorem dL_law_1103 : decode cL_law 1103 = .ok (.laload, 1) := by decide +kernel
theorem dL_law_1104 : decode cL_law 1104 = .ok (.iload 6, 2) := by decide +kernel
theorem dL_law_1106 : decode cL_law 1106 = .ok (.i2l, 1) := by decide +kernel
theorem dL_law_1107 : decode cL_law 1107 = .ok (.lcmp, 1) := by decide +kernel
theorem dL_law_1108 : decode cL_law 1108 = .ok (.ifCond .eq 5, 3) := by decide +kernel
theorem dL_law_1111 : decode cL_law 1111 = .ok (.iconst 0, 1) := by decide +kernel
theorem dL_law_1112 : decode cL_law 1112 = .ok (.ireturn, 1) := by decide +kernel
theorem dL_law_1113 : decode cL_law 1113 = .ok (.goto 433, 3) := by decide +kernel
theorem dL_law_1116 : decode cL_law 1116 = .ok (.aload_n 1, 1) := by decide +kernel
theorem dL_law_1117 : decode cL_law 1117 = .ok (.aload_n 0, 1) := by decide +kernel
theorem dL_law_1118 : decode cL_law 1118 = .ok (.iload 4, 2) := by decide +kernel
theorem dL_law_1120 : decode cL_law 1120 = .ok (.iconst 1, 1) := by decide +kernel
theorem dL_law_1121 : decode cL_law 1121 = .ok (.iadd, 1) := by decide +kernel
theorem dL_law_1122 : decode cL_law 1122 = .ok (.iaload, 1) := by decide +kernel
theorem dL_law_1123 : decode cL_law 1123 = .ok (.aload_n 3, 1) := by decide +kernel
theorem dL_law_1124 : decode cL_law 1124 = .ok (.invokestatic 144, 3) := by decide +kernel
theorem dL_law_1127 : decode cL_law 1127 = .ok (.istore 5, 2) := by decide +kernel
theorem dL_law_1129 : decode cL_law 1129 = .ok (.aload_n 2, 1) := by decide +kernel
theorem dL_law_1130 : decode cL_law 1130 = .ok (.aload_n 0, 1) := by decide +kernel
theorem dL_law_1131 : decode cL_law 1131 = .ok (.iload 4, 2) := by decide +kernel
theorem dL_law_1133 : decode cL_law 1133 = .ok (.iconst 1, 1) := by decide +kernel
theorem dL_law_1134 : decode cL_law 1134 = .ok (.iadd, 1) := by decide +kernel
theorem dL_law_1135 : decode cL_law 1135 = .ok (.iaload, 1) := by decide +kernel
theorem dL_law_1136 : decode cL_law 1136 = .ok (.invokevirtual 146, 3) := by decide +kernel
theorem dL_law_1139 : decode cL_law 1139 = .ok (.istore 6, 2) := by decide +kernel
theorem dL_law_1141 : decode cL_law 1141 = .ok (.aload_n 2, 1) := by decide +kernel
theorem dL_law_1142 : decode cL_law 1142 = .ok (.invokevirtual 95, 3) := by decide +kernel
theorem dL_law_1145 : decode cL_law 1145 = .ok (.iload 5, 2) := by decide +kernel
theorem dL_law_1147 : decode cL_law 1147 = .ok (.if_icmp .eq 5, 3) := by decide +kernel
theorem dL_law_1150 : decode cL_law 1150 = .ok (.iconst 0, 1) := by decide +kernel
theorem dL_law_1151 : decode cL_law 1151 = .ok (.ireturn, 1) := by decide +kernel
theorem dL_law_1152 : decode cL_law 1152 = .ok (.iload 5, 2) := by decide +kernel
theorem dL_law_1154 : decode cL_law 1154 = .ok (.ifCond .ne 15, 3) := by decide +kernel
theorem dL_law_1157 : decode cL_law 1157 = .ok (.aload_n 3, 1) := by decide +kernel
theorem dL_law_1158 : decode cL_law 1158 = .ok (.iconst 0, 1) := by decide +kernel
theorem dL_law_1159 : decode cL_law 1159 = .ok (.laload, 1) := by decide +kernel
theorem dL_law_1160 : decode cL_law 1160 = .ok (.iload 6, 2) := by decide +kernel
theorem dL_law_1162 : decode cL_law 1162 = .ok (.i2l, 1) := by decide +kernel
theorem dL_law_1163 : decode cL_law 1163 = .ok (.lcmp, 1) := by decide +kernel
theorem dL_law_1164 : decode cL_law 1164 = .ok (.ifCond .eq 5, 3) := by decide +kernel
theorem dL_law_1167 : decode cL_law 1167 = .ok (.iconst 0, 1) := by decide +kernel
theorem dL_law_1168 : decode cL_law 1168 = .ok (.ireturn, 1) := by decide +kernel
theorem dL_law_1169 : decode cL_law 1169 = .ok (.goto 377, 3) := by decide +kernel
theorem dL_law_1172 : decode cL_law 1172 = .ok (.aload_n 1, 1) := by decide +kernel
theorem dL_law_1173 : decode cL_law 1173 = .ok (.aload_n 0, 1) := by decide +kernel
theorem dL_law_1174 : decode cL_law 1174 = .ok (.iload 4, 2) := by decide +kernel
theorem dL_law_1176 : decode cL_law 1176 = .ok (.iconst 1, 1) := by decide +kernel
theorem dL_law_1177 : decode cL_law 1177 = .ok (.iadd, 1) := by decide +kernel
theorem dL_law_1178 : decode cL_law 1178 = .ok (.iaload, 1) := by decide +kernel
theorem dL_law_1179 : decode cL_law 1179 = .ok (.aload_n 0, 1) := by decide +kernel
theorem dL_law_1180 : decode cL_law 1180 = .ok (.iload 4, 2) := by decide +kernel
theorem dL_law_1182 : decode cL_law 1182 = .ok (.iconst 2, 1) := by decide +kernel
theorem dL_law_1183 : decode cL_law 1183 = .ok (.iadd, 1) := by decide +kernel
theorem dL_law_1184 : decode cL_law 1184 = .ok (.iaload, 1) := by decide +kernel
theorem dL_law_1185 : decode cL_law 1185 = .ok (.aload_n 3, 1) := by decide +kernel
theorem dL_law_1186 : decode cL_law 1186 = .ok (.invokestatic 147, 3) := by decide +kernel
theorem dL_law_1189 : decode cL_law 1189 = .ok (.istore 5, 2) := by decide +kernel
theorem dL_law_1191 : decode cL_law 1191 = .ok (.aload_n 2, 1) := by decide +kernel
theorem dL_law_1192 : decode cL_law 1192 = .ok (.aload_n 0, 1) := by decide +kernel
theorem dL_law_1193 : decode cL_law 1193 = .ok (.iload 4, 2) := by decide +kernel
theorem dL_law_1195 : decode cL_law 1195 = .ok (.iconst 1, 1) := by decide +kernel
theorem dL_law_1196 : decode cL_law 1196 = .ok (.iadd, 1) := by decide +kernel
theorem dL_law_1197 : decode cL_law 1197 = .ok (.iaload, 1) := by decide +kernel
theorem dL_law_1198 : decode cL_law 1198 = .ok (.aload_n 0, 1) := by decide +kernel
theorem dL_law_1199 : decode cL_law 1199 = .ok (.iload 4, 2) := by decide +kernel
theorem dL_law_1201 : decode cL_law 1201 = .ok (.iconst 2, 1) := by decide +kernel
theorem dL_law_1202 : decode cL_law 1202 = .ok (.iadd, 1) := by decide +kernel
theorem dL_law_1203 : decode cL_law 1203 = .ok (.iaload, 1) := by decide +kernel
theorem dL_law_1204 : decode cL_law 1204 = .ok (.invokevirtual 149, 3) := by decide +kernel
theorem dL_law_1207 : decode cL_law 1207 = .ok (.istore 6, 2) := by decide +kernel
theorem dL_law_1209 : decode cL_law 1209 = .ok (.aload_n 2, 1) := by decide +kernel
theorem dL_law_1210 : decode cL_law 1210 = .ok (.invokevirtual 95, 3) := by decide +kernel
theorem dL_law_1213 : decode cL_law 1213 = .ok (.iload 5, 2) := by decide +kernel
theorem dL_law_1215 : decode cL_law 1215 = .ok (.if_icmp .eq 5, 3) := by decide +kernel
theorem dL_law_1218 : decode cL_law 1218 = .ok (.iconst 0, 1) := by decide +kernel
theorem dL_law_1219 : decode cL_law 1219 = .ok (.ireturn, 1) := by decide +kernel
theorem dL_law_1220 : decode cL_law 1220 = .ok (.iload 5, 2) := by decide +kernel
theorem dL_law_1222 : decode cL_law 1222 = .ok (.ifCond .ne 15, 3) := by decide +kernel
theorem dL_law_1225 : decode cL_law 1225 = .ok (.aload_n 3, 1) := by decide +kernel
theorem dL_law_1226 : decode cL_law 1226 = .ok (.iconst 0, 1) := by decide +kernel
theorem dL_law_1227 : decode cL_law 1227 = .ok (.laload, 1) := by decide +kernel
theorem dL_law_1228 : decode cL_law 1228 = .ok (.iload 6, 2) := by decide +kernel
theorem dL_law_1230 : decode cL_law 1230 = .ok (.i2l, 1) := by decide +kernel
theorem dL_law_1231 : decode cL_law 1231 = .ok (.lcmp, 1) := by decide +kernel
theorem dL_law_1232 : decode cL_law 1232 = .ok (.ifCond .eq 5, 3) := by decide +kernel
theorem dL_law_1235 : decode cL_law 1235 = .ok (.iconst 0, 1) := by decide +kernel
theorem dL_law_1236 : decode cL_law 1236 = .ok (.ireturn, 1) := by decide +kernel
theorem dL_law_1237 : decode cL_law 1237 = .ok (.goto 309, 3) := by decide +kernel
theorem dL_law_1240 : decode cL_law 1240 = .ok (.aload_n 1, 1) := by decide +kernel
theorem dL_law_1241 : decode cL_law 1241 = .ok (.invokevirtual 150, 3) := by decide +kernel
theorem dL_law_1244 : decode cL_law 1244 = .ok (.aload_n 2, 1) := by decide +kernel
theorem dL_law_1245 : decode cL_law 1245 = .ok (.invokevirtual 153, 3) := by decide +kernel
theorem dL_law_1248 : decode cL_law 1248 = .ok (.if_icmp .eq 298, 3) := by decide +kernel
theorem dL_law_1251 : decode cL_law 1251 = .ok (.iconst 0, 1) := by decide +kernel
theorem dL_law_1252 : decode cL_law 1252 = .ok (.ireturn, 1) := by decide +kernel
theorem dL_law_1253 : decode cL_law 1253 = .ok (.aload_n 1, 1) := by decide +kernel
theorem dL_law_1254 : decode cL_law 1254 = .ok (.aload_n 0, 1) := by decide +kernel
theorem dL_law_1255 : decode cL_law 1255 = .ok (.iload 4, 2) := by decide +kernel
theorem dL_law_1257 : decode cL_law 1257 = .ok (.iconst 1, 1) := by decide +kernel
theorem dL_law_1258 : decode cL_law 1258 = .ok (.iadd, 1) := by decide +kernel
theorem dL_law_1259 : decode cL_law 1259 = .ok (.iaload, 1) := by decide +kernel
theorem dL_law_1260 : decode cL_law 1260 = .ok (.aload_n 3, 1) := by decide +kernel
theorem dL_law_1261 : decode cL_law 1261 = .ok (.invokestatic 154, 3) := by decide +kernel
theorem dL_law_1264 : decode cL_law 1264 = .ok (.istore 5, 2) := by decide +kernel
theorem dL_law_1266 : decode cL_law 1266 = .ok (.aload_n 2, 1) := by decide +kernel
theorem dL_law_1267 : decode cL_law 1267 = .ok (.aload_n 0, 1) := by decide +kernel
theorem dL_law_1268 : decode cL_law 1268 = .ok (.iload 4, 2) := by decide +kernel
theorem dL_law_1270 : decode cL_law 1270 = .ok (.iconst 1, 1) := by decide +kernel
theorem dL_law_1271 : decode cL_law 1271 = .ok (.iadd, 1) := by decide +kernel
theorem dL_law_1272 : decode cL_law 1272 = .ok (.iaload, 1) := by decide +kernel
theorem dL_law_1273 : decode cL_law 1273 = .ok (.invokevirtual 156, 3) := by decide +kernel
theorem dL_law_1276 : decode cL_law 1276 = .ok (.istore 6, 2) := by decide +kernel
theorem dL_law_1278 : decode cL_law 1278 = .ok (.aload_n 2, 1) := by decide +kernel
theorem dL_law_1279 : decode cL_law 1279 = .ok (.invokevirtual 95, 3) := by decide +kernel
theorem dL_law_1282 : decode cL_law 1282 = .ok (.iload 5, 2) := by decide +kernel
theorem dL_law_1284 : decode cL_law 1284 = .ok (.if_icmp .eq 5, 3) := by decide +kernel
theorem dL_law_1287 : decode cL_law 1287 = .ok (.iconst 0, 1) := by decide +kernel
theorem dL_law_1288 : decode cL_law 1288 = .ok (.ireturn, 1) := by decide +kernel
theorem dL_law_1289 : decode cL_law 1289 = .ok (.iload 5, 2) := by decide +kernel
theorem dL_law_1291 : decode cL_law 1291 = .ok (.ifCond .ne 15, 3) := by decide +kernel
theorem dL_law_1294 : decode cL_law 1294 = .ok (.aload_n 3, 1) := by decide +kernel
theorem dL_law_1295 : decode cL_law 1295 = .ok (.iconst 0, 1) := by decide +kernel
theorem dL_law_1296 : decode cL_law 1296 = .ok (.laload, 1) := by decide +kernel
theorem dL_law_1297 : decode cL_law 1297 = .ok (.iload 6, 2) := by decide +kernel
theorem dL_law_1299 : decode cL_law 1299 = .ok (.i2l, 1) := by decide +kernel
theorem dL_law_1300 : decode cL_law 1300 = .ok (.lcmp, 1) := by decide +kernel
theorem dL_law_1301 : decode cL_law 1301 = .ok (.ifCond .eq 5, 3) := by decide +kernel
theorem dL_law_1304 : decode cL_law 1304 = .ok (.iconst 0, 1) := by decide +kernel
theorem dL_law_1305 : decode cL_law 1305 = .ok (.ireturn, 1) := by decide +kernel
theorem dL_law_1306 : decode cL_law 1306 = .ok (.goto 240, 3) := by decide +kernel
theorem dL_law_1309 : decode cL_law 1309 = .ok (.aload_n 1, 1) := by decide +kernel
theorem dL_law_1310 : decode cL_law 1310 = .ok (.aload_n 0, 1) := by decide +kernel
theorem dL_law_1311 : decode cL_law 1311 = .ok (.iload 4, 2) := by decide +kernel
theorem dL_law_1313 : decode cL_law 1313 = .ok (.iconst 1, 1) := by decide +kernel
theorem dL_law_1314 : decode cL_law 1314 = .ok (.iadd, 1) := by decide +kernel
theorem dL_law_1315 : decode cL_law 1315 = .ok (.iaload, 1) := by decide +kernel
theorem dL_law_1316 : decode cL_law 1316 = .ok (.aload_n 3, 1) := by decide +kernel
theorem dL_law_1317 : decode cL_law 1317 = .ok (.invokestatic 157, 3) := by decide +kernel
theorem dL_law_1320 : decode cL_law 1320 = .ok (.istore 5, 2) := by decide +kernel
theorem dL_law_1322 : decode cL_law 1322 = .ok (.aload_n 2, 1) := by decide +kernel
theorem dL_law_1323 : decode cL_law 1323 = .ok (.aload_n 0, 1) := by decide +kernel
theorem dL_law_1324 : decode cL_law 1324 = .ok (.iload 4, 2) := by decide +kernel
theorem dL_law_1326 : decode cL_law 1326 = .ok (.iconst 1, 1) := by decide +kernel
theorem dL_law_1327 : decode cL_law 1327 = .ok (.iadd, 1) := by decide +kernel
theorem dL_law_1328 : decode cL_law 1328 = .ok (.iaload, 1) := by decide +kernel
theorem dL_law_1329 : decode cL_law 1329 = .ok (.invokevirtual 159, 3) := by decide +kernel
theorem dL_law_1332 : decode cL_law 1332 = .ok (.istore 6, 2) := by decide +kernel
theorem dL_law_1334 : decode cL_law 1334 = .ok (.aload_n 2, 1) := by decide +kernel
theorem dL_law_1335 : decode cL_law 1335 = .ok (.invokevirtual 95, 3) := by decide +kernel
theorem dL_law_1338 : decode cL_law 1338 = .ok (.iload 5, 2) := by decide +kernel
theorem dL_law_1340 : decode cL_law 1340 = .ok (.if_icmp .eq 5, 3) := by decide +kernel
theorem dL_law_1343 : decode cL_law 1343 = .ok (.iconst 0, 1) := by decide +kernel
theorem dL_law_1344 : decode cL_law 1344 = .ok (.ireturn, 1) := by decide +kernel
theorem dL_law_1345 : decode cL_law 1345 = .ok (.iload 5, 2) := by decide +kernel
theorem dL_law_1347 : decode cL_law 1347 = .ok (.ifCond .ne 15, 3) := by decide +kernel
theorem dL_law_1350 : decode cL_law 1350 = .ok (.aload_n 3, 1) := by decide +kernel
theorem dL_law_1351 : decode cL_law 1351 = .ok (.iconst 0, 1) := by decide +kernel
theorem dL_law_1352 : decode cL_law 1352 = .ok (.laload, 1) := by decide +kernel
theorem dL_law_1353 : decode cL_law 1353 = .ok (.iload 6, 2) := by decide +kernel
theorem dL_law_1355 : decode cL_law 1355 = .ok (.i2l, 1) := by decide +kernel
theorem dL_law_1356 : decode cL_law 1356 = .ok (.lcmp, 1) := by decide +kernel
theorem dL_law_1357 : decode cL_law 1357 = .ok (.ifCond .eq 5, 3) := by decide +kernel
theorem dL_law_1360 : decode cL_law 1360 = .ok (.iconst 0, 1) := by decide +kernel
theorem dL_law_1361 : decode cL_law 1361 = .ok (.ireturn, 1) := by decide +kernel
theorem dL_law_1362 : decode cL_law 1362 = .ok (.goto 184, 3) := by decide +kernel
theorem dL_law_1365 : decode cL_law 1365 = .ok (.aload_n 1, 1) := by decide +kernel
theorem dL_law_1366 : decode cL_law 1366 = .ok (.invokevirtual 160, 3) := by decide +kernel
theorem dL_law_1369 : decode cL_law 1369 = .ok (.dstore 5, 2) := by decide +kernel
theorem dL_law_1371 : decode cL_law 1371 = .ok (.aload_n 2, 1) := by decide +kernel
theorem dL_law_1372 : decode cL_law 1372 = .ok (.invokevirtual 164, 3) := by decide +kernel
theorem dL_law_1375 : decode cL_law 1375 = .ok (.dstore 7, 2) := by decide +kernel
theorem dL_law_1377 : decode cL_law 1377 = .ok (.dload 5, 2) := by decide +kernel
theorem dL_law_1379 : decode cL_law 1379 = .ok (.dload 7, 2) := by decide +kernel
theorem dL_law_1381 : decode cL_law 1381 = .ok (.dcmp .l, 1) := by decide +kernel
theorem dL_law_1382 : decode cL_law 1382 = .ok (.ifCond .eq 21, 3) := by decide +kernel
theorem dL_law_1385 : decode cL_law 1385 = .ok (.dload 5, 2) := by decide +kernel
theorem dL_law_1387 : decode cL_law 1387 = .ok (.dload 5, 2) := by decide +kernel
theorem dL_law_1389 : decode cL_law 1389 = .ok (.dcmp .l, 1) := by decide +kernel
theorem dL_law_1390 : decode cL_law 1390 = .ok (.ifCond .eq 11, 3) := by decide +kernel
theorem dL_law_1393 : decode cL_law 1393 = .ok (.dload 7, 2) := by decide +kernel
theorem dL_law_1395 : decode cL_law 1395 = .ok (.dload 7, 2) := by decide +kernel
theorem dL_law_1397 : decode cL_law 1397 = .ok (.dcmp .l, 1) := by decide +kernel
theorem dL_law_1398 : decode cL_law 1398 = .ok (.ifCond .ne 5, 3) := by decide +kernel
theorem dL_law_1401 : decode cL_law 1401 = .ok (.iconst 0, 1) := by decide +kernel
theorem dL_law_1402 : decode cL_law 1402 = .ok (.ireturn, 1) := by decide +kernel
theorem dL_law_1403 : decode cL_law 1403 = .ok (.goto 143, 3) := by decide +kernel
theorem dL_law_1406 : decode cL_law 1406 = .ok (.aload_n 1, 1) := by decide +kernel
theorem dL_law_1407 : decode cL_law 1407 = .ok (.aload_n 0, 1) := by decide +kernel
theorem dL_law_1408 : decode cL_law 1408 = .ok (.iload 4, 2) := by decide +kernel
theorem dL_law_1410 : decode cL_law 1410 = .ok (.iconst 1, 1) := by decide +kernel
theorem dL_law_1411 : decode cL_law 1411 = .ok (.iadd, 1) := by decide +kernel
theorem dL_law_1412 : decode cL_law 1412 = .ok (.iaload, 1) := by decide +kernel
theorem dL_law_1413 : decode cL_law 1413 = .ok (.aload_n 3, 1) := by decide +kernel
theorem dL_law_1414 : decode cL_law 1414 = .ok (.invokestatic 165, 3) := by decide +kernel
theorem dL_law_1417 : decode cL_law 1417 = .ok (.istore 5, 2) := by decide +kernel
theorem dL_law_1419 : decode cL_law 1419 = .ok (.aload_n 2, 1) := by decide +kernel
theorem dL_law_1420 : decode cL_law 1420 = .ok (.aload_n 0, 1) := by decide +kernel
theorem dL_law_1421 : decode cL_law 1421 = .ok (.iload 4, 2) := by decide +kernel
theorem dL_law_1423 : decode cL_law 1423 = .ok (.iconst 1, 1) := by decide +kernel
theorem dL_law_1424 : decode cL_law 1424 = .ok (.iadd, 1) := by decide +kernel
theorem dL_law_1425 : decode cL_law 1425 = .ok (.iaload, 1) := by decide +kernel
theorem dL_law_1426 : decode cL_law 1426 = .ok (.invokevirtual 167, 3) := by decide +kernel
theorem dL_law_1429 : decode cL_law 1429 = .ok (.istore 6, 2) := by decide +kernel
theorem dL_law_1431 : decode cL_law 1431 = .ok (.aload_n 2, 1) := by decide +kernel
theorem dL_law_1432 : decode cL_law 1432 = .ok (.invokevirtual 95, 3) := by decide +kernel
theorem dL_law_1435 : decode cL_law 1435 = .ok (.iload 5, 2) := by decide +kernel
theorem dL_law_1437 : decode cL_law 1437 = .ok (.if_icmp .eq 5, 3) := by decide +kernel
theorem dL_law_1440 : decode cL_law 1440 = .ok (.iconst 0, 1) := by decide +kernel
theorem dL_law_1441 : decode cL_law 1441 = .ok (.ireturn, 1) := by decide +kernel
theorem dL_law_1442 : decode cL_law 1442 = .ok (.iload 5, 2) := by decide +kernel
theorem dL_law_1444 : decode cL_law 1444 = .ok (.ifCond .ne 15, 3) := by decide +kernel
theorem dL_law_1447 : decode cL_law 1447 = .ok (.aload_n 3, 1) := by decide +kernel
theorem dL_law_1448 : decode cL_law 1448 = .ok (.iconst 0, 1) := by decide +kernel
theorem dL_law_1449 : decode cL_law 1449 = .ok (.laload, 1) := by decide +kernel
theorem dL_law_1450 : decode cL_law 1450 = .ok (.iload 6, 2) := by decide +kernel
theorem dL_law_1452 : decode cL_law 1452 = .ok (.i2l, 1) := by decide +kernel
theorem dL_law_1453 : decode cL_law 1453 = .ok (.lcmp, 1) := by decide +kernel
theorem dL_law_1454 : decode cL_law 1454 = .ok (.ifCond .eq 5, 3) := by decide +kernel
theorem dL_law_1457 : decode cL_law 1457 = .ok (.iconst 0, 1) := by decide +kernel
theorem dL_law_1458 : decode cL_law 1458 = .ok (.ireturn, 1) := by decide +kernel
theorem dL_law_1459 : decode cL_law 1459 = .ok (.goto 87, 3) := by decide +kernel
theorem dL_law_1462 : decode cL_law 1462 = .ok (.aload_n 1, 1) := by decide +kernel
theorem dL_law_1463 : decode cL_law 1463 = .ok (.invokevirtual 168, 3) := by decide +kernel
theorem dL_law_1466 : decode cL_law 1466 = .ok (.aload_n 2, 1) := by decide +kernel
theorem dL_law_1467 : decode cL_law 1467 = .ok (.invokevirtual 171, 3) := by decide +kernel
theorem dL_law_1470 : decode cL_law 1470 = .ok (.if_icmp .eq 76, 3) := by decide +kernel
theorem dL_law_1473 : decode cL_law 1473 = .ok (.iconst 0, 1) := by decide +kernel
theorem dL_law_1474 : decode cL_law 1474 = .ok (.ireturn, 1) := by decide +kernel
theorem dL_law_1475 : decode cL_law 1475 = .ok (.aload_n 1, 1) := by decide +kernel
theorem dL_law_1476 : decode cL_law 1476 = .ok (.invokevirtual 172, 3) := by decide +kernel
theorem dL_law_1479 : decode cL_law 1479 = .ok (.aload_n 2, 1) := by decide +kernel
theorem dL_law_1480 : decode cL_law 1480 = .ok (.invokevirtual 175, 3) := by decide +kernel
theorem dL_law_1483 : decode cL_law 1483 = .ok (.if_icmp .eq 63, 3) := by decide +kernel
theorem dL_law_1486 : decode cL_law 1486 = .ok (.iconst 0, 1) := by decide +kernel
theorem dL_law_1487 : decode cL_law 1487 = .ok (.ireturn, 1) := by decide +kernel
theorem dL_law_1488 : decode cL_law 1488 = .ok (.aload_n 1, 1) := by decide +kernel
theorem dL_law_1489 : decode cL_law 1489 = .ok (.aload_n 3, 1) := by decide +kernel
theorem dL_law_1490 : decode cL_law 1490 = .ok (.invokestatic 176, 3) := by decide +kernel
theorem dL_law_1493 : decode cL_law 1493 = .ok (.istore 5, 2) := by decide +kernel
theorem dL_law_1495 : decode cL_law 1495 = .ok (.aload_n 2, 1) := by decide +kernel
theorem dL_law_1496 : decode cL_law 1496 = .ok (.invokevirtual 178, 3) := by decide +kernel
theorem dL_law_1499 : decode cL_law 1499 = .ok (.istore 6, 2) := by decide +kernel
theorem dL_law_1501 : decode cL_law 1501 = .ok (.aload_n 2, 1) := by decide +kernel
theorem dL_law_1502 : decode cL_law 1502 = .ok (.invokevirtual 95, 3) := by decide +kernel
theorem dL_law_1505 : decode cL_law 1505 = .ok (.iload 5, 2) := by decide +kernel
theorem dL_law_1507 : decode cL_law 1507 = .ok (.if_icmp .eq 5, 3) := by decide +kernel
theorem dL_law_1510 : decode cL_law 1510 = .ok (.iconst 0, 1) := by decide +kernel
theorem dL_law_1511 : decode cL_law 1511 = .ok (.ireturn, 1) := by decide +kernel
theorem dL_law_1512 : decode cL_law 1512 = .ok (.iload 5, 2) := by decide +kernel
theorem dL_law_1514 : decode cL_law 1514 = .ok (.ifCond .ne 15, 3) := by decide +kernel
theorem dL_law_1517 : decode cL_law 1517 = .ok (.aload_n 3, 1) := by decide +kernel
theorem dL_law_1518 : decode cL_law 1518 = .ok (.iconst 0, 1) := by decide +kernel
theorem dL_law_1519 : decode cL_law 1519 = .ok (.laload, 1) := by decide +kernel
theorem dL_law_1520 : decode cL_law 1520 = .ok (.iload 6, 2) := by decide +kernel
theorem dL_law_1522 : decode cL_law 1522 = .ok (.i2l, 1) := by decide +kernel
theorem dL_law_1523 : decode cL_law 1523 = .ok (.lcmp, 1) := by decide +kernel
theorem dL_law_1524 : decode cL_law 1524 = .ok (.ifCond .eq 5, 3) := by decide +kernel
theorem dL_law_1527 : decode cL_law 1527 = .ok (.iconst 0, 1) := by decide +kernel
theorem dL_law_1528 : decode cL_law 1528 = .ok (.ireturn, 1) := by decide +kernel
theorem dL_law_1529 : decode cL_law 1529 = .ok (.goto 17, 3) := by decide +kernel
theorem dL_law_1532 : decode cL_law 1532 = .ok (.aload_n 1, 1) := by decide +kernel
theorem dL_law_1533 : decode cL_law 1533 = .ok (.invokevirtual 179, 3) := by decide +kernel
theorem dL_law_1536 : decode cL_law 1536 = .ok (.aload_n 2, 1) := by decide +kernel
theorem dL_law_1537 : decode cL_law 1537 = .ok (.invokevirtual 183, 3) := by decide +kernel
theorem dL_law_1540 : decode cL_law 1540 = .ok (.lcmp, 1) := by decide +kernel
theorem dL_law_1541 : decode cL_law 1541 = .ok (.ifCond .eq 5, 3) := by decide +kernel
theorem dL_law_1544 : decode cL_law 1544 = .ok (.iconst 0, 1) := by decide +kernel
theorem dL_law_1545 : decode cL_law 1545 = .ok (.ireturn, 1) := by decide +kernel
theorem dL_law_1546 : decode cL_law 1546 = .ok (.iinc 4 5, 3) := by decide +kernel
theorem dL_law_1549 : decode cL_law 1549 = .ok (.goto (-1526), 3) := by decide +kernel
theorem dL_law_1552 : decode cL_law 1552 = .ok (.iconst 1, 1) := by decide +kernel
theorem dL_law_1553 : decode cL_law 1553 = .ok (.ireturn, 1) := by decide +kernel
end
section
/-! sw: the walk's goal with world, locals and stack as lists that compute -/
section SWL
def lvGet : List (Nat × Value) → Nat → Option Value
  | [], _ => none
  | q :: r, i => bif Nat.beq q.1 i then some q.2 else lvGet r i
theorem lvGet_mem : ∀ (L : List (Nat × Value)) (i : Nat) (v : Value), lvGet L i = some v → (i, v) ∈ L
  | [], i, v, h => by simp [lvGet] at h
  | q :: r, i, v, h => by
    obtain ⟨a, b⟩ := q
    unfold lvGet at h
    cases hb : Nat.beq a i with
    | true =>
      rw [hb] at h
      have := Nat.eq_of_beq_eq_true hb
      subst this
      cases h
      exact List.mem_cons_self
    | false =>
      rw [hb] at h
      exact List.mem_cons_of_mem _ (lvGet_mem r i v h)
def lvCl (i : Nat) (v : Value) (q : Nat × Value) : Bool := Nat.beq q.1 i || ((Nat.beq (q.1 + 1) i && Nat.beq q.2.category 2) || (Nat.beq q.1 (i + 1) && Nat.beq v.category 2))
def lvDel : List (Nat × Value) → Nat → Value → List (Nat × Value)
  | [], _, _ => []
  | q :: r, i, v => bif lvCl i v q then lvDel r i v else q :: lvDel r i v
def lvSet : List (Nat × Value) → Nat → Value → List (Nat × Value)
  | [], i, v => [(i, v)]
  | q :: r, i, v => bif Nat.beq q.1 i then (i, v) :: lvDel r i v else bif lvCl i v q then lvSet r i v else q :: lvSet r i v
theorem lvDel_mem : ∀ (L : List (Nat × Value)) (i : Nat) (v : Value) (q : Nat × Value), q ∈ lvDel L i v → q ∈ L ∧ lvCl i v q = false
  | [], i, v, q, h => by simp [lvDel] at h
  | x :: r, i, v, q, h => by
    unfold lvDel at h
    cases hb : lvCl i v x with
    | true =>
      rw [hb] at h
      have := lvDel_mem r i v q h
      exact ⟨List.mem_cons_of_mem _ this.1, this.2⟩
    | false =>
      rw [hb] at h
      rcases List.mem_cons.mp h with rfl | h
      · exact ⟨List.mem_cons_self, hb⟩
      · have := lvDel_mem r i v q h
        exact ⟨List.mem_cons_of_mem _ this.1, this.2⟩
theorem lvSet_mem : ∀ (L : List (Nat × Value)) (i : Nat) (v : Value) (q : Nat × Value), q ∈ lvSet L i v → q = (i, v) ∨ (q ∈ L ∧ lvCl i v q = false)
  | [], i, v, q, h => by
    simp [lvSet] at h
    exact Or.inl h
  | x :: r, i, v, q, h => by
    unfold lvSet at h
    cases hb : Nat.beq x.1 i with
    | true =>
      rw [hb] at h
      rcases List.mem_cons.mp h with rfl | h
      · exact Or.inl rfl
      · have := lvDel_mem r i v q h
        exact Or.inr ⟨List.mem_cons_of_mem _ this.1, this.2⟩
    | false =>
      rw [hb] at h
      cases hc : lvCl i v x with
      | true =>
        rw [hc] at h
        rcases lvSet_mem r i v q h with h | h
        · exact Or.inl h
        · exact Or.inr ⟨List.mem_cons_of_mem _ h.1, h.2⟩
      | false =>
        rw [hc] at h
        rcases List.mem_cons.mp h with rfl | h
        · exact Or.inr ⟨List.mem_cons_self, hc⟩
        · rcases lvSet_mem r i v q h with h | h
          · exact Or.inl h
          · exact Or.inr ⟨List.mem_cons_of_mem _ h.1, h.2⟩
theorem nbeq (a b : Nat) : Nat.beq a b = (a == b) := Bool.eq_iff_iff.mpr (by simp)
theorem lvSet1 {ls : Array Slot} {nL : Nat} {L : List (Nat × Value)} {i : Nat} {v : Value} (h : lv_has ls nL ((i, v) :: L.filter (fun q => !(q.1 == i) && !(q.1 + 1 == i && q.2.category == 2)))) : lv_has ls nL (lvSet L i v) := by
  refine ⟨h.1, h.2.1, fun q hq => ?_⟩
  rcases lvSet_mem L i v q hq with rfl | ⟨h1, h2⟩
  · exact h.2.2 _ List.mem_cons_self
  · refine h.2.2 q (List.mem_cons_of_mem _ (List.mem_filter.mpr ⟨h1, ?_⟩))
    unfold lvCl at h2
    simp only [Bool.or_eq_false_iff, Bool.and_eq_false_iff, nbeq] at h2
    simp only [Bool.and_eq_true, Bool.not_eq_true', Bool.and_eq_false_iff]
    exact ⟨h2.1, h2.2.1⟩
theorem lvSet2 {ls : Array Slot} {nL : Nat} {L : List (Nat × Value)} {i : Nat} {v : Value} (hv : v.category = 2) (h : lv_has ls nL ((i, v) :: L.filter (fun q => !(q.1 == i) && (!(q.1 == i + 1) && !(q.1 + 1 == i && q.2.category == 2))))) : lv_has ls nL (lvSet L i v) := by
  refine ⟨h.1, h.2.1, fun q hq => ?_⟩
  rcases lvSet_mem L i v q hq with rfl | ⟨h1, h2⟩
  · exact h.2.2 _ List.mem_cons_self
  · refine h.2.2 q (List.mem_cons_of_mem _ (List.mem_filter.mpr ⟨h1, ?_⟩))
    unfold lvCl at h2
    rw [hv] at h2
    simp only [Bool.or_eq_false_iff, Bool.and_eq_false_iff, nbeq] at h2
    simp only [Bool.and_eq_true, Bool.not_eq_true', Bool.and_eq_false_iff]
    refine ⟨h2.1, ?_, h2.2.1⟩
    rcases h2.2.2 with h | h
    · exact h
    · cases h
/-- some cells of a world, by their places -/
def wpick (ws : va_W) (is : List Nat) : va_W := is.filterMap (fun i => ws[i]?)
def wput : va_W → List Nat → va_W → va_W
  | ws, [], [] => ws
  | ws, [], x :: xs => ws ++ x :: xs
  | ws, i :: is, x :: xs => wput (ws.set i x) is xs
  | ws, _ :: _, [] => ws
def wmem (i : Nat) : List Nat → Bool
  | [] => false
  | j :: is => bif Nat.beq i j then true else wmem i is
def wnd : List Nat → Bool
  | [] => true
  | i :: is => bif wmem i is then false else wnd is
theorem wmem_no : ∀ {i : Nat} {is : List Nat}, wmem i is = false → i ∉ is
  | i, [], _, h => by cases h
  | i, j :: is, h, hm => by
    unfold wmem at h
    cases hb : Nat.beq i j with
    | true => rw [hb] at h; cases h
    | false =>
      rw [hb] at h
      rcases List.mem_cons.mp hm with rfl | hm
      · rw [Nat.beq_refl] at hb; cases hb
      · exact wmem_no h hm
theorem wnd_nd : ∀ {is : List Nat}, wnd is = true → va_nd is = true
  | [], _ => rfl
  | i :: is, h => by
    unfold wnd at h
    cases hb : wmem i is with
    | true => rw [hb] at h; cases h
    | false =>
      rw [hb] at h
      simp only [va_nd, Bool.and_eq_true, decide_eq_true_eq]
      exact ⟨wmem_no hb, wnd_nd h⟩
def wall (n : Nat) : List Nat → Bool
  | [] => true
  | i :: is => Nat.blt i n && wall n is
theorem wall_lt : ∀ {n : Nat} {is : List Nat}, wall n is = true → ∀ i ∈ is, i < n
  | n, [], _, i, h => by cases h
  | n, j :: is, hw, i, h => by
    unfold wall at hw
    rw [Bool.and_eq_true] at hw
    rcases List.mem_cons.mp h with rfl | h
    · exact Nat.le_of_ble_eq_true hw.1
    · exact wall_lt hw.2 i h
/-- where a cell of wput comes from -/
theorem wput_src : ∀ (is : List Nat) (w1 ws : va_W) (k : Nat) (q : Nat × va_E), va_nd is = true → (∀ i ∈ is, i < ws.length) → is.length ≤ w1.length → (wput ws is w1)[k]? = some q →
    (∃ j : Nat, is[j]? = some k ∧ w1[j]? = some q) ∨ (k ∉ is ∧ ws[k]? = some q) ∨ (ws.length ≤ k ∧ w1[is.length + (k - ws.length)]? = some q)
  | [], [], ws, k, q, _, _, _, h => Or.inr (Or.inl ⟨List.not_mem_nil, h⟩)
  | [], x :: xs, ws, k, q, _, _, _, h => by
    unfold wput at h
    by_cases hk : k < ws.length
    · rw [List.getElem?_append_left hk] at h
      exact Or.inr (Or.inl ⟨List.not_mem_nil, h⟩)
    · rw [List.getElem?_append_right (by omega)] at h
      exact Or.inr (Or.inr ⟨by omega, by simpa using h⟩)
  | i :: is, [], ws, k, q, _, _, hl, h => by simp at hl
  | i :: is, x :: xs, ws, k, q, hn, hw, hl, h => by
    unfold wput at h
    simp only [va_nd, Bool.and_eq_true, decide_eq_true_eq] at hn
    have hlen : (ws.set i x).length = ws.length := List.length_set
    rcases wput_src is xs (ws.set i x) k q hn.2 (fun j hj => by rw [hlen]; exact hw j (List.mem_cons_of_mem _ hj)) (by simpa using hl) h with ⟨j, h1, h2⟩ | ⟨h1, h2⟩ | ⟨h1, h2⟩
    · exact Or.inl ⟨j + 1, by simpa using h1, by simpa using h2⟩
    · by_cases hk : k = i
      · subst hk
        rw [List.getElem?_set_self (hw k List.mem_cons_self)] at h2
        exact Or.inl ⟨0, rfl, by simpa using h2⟩
      · rw [List.getElem?_set_ne (Ne.symm hk)] at h2
        exact Or.inr (Or.inl ⟨fun hm => by rcases List.mem_cons.mp hm with e | e; exact hk e; exact h1 e, h2⟩)
    · rw [hlen] at h1 h2
      refine Or.inr (Or.inr ⟨h1, ?_⟩)
      rw [List.length_cons, show is.length + 1 + (k - ws.length) = (is.length + (k - ws.length)) + 1 by omega, List.getElem?_cons_succ]
      exact h2
theorem wput_ok {A0 : Nat → Prop} {D : va_G} {cl : List vw_C} {ws w1 : va_W} {H H1 : Heap} (isC : List Nat) (hP : va_P D cl ws H) (hD : va_D A0 ws) (hn : va_nd isC = true) (hw : ∀ i ∈ isC, i < ws.length) (hl : isC.length ≤ w1.length)
    (hk : ∀ q : Nat, q < H.size → ¬ va_A (wpick ws isC) H.size q → H1[q]? = H[q]?) (hF : ∀ q, va_A (wpick ws isC) H.size q → A0 q) (hP1 : va_P D cl w1 H1) (hD1 : va_D (va_A (wpick ws isC) H.size) w1) : va_P D cl (wput ws isC w1) H1 ∧ va_D A0 (wput ws isC w1) := by
  have apart : ∀ (k : Nat) (q : Nat × va_E), k ∉ isC → ws[k]? = some q → q.1 < H.size ∧ ¬ va_A (wpick ws isC) H.size q.1 := by
    intro k q hki hq
    have hlt := (hP k q hq).lt
    refine ⟨hlt, fun h => ?_⟩
    rcases h with ⟨k2, e, h⟩ | h
    · obtain ⟨i, h3, h4⟩ := List.mem_filterMap.mp (List.mem_of_getElem? h)
      have hij := hD.1 k i q (q.1, e) hq h4 rfl
      subst hij
      exact hki h3
    · omega
  refine ⟨fun k q hq => ?_, fun i j x y hi hj hxy => ?_, fun k q hq => ?_⟩
  · rcases wput_src isC w1 ws k q hn hw hl hq with ⟨j, -, h2⟩ | ⟨h1, h2⟩ | ⟨-, h2⟩
    · exact hP1 j q h2
    · obtain ⟨g1, g2⟩ := apart k q h1 h2
      exact (hP k q h2).kept (hk q.1 g1 g2)
    · exact hP1 _ q h2
  · rcases wput_src isC w1 ws i x hn hw hl hi with ⟨a, h1, h2⟩ | ⟨h1, h2⟩ | ⟨h1, h2⟩ <;> rcases wput_src isC w1 ws j y hn hw hl hj with ⟨b, h3, h4⟩ | ⟨h3, h4⟩ | ⟨h3, h4⟩
    · have hab := hD1.1 a b x y h2 h4 hxy
      subst hab
      exact Option.some.inj (h1.symm.trans h3)
    · exact absurd (hxy ▸ hD1.2 a x h2) (apart j y h3 h4).2
    · have hab := hD1.1 _ _ x y h2 h4 hxy
      have := (List.getElem?_eq_some_iff.mp h1).1
      omega
    · exact absurd (hxy ▸ hD1.2 b y h4) (apart i x h1 h2).2
    · exact hD.1 i j x y h2 h4 hxy
    · exact absurd (hxy ▸ hD1.2 _ y h4) (apart i x h1 h2).2
    · have hab := hD1.1 _ _ x y h2 h4 hxy
      have := (List.getElem?_eq_some_iff.mp h3).1
      omega
    · exact absurd (hxy ▸ hD1.2 _ x h2) (apart j y h3 h4).2
    · have hab := hD1.1 _ _ x y h2 h4 hxy
      omega
  · rcases wput_src isC w1 ws k q hn hw hl hq with ⟨j, -, h2⟩ | ⟨h1, h2⟩ | ⟨-, h2⟩
    · exact hF q.1 (hD1.2 j q h2)
    · exact hD.2 k q h2
    · exact hF q.1 (hD1.2 _ q h2)
theorem wpick_map : ∀ (is : List Nat) (ws : va_W), (∀ i ∈ is, i < ws.length) → is.map (fun i => ws[i]?) = (wpick ws is).map some
  | [], ws, _ => rfl
  | i :: is, ws, h => by
    have hi : i < ws.length := h i List.mem_cons_self
    have e : ws[i]? = some ws[i] := List.getElem?_eq_getElem hi
    show ws[i]? :: is.map _ = _
    rw [wpick_map is ws (fun j hj => h j (List.mem_cons_of_mem _ hj))]
    unfold wpick
    rw [List.filterMap_cons, e]
    rfl
theorem list_set_self : ∀ (ws : va_W) (i : Nat) (q : Nat × va_E), ws[i]? = some q → ws.set i q = ws
  | [], i, q, h => rfl
  | x :: r, 0, q, h => by
    rw [List.getElem?_cons_zero] at h
    cases h
    rfl
  | x :: r, i + 1, q, h => by
    rw [List.getElem?_cons_succ] at h
    show x :: r.set i q = _
    rw [list_set_self r i q h]
theorem wput_self : ∀ (is : List Nat) (ws : va_W), (∀ i ∈ is, i < ws.length) → wput ws is (wpick ws is) = ws
  | [], ws, _ => rfl
  | i :: is, ws, h => by
    have hi : i < ws.length := h i List.mem_cons_self
    have e : ws[i]? = some ws[i] := List.getElem?_eq_getElem hi
    have e2 : wpick ws (i :: is) = ws[i] :: wpick ws is := by
      unfold wpick
      rw [List.filterMap_cons, e]
    rw [e2]
    unfold wput
    rw [list_set_self ws i _ e]
    exact wput_self is ws (fun j hj => h j (List.mem_cons_of_mem _ hj))
theorem wpick_D {A : Nat → Prop} {ws : va_W} (is : List Nat) (hD : va_D A ws) (hn : va_nd is = true) (hw : ∀ i ∈ is, i < ws.length) : va_D A (wpick ws is) := hD.sub is hn (wpick_map is ws hw)
theorem wpick_P {D : va_G} {cl : List vw_C} {ws : va_W} {H : Heap} (is : List Nat) (hP : va_P D cl ws H) : va_P D cl (wpick ws is) H := hP.sub is rfl

variable {p : Program} {l : Launch} {e : Env} {R : Room} {s : State} {m : MethodId} {args : Array Value} {below : List Frame} {meth : Method} {c : Code} {D : va_G} {tys : List (ClassId × FieldType)} {A : Nat → Prop} {H0 : Heap} {nL k n : Nat} {Q : State → Prop} {ws : va_W} {L : List (Nat × Value)} {st : List Value} {cc : ByteArray} {own : String} {Ts : List Cond}
/-- the walk's goal -/
def sw (p : Program) (l : Launch) (e : Env) (R : Room) (s : State) (m : MethodId) (args : Array Value) (below : List Frame) (meth : Method) (c : Code) (D : va_G) (A : Nat → Prop) (H0 : Heap) (nL k n : Nat) (Q : State → Prop) (ws : va_W) (pc : Nat) (L : List (Nat × Value)) (st : List Value) : Prop :=
  ∀ (H : Heap) (locs : List Loc) (ls : Array Slot), va_P D vwCl ws H → va_D A ws → va_S A H0 H locs → lv_has ls nL L → W p l e R s m args below meth c H locs k n Q (F0 m pc ls st)
/-- what a walk's rules rest on -/
def CC (p : Program) (s : State) (m : MethodId) (args : Array Value) (c : Code) (cc : ByteArray) (nL : Nat) (own : String) (Ts : List Cond) (D : va_G) (tys : List (ClassId × FieldType)) (A : Nat → Prop) (H0 : Heap) : Prop :=
  CallFix p m c cc nL s args Ts own ∧ va_K D vwCl tys s ∧ ∀ q : Nat, H0.size ≤ q → A q
theorem CC.hx (C : CC p s m args c cc nL own Ts D tys A H0) : p.tables.exec = Jvm.exec := C.1.1
theorem CC.hb (C : CC p s m args c cc nL own Ts D tys A H0) : c.code = cc := C.1.2.1
theorem CC.hml (C : CC p s m args c cc nL own Ts D tys A H0) : c.maxLocals = nL := C.1.2.2.1
theorem CC.hown (C : CC p s m args c cc nL own Ts D tys A H0) : s.vm.findClass own = some m.cls := C.1.2.2.2.1
theorem CC.hts (C : CC p s m args c cc nL own Ts D tys A H0) : ∀ w ∈ Ts, w.before args s = true := C.1.2.2.2.2
theorem CC.w {x0 : Cond} {w : Cond} (C : CC p s m args c cc nL own (x0 :: lw_all) D tys A H0) (h : w ∈ lw_all) : w.before args s = true := C.1.2.2.2.2 w (List.mem_cons_of_mem _ h)
theorem inA {x0 : Cond} {a : List Cond} (h : ∀ w ∈ a, w ∈ lw_all) : ∀ w ∈ a, w ∈ x0 :: lw_all := fun w hw => List.mem_cons_of_mem _ (h w hw)
theorem CC.hK (C : CC p s m args c cc nL own Ts D tys A H0) : va_K D vwCl tys s := C.2.1
theorem CC.hA (C : CC p s m args c cc nL own Ts D tys A H0) : ∀ q : Nat, H0.size ≤ q → A q := C.2.2

theorem sw_iconst (pc : Nat) {i : Int} (C : CC p s m args c cc nL own Ts D tys A H0) (d : decode cc pc = .ok (.iconst i, 1)) (v : Int32) (hv : Int32.ofInt i = v) (kk : sw p l e R s m args below meth c D A H0 nL k n Q ws (pc + 1) L (.int v :: st)) : sw p l e R s m args below meth c D A H0 nL k n Q ws pc L st := fun H locs ls hP hD hS hl => lv_iconst C.hx C.hb d hv (kk H locs ls hP hD hS hl)
theorem sw_bipush (pc : Nat) {i : Int} (C : CC p s m args c cc nL own Ts D tys A H0) (d : decode cc pc = .ok (.bipush i, 2)) (v : Int32) (hv : (Int8.ofInt i).toInt32 = v) (kk : sw p l e R s m args below meth c D A H0 nL k n Q ws (pc + 2) L (.int v :: st)) : sw p l e R s m args below meth c D A H0 nL k n Q ws pc L st := fun H locs ls hP hD hS hl => lv_bipush C.hx C.hb d hv (kk H locs ls hP hD hS hl)
theorem sw_sipush (pc : Nat) {i : Int} (C : CC p s m args c cc nL own Ts D tys A H0) (d : decode cc pc = .ok (.sipush i, 3)) (v : Int32) (hv : (Int16.ofInt i).toInt32 = v) (kk : sw p l e R s m args below meth c D A H0 nL k n Q ws (pc + 3) L (.int v :: st)) : sw p l e R s m args below meth c D A H0 nL k n Q ws pc L st := fun H locs ls hP hD hS hl => lv_sipush C.hx C.hb d hv (kk H locs ls hP hD hS hl)
theorem sw_ldc (pc : Nat) {index : Nat} {v : Int32} (C : CC p s m args c cc nL own Ts D tys A H0) (d : decode cc pc = .ok (.ldc index, 2)) (hc : (Jvm.Cond.constant own index v).before args s = true) (kk : sw p l e R s m args below meth c D A H0 nL k n Q ws (pc + 2) L (.int v :: st)) : sw p l e R s m args below meth c D A H0 nL k n Q ws pc L st := fun H locs ls hP hD hS hl => lv_ldc C.hx C.hb C.hown hc d (kk H locs ls hP hD hS hl)
theorem sw_ldc2 (pc : Nat) {index : Nat} {v : Int64} (C : CC p s m args c cc nL own Ts D tys A H0) (d : decode cc pc = .ok (.ldc2_w index, 3)) (hc : (Jvm.Cond.constantLong own index v).before args s = true) (kk : sw p l e R s m args below meth c D A H0 nL k n Q ws (pc + 3) L (.long v :: st)) : sw p l e R s m args below meth c D A H0 nL k n Q ws pc L st := fun H locs ls hP hD hS hl => lv_ldc2 C.hx C.hb C.hown hc d (kk H locs ls hP hD hS hl)
theorem sw_lconst (pc : Nat) {i : Fin 2} (C : CC p s m args c cc nL own Ts D tys A H0) (d : decode cc pc = .ok (.lconst i, 1)) (v : Int64) (hv : Int64.ofNat (i : Nat) = v) (kk : sw p l e R s m args below meth c D A H0 nL k n Q ws (pc + 1) L (.long v :: st)) : sw p l e R s m args below meth c D A H0 nL k n Q ws pc L st := fun H locs ls hP hD hS hl => lv_lconst C.hx C.hb d hv (kk H locs ls hP hD hS hl)
theorem sw_iload_n (pc : Nat) {j : Fin 4} (i : Nat) {x : Int32} (C : CC p s m args c cc nL own Ts D tys A H0) (d : decode cc pc = .ok (.iload_n j, 1)) (hi : (j : Nat) = i) (hL : lvGet L i = some (.int x)) (kk : sw p l e R s m args below meth c D A H0 nL k n Q ws (pc + 1) L (.int x :: st)) : sw p l e R s m args below meth c D A H0 nL k n Q ws pc L st := fun H locs ls hP hD hS hl => lv_iload_n C.hx C.hb d hi (hl.2.2 _ (lvGet_mem L i _ hL)) (kk H locs ls hP hD hS hl)
theorem sw_iload (pc : Nat) {i : Nat} {x : Int32} (C : CC p s m args c cc nL own Ts D tys A H0) (d : decode cc pc = .ok (.iload i, 2)) (hL : lvGet L i = some (.int x)) (kk : sw p l e R s m args below meth c D A H0 nL k n Q ws (pc + 2) L (.int x :: st)) : sw p l e R s m args below meth c D A H0 nL k n Q ws pc L st := fun H locs ls hP hD hS hl => lv_iload C.hx C.hb d (hl.2.2 _ (lvGet_mem L i _ hL)) (kk H locs ls hP hD hS hl)
theorem sw_aload_n (pc : Nat) {j : Fin 4} (i : Nat) {x : Nat} (C : CC p s m args c cc nL own Ts D tys A H0) (d : decode cc pc = .ok (.aload_n j, 1)) (hi : (j : Nat) = i) (hL : lvGet L i = some (.ref x)) (kk : sw p l e R s m args below meth c D A H0 nL k n Q ws (pc + 1) L (.ref x :: st)) : sw p l e R s m args below meth c D A H0 nL k n Q ws pc L st := fun H locs ls hP hD hS hl => lv_aload_n C.hx C.hb d hi (hl.2.2 _ (lvGet_mem L i _ hL)) (kk H locs ls hP hD hS hl)
theorem sw_aload (pc : Nat) {i : Nat} {x : Nat} (C : CC p s m args c cc nL own Ts D tys A H0) (d : decode cc pc = .ok (.aload i, 2)) (hL : lvGet L i = some (.ref x)) (kk : sw p l e R s m args below meth c D A H0 nL k n Q ws (pc + 2) L (.ref x :: st)) : sw p l e R s m args below meth c D A H0 nL k n Q ws pc L st := fun H locs ls hP hD hS hl => lv_aload C.hx C.hb d (hl.2.2 _ (lvGet_mem L i _ hL)) (kk H locs ls hP hD hS hl)
theorem sw_lload_n (pc : Nat) {j : Fin 4} (i : Nat) {x : Int64} (C : CC p s m args c cc nL own Ts D tys A H0) (d : decode cc pc = .ok (.lload_n j, 1)) (hi : (j : Nat) = i) (hL : lvGet L i = some (.long x)) (kk : sw p l e R s m args below meth c D A H0 nL k n Q ws (pc + 1) L (.long x :: st)) : sw p l e R s m args below meth c D A H0 nL k n Q ws pc L st := fun H locs ls hP hD hS hl => lv_lload_n C.hx C.hb d hi (hl.2.2 _ (lvGet_mem L i _ hL)) (kk H locs ls hP hD hS hl)
theorem sw_lload (pc : Nat) {i : Nat} {x : Int64} (C : CC p s m args c cc nL own Ts D tys A H0) (d : decode cc pc = .ok (.lload i, 2)) (hL : lvGet L i = some (.long x)) (kk : sw p l e R s m args below meth c D A H0 nL k n Q ws (pc + 2) L (.long x :: st)) : sw p l e R s m args below meth c D A H0 nL k n Q ws pc L st := fun H locs ls hP hD hS hl => lv_lload C.hx C.hb d (hl.2.2 _ (lvGet_mem L i _ hL)) (kk H locs ls hP hD hS hl)
theorem sw_dload_n (pc : Nat) {j : Fin 4} (i : Nat) {x : UInt64} (C : CC p s m args c cc nL own Ts D tys A H0) (d : decode cc pc = .ok (.dload_n j, 1)) (hi : (j : Nat) = i) (hL : lvGet L i = some (.double x)) (kk : sw p l e R s m args below meth c D A H0 nL k n Q ws (pc + 1) L (.double x :: st)) : sw p l e R s m args below meth c D A H0 nL k n Q ws pc L st := fun H locs ls hP hD hS hl => lv_dload_n C.hx C.hb d hi (hl.2.2 _ (lvGet_mem L i _ hL)) (kk H locs ls hP hD hS hl)
theorem sw_dload (pc : Nat) {i : Nat} {x : UInt64} (C : CC p s m args c cc nL own Ts D tys A H0) (d : decode cc pc = .ok (.dload i, 2)) (hL : lvGet L i = some (.double x)) (kk : sw p l e R s m args below meth c D A H0 nL k n Q ws (pc + 2) L (.double x :: st)) : sw p l e R s m args below meth c D A H0 nL k n Q ws pc L st := fun H locs ls hP hD hS hl => lv_dload C.hx C.hb d (hl.2.2 _ (lvGet_mem L i _ hL)) (kk H locs ls hP hD hS hl)
theorem sw_istore_n (pc : Nat) {j : Fin 4} (i : Nat) {x : Int32} (C : CC p s m args c cc nL own Ts D tys A H0) (d : decode cc pc = .ok (.istore_n j, 1)) (hi : (j : Nat) = i) (hn : Nat.blt i nL = true) (kk : sw p l e R s m args below meth c D A H0 nL k n Q ws (pc + 1) (lvSet L i (.int x)) st) : sw p l e R s m args below meth c D A H0 nL k n Q ws pc L (.int x :: st) := fun H locs ls hP hD hS hl => lv_istore_n C.hx C.hb d hi hl (Nat.le_of_ble_eq_true hn) rfl (fun ls hl => kk H locs ls hP hD hS (lvSet1 hl))
theorem sw_istore (pc : Nat) {i : Nat} {x : Int32} (C : CC p s m args c cc nL own Ts D tys A H0) (d : decode cc pc = .ok (.istore i, 2)) (hn : Nat.blt i nL = true) (kk : sw p l e R s m args below meth c D A H0 nL k n Q ws (pc + 2) (lvSet L i (.int x)) st) : sw p l e R s m args below meth c D A H0 nL k n Q ws pc L (.int x :: st) := fun H locs ls hP hD hS hl => lv_istore C.hx C.hb d hl (Nat.le_of_ble_eq_true hn) rfl (fun ls hl => kk H locs ls hP hD hS (lvSet1 hl))
theorem sw_astore_n (pc : Nat) {j : Fin 4} (i : Nat) {x : Nat} (C : CC p s m args c cc nL own Ts D tys A H0) (d : decode cc pc = .ok (.astore_n j, 1)) (hi : (j : Nat) = i) (hn : Nat.blt i nL = true) (kk : sw p l e R s m args below meth c D A H0 nL k n Q ws (pc + 1) (lvSet L i (.ref x)) st) : sw p l e R s m args below meth c D A H0 nL k n Q ws pc L (.ref x :: st) := fun H locs ls hP hD hS hl => lv_astore_n C.hx C.hb d hi hl (Nat.le_of_ble_eq_true hn) rfl (fun ls hl => kk H locs ls hP hD hS (lvSet1 hl))
theorem sw_astore (pc : Nat) {i : Nat} {x : Nat} (C : CC p s m args c cc nL own Ts D tys A H0) (d : decode cc pc = .ok (.astore i, 2)) (hn : Nat.blt i nL = true) (kk : sw p l e R s m args below meth c D A H0 nL k n Q ws (pc + 2) (lvSet L i (.ref x)) st) : sw p l e R s m args below meth c D A H0 nL k n Q ws pc L (.ref x :: st) := fun H locs ls hP hD hS hl => lv_astore C.hx C.hb d hl (Nat.le_of_ble_eq_true hn) rfl (fun ls hl => kk H locs ls hP hD hS (lvSet1 hl))
theorem sw_lstore_n (pc : Nat) {j : Fin 4} (i : Nat) {x : Int64} (C : CC p s m args c cc nL own Ts D tys A H0) (d : decode cc pc = .ok (.lstore_n j, 1)) (hi : (j : Nat) = i) (hn : Nat.blt (i + 1) nL = true) (kk : sw p l e R s m args below meth c D A H0 nL k n Q ws (pc + 1) (lvSet L i (.long x)) st) : sw p l e R s m args below meth c D A H0 nL k n Q ws pc L (.long x :: st) := fun H locs ls hP hD hS hl => lv_lstore_n C.hx C.hb d hi hl (Nat.le_of_ble_eq_true hn) rfl (fun ls hl => kk H locs ls hP hD hS (lvSet2 rfl hl))
theorem sw_lstore (pc : Nat) {i : Nat} {x : Int64} (C : CC p s m args c cc nL own Ts D tys A H0) (d : decode cc pc = .ok (.lstore i, 2)) (hn : Nat.blt (i + 1) nL = true) (kk : sw p l e R s m args below meth c D A H0 nL k n Q ws (pc + 2) (lvSet L i (.long x)) st) : sw p l e R s m args below meth c D A H0 nL k n Q ws pc L (.long x :: st) := fun H locs ls hP hD hS hl => lv_lstore C.hx C.hb d hl (Nat.le_of_ble_eq_true hn) rfl (fun ls hl => kk H locs ls hP hD hS (lvSet2 rfl hl))
theorem sw_dstore_n (pc : Nat) {j : Fin 4} (i : Nat) {x : UInt64} (C : CC p s m args c cc nL own Ts D tys A H0) (d : decode cc pc = .ok (.dstore_n j, 1)) (hi : (j : Nat) = i) (hn : Nat.blt (i + 1) nL = true) (kk : sw p l e R s m args below meth c D A H0 nL k n Q ws (pc + 1) (lvSet L i (.double x)) st) : sw p l e R s m args below meth c D A H0 nL k n Q ws pc L (.double x :: st) := fun H locs ls hP hD hS hl => lv_dstore_n C.hx C.hb d hi hl (Nat.le_of_ble_eq_true hn) rfl (fun ls hl => kk H locs ls hP hD hS (lvSet2 rfl hl))
theorem sw_dstore (pc : Nat) {i : Nat} {x : UInt64} (C : CC p s m args c cc nL own Ts D tys A H0) (d : decode cc pc = .ok (.dstore i, 2)) (hn : Nat.blt (i + 1) nL = true) (kk : sw p l e R s m args below meth c D A H0 nL k n Q ws (pc + 2) (lvSet L i (.double x)) st) : sw p l e R s m args below meth c D A H0 nL k n Q ws pc L (.double x :: st) := fun H locs ls hP hD hS hl => lv_dstore C.hx C.hb d hl (Nat.le_of_ble_eq_true hn) rfl (fun ls hl => kk H locs ls hP hD hS (lvSet2 rfl hl))
theorem sw_iinc (pc : Nat) {i : Nat} {a : Int} {x : Int32} (C : CC p s m args c cc nL own Ts D tys A H0) (v : Int32) (d : decode cc pc = .ok (.iinc i a, 3)) (hv : Int32.ofInt a = v) (hn : Nat.blt i nL = true) (hL : lvGet L i = some (.int x)) (kk : sw p l e R s m args below meth c D A H0 nL k n Q ws (pc + 3) (lvSet L i (.int (x + v))) st) : sw p l e R s m args below meth c D A H0 nL k n Q ws pc L st := by
  intro H locs ls hP hD hS hl
  obtain ⟨q, hq⟩ := List.getElem?_of_mem (lvGet_mem L i _ hL)
  exact lv_iinc C.hx C.hb d hl hq (by rw [hv]) (Nat.le_of_ble_eq_true hn) rfl (fun ls hl => kk H locs ls hP hD hS (lvSet1 hl))
theorem sw_iadd (pc : Nat) {x y : Int32} (C : CC p s m args c cc nL own Ts D tys A H0) (d : decode cc pc = .ok (.iadd, 1)) (kk : sw p l e R s m args below meth c D A H0 nL k n Q ws (pc + 1) L (.int (x + y) :: st)) : sw p l e R s m args below meth c D A H0 nL k n Q ws pc L (.int y :: .int x :: st) := fun H locs ls hP hD hS hl => lv_iadd C.hx C.hb d (kk H locs ls hP hD hS hl)
theorem sw_isub (pc : Nat) {x y : Int32} (C : CC p s m args c cc nL own Ts D tys A H0) (d : decode cc pc = .ok (.isub, 1)) (kk : sw p l e R s m args below meth c D A H0 nL k n Q ws (pc + 1) L (.int (x - y) :: st)) : sw p l e R s m args below meth c D A H0 nL k n Q ws pc L (.int y :: .int x :: st) := fun H locs ls hP hD hS hl => lv_isub C.hx C.hb d (kk H locs ls hP hD hS hl)
theorem sw_imul (pc : Nat) {x y : Int32} (C : CC p s m args c cc nL own Ts D tys A H0) (d : decode cc pc = .ok (.imul, 1)) (kk : sw p l e R s m args below meth c D A H0 nL k n Q ws (pc + 1) L (.int (x * y) :: st)) : sw p l e R s m args below meth c D A H0 nL k n Q ws pc L (.int y :: .int x :: st) := fun H locs ls hP hD hS hl => lv_imul C.hx C.hb d (kk H locs ls hP hD hS hl)
theorem sw_iand (pc : Nat) {x y : Int32} (C : CC p s m args c cc nL own Ts D tys A H0) (d : decode cc pc = .ok (.iand, 1)) (kk : sw p l e R s m args below meth c D A H0 nL k n Q ws (pc + 1) L (.int (x &&& y) :: st)) : sw p l e R s m args below meth c D A H0 nL k n Q ws pc L (.int y :: .int x :: st) := fun H locs ls hP hD hS hl => lv_iand C.hx C.hb d (kk H locs ls hP hD hS hl)
theorem sw_idiv (pc : Nat) {x y : Int32} (C : CC p s m args c cc nL own Ts D tys A H0) (d : decode cc pc = .ok (.idiv, 1)) (hy : ¬ y = 0) (kk : sw p l e R s m args below meth c D A H0 nL k n Q ws (pc + 1) L (.int (x / y) :: st)) : sw p l e R s m args below meth c D A H0 nL k n Q ws pc L (.int y :: .int x :: st) := fun H locs ls hP hD hS hl => lv_idiv C.hx C.hb d hy (kk H locs ls hP hD hS hl)
theorem sw_irem (pc : Nat) {x y : Int32} (C : CC p s m args c cc nL own Ts D tys A H0) (d : decode cc pc = .ok (.irem, 1)) (hy : ¬ y = 0) (kk : sw p l e R s m args below meth c D A H0 nL k n Q ws (pc + 1) L (.int (x - x / y * y) :: st)) : sw p l e R s m args below meth c D A H0 nL k n Q ws pc L (.int y :: .int x :: st) := fun H locs ls hP hD hS hl => lv_irem C.hx C.hb d hy (kk H locs ls hP hD hS hl)
theorem sw_ladd (pc : Nat) {x y : Int64} (C : CC p s m args c cc nL own Ts D tys A H0) (d : decode cc pc = .ok (.ladd, 1)) (kk : sw p l e R s m args below meth c D A H0 nL k n Q ws (pc + 1) L (.long (x + y) :: st)) : sw p l e R s m args below meth c D A H0 nL k n Q ws pc L (.long y :: .long x :: st) := fun H locs ls hP hD hS hl => lv_ladd C.hx C.hb d (kk H locs ls hP hD hS hl)
theorem sw_lmul (pc : Nat) {x y : Int64} (C : CC p s m args c cc nL own Ts D tys A H0) (d : decode cc pc = .ok (.lmul, 1)) (kk : sw p l e R s m args below meth c D A H0 nL k n Q ws (pc + 1) L (.long (x * y) :: st)) : sw p l e R s m args below meth c D A H0 nL k n Q ws pc L (.long y :: .long x :: st) := fun H locs ls hP hD hS hl => lv_lmul C.hx C.hb d (kk H locs ls hP hD hS hl)
theorem sw_i2l (pc : Nat) {x : Int32} (C : CC p s m args c cc nL own Ts D tys A H0) (d : decode cc pc = .ok (.i2l, 1)) (kk : sw p l e R s m args below meth c D A H0 nL k n Q ws (pc + 1) L (.long x.toInt64 :: st)) : sw p l e R s m args below meth c D A H0 nL k n Q ws pc L (.int x :: st) := fun H locs ls hP hD hS hl => lv_i2l C.hx C.hb d rfl (kk H locs ls hP hD hS hl)
theorem sw_dup (pc : Nat) {v : Value} (C : CC p s m args c cc nL own Ts D tys A H0) (d : decode cc pc = .ok (.dup, 1)) (hv : v.category = 1) (kk : sw p l e R s m args below meth c D A H0 nL k n Q ws (pc + 1) L (v :: v :: st)) : sw p l e R s m args below meth c D A H0 nL k n Q ws pc L (v :: st) := fun H locs ls hP hD hS hl => lv_dup C.hx C.hb d hv (kk H locs ls hP hD hS hl)
theorem sw_pop (pc : Nat) {v : Value} (C : CC p s m args c cc nL own Ts D tys A H0) (d : decode cc pc = .ok (.pop, 1)) (hv : v.category = 1) (kk : sw p l e R s m args below meth c D A H0 nL k n Q ws (pc + 1) L st) : sw p l e R s m args below meth c D A H0 nL k n Q ws pc L (v :: st) := fun H locs ls hP hD hS hl => lv_pop C.hx C.hb d hv (kk H locs ls hP hD hS hl)
theorem sw_dup2 (pc : Nat) {v v2 : Value} (C : CC p s m args c cc nL own Ts D tys A H0) (d : decode cc pc = .ok (.dup2, 1)) (hv : v.category = 1) (hw : v2.category = 1) (kk : sw p l e R s m args below meth c D A H0 nL k n Q ws (pc + 1) L (v :: v2 :: v :: v2 :: st)) : sw p l e R s m args below meth c D A H0 nL k n Q ws pc L (v :: v2 :: st) := fun H locs ls hP hD hS hl => lv_dup2_11 C.hx C.hb d hv hw (kk H locs ls hP hD hS hl)
theorem sw_if_eq (pc tgt : Nat) {x : Int32} {off : Int} (C : CC p s m args c cc nL own Ts D tys A H0) (d : decode cc pc = .ok (.ifCond .eq off, 3)) (ht : (pc : Int) + off = (tgt : Int)) (kt : x = 0 → sw p l e R s m args below meth c D A H0 nL k n Q ws tgt L st) (kf : ¬ x = 0 → sw p l e R s m args below meth c D A H0 nL k n Q ws (pc + 3) L st) : sw p l e R s m args below meth c D A H0 nL k n Q ws pc L (.int x :: st) := fun H locs ls hP hD hS hl => lv_if_eq C.hx C.hb d ht (fun h => kt h H locs ls hP hD hS hl) (fun h => kf h H locs ls hP hD hS hl)
theorem sw_if_ne (pc tgt : Nat) {x : Int32} {off : Int} (C : CC p s m args c cc nL own Ts D tys A H0) (d : decode cc pc = .ok (.ifCond .ne off, 3)) (ht : (pc : Int) + off = (tgt : Int)) (kt : ¬ x = 0 → sw p l e R s m args below meth c D A H0 nL k n Q ws tgt L st) (kf : x = 0 → sw p l e R s m args below meth c D A H0 nL k n Q ws (pc + 3) L st) : sw p l e R s m args below meth c D A H0 nL k n Q ws pc L (.int x :: st) := fun H locs ls hP hD hS hl => lv_if_ne C.hx C.hb d ht (fun h => kt h H locs ls hP hD hS hl) (fun h => kf h H locs ls hP hD hS hl)
theorem sw_if_lt (pc tgt : Nat) {x : Int32} {off : Int} (C : CC p s m args c cc nL own Ts D tys A H0) (d : decode cc pc = .ok (.ifCond .lt off, 3)) (ht : (pc : Int) + off = (tgt : Int)) (kt : x < 0 → sw p l e R s m args below meth c D A H0 nL k n Q ws tgt L st) (kf : ¬ x < 0 → sw p l e R s m args below meth c D A H0 nL k n Q ws (pc + 3) L st) : sw p l e R s m args below meth c D A H0 nL k n Q ws pc L (.int x :: st) := fun H locs ls hP hD hS hl => lv_if_lt C.hx C.hb d ht (fun h => kt h H locs ls hP hD hS hl) (fun h => kf h H locs ls hP hD hS hl)
theorem sw_if_ge (pc tgt : Nat) {x : Int32} {off : Int} (C : CC p s m args c cc nL own Ts D tys A H0) (d : decode cc pc = .ok (.ifCond .ge off, 3)) (ht : (pc : Int) + off = (tgt : Int)) (kt : 0 ≤ x → sw p l e R s m args below meth c D A H0 nL k n Q ws tgt L st) (kf : ¬ 0 ≤ x → sw p l e R s m args below meth c D A H0 nL k n Q ws (pc + 3) L st) : sw p l e R s m args below meth c D A H0 nL k n Q ws pc L (.int x :: st) := fun H locs ls hP hD hS hl => lv_if_ge C.hx C.hb d ht (fun h => kt h H locs ls hP hD hS hl) (fun h => kf h H locs ls hP hD hS hl)
theorem sw_if_gt (pc tgt : Nat) {x : Int32} {off : Int} (C : CC p s m args c cc nL own Ts D tys A H0) (d : decode cc pc = .ok (.ifCond .gt off, 3)) (ht : (pc : Int) + off = (tgt : Int)) (kt : 0 < x → sw p l e R s m args below meth c D A H0 nL k n Q ws tgt L st) (kf : ¬ 0 < x → sw p l e R s m args below meth c D A H0 nL k n Q ws (pc + 3) L st) : sw p l e R s m args below meth c D A H0 nL k n Q ws pc L (.int x :: st) := fun H locs ls hP hD hS hl => lv_if_gt C.hx C.hb d ht (fun h => kt h H locs ls hP hD hS hl) (fun h => kf h H locs ls hP hD hS hl)
theorem sw_if_le (pc tgt : Nat) {x : Int32} {off : Int} (C : CC p s m args c cc nL own Ts D tys A H0) (d : decode cc pc = .ok (.ifCond .le off, 3)) (ht : (pc : Int) + off = (tgt : Int)) (kt : x ≤ 0 → sw p l e R s m args below meth c D A H0 nL k n Q ws tgt L st) (kf : ¬ x ≤ 0 → sw p l e R s m args below meth c D A H0 nL k n Q ws (pc + 3) L st) : sw p l e R s m args below meth c D A H0 nL k n Q ws pc L (.int x :: st) := fun H locs ls hP hD hS hl => lv_if_le C.hx C.hb d ht (fun h => kt h H locs ls hP hD hS hl) (fun h => kf h H locs ls hP hD hS hl)
theorem sw_icmp_eq (pc tgt : Nat) {x y : Int32} {off : Int} (C : CC p s m args c cc nL own Ts D tys A H0) (d : decode cc pc = .ok (.if_icmp .eq off, 3)) (ht : (pc : Int) + off = (tgt : Int)) (kt : x = y → sw p l e R s m args below meth c D A H0 nL k n Q ws tgt L st) (kf : ¬ x = y → sw p l e R s m args below meth c D A H0 nL k n Q ws (pc + 3) L st) : sw p l e R s m args below meth c D A H0 nL k n Q ws pc L (.int y :: .int x :: st) := fun H locs ls hP hD hS hl => lv_icmp_eq C.hx C.hb d ht (fun h => kt h H locs ls hP hD hS hl) (fun h => kf h H locs ls hP hD hS hl)
theorem sw_icmp_ne (pc tgt : Nat) {x y : Int32} {off : Int} (C : CC p s m args c cc nL own Ts D tys A H0) (d : decode cc pc = .ok (.if_icmp .ne off, 3)) (ht : (pc : Int) + off = (tgt : Int)) (kt : ¬ x = y → sw p l e R s m args below meth c D A H0 nL k n Q ws tgt L st) (kf : x = y → sw p l e R s m args below meth c D A H0 nL k n Q ws (pc + 3) L st) : sw p l e R s m args below meth c D A H0 nL k n Q ws pc L (.int y :: .int x :: st) := fun H locs ls hP hD hS hl => lv_icmp_ne C.hx C.hb d ht (fun h => kt h H locs ls hP hD hS hl) (fun h => kf h H locs ls hP hD hS hl)
theorem sw_icmp_lt (pc tgt : Nat) {x y : Int32} {off : Int} (C : CC p s m args c cc nL own Ts D tys A H0) (d : decode cc pc = .ok (.if_icmp .lt off, 3)) (ht : (pc : Int) + off = (tgt : Int)) (kt : x < y → sw p l e R s m args below meth c D A H0 nL k n Q ws tgt L st) (kf : ¬ x < y → sw p l e R s m args below meth c D A H0 nL k n Q ws (pc + 3) L st) : sw p l e R s m args below meth c D A H0 nL k n Q ws pc L (.int y :: .int x :: st) := fun H locs ls hP hD hS hl => lv_icmp_lt C.hx C.hb d ht (fun h => kt h H locs ls hP hD hS hl) (fun h => kf h H locs ls hP hD hS hl)
theorem sw_icmp_ge (pc tgt : Nat) {x y : Int32} {off : Int} (C : CC p s m args c cc nL own Ts D tys A H0) (d : decode cc pc = .ok (.if_icmp .ge off, 3)) (ht : (pc : Int) + off = (tgt : Int)) (kt : y ≤ x → sw p l e R s m args below meth c D A H0 nL k n Q ws tgt L st) (kf : ¬ y ≤ x → sw p l e R s m args below meth c D A H0 nL k n Q ws (pc + 3) L st) : sw p l e R s m args below meth c D A H0 nL k n Q ws pc L (.int y :: .int x :: st) := fun H locs ls hP hD hS hl => lv_icmp_ge C.hx C.hb d ht (fun h => kt h H locs ls hP hD hS hl) (fun h => kf h H locs ls hP hD hS hl)
theorem sw_icmp_gt (pc tgt : Nat) {x y : Int32} {off : Int} (C : CC p s m args c cc nL own Ts D tys A H0) (d : decode cc pc = .ok (.if_icmp .gt off, 3)) (ht : (pc : Int) + off = (tgt : Int)) (kt : y < x → sw p l e R s m args below meth c D A H0 nL k n Q ws tgt L st) (kf : ¬ y < x → sw p l e R s m args below meth c D A H0 nL k n Q ws (pc + 3) L st) : sw p l e R s m args below meth c D A H0 nL k n Q ws pc L (.int y :: .int x :: st) := fun H locs ls hP hD hS hl => lv_icmp_gt C.hx C.hb d ht (fun h => kt h H locs ls hP hD hS hl) (fun h => kf h H locs ls hP hD hS hl)
theorem sw_icmp_le (pc tgt : Nat) {x y : Int32} {off : Int} (C : CC p s m args c cc nL own Ts D tys A H0) (d : decode cc pc = .ok (.if_icmp .le off, 3)) (ht : (pc : Int) + off = (tgt : Int)) (kt : x ≤ y → sw p l e R s m args below meth c D A H0 nL k n Q ws tgt L st) (kf : ¬ x ≤ y → sw p l e R s m args below meth c D A H0 nL k n Q ws (pc + 3) L st) : sw p l e R s m args below meth c D A H0 nL k n Q ws pc L (.int y :: .int x :: st) := fun H locs ls hP hD hS hl => lv_icmp_le C.hx C.hb d ht (fun h => kt h H locs ls hP hD hS hl) (fun h => kf h H locs ls hP hD hS hl)
theorem sw_goto (pc tgt : Nat) {off : Int} (C : CC p s m args c cc nL own Ts D tys A H0) (d : decode cc pc = .ok (.goto off, 3)) (ht : (pc : Int) + off = (tgt : Int)) (kk : sw p l e R s m args below meth c D A H0 nL k n Q ws tgt L st) : sw p l e R s m args below meth c D A H0 nL k n Q ws pc L st := fun H locs ls hP hD hS hl => lv_goto C.hx C.hb d ht (kk H locs ls hP hD hS hl)
theorem sw_ifnull (pc : Nat) {off : Int} {a : Nat} (C : CC p s m args c cc nL own Ts D tys A H0) (d : decode cc pc = .ok (.ifnull off, 3)) (kk : sw p l e R s m args below meth c D A H0 nL k n Q ws (pc + 3) L st) : sw p l e R s m args below meth c D A H0 nL k n Q ws pc L (.ref a :: st) := fun H locs ls hP hD hS hl => lv_ifnull C.hx C.hb d (kk H locs ls hP hD hS hl)
theorem sw_tblIn (pc tgt : Nat) {dflt lo hi : Int} {offs : Array Int} {len : Nat} {x : Int32} {off : Int} (C : CC p s m args c cc nL own Ts D tys A H0) (j : Nat) (d : decode cc pc = .ok (.tableswitch dflt lo hi offs, len)) (hx : x.toInt = lo + j) (hj : lo + (j : Int) ≤ hi) (ho : offs[j]? = some off) (ht : (pc : Int) + off = (tgt : Int)) (kk : sw p l e R s m args below meth c D A H0 nL k n Q ws tgt L st) : sw p l e R s m args below meth c D A H0 nL k n Q ws pc L (.int x :: st) := fun H locs ls hP hD hS hl => lv_tableIn C.hx C.hb d (by omega) (by omega) (by rw [show (x.toInt - lo).toNat = j by omega]; exact ho) ht (kk H locs ls hP hD hS hl)
theorem sw_tblOut (pc tgt : Nat) {dflt lo hi : Int} {offs : Array Int} {len : Nat} {x : Int32} (C : CC p s m args c cc nL own Ts D tys A H0) (d : decode cc pc = .ok (.tableswitch dflt lo hi offs, len)) (h : x.toInt < lo ∨ hi < x.toInt) (ht : (pc : Int) + dflt = (tgt : Int)) (kk : sw p l e R s m args below meth c D A H0 nL k n Q ws tgt L st) : sw p l e R s m args below meth c D A H0 nL k n Q ws pc L (.int x :: st) := fun H locs ls hP hD hS hl => lv_tableOut C.hx C.hb d h ht (kk H locs ls hP hD hS hl)
theorem sw_lkp (pc tgt : Nat) {dflt : Int} {ps : Array (Int × Int)} {len : Nat} {x : Int32} {off : Int} (C : CC p s m args c cc nL own Ts D tys A H0) (d : decode cc pc = .ok (.lookupswitch dflt ps, len)) (hp : (ps.toList.zip (ps.toList.drop 1)).all (fun (a, next) => a.1 < next.1) = true) (ho : Op.lookupswitch.offset ps.toList dflt x.toInt = off) (ht : (pc : Int) + off = (tgt : Int)) (kk : sw p l e R s m args below meth c D A H0 nL k n Q ws tgt L st) : sw p l e R s m args below meth c D A H0 nL k n Q ws pc L (.int x :: st) := fun H locs ls hP hD hS hl => lv_lookup C.hx C.hb d hp ho ht (kk H locs ls hP hD hS hl)
theorem sw_topi {pc : Nat} {x : Int32} (kk : ∀ y : Int32, y = x → sw p l e R s m args below meth c D A H0 nL k n Q ws pc L (.int y :: st)) : sw p l e R s m args below meth c D A H0 nL k n Q ws pc L (.int x :: st) := kk x rfl
theorem sw_top {pc : Nat} {x y : Int32} (h : x = y) (kk : sw p l e R s m args below meth c D A H0 nL k n Q ws pc L (.int y :: st)) : sw p l e R s m args below meth c D A H0 nL k n Q ws pc L (.int x :: st) := h ▸ kk
theorem vp_cell_eqi {cA : ClassId} {n : Nat} {f g : Nat → Int32} (h : ∀ j, j < n → f j = g j) : vp_cell cA (n, .inl f) = vp_cell cA (n, .inl g) := by
  rw [vp_cell_i, vp_cell_i]
  unfold arrV
  congr 1
  apply Array.ext
  · simp
  · intro i h1 h2
    simp at h1
    simp [h i h1]
theorem va_P.seteq {D : va_G} {cl : List vw_C} {ws : va_W} {H : Heap} {q0 a n : Nat} {cA : ClassId} {f g : Nat → Int32} (hP : va_P D cl ws H) (ha : ws[q0]? = some (a, .inl (cA, n, .inl f))) (h : ∀ j, j < n → f j = g j) : va_P D cl (ws.set q0 (a, .inl (cA, n, .inl g))) H := by
  have hl := (List.getElem?_eq_some_iff.mp ha).1
  intro k q hk
  by_cases hkp : k = q0
  · subst hkp
    rw [List.getElem?_set_self hl] at hk
    cases hk
    have := hP k _ ha
    show H[a]? = some (vp_cell cA (n, .inl g))
    rw [← vp_cell_eqi h]
    exact this
  · rw [List.getElem?_set_ne (Ne.symm hkp)] at hk
    exact hP k q hk
theorem sw_arrEq (q0 : Nat) {pc a N : Nat} {cA : ClassId} {f : Nat → Int32} (g : Nat → Int32) (ha : ws[q0]? = some (a, .inl (cA, N, .inl f))) (h : ∀ j, j < N → f j = g j) (kk : sw p l e R s m args below meth c D A H0 nL k n Q (ws.set q0 (a, .inl (cA, N, .inl g))) pc L st) : sw p l e R s m args below meth c D A H0 nL k n Q ws pc L st := fun H locs ls hP hD hS hl => kk H locs ls (hP.seteq ha h) (hD.set ha) hS hl
theorem sw_ws {pc : Nat} (ws' : va_W) (h : ws = ws') (kk : sw p l e R s m args below meth c D A H0 nL k n Q ws' pc L st) : sw p l e R s m args below meth c D A H0 nL k n Q ws pc L st := h ▸ kk
theorem sw_st {pc : Nat} (st' : List Value) (h : st = st') (kk : sw p l e R s m args below meth c D A H0 nL k n Q ws pc L st') : sw p l e R s m args below meth c D A H0 nL k n Q ws pc L st := h ▸ kk
theorem sw_loc {pc : Nat} {L1 : List (Nat × Value)} (kk : sw p l e R s m args below meth c D A H0 nL k n Q ws pc L1 st) (h : L1.map (fun q => (q.1, some q.2)) = L1.map (fun q => (q.1, lvGet L q.1))) : sw p l e R s m args below meth c D A H0 nL k n Q ws pc L st := by
  intro H locs ls hP hD hS hl
  refine kk H locs ls hP hD hS ⟨hl.1, hl.2.1, fun q hq => ?_⟩
  obtain ⟨j, hj⟩ := List.getElem?_of_mem hq
  have h1 := congrArg (fun z => z[j]?) h
  simp only [List.getElem?_map, hj, Option.map_some] at h1
  exact hl.2.2 _ (lvGet_mem L q.1 q.2 (congrArg Prod.snd (Option.some.inj h1)).symm)
theorem sw_widen {pc k' n' : Nat} (h1 : k ≤ k') (h2 : n ≤ n') (kk : sw p l e R s m args below meth c D A H0 nL k' n' Q ws pc L st) : sw p l e R s m args below meth c D A H0 nL k n Q ws pc L st := fun H locs ls hP hD hS hl => W.widen h1 h2 (kk H locs ls hP hD hS hl)
theorem sw_get (pc q0 j : Nat) {ref Cn : String} {T : u_T} {N ci index a : Nat} {fs : List Value} {v : Value} (C : CC p s m args c cc nL own Ts D tys A H0) (d : decode cc pc = .ok (.getfield index, 3)) (he : ws[q0]? = some (a, .inr (ci, fs))) (hv : fs[j]? = some v) (hin : ∀ w ∈ u_ws Cn T N, w ∈ Ts) (hlink : (Cond.fieldLink own index ref (T j).2.1 (T j).2.2.1).before args s = true) (hc : vwCl[ci]? = some (Cn, T, N)) (hj : Nat.blt j N = true) (hsame : ref = (T j).1) (kk : sw p l e R s m args below meth c D A H0 nL k n Q ws (pc + 3) L (v :: st)) : sw p l e R s m args below meth c D A H0 nL k n Q ws pc L (.ref a :: st) := fun H locs ls hP hD hS hl => va_get C.hx C.hb C.hts hin C.hown C.hK hP q0 he hc j (Nat.le_of_ble_eq_true hj) hlink (fun _ h => by rw [hsame]; exact h) hv d (kk H locs ls hP hD hS hl)
theorem sw_put (pc q0 j : Nat) {ref Cn : String} {T : u_T} {N ci index a : Nat} {fs : List Value} {v : Value} {ty : FieldType} (ty0 : Nat → FieldType) (C : CC p s m args c cc nL own Ts D tys A H0) (d : decode cc pc = .ok (.putfield index, 3)) (he : ws[q0]? = some (a, .inr (ci, fs))) (hl0 : Nat.blt j fs.length = true) (hin : ∀ w ∈ u_ws Cn T N, w ∈ Ts) (hty : ∀ k, k < N → parseFieldDescriptor (T k).2.2.1 = some (ty0 k)) (hnm : ∀ a, a < N → ∀ b, b < N → a ≠ b → (T a).2.1 ≠ (T b).2.1) (hlink : (Cond.fieldLink own index ref (T j).2.1 (T j).2.2.1).before args s = true) (hc : vwCl[ci]? = some (Cn, T, N)) (hj : Nat.blt j N = true) (hsame : ref = (T j).1) (hfin : (T j).2.2.2 = false) (hd : ty0 j = ty) (hn : narrow ty v = v) (hfit : fits ty v = true) (kk : sw p l e R s m args below meth c D A H0 nL k n Q (ws.set q0 (a, .inr (ci, fs.set j v))) (pc + 3) L st) : sw p l e R s m args below meth c D A H0 nL k n Q ws pc L (v :: .ref a :: st) := fun H locs ls hP hD hS hl => va_put C.hx C.hb C.hts hin ty0 hty hnm C.hown C.hK hP hD hS q0 he hc j (Nat.le_of_ble_eq_true hj) hlink (fun _ h => by rw [hsame]; exact h) hfin ((hty j (Nat.le_of_ble_eq_true hj)).trans (by rw [hd])) hn hfit (Nat.le_of_ble_eq_true hl0) d (fun H locs hP hD hS => kk H locs ls hP hD hS hl)
theorem sw_putF (pc q0 j : Nat) {ref Cn : String} {T : u_T} {N ci index a : Nat} {fs : List Value} {v : Value} {ty : FieldType} (ty0 : Nat → FieldType) (C : CC p s m args c cc nL own Ts D tys A H0) (d : decode cc pc = .ok (.putfield index, 3)) (he : ws[q0]? = some (a, .inr (ci, fs))) (hl0 : Nat.blt j fs.length = true) (hin : ∀ w ∈ u_ws Cn T N, w ∈ Ts) (hty : ∀ k, k < N → parseFieldDescriptor (T k).2.2.1 = some (ty0 k)) (hnm : ∀ a, a < N → ∀ b, b < N → a ≠ b → (T a).2.1 ≠ (T b).2.1) (hlink : (Cond.fieldLink own index ref (T j).2.1 (T j).2.2.1).before args s = true) (hc : vwCl[ci]? = some (Cn, T, N)) (hj : Nat.blt j N = true) (hsame : ref = (T j).1) (hfin : (T j).2.2.2 = true) (hi : meth.name = "<init>") (ho : (T j).1 = own) (hd : ty0 j = ty) (hn : narrow ty v = v) (hfit : fits ty v = true) (kk : sw p l e R s m args below meth c D A H0 nL k n Q (ws.set q0 (a, .inr (ci, fs.set j v))) (pc + 3) L st) : sw p l e R s m args below meth c D A H0 nL k n Q ws pc L (v :: .ref a :: st) := fun H locs ls hP hD hS hl => va_putF C.hx C.hb C.hts hin ty0 hty hnm C.hown C.hK hP hD hS q0 he hc j (Nat.le_of_ble_eq_true hj) hlink (fun _ h => by rw [hsame]; exact h) hfin hi ho ((hty j (Nat.le_of_ble_eq_true hj)).trans (by rw [hd])) hn hfit (Nat.le_of_ble_eq_true hl0) d (fun H locs hP hD hS => kk H locs ls hP hD hS hl)
theorem sw_iald (pc q0 t0 : Nat) {cA : ClassId} {a N : Nat} {f : Nat → Int32} {i : Int32} (C : CC p s m args c cc nL own Ts D tys A H0) (d : decode cc pc = .ok (.iaload, 1)) (hin : vp_in i N) (ht : tys[t0]? = some (cA, .int)) (ha : ws[q0]? = some (a, .inl (cA, N, .inl f))) (kk : sw p l e R s m args below meth c D A H0 nL k n Q ws (pc + 1) L (.int (f i.toNatClampNeg) :: st)) : sw p l e R s m args below meth c D A H0 nL k n Q ws pc L (.int i :: .ref a :: st) := fun H locs ls hP hD hS hl => va_iald C.hx C.hb C.hK hP q0 t0 ha ht hin d (kk H locs ls hP hD hS hl)
theorem sw_iast (pc q0 t0 : Nat) {cA : ClassId} {a N : Nat} {f : Nat → Int32} {i : Int32} {x : Int32} (C : CC p s m args c cc nL own Ts D tys A H0) (d : decode cc pc = .ok (.iastore, 1)) (hin : vp_in i N) (ht : tys[t0]? = some (cA, .int)) (ha : ws[q0]? = some (a, .inl (cA, N, .inl f))) (kk : sw p l e R s m args below meth c D A H0 nL k n Q (ws.set q0 (a, .inl (cA, N, .inl (upd f i.toNatClampNeg x)))) (pc + 1) L st) : sw p l e R s m args below meth c D A H0 nL k n Q ws pc L (.int x :: .int i :: .ref a :: st) := fun H locs ls hP hD hS hl => va_iast C.hx C.hb C.hK hP hD hS q0 t0 ha ht hin d (fun H locs hP hD hS => kk H locs ls hP hD hS hl)
theorem sw_lald (pc q0 t0 : Nat) {cA : ClassId} {a N : Nat} {f : Nat → Int64} {i : Int32} (C : CC p s m args c cc nL own Ts D tys A H0) (d : decode cc pc = .ok (.laload, 1)) (hin : vp_in i N) (ht : tys[t0]? = some (cA, .long)) (ha : ws[q0]? = some (a, .inl (cA, N, .inr (.inl f)))) (kk : sw p l e R s m args below meth c D A H0 nL k n Q ws (pc + 1) L (.long (f i.toNatClampNeg) :: st)) : sw p l e R s m args below meth c D A H0 nL k n Q ws pc L (.int i :: .ref a :: st) := fun H locs ls hP hD hS hl => va_lald C.hx C.hb C.hK hP q0 t0 ha ht hin d (kk H locs ls hP hD hS hl)
theorem sw_last (pc q0 t0 : Nat) {cA : ClassId} {a N : Nat} {f : Nat → Int64} {i : Int32} {x : Int64} (C : CC p s m args c cc nL own Ts D tys A H0) (d : decode cc pc = .ok (.lastore, 1)) (hin : vp_in i N) (ht : tys[t0]? = some (cA, .long)) (ha : ws[q0]? = some (a, .inl (cA, N, .inr (.inl f)))) (kk : sw p l e R s m args below meth c D A H0 nL k n Q (ws.set q0 (a, .inl (cA, N, .inr (.inl (vp_updL f i.toNatClampNeg x))))) (pc + 1) L st) : sw p l e R s m args below meth c D A H0 nL k n Q ws pc L (.long x :: .int i :: .ref a :: st) := fun H locs ls hP hD hS hl => va_last C.hx C.hb C.hK hP hD hS q0 t0 ha ht hin d (fun H locs hP hD hS => kk H locs ls hP hD hS hl)
theorem sw_aald (pc q0 t0 : Nat) {cA : ClassId} {Cn : String} {a N b : Nat} {f : Nat → Option Nat} {i : Int32} (C : CC p s m args c cc nL own Ts D tys A H0) (d : decode cc pc = .ok (.aaload, 1)) (hin : vp_in i N) (hf : f i.toNatClampNeg = some b) (ht : tys[t0]? = some (cA, .object Cn)) (ha : ws[q0]? = some (a, .inl (cA, N, .inr (.inr (.inr (.inr f)))))) (kk : sw p l e R s m args below meth c D A H0 nL k n Q ws (pc + 1) L (.ref b :: st)) : sw p l e R s m args below meth c D A H0 nL k n Q ws pc L (.int i :: .ref a :: st) := fun H locs ls hP hD hS hl => va_aldq C.hx C.hb C.hK hP q0 t0 ha ht hin d (by rw [hf]; exact kk H locs ls hP hD hS hl)
theorem sw_aast (pc q0 t0 qk : Nat) {ci : Nat} {cA : ClassId} {r : vw_C} {a N b : Nat} {vs : List Value} {f : Nat → Option Nat} {i : Int32} (C : CC p s m args c cc nL own Ts D tys A H0) (d : decode cc pc = .ok (.aastore, 1)) (hin : vp_in i N) (ht : tys[t0]? = some (cA, .object r.1)) (hc : vwCl[ci]? = some r) (ha : ws[q0]? = some (a, .inl (cA, N, .inr (.inr (.inr (.inr f)))))) (hv : ws[qk]? = some (b, .inr (ci, vs))) (kk : sw p l e R s m args below meth c D A H0 nL k n Q (ws.set q0 (a, .inl (cA, N, .inr (.inr (.inr (.inr (va_up f i.toNatClampNeg (some b)))))))) (pc + 1) L st) : sw p l e R s m args below meth c D A H0 nL k n Q ws pc L (.ref b :: .int i :: .ref a :: st) := fun H locs ls hP hD hS hl => va_astq C.hx C.hb C.hK hP hD hS q0 t0 qk ci ha ht hv hc hin d (fun H locs hP hD hS => kk H locs ls hP hD hS hl)
theorem sw_alen (pc q0 t0 : Nat) {cA : ClassId} {a : Nat} {x : vp_A} {ty : FieldType} (C : CC p s m args c cc nL own Ts D tys A H0) (v : Int32) (d : decode cc pc = .ok (.arraylength, 1)) (ht : tys[t0]? = some (cA, ty)) (ha : ws[q0]? = some (a, .inl (cA, x))) (hv : Int32.ofNat x.1 = v) (kk : sw p l e R s m args below meth c D A H0 nL k n Q ws (pc + 1) L (.int v :: st)) : sw p l e R s m args below meth c D A H0 nL k n Q ws pc L (.ref a :: st) := fun H locs ls hP hD hS hl => va_alen C.hx C.hb C.hK hP q0 t0 ha ht hv d (kk H locs ls hP hD hS hl)
theorem sw_ialdN (pc q0 t0 u : Nat) {cA : ClassId} {a N : Nat} {f : Nat → Int32} {i : Int32} (C : CC p s m args c cc nL own Ts D tys A H0) (d : decode cc pc = .ok (.iaload, 1)) (hi : i = nI u) (hu : u < N) (hN : Nat.ble N 2147483647 = true) (ht : tys[t0]? = some (cA, .int)) (ha : ws[q0]? = some (a, .inl (cA, N, .inl f))) (kk : sw p l e R s m args below meth c D A H0 nL k n Q ws (pc + 1) L (.int (f u) :: st)) : sw p l e R s m args below meth c D A H0 nL k n Q ws pc L (.int i :: .ref a :: st) := by
  have h31 : N < 2 ^ 31 := Nat.lt_of_le_of_lt (Nat.le_of_ble_eq_true hN) (by decide)
  subst hi
  refine sw_iald pc q0 t0 C d (vp_in_nI hu h31) ht ha ?_
  rw [nI_clamp (by omega)]
  exact kk
theorem sw_iastN (pc q0 t0 u : Nat) {cA : ClassId} {a N : Nat} {f : Nat → Int32} {i : Int32} {x : Int32} (C : CC p s m args c cc nL own Ts D tys A H0) (d : decode cc pc = .ok (.iastore, 1)) (hi : i = nI u) (hu : u < N) (hN : Nat.ble N 2147483647 = true) (ht : tys[t0]? = some (cA, .int)) (ha : ws[q0]? = some (a, .inl (cA, N, .inl f))) (kk : sw p l e R s m args below meth c D A H0 nL k n Q (ws.set q0 (a, .inl (cA, N, .inl (upd f u x)))) (pc + 1) L st) : sw p l e R s m args below meth c D A H0 nL k n Q ws pc L (.int x :: .int i :: .ref a :: st) := by
  have h31 : N < 2 ^ 31 := Nat.lt_of_le_of_lt (Nat.le_of_ble_eq_true hN) (by decide)
  subst hi
  refine sw_iast pc q0 t0 C d (vp_in_nI hu h31) ht ha ?_
  rw [nI_clamp (by omega)]
  exact kk
theorem sw_laldN (pc q0 t0 u : Nat) {cA : ClassId} {a N : Nat} {f : Nat → Int64} {i : Int32} (C : CC p s m args c cc nL own Ts D tys A H0) (d : decode cc pc = .ok (.laload, 1)) (hi : i = nI u) (hu : u < N) (hN : Nat.ble N 2147483647 = true) (ht : tys[t0]? = some (cA, .long)) (ha : ws[q0]? = some (a, .inl (cA, N, .inr (.inl f)))) (kk : sw p l e R s m args below meth c D A H0 nL k n Q ws (pc + 1) L (.long (f u) :: st)) : sw p l e R s m args below meth c D A H0 nL k n Q ws pc L (.int i :: .ref a :: st) := by
  have h31 : N < 2 ^ 31 := Nat.lt_of_le_of_lt (Nat.le_of_ble_eq_true hN) (by decide)
  subst hi
  refine sw_lald pc q0 t0 C d (vp_in_nI hu h31) ht ha ?_
  rw [nI_clamp (by omega)]
  exact kk
theorem sw_lastN (pc q0 t0 u : Nat) {cA : ClassId} {a N : Nat} {f : Nat → Int64} {i : Int32} {x : Int64} (C : CC p s m args c cc nL own Ts D tys A H0) (d : decode cc pc = .ok (.lastore, 1)) (hi : i = nI u) (hu : u < N) (hN : Nat.ble N 2147483647 = true) (ht : tys[t0]? = some (cA, .long)) (ha : ws[q0]? = some (a, .inl (cA, N, .inr (.inl f)))) (kk : sw p l e R s m args below meth c D A H0 nL k n Q (ws.set q0 (a, .inl (cA, N, .inr (.inl (vp_updL f u x))))) (pc + 1) L st) : sw p l e R s m args below meth c D A H0 nL k n Q ws pc L (.long x :: .int i :: .ref a :: st) := by
  have h31 : N < 2 ^ 31 := Nat.lt_of_le_of_lt (Nat.le_of_ble_eq_true hN) (by decide)
  subst hi
  refine sw_last pc q0 t0 C d (vp_in_nI hu h31) ht ha ?_
  rw [nI_clamp (by omega)]
  exact kk
theorem tys_one {U : State} {cA cB : ClassId} {ty : FieldType} (h1 : va_RA U cA ty) (h2 : va_RA U cB ty) : cA = cB := by
  cases ty with
  | object C =>
    obtain ⟨k1, q1, -, -, -, e1⟩ := h1
    obtain ⟨k2, q2, -, -, -, e2⟩ := h2
    exact Option.some.inj (e1.symm.trans e2)
  | _ => exact Option.some.inj (h1.symm.trans h2)
theorem va_K.last {D : va_G} {cl : List vw_C} {tys : List (ClassId × FieldType)} {q : ClassId × FieldType} {U : State} (h : va_K D cl (tys ++ [q]) U) : va_RA U q.1 q.2 := (h.2 tys.length q (by simp)).2
theorem sw_newI (pc t0 : Nat) {cA : ClassId} {v : Int32} (C : CC p s m args c cc nL own Ts D tys A H0) (N : Nat) (harr : (Cond.arrayClass .int).before args s = true) (ht : tys[t0]? = some (cA, .int)) (hn : ¬ v < 0) (hN : v.toNatClampNeg = N) (hbytes : N * 4 ≤ 536870912) (hcells : k + 1 ≤ R.cells) (hslots : n + N ≤ R.slots) (d : decode cc pc = .ok (.newarray .int, 2)) (kk : ∀ q : Nat, sw p l e R s m args below meth c D A H0 nL (k + 1) (n + N) Q (ws ++ [(q, .inl (cA, N, .inl (fun _ => 0)))]) (pc + 2) L (.ref q :: st)) : sw p l e R s m args below meth c D A H0 nL k n Q ws pc L (.int v :: st) := by
  intro H locs ls hP hD hS hl
  refine va_newa (atype := .int) C.hx C.hb harr (ty := .int) rfl C.hK hP hD hS C.hA (a0 := (N, .inl (fun _ => 0))) (fun _ => rfl) hn hN hbytes hcells hslots d (fun q cB H1 hK hP hD hS => ?_)
  have e : cB = cA := tys_one hK.last (C.hK.2 t0 _ ht).2
  subst e
  exact kk q H1 locs ls hP hD hS hl
theorem sw_newL (pc t0 : Nat) {cA : ClassId} {v : Int32} (C : CC p s m args c cc nL own Ts D tys A H0) (N : Nat) (harr : (Cond.arrayClass .long).before args s = true) (ht : tys[t0]? = some (cA, .long)) (hn : ¬ v < 0) (hN : v.toNatClampNeg = N) (hbytes : N * 8 ≤ 536870912) (hcells : k + 1 ≤ R.cells) (hslots : n + N ≤ R.slots) (d : decode cc pc = .ok (.newarray .long, 2)) (kk : ∀ q : Nat, sw p l e R s m args below meth c D A H0 nL (k + 1) (n + N) Q (ws ++ [(q, .inl (cA, N, .inr (.inl (fun _ => 0))))]) (pc + 2) L (.ref q :: st)) : sw p l e R s m args below meth c D A H0 nL k n Q ws pc L (.int v :: st) := by
  intro H locs ls hP hD hS hl
  refine va_newa (atype := .long) C.hx C.hb harr (ty := .long) rfl C.hK hP hD hS C.hA (a0 := (N, .inr (.inl (fun _ => 0)))) (fun _ => rfl) hn hN hbytes hcells hslots d (fun q cB H1 hK hP hD hS => ?_)
  have e : cB = cA := tys_one hK.last (C.hK.2 t0 _ ht).2
  subst e
  exact kk q H1 locs ls hP hD hS hl
theorem sw_newQ (pc t0 : Nat) {cA : ClassId} {Cn : String} {index : Nat} {v : Int32} (C : CC p s m args c cc nL own Ts D tys A H0) (N : Nat) (hover : va_AO Cn s) (hcl : (Cond.classLink own index Cn).before args s = true) (ht : tys[t0]? = some (cA, .object Cn)) (hn : ¬ v < 0) (hN : v.toNatClampNeg = N) (hbytes : N * 4 ≤ 536870912) (hcells : k + 1 ≤ R.cells) (hslots : n + N ≤ R.slots) (d : decode cc pc = .ok (.anewarray index, 3)) (kk : ∀ q : Nat, sw p l e R s m args below meth c D A H0 nL (k + 1) (n + N) Q (ws ++ [(q, .inl (cA, N, .inr (.inr (.inr (.inr (fun _ => none)))))) ]) (pc + 3) L (.ref q :: st)) : sw p l e R s m args below meth c D A H0 nL k n Q ws pc L (.int v :: st) := by
  intro H locs ls hP hD hS hl
  refine va_newq C.hx C.hb C.hown hcl hover C.hK hP hD hS C.hA hn hN hbytes hcells hslots d (fun q cB H1 hK hP hD hS => ?_)
  have e : cB = cA := tys_one hK.last (C.hK.2 t0 _ ht).2
  subst e
  exact kk q H1 locs ls hP hD hS hl
theorem sw_new (pc : Nat) {Cn : String} {T : u_T} {N ci index : Nat} (ty0 : Nat → FieldType) (fs : List Value) (C : CC p s m args c cc nL own Ts D tys A H0) (hin : ∀ w ∈ u_ws Cn T N, w ∈ Ts) (hty : ∀ k, k < N → parseFieldDescriptor (T k).2.2.1 = some (ty0 k)) (hcl : (Cond.classLink own index Cn).before args s = true) (hinst : (Cond.instantiable Cn N).before args s = true) (hini : (Cond.initialized Cn).before args s = true) (hc : vwCl[ci]? = some (Cn, T, N)) (hfs : ∀ j, j < N → defaultValue (ty0 j) = vp_V fs j) (hcells : k + 1 ≤ R.cells) (hslots : n + N ≤ R.slots) (d : decode cc pc = .ok (.new index, 3)) (kk : ∀ q : Nat, sw p l e R s m args below meth c D A H0 nL (k + 1) (n + N) Q (ws ++ [(q, .inr (ci, fs))]) (pc + 3) L (.ref q :: st)) : sw p l e R s m args below meth c D A H0 nL k n Q ws pc L st := fun H locs ls hP hD hS hl => va_new C.hx C.hb C.hts hin ty0 hty C.hown hcl hinst hini C.hK hP hD hS C.hA hc hfs hcells hslots d (fun q H1 hP hD hS => kk q H1 locs ls hP hD hS hl)
theorem sw_objInit (pc : Nat) {idx a : Nat} (C : CC p s m args c cc nL own Ts D tys A H0) (hlink : (Cond.methodLink own idx Lib.objectInit).before args s = true) (hinst : (Cond.instanceMethod Lib.objectInit).before args s = true) (hcode : (Cond.code Lib.objectInit ⟨#[0xb1]⟩ 1 none).before args s = true) (d : decode cc pc = .ok (.invokespecial idx, 3)) (hfr : 1 ≤ R.frames) (hlo : (st.map fun v => v.category).sum + 12 ≤ R.locals) (kk : sw p l e R s m args below meth c D A H0 nL k n Q ws (pc + 3) L st) : sw p l e R s m args below meth c D A H0 nL k n Q ws pc L (.ref a :: st) := fun H locs ls hP hD hS hl => W.objInit C.hx C.hb C.hown hlink hinst hcode rfl (by rw [C.hml]; exact hl.1) rfl d hfr (by show 2 * 0 + _ + 12 ≤ _; omega) (kk H locs ls hP hD hS hl)
theorem sw_mmax (pc : Nat) {index : Nat} {x y : Int32} (C : CC p s m args c cc nL own Ts D tys A H0) (hlink : (Cond.methodLink own index Lib.Math.max.name).before args s = true) (hstat : (Cond.static Lib.Math.max.name).before args s = true) (hini : (Cond.initialized "java/lang/Math").before args s = true) (hcode : (Cond.code Lib.Math.max.name Lib.Math.max.code 2 (some .int)).before args s = true) (hfr : 1 ≤ R.frames) (hlo : (st.map fun v => v.category).sum + 13 ≤ R.locals) (hc : k ≤ R.cells) (hs : n ≤ R.slots) (d : decode cc pc = .ok (.invokestatic index, 3)) (kk : sw p l e R s m args below meth c D A H0 nL k n Q ws (pc + 3) L (.int (if x < y then y else x) :: st)) : sw p l e R s m args below meth c D A H0 nL k n Q ws pc L (.int y :: .int x :: st) := fun H locs ls hP hD hS hl => va_mmax C.hx C.hb (by rw [C.hml]; exact hl.1.symm) C.hown hlink hstat hini hcode hfr hlo hc hs d (kk H locs ls hP hD hS hl)
theorem sw_mmin (pc : Nat) {index : Nat} {x y : Int32} (C : CC p s m args c cc nL own Ts D tys A H0) (hlink : (Cond.methodLink own index Lib.Math.min.name).before args s = true) (hstat : (Cond.static Lib.Math.min.name).before args s = true) (hini : (Cond.initialized "java/lang/Math").before args s = true) (hcode : (Cond.code Lib.Math.min.name Lib.Math.min.code 2 (some .int)).before args s = true) (hfr : 1 ≤ R.frames) (hlo : (st.map fun v => v.category).sum + 13 ≤ R.locals) (hc : k ≤ R.cells) (hs : n ≤ R.slots) (d : decode cc pc = .ok (.invokestatic index, 3)) (kk : sw p l e R s m args below meth c D A H0 nL k n Q ws (pc + 3) L (.int (if y < x then y else x) :: st)) : sw p l e R s m args below meth c D A H0 nL k n Q ws pc L (.int y :: .int x :: st) := fun H locs ls hP hD hS hl => va_mmin C.hx C.hb (by rw [C.hml]; exact hl.1.symm) C.hown hlink hstat hini hcode hfr hlo hc hs d (kk H locs ls hP hD hS hl)
theorem sw_copy (pc q0 q1 t0 : Nat) {index a0 a n0 n1 : Nat} {cA : ClassId} {f g : Nat → Int32} {sp dp z : Int32} (C : CC p s m args c cc nL own Ts D tys A H0) (hlink : (Cond.methodLink own index arraycopyName).before args s = true) (hnat : (Cond.native arraycopyName).before args s = true) (hstat : (Cond.static arraycopyName).before args s = true) (hini : (Cond.initialized "java/lang/System").before args s = true) (h1 : ¬ sp < 0) (h2 : ¬ dp < 0) (h3 : ¬ z < 0) (h4 : sp.toNatClampNeg + z.toNatClampNeg ≤ n0) (h5 : dp.toNatClampNeg + z.toNatClampNeg ≤ n1) (hfr : 1 ≤ R.frames) (hlo : (st.map fun v => v.category).sum + (nativeFrameWords "java/lang/System" "arraycopy" 5 + 11) ≤ R.locals) (d : decode cc pc = .ok (.invokestatic index, 3)) (ht : tys[t0]? = some (cA, .int)) (ha0 : ws[q0]? = some (a0, .inl (cA, n0, .inl f))) (ha1 : ws[q1]? = some (a, .inl (cA, n1, .inl g))) (kk : sw p l e R s m args below meth c D A H0 nL k n Q (ws.set q1 (a, .inl (cA, n1, .inl (va_cpy f g sp.toNatClampNeg dp.toNatClampNeg z.toNatClampNeg)))) (pc + 3) L st) : sw p l e R s m args below meth c D A H0 nL k n Q ws pc L (.int z :: .int dp :: .ref a :: .int sp :: .ref a0 :: st) := fun H locs ls hP hD hS hl => va_copyi C.hx C.hb (by rw [C.hml]; exact hl.1.symm) C.hown hlink hnat hstat hini C.hK hP hD hS q0 q1 t0 t0 ha0 ha1 ht ht rfl h1 h2 h3 h4 h5 (fun _ _ => rfl) hfr hlo d (fun H locs hP hD hS => kk H locs ls hP hD hS hl)
theorem sw_copyN (pc q0 q1 t0 u1 u2 u3 : Nat) {index a0 a n0 n1 : Nat} {cA : ClassId} {f g : Nat → Int32} {sp dp z : Int32} (C : CC p s m args c cc nL own Ts D tys A H0) (d : decode cc pc = .ok (.invokestatic index, 3)) (hlink : (Cond.methodLink own index arraycopyName).before args s = true) (hnat : (Cond.native arraycopyName).before args s = true) (hstat : (Cond.static arraycopyName).before args s = true) (hini : (Cond.initialized "java/lang/System").before args s = true) (e1 : sp = nI u1) (e2 : dp = nI u2) (e3 : z = nI u3) (h4 : u1 + u3 ≤ n0) (h5 : u2 + u3 ≤ n1) (hn0 : Nat.ble n0 2147483647 = true) (hn1 : Nat.ble n1 2147483647 = true) (hfr : 1 ≤ R.frames) (hlo : (st.map fun v => v.category).sum + (nativeFrameWords "java/lang/System" "arraycopy" 5 + 11) ≤ R.locals) (ht : tys[t0]? = some (cA, .int)) (ha0 : ws[q0]? = some (a0, .inl (cA, n0, .inl f))) (ha1 : ws[q1]? = some (a, .inl (cA, n1, .inl g))) (kk : sw p l e R s m args below meth c D A H0 nL k n Q (ws.set q1 (a, .inl (cA, n1, .inl (va_cpy f g u1 u2 u3)))) (pc + 3) L st) : sw p l e R s m args below meth c D A H0 nL k n Q ws pc L (.int z :: .int dp :: .ref a :: .int sp :: .ref a0 :: st) := by
  have h0 : n0 < 2 ^ 31 := Nat.lt_of_le_of_lt (Nat.le_of_ble_eq_true hn0) (by decide)
  have h1 : n1 < 2 ^ 31 := Nat.lt_of_le_of_lt (Nat.le_of_ble_eq_true hn1) (by decide)
  subst e1 e2 e3
  have c1 : (nI u1).toNatClampNeg = u1 := nI_clamp (by omega)
  have c2 : (nI u2).toNatClampNeg = u2 := nI_clamp (by omega)
  have c3 : (nI u3).toNatClampNeg = u3 := nI_clamp (by omega)
  refine sw_copy pc q0 q1 t0 C hlink hnat hstat hini (nI_pos (by omega)) (nI_pos (by omega)) (nI_pos (by omega)) (by rw [c1, c3]; exact h4) (by rw [c2, c3]; exact h5) hfr hlo d ht ha0 ha1 ?_
  rw [c1, c2, c3]
  exact kk
/-- how a contract ends -/
def ctQ (D : va_G) (tys : List (ClassId × FieldType)) (A : Nat → Prop) (post : Option Value → va_W → Prop) : Array Value → State → Outcome → State → Prop := fun _ st oc t =>
  (∃ (v : Option Value) (w1 : va_W), oc = .returned v ∧ post v w1 ∧ va_P D vwCl w1 t.heap ∧ va_K D vwCl tys t ∧ va_D A w1) ∧ va_F A st t
/-- how a contract starts -/
def ctP (D : va_G) (tys : List (ClassId × FieldType)) (As : List Value) (wc : va_W) (sz : Nat) : Array Value → State → Prop := va_Pc As (fun U => U.heap.size = sz ∧ va_P D vwCl wc U.heap ∧ va_K D vwCl tys U ∧ va_D (fun _ => True) wc)
/-- a method's contract: over the cells wc, with the arguments As, it returns; 'post' of its answer and of the cells behind it -/
def Ct (l : Launch) (y : MethodName) (cw : Cond) (fr lo mc ms : Nat) (D : va_G) (tys : List (ClassId × FieldType)) (As : List Value) (wc : va_W) (post : Option Value → va_W → Prop) : Prop :=
  ∀ sz : Nat, Met l y (cw :: lw_all) ({ frames := fr, cells := mc, slots := ms, locals := lo } : Room) (ctP D tys As wc sz) (ctQ D tys (va_A wc sz) post) mc ms (va_A wc sz)
theorem ctP_blind {D : va_G} {tys : List (ClassId × FieldType)} {As : List Value} {wc : va_W} {sz : Nat} : FrameBlind (ctP D tys As wc sz) := fun a U g mk q => by
  obtain ⟨q0, q1, qP, qK, qD⟩ := q
  exact ⟨q0, q1, qP, va_K.moved (u := U) (U := U.calling g mk a) (Vm.Alike.refl U.vm) qK, qD⟩
/-- a body gives its contract -/
theorem Ct.of {l : Launch} {y : MethodName} {cc : ByteArray} {maxL : Nat} {ret : Option FieldType} {fr lo mc ms : Nat} {D : va_G} {tys : List (ClassId × FieldType)} {As : List Value} {wc : va_W} {post : Option Value → va_W → Prop} (own : String) (hy : plainName y.cls = true) (ho : y.cls = own) (hL : (lg_sl As).length ≤ maxL)
    (body : ∀ (p : Program) (e : Env) (s : State) (m : MethodId) (below : List Frame) (meth : Method) (c : Code) (A : Nat → Prop), CC p s m As.toArray c cc maxL own (Cond.code y cc maxL ret :: lw_all) D tys A s.heap → (meth.sig.returnType = ret ∧ meth.locks = false ∧ meth.name = y.name) →
      sw p l e ({ frames := fr, cells := mc, slots := ms, locals := lo } : Room) s m As.toArray below meth c D A s.heap maxL 0 0 (MQ below (ctQ D tys A post) As.toArray s mc ms A) wc 0 (lv_args 0 As) []) : Ct l y (Cond.code y cc maxL ret) fr lo mc ms D tys As wc post := by
  intro sz
  refine Met.ofW (cc := cc) (maxL := maxL) (ret := ret) hy rfl ?_
  intro p e s m args below meth c s₁ B hml hv
  obtain ⟨rfl, hsz, hP, hK, hD0⟩ := hv
  subst hsz
  have hD := hD0.self (sz := s.heap.size)
  have hA : ∀ q : Nat, s.heap.size ≤ q → va_A wc s.heap.size q := fun q h => Or.inr h
  have hl := lv_entry As (n := maxL) hL
  rw [lg_entry_eq]
  exact body p e s m below meth c (va_A wc s.heap.size) ⟨⟨B.exec, B.bytes, hml, ho ▸ findClass_of_methodNamed B.named, atoms_spec B.pre⟩, hK, hA⟩ ⟨B.returns, B.notSynchronized, (name_of_methodNamed B.named B.method).1⟩ s.heap [] _ hP hD va_S.rf hl

theorem sw_iret (pc : Nat) {v : Int32} {nm : String} {post : Option Value → va_W → Prop} (C : CC p s m args c cc nL own Ts D tys A s.heap) (RC : meth.sig.returnType = (some .int) ∧ meth.locks = false ∧ meth.name = nm) (d : decode cc pc = .ok (.ireturn, 1)) (hp : post (some (.int v)) ws) : sw p l e R s m args below meth c D A s.heap nL k n (MQ below (ctQ D tys A post) args s k n A) ws pc L [.int v] := fun H locs ls hP hD hS hl => have hlocks := RC.2.1; W.iret C.hx C.hb RC.1 (fun t ht hW => ⟨⟨_, _, rfl, hp, by rw [ht]; exact hP, va_K.moved hW.alike C.hK, hD⟩, hS.F ht⟩) hS.2.2 d
theorem sw_lret (pc : Nat) {v : Int64} {nm : String} {post : Option Value → va_W → Prop} (C : CC p s m args c cc nL own Ts D tys A s.heap) (RC : meth.sig.returnType = (some .long) ∧ meth.locks = false ∧ meth.name = nm) (d : decode cc pc = .ok (.lreturn, 1)) (hp : post (some (.long v)) ws) : sw p l e R s m args below meth c D A s.heap nL k n (MQ below (ctQ D tys A post) args s k n A) ws pc L [.long v] := fun H locs ls hP hD hS hl => have hlocks := RC.2.1; W.lret C.hx C.hb RC.1 (fun t ht hW => ⟨⟨_, _, rfl, hp, by rw [ht]; exact hP, va_K.moved hW.alike C.hK, hD⟩, hS.F ht⟩) hS.2.2 d
theorem sw_dret (pc : Nat) {v : UInt64} {nm : String} {post : Option Value → va_W → Prop} (C : CC p s m args c cc nL own Ts D tys A s.heap) (RC : meth.sig.returnType = (some .double) ∧ meth.locks = false ∧ meth.name = nm) (d : decode cc pc = .ok (.dreturn, 1)) (hp : post (some (.double v)) ws) : sw p l e R s m args below meth c D A s.heap nL k n (MQ below (ctQ D tys A post) args s k n A) ws pc L [.double v] := fun H locs ls hP hD hS hl => have hlocks := RC.2.1; W.dret C.hx C.hb RC.1 (fun t ht hW => ⟨⟨_, _, rfl, hp, by rw [ht]; exact hP, va_K.moved hW.alike C.hK, hD⟩, hS.F ht⟩) hS.2.2 d
theorem sw_zret (pc : Nat) {v : Int32} {nm : String} {post : Option Value → va_W → Prop} (C : CC p s m args c cc nL own Ts D tys A s.heap) (RC : meth.sig.returnType = (some .boolean) ∧ meth.locks = false ∧ meth.name = nm) (hz : narrow .boolean (.int v) = .int v) (d : decode cc pc = .ok (.ireturn, 1)) (hp : post (some (.int v)) ws) : sw p l e R s m args below meth c D A s.heap nL k n (MQ below (ctQ D tys A post) args s k n A) ws pc L [.int v] := fun H locs ls hP hD hS hl => have hlocks := RC.2.1; W.zret C.hx C.hb RC.1 hz (fun t ht hW => ⟨⟨_, _, rfl, hp, by rw [ht]; exact hP, va_K.moved hW.alike C.hK, hD⟩, hS.F ht⟩) hS.2.2 d
theorem sw_vret (pc : Nat) {nm : String} {post : Option Value → va_W → Prop} (C : CC p s m args c cc nL own Ts D tys A s.heap) (RC : meth.sig.returnType = none ∧ meth.locks = false ∧ meth.name = nm) (d : decode cc pc = .ok (.return_, 1)) (hp : post none ws) : sw p l e R s m args below meth c D A s.heap nL k n (MQ below (ctQ D tys A post) args s k n A) ws pc L [] := fun H locs ls hP hD hS hl => have hlocks := RC.2.1; W.vret C.hx C.hb RC.1 (fun t ht hW => ⟨⟨_, _, rfl, hp, by rw [ht]; exact hP, va_K.moved hW.alike C.hK, hD⟩, hS.F ht⟩) hS.2.2 d
theorem va_callg {pc : Nat} {ls : Array Slot} {rest st0 : List Value} {a : Array Value} {A0 A1 : Nat → Prop} {H : Heap} {locs : List Loc} {mc ms : Nat} {free : Addr → Prop} {post : Option Value → va_W → Prop} (hr : va_Run p l e R s m args below meth c H locs k n mc ms (F0 m pc ls st0) rest (ctQ D tys A1 post a) free) (hS : va_S A0 H0 H locs) (hA : ∀ q, q < H.size → A1 q → A0 q) (hf : ∀ q, free q → A0 q)
    (kk : ∀ (v : Option Value) (w1 : va_W) (H1 : Heap) (locs1 : List Loc), post v w1 → va_P D vwCl w1 H1 → va_D A1 w1 → H.size ≤ H1.size → (∀ q : Nat, q < H.size → ¬ A1 q → H1[q]? = H[q]?) → va_S A0 H0 H1 locs1 → W p l e R s m args below meth c H1 locs1 (k + mc) (n + ms) Q (F0 m (pc + 3) ls (v.toList ++ rest))) : W p l e R s m args below meth c H locs k n Q (F0 m pc ls st0) := by
  intro T hT X
  obtain ⟨v, st₀, t, T', L, h0, X', hL, e1, e2, ⟨⟨v', w1, hv, hp, hP1, -, hD1⟩, hz, hk⟩, st⟩ := hr T hT X
  cases hv
  rw [h0] at hz hk
  obtain ⟨t2, a1, b1⟩ := kk v w1 T'.heap (locs ++ L) hp (by rw [e1]; exact hP1) hD1 (by rw [e1]; exact hz) (fun q h1 h2 => by rw [e1]; exact hk q h1 h2)
    ⟨Nat.le_trans hS.1 (by rw [e1]; exact hz), fun q h1 h2 => by rw [e1, hk q (Nat.lt_of_lt_of_le h1 hS.1) (fun z => h2 (hA q (Nat.lt_of_lt_of_le h1 hS.1) z))]; exact hS.2.1 q h1 h2, fun q hq => by
      rcases List.mem_append.mp hq with h | h
      · exact hS.2.2 q h
      · exact hf _ (hL q h)⟩ T' rfl X'
  exact ⟨t2, st t2 a1, b1⟩
theorem goodAll {x : Cond} : GoodIn (x :: lw_all) lw_all := fun w h => ⟨List.mem_cons_of_mem _ h, good_of_word (List.mem_filter.mp h).2⟩
theorem goodC {x cw : Cond} (h : cw ∈ lw_all) : GoodIn (x :: lw_all) (cw :: lw_all) := fun w hw => by
  rcases List.mem_cons.mp hw with rfl | hw
  · exact goodAll _ h
  · exact goodAll w hw
theorem goodV {x cw : Cond} {own Cn : String} {idx : Nat} {y : MethodName} (h0 : cw ∈ lw_all) (h1 : Cond.methodLink own idx y ∈ lw_all) (h2 : Cond.instanceMethod y ∈ lw_all) (h3 : Cond.selects Cn y y ∈ lw_all) (h4 : Cond.initialized Cn ∈ lw_all) : GoodIn (x :: lw_all) (wsV own idx Cn y (cw :: lw_all)) := fun w hw => by
  unfold wsV at hw
  simp only [List.cons_append, List.nil_append, List.mem_cons] at hw
  rcases hw with rfl | rfl | rfl | rfl | rfl | hw
  · exact goodAll _ h1
  · exact goodAll _ h2
  · exact goodAll _ h3
  · exact goodAll _ h4
  · exact goodAll _ h0
  · exact goodAll _ hw
theorem goodS {x cw : Cond} {own : String} {idx : Nat} {y : MethodName} (h0 : cw ∈ lw_all) (h1 : Cond.methodLink own idx y ∈ lw_all) (h2 : Cond.static y ∈ lw_all) (h4 : Cond.initialized y.cls ∈ lw_all) : GoodIn (x :: lw_all) (va_wsS own idx y (cw :: lw_all)) := fun w hw => by
  unfold va_wsS at hw
  simp only [List.cons_append, List.nil_append, List.mem_cons] at hw
  rcases hw with rfl | rfl | rfl | rfl | hw
  · exact goodAll _ h1
  · exact goodAll _ h2
  · exact goodAll _ h4
  · exact goodAll _ h0
  · exact goodAll _ hw

theorem sw_callV (pc : Nat) (isC : List Nat) (na : Nat) {fr lo mc ms maxL index b ci : Nat} {y : MethodName} {bytes : ByteArray} {ret : Option FieldType} {wc : va_W} {post : Option Value → va_W → Prop} {x0 : Cond} {As : List Value} {Cn : String} {T : u_T} {N : Nat} {fs : List Value} (C : CC p s m args c cc nL own (x0 :: lw_all) D tys A H0) (hM : Ct l y (Cond.code y bytes maxL ret) fr lo mc ms D tys (.ref b :: As) wc post) (g0 : Cond.code y bytes maxL ret ∈ lw_all) (g1 : Cond.methodLink own index y ∈ lw_all) (g2 : Cond.instanceMethod y ∈ lw_all) (g3 : Cond.selects Cn y y ∈ lw_all) (g4 : Cond.initialized Cn ∈ lw_all)
    (hd : y.cls = Cn ∧ y.cls ≠ "java/lang/invoke/MethodHandle" ∧ y.cls ≠ "java/lang/invoke/VarHandle" ∧ (parseMethodDescriptor y.desc).map (fun d => d.parameters.length) = some na) (d : decode cc pc = .ok (.invokevirtual index, 3)) (hna : As.length = na) (hc : vwCl[ci]? = some (Cn, T, N)) (hR : Nat.ble (fr + 1) R.frames = true ∧ Nat.ble (8 + (maxL + 11) + lo) R.locals = true) (hf : k + mc ≤ R.cells ∧ n + ms ≤ R.slots) (hst : Nat.ble (st.map fun v => v.category).sum 8 = true) (hp : wpick ws isC = wc) (hn : wnd isC = true) (hw : wall ws.length isC = true) (hlw : ∀ v w1, post v w1 → isC.length ≤ w1.length) (hrv : wc[0]? = some (b, .inr (ci, fs)))
    (kk : ∀ (v : Option Value) (w1 : va_W), post v w1 → sw p l e R s m args below meth c D A H0 nL (k + mc) (n + ms) Q (wput ws isC w1) (pc + 3) L (v.toList ++ st)) : sw p l e R s m args below meth c D A H0 nL k n Q ws pc L (As.reverse ++ .ref b :: st) := by
  subst hp
  have hw' := wall_lt hw
  have hn := wnd_nd hn
  intro H locs ls hP hD hS hl
  have hPc := wpick_P isC hP
  have hDc := wpick_D isC hD hn hw'
  have hFc := va_free (wc := wpick ws isC) hD hS C.hA isC (wpick_map isC ws hw')
  have hK := C.hK
  refine va_callg (va_runV (As := As) (rest := st) (C := Cn) C.1 (hM H.size) (cwV na C.hts (goodV g0 g1 g2 g3 g4) rfl rfl rfl hd ⟨Nat.le_of_ble_eq_true hR.1, Nat.le_of_ble_eq_true hR.2⟩) ⟨ctP_blind, va_recv (q := (Cn, T, N)) hK hPc hc hrv, fun U hU hW => ⟨rfl, by rw [hU], by rw [hU]; exact hPc, va_K.moved hW.alike hK, hDc.weaken (fun _ _ _ _ => trivial)⟩⟩ rfl hna hl.1 rfl (lv_room (Nat.le_of_ble_eq_true hst)) d hf) hS (fun q _ h => hFc q h) hFc (fun v w1 H1 locs1 hpost hP1 hD1 hz1 hk1 hS1 => ?_)
  obtain ⟨hP2, hD2⟩ := wput_ok isC hP hD hn hw' (hlw v w1 hpost) hk1 hFc hP1 hD1
  exact kk v w1 hpost H1 locs1 ls hP2 hD2 hS1 hl
theorem sw_callS (pc : Nat) (isC : List Nat) (na : Nat) {fr lo mc ms maxL index : Nat} {y : MethodName} {bytes : ByteArray} {ret : Option FieldType} {wc : va_W} {post : Option Value → va_W → Prop} {x0 : Cond} {As : List Value} (C : CC p s m args c cc nL own (x0 :: lw_all) D tys A H0) (hM : Ct l y (Cond.code y bytes maxL ret) fr lo mc ms D tys As wc post) (g0 : Cond.code y bytes maxL ret ∈ lw_all) (g1 : Cond.methodLink own index y ∈ lw_all) (g2 : Cond.static y ∈ lw_all) (g4 : Cond.initialized y.cls ∈ lw_all)
    (hd : y.cls ≠ "java/lang/invoke/MethodHandle" ∧ y.cls ≠ "java/lang/invoke/VarHandle" ∧ (parseMethodDescriptor y.desc).map (fun d => d.parameters.length) = some na) (d : decode cc pc = .ok (.invokestatic index, 3)) (hna : As.length = na) (hR : Nat.ble (fr + 1) R.frames = true ∧ Nat.ble (8 + (maxL + 11) + lo) R.locals = true) (hf : k + mc ≤ R.cells ∧ n + ms ≤ R.slots) (hst : Nat.ble (st.map fun v => v.category).sum 8 = true) (hp : wpick ws isC = wc) (hn : wnd isC = true) (hw : wall ws.length isC = true) (hlw : ∀ v w1, post v w1 → isC.length ≤ w1.length)
    (kk : ∀ (v : Option Value) (w1 : va_W), post v w1 → sw p l e R s m args below meth c D A H0 nL (k + mc) (n + ms) Q (wput ws isC w1) (pc + 3) L (v.toList ++ st)) : sw p l e R s m args below meth c D A H0 nL k n Q ws pc L (As.reverse ++ st) := by
  subst hp
  have hw' := wall_lt hw
  have hn := wnd_nd hn
  intro H locs ls hP hD hS hl
  have hPc := wpick_P isC hP
  have hDc := wpick_D isC hD hn hw'
  have hFc := va_free (wc := wpick ws isC) hD hS C.hA isC (wpick_map isC ws hw')
  have hK := C.hK
  refine va_callg (va_runS (As := As) (rest := st) C.1 (hM H.size) (va_cwS na C.hts (goodS g0 g1 g2 g4) rfl rfl rfl hd ⟨Nat.le_of_ble_eq_true hR.1, Nat.le_of_ble_eq_true hR.2⟩) ⟨ctP_blind, fun U hU hW => ⟨rfl, by rw [hU], by rw [hU]; exact hPc, va_K.moved hW.alike hK, hDc.weaken (fun _ _ _ _ => trivial)⟩⟩ rfl hna hl.1 rfl (lv_room (Nat.le_of_ble_eq_true hst)) d hf) hS (fun q _ h => hFc q h) hFc (fun v w1 H1 locs1 hpost hP1 hD1 hz1 hk1 hS1 => ?_)
  obtain ⟨hP2, hD2⟩ := wput_ok isC hP hD hn hw' (hlw v w1 hpost) hk1 hFc hP1 hD1
  exact kk v w1 hpost H1 locs1 ls hP2 hD2 hS1 hl
theorem sw_callI (pc : Nat) (isC : List Nat) (na : Nat) {fr lo mc ms maxL index b : Nat} {y : MethodName} {bytes : ByteArray} {ret : Option FieldType} {wc : va_W} {post : Option Value → va_W → Prop} {x0 : Cond} {As : List Value} (C : CC p s m args c cc nL own (x0 :: lw_all) D tys A H0) (hM : Ct l y (Cond.code y bytes maxL none) fr lo mc ms D tys (.ref b :: As) wc post) (g0 : Cond.code y bytes maxL none ∈ lw_all) (g1 : Cond.methodLink own index y ∈ lw_all) (g2 : Cond.instanceMethod y ∈ lw_all) (g4 : Cond.initialized y.cls ∈ lw_all) (hy1 : y.name = "<init>")
    (hd : y.cls ≠ "java/lang/invoke/MethodHandle" ∧ y.cls ≠ "java/lang/invoke/VarHandle" ∧ (parseMethodDescriptor y.desc).map (fun d => d.parameters.length) = some na) (d : decode cc pc = .ok (.invokespecial index, 3)) (hna : As.length = na) (hR : Nat.ble (fr + 1) R.frames = true ∧ Nat.ble (8 + (maxL + 11) + lo) R.locals = true) (hf : k + mc ≤ R.cells ∧ n + ms ≤ R.slots) (hst : Nat.ble (st.map fun v => v.category).sum 8 = true) (hp : wpick ws isC = wc) (hn : wnd isC = true) (hw : wall ws.length isC = true) (hlw : ∀ v w1, post v w1 → isC.length ≤ w1.length)
    (kk : ∀ (v : Option Value) (w1 : va_W), post v w1 → sw p l e R s m args below meth c D A H0 nL (k + mc) (n + ms) Q (wput ws isC w1) (pc + 3) L (v.toList ++ st)) : sw p l e R s m args below meth c D A H0 nL k n Q ws pc L (As.reverse ++ .ref b :: st) := by
  subst hp
  have hw' := wall_lt hw
  have hn := wnd_nd hn
  intro H locs ls hP hD hS hl
  have hPc := wpick_P isC hP
  have hDc := wpick_D isC hD hn hw'
  have hFc := va_free (wc := wpick ws isC) hD hS C.hA isC (wpick_map isC ws hw')
  have hK := C.hK
  refine va_callg (va_runI (As := As) (rest := st) C.1 (hM H.size) (cwI na C.hts (goodC g0) rfl rfl rfl (C.hts _ (List.mem_cons_of_mem _ g4)) (C.hts _ (List.mem_cons_of_mem _ g1)) (C.hts _ (List.mem_cons_of_mem _ g2)) hy1 hd ⟨Nat.le_of_ble_eq_true hR.1, Nat.le_of_ble_eq_true hR.2⟩) ⟨ctP_blind, fun U hU hW => ⟨rfl, by rw [hU], by rw [hU]; exact hPc, va_K.moved hW.alike hK, hDc.weaken (fun _ _ _ _ => trivial)⟩⟩ rfl hna hl.1 rfl (lv_room (Nat.le_of_ble_eq_true hst)) d hf) hS (fun q _ h => hFc q h) hFc (fun v w1 H1 locs1 hpost hP1 hD1 hz1 hk1 hS1 => ?_)
  obtain ⟨hP2, hD2⟩ := wput_ok isC hP hD hn hw' (hlw v w1 hpost) hk1 hFc hP1 hD1
  exact kk v w1 hpost H1 locs1 ls hP2 hD2 hS1 hl
def pstI (r : Int32) (w0 : va_W) : Option Value → va_W → Prop := fun v w1 => v = some (.int r) ∧ w1 = w0
theorem sw_callVI (pc : Nat) (isC : List Nat) (na : Nat) {fr lo mc ms maxL index b ci : Nat} {y : MethodName} {bytes : ByteArray} {ret : Option FieldType} {wc : va_W} {x0 : Cond} {As : List Value} {w0 : va_W} {r : Int32} {Cn : String} {T : u_T} {N : Nat} {fs : List Value} (C : CC p s m args c cc nL own (x0 :: lw_all) D tys A H0) (d : decode cc pc = .ok (.invokevirtual index, 3)) (hM : Ct l y (Cond.code y bytes maxL ret) fr lo mc ms D tys (.ref b :: As) wc (pstI r w0)) (g0 : Cond.code y bytes maxL ret ∈ lw_all) (g1 : Cond.methodLink own index y ∈ lw_all) (g2 : Cond.instanceMethod y ∈ lw_all) (g3 : Cond.selects Cn y y ∈ lw_all) (g4 : Cond.initialized Cn ∈ lw_all)
    (hd : y.cls = Cn ∧ y.cls ≠ "java/lang/invoke/MethodHandle" ∧ y.cls ≠ "java/lang/invoke/VarHandle" ∧ (parseMethodDescriptor y.desc).map (fun d => d.parameters.length) = some na) (hna : As.length = na) (hrv : wc[0]? = some (b, .inr (ci, fs))) (hc : vwCl[ci]? = some (Cn, T, N)) (hR : Nat.ble (fr + 1) R.frames = true ∧ Nat.ble (8 + (maxL + 11) + lo) R.locals = true) (hf : k + mc ≤ R.cells ∧ n + ms ≤ R.slots) (hst : Nat.ble (st.map fun v => v.category).sum 8 = true) (hn : wnd isC = true) (hw : wall ws.length isC = true) (hlw : Nat.ble isC.length w0.length = true) (hp : wpick ws isC = wc)
    (kk : sw p l e R s m args below meth c D A H0 nL (k + mc) (n + ms) Q (wput ws isC w0) (pc + 3) L (.int r :: st)) : sw p l e R s m args below meth c D A H0 nL k n Q ws pc L (As.reverse ++ .ref b :: st) :=
  sw_callV pc isC na C hM g0 g1 g2 g3 g4 hd d hna hc hR hf hst hp hn hw (fun v w1 h => by rw [h.2]; exact Nat.le_of_ble_eq_true hlw) hrv (fun v w1 h => by rw [h.1, h.2]; exact kk)
theorem sw_callSI (pc : Nat) (isC : List Nat) (na : Nat) {fr lo mc ms maxL index : Nat} {y : MethodName} {bytes : ByteArray} {ret : Option FieldType} {wc : va_W} {x0 : Cond} {As : List Value} {w0 : va_W} {r : Int32} (C : CC p s m args c cc nL own (x0 :: lw_all) D tys A H0) (d : decode cc pc = .ok (.invokestatic index, 3)) (hM : Ct l y (Cond.code y bytes maxL ret) fr lo mc ms D tys As wc (pstI r w0)) (g0 : Cond.code y bytes maxL ret ∈ lw_all) (g1 : Cond.methodLink own index y ∈ lw_all) (g2 : Cond.static y ∈ lw_all) (g4 : Cond.initialized y.cls ∈ lw_all)
    (hd : y.cls ≠ "java/lang/invoke/MethodHandle" ∧ y.cls ≠ "java/lang/invoke/VarHandle" ∧ (parseMethodDescriptor y.desc).map (fun d => d.parameters.length) = some na) (hna : As.length = na) (hR : Nat.ble (fr + 1) R.frames = true ∧ Nat.ble (8 + (maxL + 11) + lo) R.locals = true) (hf : k + mc ≤ R.cells ∧ n + ms ≤ R.slots) (hst : Nat.ble (st.map fun v => v.category).sum 8 = true) (hn : wnd isC = true) (hw : wall ws.length isC = true) (hlw : Nat.ble isC.length w0.length = true) (hp : wpick ws isC = wc)
    (kk : sw p l e R s m args below meth c D A H0 nL (k + mc) (n + ms) Q (wput ws isC w0) (pc + 3) L (.int r :: st)) : sw p l e R s m args below meth c D A H0 nL k n Q ws pc L (As.reverse ++ st) :=
  sw_callS pc isC na C hM g0 g1 g2 g4 hd d hna hR hf hst hp hn hw (fun v w1 h => by rw [h.2]; exact Nat.le_of_ble_eq_true hlw) (fun v w1 h => by rw [h.1, h.2]; exact kk)
theorem sw_callVIP (pc : Nat) (isC : List Nat) (na : Nat) {fr lo mc ms maxL index b ci : Nat} {y : MethodName} {bytes : ByteArray} {ret : Option FieldType} {wc : va_W} {x0 : Cond} {As : List Value} {r : Int32} {Cn : String} {T : u_T} {N : Nat} {fs : List Value} (C : CC p s m args c cc nL own (x0 :: lw_all) D tys A H0) (d : decode cc pc = .ok (.invokevirtual index, 3)) (hM : Ct l y (Cond.code y bytes maxL ret) fr lo mc ms D tys (.ref b :: As) wc (pstI r wc)) (g0 : Cond.code y bytes maxL ret ∈ lw_all) (g1 : Cond.methodLink own index y ∈ lw_all) (g2 : Cond.instanceMethod y ∈ lw_all) (g3 : Cond.selects Cn y y ∈ lw_all) (g4 : Cond.initialized Cn ∈ lw_all)
    (hd : y.cls = Cn ∧ y.cls ≠ "java/lang/invoke/MethodHandle" ∧ y.cls ≠ "java/lang/invoke/VarHandle" ∧ (parseMethodDescriptor y.desc).map (fun d => d.parameters.length) = some na) (hna : As.length = na) (hrv : wc[0]? = some (b, .inr (ci, fs))) (hc : vwCl[ci]? = some (Cn, T, N)) (hR : Nat.ble (fr + 1) R.frames = true ∧ Nat.ble (8 + (maxL + 11) + lo) R.locals = true) (hf : k + mc ≤ R.cells ∧ n + ms ≤ R.slots) (hst : Nat.ble (st.map fun v => v.category).sum 8 = true) (hn : wnd isC = true) (hw : wall ws.length isC = true) (hp : wpick ws isC = wc)
    (kk : sw p l e R s m args below meth c D A H0 nL (k + mc) (n + ms) Q ws (pc + 3) L (.int r :: st)) : sw p l e R s m args below meth c D A H0 nL k n Q ws pc L (As.reverse ++ .ref b :: st) := by
  have hw' := wall_lt hw
  have hs : wput ws isC wc = ws := by rw [← hp]; exact wput_self isC ws hw'
  have hlen : isC.length ≤ wc.length := by
    have := congrArg List.length (wpick_map isC ws hw')
    rw [List.length_map, List.length_map, hp] at this
    omega
  exact sw_callV pc isC na C hM g0 g1 g2 g3 g4 hd d hna hc hR hf hst hp hn hw (fun v w1 h => by rw [h.2]; exact hlen) hrv (fun v w1 h => by rw [h.1, h.2, hs]; exact kk)
theorem sw_callSIP (pc : Nat) (isC : List Nat) (na : Nat) {fr lo mc ms maxL index : Nat} {y : MethodName} {bytes : ByteArray} {ret : Option FieldType} {wc : va_W} {x0 : Cond} {As : List Value} {r : Int32} (C : CC p s m args c cc nL own (x0 :: lw_all) D tys A H0) (d : decode cc pc = .ok (.invokestatic index, 3)) (hM : Ct l y (Cond.code y bytes maxL ret) fr lo mc ms D tys As wc (pstI r wc)) (g0 : Cond.code y bytes maxL ret ∈ lw_all) (g1 : Cond.methodLink own index y ∈ lw_all) (g2 : Cond.static y ∈ lw_all) (g4 : Cond.initialized y.cls ∈ lw_all)
    (hd : y.cls ≠ "java/lang/invoke/MethodHandle" ∧ y.cls ≠ "java/lang/invoke/VarHandle" ∧ (parseMethodDescriptor y.desc).map (fun d => d.parameters.length) = some na) (hna : As.length = na) (hR : Nat.ble (fr + 1) R.frames = true ∧ Nat.ble (8 + (maxL + 11) + lo) R.locals = true) (hf : k + mc ≤ R.cells ∧ n + ms ≤ R.slots) (hst : Nat.ble (st.map fun v => v.category).sum 8 = true) (hn : wnd isC = true) (hw : wall ws.length isC = true) (hp : wpick ws isC = wc)
    (kk : sw p l e R s m args below meth c D A H0 nL (k + mc) (n + ms) Q ws (pc + 3) L (.int r :: st)) : sw p l e R s m args below meth c D A H0 nL k n Q ws pc L (As.reverse ++ st) := by
  have hw' := wall_lt hw
  have hs : wput ws isC wc = ws := by rw [← hp]; exact wput_self isC ws hw'
  have hlen : isC.length ≤ wc.length := by
    have := congrArg List.length (wpick_map isC ws hw')
    rw [List.length_map, List.length_map, hp] at this
    omega
  exact sw_callS pc isC na C hM g0 g1 g2 g4 hd d hna hR hf hst hp hn hw (fun v w1 h => by rw [h.2]; exact hlen) (fun v w1 h => by rw [h.1, h.2, hs]; exact kk)
def pstV (w0 : va_W) : Option Value → va_W → Prop := fun v w1 => v = none ∧ w1 = w0
theorem sw_callVV (pc : Nat) (isC : List Nat) (na : Nat) {fr lo mc ms maxL index b ci : Nat} {y : MethodName} {bytes : ByteArray} {ret : Option FieldType} {wc : va_W} {x0 : Cond} {As : List Value} {w0 : va_W} {Cn : String} {T : u_T} {N : Nat} {fs : List Value} (C : CC p s m args c cc nL own (x0 :: lw_all) D tys A H0) (d : decode cc pc = .ok (.invokevirtual index, 3)) (hM : Ct l y (Cond.code y bytes maxL ret) fr lo mc ms D tys (.ref b :: As) wc (pstV w0)) (g0 : Cond.code y bytes maxL ret ∈ lw_all) (g1 : Cond.methodLink own index y ∈ lw_all) (g2 : Cond.instanceMethod y ∈ lw_all) (g3 : Cond.selects Cn y y ∈ lw_all) (g4 : Cond.initialized Cn ∈ lw_all)
    (hd : y.cls = Cn ∧ y.cls ≠ "java/lang/invoke/MethodHandle" ∧ y.cls ≠ "java/lang/invoke/VarHandle" ∧ (parseMethodDescriptor y.desc).map (fun d => d.parameters.length) = some na) (hna : As.length = na) (hrv : wc[0]? = some (b, .inr (ci, fs))) (hc : vwCl[ci]? = some (Cn, T, N)) (hR : Nat.ble (fr + 1) R.frames = true ∧ Nat.ble (8 + (maxL + 11) + lo) R.locals = true) (hf : k + mc ≤ R.cells ∧ n + ms ≤ R.slots) (hst : Nat.ble (st.map fun v => v.category).sum 8 = true) (hn : wnd isC = true) (hw : wall ws.length isC = true) (hlw : Nat.ble isC.length w0.length = true) (hp : wpick ws isC = wc)
    (kk : sw p l e R s m args below meth c D A H0 nL (k + mc) (n + ms) Q (wput ws isC w0) (pc + 3) L st) : sw p l e R s m args below meth c D A H0 nL k n Q ws pc L (As.reverse ++ .ref b :: st) :=
  sw_callV pc isC na C hM g0 g1 g2 g3 g4 hd d hna hc hR hf hst hp hn hw (fun v w1 h => by rw [h.2]; exact Nat.le_of_ble_eq_true hlw) hrv (fun v w1 h => by rw [h.1, h.2]; exact kk)
theorem sw_callSV (pc : Nat) (isC : List Nat) (na : Nat) {fr lo mc ms maxL index : Nat} {y : MethodName} {bytes : ByteArray} {ret : Option FieldType} {wc : va_W} {x0 : Cond} {As : List Value} {w0 : va_W} (C : CC p s m args c cc nL own (x0 :: lw_all) D tys A H0) (d : decode cc pc = .ok (.invokestatic index, 3)) (hM : Ct l y (Cond.code y bytes maxL ret) fr lo mc ms D tys As wc (pstV w0)) (g0 : Cond.code y bytes maxL ret ∈ lw_all) (g1 : Cond.methodLink own index y ∈ lw_all) (g2 : Cond.static y ∈ lw_all) (g4 : Cond.initialized y.cls ∈ lw_all)
    (hd : y.cls ≠ "java/lang/invoke/MethodHandle" ∧ y.cls ≠ "java/lang/invoke/VarHandle" ∧ (parseMethodDescriptor y.desc).map (fun d => d.parameters.length) = some na) (hna : As.length = na) (hR : Nat.ble (fr + 1) R.frames = true ∧ Nat.ble (8 + (maxL + 11) + lo) R.locals = true) (hf : k + mc ≤ R.cells ∧ n + ms ≤ R.slots) (hst : Nat.ble (st.map fun v => v.category).sum 8 = true) (hn : wnd isC = true) (hw : wall ws.length isC = true) (hlw : Nat.ble isC.length w0.length = true) (hp : wpick ws isC = wc)
    (kk : sw p l e R s m args below meth c D A H0 nL (k + mc) (n + ms) Q (wput ws isC w0) (pc + 3) L st) : sw p l e R s m args below meth c D A H0 nL k n Q ws pc L (As.reverse ++ st) :=
  sw_callS pc isC na C hM g0 g1 g2 g4 hd d hna hR hf hst hp hn hw (fun v w1 h => by rw [h.2]; exact Nat.le_of_ble_eq_true hlw) (fun v w1 h => by rw [h.1, h.2]; exact kk)
def pstL (r : Int64) (w0 : va_W) : Option Value → va_W → Prop := fun v w1 => v = some (.long r) ∧ w1 = w0
theorem sw_callVL (pc : Nat) (isC : List Nat) (na : Nat) {fr lo mc ms maxL index b ci : Nat} {y : MethodName} {bytes : ByteArray} {ret : Option FieldType} {wc : va_W} {x0 : Cond} {As : List Value} {w0 : va_W} {r : Int64} {Cn : String} {T : u_T} {N : Nat} {fs : List Value} (C : CC p s m args c cc nL own (x0 :: lw_all) D tys A H0) (d : decode cc pc = .ok (.invokevirtual index, 3)) (hM : Ct l y (Cond.code y bytes maxL ret) fr lo mc ms D tys (.ref b :: As) wc (pstL r w0)) (g0 : Cond.code y bytes maxL ret ∈ lw_all) (g1 : Cond.methodLink own index y ∈ lw_all) (g2 : Cond.instanceMethod y ∈ lw_all) (g3 : Cond.selects Cn y y ∈ lw_all) (g4 : Cond.initialized Cn ∈ lw_all)
    (hd : y.cls = Cn ∧ y.cls ≠ "java/lang/invoke/MethodHandle" ∧ y.cls ≠ "java/lang/invoke/VarHandle" ∧ (parseMethodDescriptor y.desc).map (fun d => d.parameters.length) = some na) (hna : As.length = na) (hrv : wc[0]? = some (b, .inr (ci, fs))) (hc : vwCl[ci]? = some (Cn, T, N)) (hR : Nat.ble (fr + 1) R.frames = true ∧ Nat.ble (8 + (maxL + 11) + lo) R.locals = true) (hf : k + mc ≤ R.cells ∧ n + ms ≤ R.slots) (hst : Nat.ble (st.map fun v => v.category).sum 8 = true) (hn : wnd isC = true) (hw : wall ws.length isC = true) (hlw : Nat.ble isC.length w0.length = true) (hp : wpick ws isC = wc)
    (kk : sw p l e R s m args below meth c D A H0 nL (k + mc) (n + ms) Q (wput ws isC w0) (pc + 3) L (.long r :: st)) : sw p l e R s m args below meth c D A H0 nL k n Q ws pc L (As.reverse ++ .ref b :: st) :=
  sw_callV pc isC na C hM g0 g1 g2 g3 g4 hd d hna hc hR hf hst hp hn hw (fun v w1 h => by rw [h.2]; exact Nat.le_of_ble_eq_true hlw) hrv (fun v w1 h => by rw [h.1, h.2]; exact kk)
theorem sw_callSL (pc : Nat) (isC : List Nat) (na : Nat) {fr lo mc ms maxL index : Nat} {y : MethodName} {bytes : ByteArray} {ret : Option FieldType} {wc : va_W} {x0 : Cond} {As : List Value} {w0 : va_W} {r : Int64} (C : CC p s m args c cc nL own (x0 :: lw_all) D tys A H0) (d : decode cc pc = .ok (.invokestatic index, 3)) (hM : Ct l y (Cond.code y bytes maxL ret) fr lo mc ms D tys As wc (pstL r w0)) (g0 : Cond.code y bytes maxL ret ∈ lw_all) (g1 : Cond.methodLink own index y ∈ lw_all) (g2 : Cond.static y ∈ lw_all) (g4 : Cond.initialized y.cls ∈ lw_all)
    (hd : y.cls ≠ "java/lang/invoke/MethodHandle" ∧ y.cls ≠ "java/lang/invoke/VarHandle" ∧ (parseMethodDescriptor y.desc).map (fun d => d.parameters.length) = some na) (hna : As.length = na) (hR : Nat.ble (fr + 1) R.frames = true ∧ Nat.ble (8 + (maxL + 11) + lo) R.locals = true) (hf : k + mc ≤ R.cells ∧ n + ms ≤ R.slots) (hst : Nat.ble (st.map fun v => v.category).sum 8 = true) (hn : wnd isC = true) (hw : wall ws.length isC = true) (hlw : Nat.ble isC.length w0.length = true) (hp : wpick ws isC = wc)
    (kk : sw p l e R s m args below meth c D A H0 nL (k + mc) (n + ms) Q (wput ws isC w0) (pc + 3) L (.long r :: st)) : sw p l e R s m args below meth c D A H0 nL k n Q ws pc L (As.reverse ++ st) :=
  sw_callS pc isC na C hM g0 g1 g2 g4 hd d hna hR hf hst hp hn hw (fun v w1 h => by rw [h.2]; exact Nat.le_of_ble_eq_true hlw) (fun v w1 h => by rw [h.1, h.2]; exact kk)
theorem sw_callVLP (pc : Nat) (isC : List Nat) (na : Nat) {fr lo mc ms maxL index b ci : Nat} {y : MethodName} {bytes : ByteArray} {ret : Option FieldType} {wc : va_W} {x0 : Cond} {As : List Value} {r : Int64} {Cn : String} {T : u_T} {N : Nat} {fs : List Value} (C : CC p s m args c cc nL own (x0 :: lw_all) D tys A H0) (d : decode cc pc = .ok (.invokevirtual index, 3)) (hM : Ct l y (Cond.code y bytes maxL ret) fr lo mc ms D tys (.ref b :: As) wc (pstL r wc)) (g0 : Cond.code y bytes maxL ret ∈ lw_all) (g1 : Cond.methodLink own index y ∈ lw_all) (g2 : Cond.instanceMethod y ∈ lw_all) (g3 : Cond.selects Cn y y ∈ lw_all) (g4 : Cond.initialized Cn ∈ lw_all)
    (hd : y.cls = Cn ∧ y.cls ≠ "java/lang/invoke/MethodHandle" ∧ y.cls ≠ "java/lang/invoke/VarHandle" ∧ (parseMethodDescriptor y.desc).map (fun d => d.parameters.length) = some na) (hna : As.length = na) (hrv : wc[0]? = some (b, .inr (ci, fs))) (hc : vwCl[ci]? = some (Cn, T, N)) (hR : Nat.ble (fr + 1) R.frames = true ∧ Nat.ble (8 + (maxL + 11) + lo) R.locals = true) (hf : k + mc ≤ R.cells ∧ n + ms ≤ R.slots) (hst : Nat.ble (st.map fun v => v.category).sum 8 = true) (hn : wnd isC = true) (hw : wall ws.length isC = true) (hp : wpick ws isC = wc)
    (kk : sw p l e R s m args below meth c D A H0 nL (k + mc) (n + ms) Q ws (pc + 3) L (.long r :: st)) : sw p l e R s m args below meth c D A H0 nL k n Q ws pc L (As.reverse ++ .ref b :: st) := by
  have hw' := wall_lt hw
  have hs : wput ws isC wc = ws := by rw [← hp]; exact wput_self isC ws hw'
  have hlen : isC.length ≤ wc.length := by
    have := congrArg List.length (wpick_map isC ws hw')
    rw [List.length_map, List.length_map, hp] at this
    omega
  exact sw_callV pc isC na C hM g0 g1 g2 g3 g4 hd d hna hc hR hf hst hp hn hw (fun v w1 h => by rw [h.2]; exact hlen) hrv (fun v w1 h => by rw [h.1, h.2, hs]; exact kk)
theorem sw_callSLP (pc : Nat) (isC : List Nat) (na : Nat) {fr lo mc ms maxL index : Nat} {y : MethodName} {bytes : ByteArray} {ret : Option FieldType} {wc : va_W} {x0 : Cond} {As : List Value} {r : Int64} (C : CC p s m args c cc nL own (x0 :: lw_all) D tys A H0) (d : decode cc pc = .ok (.invokestatic index, 3)) (hM : Ct l y (Cond.code y bytes maxL ret) fr lo mc ms D tys As wc (pstL r wc)) (g0 : Cond.code y bytes maxL ret ∈ lw_all) (g1 : Cond.methodLink own index y ∈ lw_all) (g2 : Cond.static y ∈ lw_all) (g4 : Cond.initialized y.cls ∈ lw_all)
    (hd : y.cls ≠ "java/lang/invoke/MethodHandle" ∧ y.cls ≠ "java/lang/invoke/VarHandle" ∧ (parseMethodDescriptor y.desc).map (fun d => d.parameters.length) = some na) (hna : As.length = na) (hR : Nat.ble (fr + 1) R.frames = true ∧ Nat.ble (8 + (maxL + 11) + lo) R.locals = true) (hf : k + mc ≤ R.cells ∧ n + ms ≤ R.slots) (hst : Nat.ble (st.map fun v => v.category).sum 8 = true) (hn : wnd isC = true) (hw : wall ws.length isC = true) (hp : wpick ws isC = wc)
    (kk : sw p l e R s m args below meth c D A H0 nL (k + mc) (n + ms) Q ws (pc + 3) L (.long r :: st)) : sw p l e R s m args below meth c D A H0 nL k n Q ws pc L (As.reverse ++ st) := by
  have hw' := wall_lt hw
  have hs : wput ws isC wc = ws := by rw [← hp]; exact wput_self isC ws hw'
  have hlen : isC.length ≤ wc.length := by
    have := congrArg List.length (wpick_map isC ws hw')
    rw [List.length_map, List.length_map, hp] at this
    omega
  exact sw_callS pc isC na C hM g0 g1 g2 g4 hd d hna hR hf hst hp hn hw (fun v w1 h => by rw [h.2]; exact hlen) (fun v w1 h => by rw [h.1, h.2, hs]; exact kk)
abbrev tyz (cI cJ cQ : ClassId) : List (ClassId × FieldType) := [(cI, .int), (cJ, .long), (cQ, .object "PetitionBox$State")]
theorem lkp_dummy : True := trivial
end SWL
end
section
/-! numbers, counts -/
def ct (p : Nat → Bool) : Nat → Nat
  | 0 => 0
  | n + 1 => ct p n + (if p n then 1 else 0)
theorem ct_le (p : Nat → Bool) : ∀ n, ct p n ≤ n
  | 0 => Nat.le_refl _
  | n + 1 => by
    have h := ct_le p n
    unfold ct
    split <;> omega
theorem ct_t {p : Nat → Bool} {i : Nat} (h : p i = true) : nI (ct p i) + 1 = nI (ct p (i + 1)) := by
  rw [nI_1, ct, if_pos h]
theorem ct_f {p : Nat → Bool} {i : Nat} (h : p i = false) : nI (ct p i) = nI (ct p (i + 1)) := by
  rw [ct, h]
  rfl
theorem ct_cong {p q : Nat → Bool} : ∀ {n : Nat}, (∀ k, k < n → p k = q k) → ct p n = ct q n
  | 0, _ => rfl
  | n + 1, h => by
    rw [ct, ct, ct_cong (fun k hk => h k (by omega)), h n (by omega)]
theorem nI_inj {a b : Nat} (ha : a < 2 ^ 31) (hb : b < 2 ^ 31) (h : nI a = nI b) : a = b := (nI_eq ha hb).mp h
theorem nI_ge' {a b : Nat} (ha : a < 2 ^ 31) (h : nI b ≤ nI a) (hb : b < 2 ^ 31) : b ≤ a := (nI_leI hb ha).mp h
theorem i32_ne_m1 {a : Nat} (h : a < 2 ^ 31) : ¬ nI a = -1 := fun e => by
  have h1 := nI_toInt h
  rw [e] at h1
  have h2 : (-1 : Int32).toInt = -1 := by decide
  omega
theorem i32_ne {x y : Int32} (h : ¬ x = y) : x.toInt ≠ y.toInt := fun e => h (Int32.toInt_inj.mp e)
theorem lkp_out {d k : Int} : ∀ {ps : List (Int × Int)}, (∀ q ∈ ps, q.1 ≠ k) → Op.lookupswitch.offset ps d k = d
  | [], _ => rfl
  | (a, o) :: r, h => by
    rw [Op.lookupswitch.offset_cons, if_neg (h (a, o) List.mem_cons_self)]
    exact lkp_out (fun q hq => h q (List.mem_cons_of_mem _ hq))
/-! Petitions: count n, cells f (8 a row) -/
abbrev wPet (a0 a1 : Nat) (cI : ClassId) (n : Nat) (f : Nat → Int32) : va_W := [(a0, .inr (2, [.int (nI n), .ref a1])), (a1, .inl (cI, 320, .inl f))]

theorem hd_X2_at : yX2_at.cls = RX2 ∧ yX2_at.cls ≠ "java/lang/invoke/MethodHandle" ∧ yX2_at.cls ≠ "java/lang/invoke/VarHandle" ∧ (parseMethodDescriptor yX2_at.desc).map (fun d => d.parameters.length) = some 2 := by decide +kernel
theorem hd_X2_set : yX2_set.cls = RX2 ∧ yX2_set.cls ≠ "java/lang/invoke/MethodHandle" ∧ yX2_set.cls ≠ "java/lang/invoke/VarHandle" ∧ (parseMethodDescriptor yX2_set.desc).map (fun d => d.parameters.length) = some 3 := by decide +kernel
theorem hd_X2_addRow : yX2_addRow.cls = RX2 ∧ yX2_addRow.cls ≠ "java/lang/invoke/MethodHandle" ∧ yX2_addRow.cls ≠ "java/lang/invoke/VarHandle" ∧ (parseMethodDescriptor yX2_addRow.desc).map (fun d => d.parameters.length) = some 0 := by decide +kernel
theorem hd_X2_removeRow : yX2_removeRow.cls = RX2 ∧ yX2_removeRow.cls ≠ "java/lang/invoke/MethodHandle" ∧ yX2_removeRow.cls ≠ "java/lang/invoke/VarHandle" ∧ (parseMethodDescriptor yX2_removeRow.desc).map (fun d => d.parameters.length) = some 1 := by decide +kernel
theorem hd_X2_rowOf : yX2_rowOf.cls = RX2 ∧ yX2_rowOf.cls ≠ "java/lang/invoke/MethodHandle" ∧ yX2_rowOf.cls ≠ "java/lang/invoke/VarHandle" ∧ (parseMethodDescriptor yX2_rowOf.desc).map (fun d => d.parameters.length) = some 1 := by decide +kernel
theorem hd_X2_kindOf : yX2_kindOf.cls = RX2 ∧ yX2_kindOf.cls ≠ "java/lang/invoke/MethodHandle" ∧ yX2_kindOf.cls ≠ "java/lang/invoke/VarHandle" ∧ (parseMethodDescriptor yX2_kindOf.desc).map (fun d => d.parameters.length) = some 1 := by decide +kernel
theorem hd_X2_isBefore : yX2_isBefore.cls = RX2 ∧ yX2_isBefore.cls ≠ "java/lang/invoke/MethodHandle" ∧ yX2_isBefore.cls ≠ "java/lang/invoke/VarHandle" ∧ (parseMethodDescriptor yX2_isBefore.desc).map (fun d => d.parameters.length) = some 2 := by decide +kernel
theorem hd_X2_countBefore : yX2_countBefore.cls = RX2 ∧ yX2_countBefore.cls ≠ "java/lang/invoke/MethodHandle" ∧ yX2_countBefore.cls ≠ "java/lang/invoke/VarHandle" ∧ (parseMethodDescriptor yX2_countBefore.desc).map (fun d => d.parameters.length) = some 1 := by decide +kernel
theorem hd_X2_firstRow : yX2_firstRow.cls = RX2 ∧ yX2_firstRow.cls ≠ "java/lang/invoke/MethodHandle" ∧ yX2_firstRow.cls ≠ "java/lang/invoke/VarHandle" ∧ (parseMethodDescriptor yX2_firstRow.desc).map (fun d => d.parameters.length) = some 0 := by decide +kernel
theorem hd_X2_tell : yX2_tell.cls = RX2 ∧ yX2_tell.cls ≠ "java/lang/invoke/MethodHandle" ∧ yX2_tell.cls ≠ "java/lang/invoke/VarHandle" ∧ (parseMethodDescriptor yX2_tell.desc).map (fun d => d.parameters.length) = some 2 := by decide +kernel
theorem hd_X2_arrange : yX2_arrange.cls = RX2 ∧ yX2_arrange.cls ≠ "java/lang/invoke/MethodHandle" ∧ yX2_arrange.cls ≠ "java/lang/invoke/VarHandle" ∧ (parseMethodDescriptor yX2_arrange.desc).map (fun d => d.parameters.length) = some 1 := by decide +kernel
theorem hd_X2_countOfSender : yX2_countOfSender.cls = RX2 ∧ yX2_countOfSender.cls ≠ "java/lang/invoke/MethodHandle" ∧ yX2_countOfSender.cls ≠ "java/lang/invoke/VarHandle" ∧ (parseMethodDescriptor yX2_countOfSender.desc).map (fun d => d.parameters.length) = some 1 := by decide +kernel
theorem hd_X2_countOfRank : yX2_countOfRank.cls = RX2 ∧ yX2_countOfRank.cls ≠ "java/lang/invoke/MethodHandle" ∧ yX2_countOfRank.cls ≠ "java/lang/invoke/VarHandle" ∧ (parseMethodDescriptor yX2_countOfRank.desc).map (fun d => d.parameters.length) = some 1 := by decide +kernel
theorem hd_X2_loudestRank : yX2_loudestRank.cls = RX2 ∧ yX2_loudestRank.cls ≠ "java/lang/invoke/MethodHandle" ∧ yX2_loudestRank.cls ≠ "java/lang/invoke/VarHandle" ∧ (parseMethodDescriptor yX2_loudestRank.desc).map (fun d => d.parameters.length) = some 0 := by decide +kernel
theorem hd_X2_sumOfBribes : yX2_sumOfBribes.cls = RX2 ∧ yX2_sumOfBribes.cls ≠ "java/lang/invoke/MethodHandle" ∧ yX2_sumOfBribes.cls ≠ "java/lang/invoke/VarHandle" ∧ (parseMethodDescriptor yX2_sumOfBribes.desc).map (fun d => d.parameters.length) = some 0 := by decide +kernel
theorem hd_X2_copyFrom : yX2_copyFrom.cls = RX2 ∧ yX2_copyFrom.cls ≠ "java/lang/invoke/MethodHandle" ∧ yX2_copyFrom.cls ≠ "java/lang/invoke/VarHandle" ∧ (parseMethodDescriptor yX2_copyFrom.desc).map (fun d => d.parameters.length) = some 1 := by decide +kernel
set_option maxHeartbeats 4000000 in
set_option maxRecDepth 100000 in
theorem ct_X2_at (l : Launch) {D : va_G} {cI cJ cQ : ClassId} {a0 a1 n : Nat} {f : Nat → Int32} {x1 x2 : Int32} (i k : Nat) (h1 : x1 = nI i) (h2 : x2 = nI k) (hi : i < n) (hk : k < 8) (hn : n ≤ 40) : Ct l yX2_at (Cond.code yX2_at cX2_at 3 (some .int)) 0 0 0 0 D (tyz cI cJ cQ) [.ref a0, .int x1, .int x2] (wPet a0 a1 cI n f) (pstI (f (i * 8 + k)) (wPet a0 a1 cI n f)) := by
  refine Ct.of RX2 (by decide) rfl (Nat.le_of_ble_eq_true rfl) ?_
  intro p e s m below meth c A C RC
  subst h1 h2
  refine sw_iload_n 0 1 C dX2_at_0 rfl rfl ?_
  refine sw_if_lt 1 22 C dX2_at_1 (by decide) (fun c_1 => ?_) (fun c_1 => ?_)
  · exact by first | exact absurd c_1 (nI_pos (by omega)) | exact absurd (nI_pos (by omega)) c_1
  refine sw_iload_n 4 1 C dX2_at_4 rfl rfl ?_
  refine sw_aload_n 5 0 C dX2_at_5 rfl rfl ?_
  refine sw_get 6 0 0 C dX2_at_6 rfl rfl (inA lwX2) (C.w wF_X2_15) rfl rfl rfl ?_
  refine sw_icmp_ge 9 22 C dX2_at_9 (by decide) (fun c_9 => ?_) (fun c_9 => ?_)
  · exact by first | exact absurd c_9 (nI_ge hi (by omega)) | exact absurd (nI_ge hi (by omega)) c_9
  refine sw_iload_n 12 2 C dX2_at_12 rfl rfl ?_
  refine sw_if_lt 13 22 C dX2_at_13 (by decide) (fun c_13 => ?_) (fun c_13 => ?_)
  · exact by first | exact absurd c_13 (nI_pos (by omega)) | exact absurd (nI_pos (by omega)) c_13
  refine sw_iload_n 16 2 C dX2_at_16 rfl rfl ?_
  refine sw_bipush 17 C dX2_at_17 8 (by decide) ?_
  refine sw_icmp_lt 19 24 C dX2_at_19 (by decide) (fun c_19 => ?_) (fun c_19 => ?_)
  rotate_left
  · exact by first | exact absurd c_19 (nI_lt hk (by decide)) | exact absurd (nI_lt hk (by decide)) c_19
  refine sw_aload_n 24 0 C dX2_at_24 rfl rfl ?_
  refine sw_get 25 0 1 C dX2_at_25 rfl rfl (inA lwX2) (C.w wF_X2_9) rfl rfl rfl ?_
  refine sw_iload_n 28 1 C dX2_at_28 rfl rfl ?_
  refine sw_bipush 29 C dX2_at_29 8 (by decide) ?_
  refine sw_imul 31 C dX2_at_31 ?_
  refine sw_iload_n 32 2 C dX2_at_32 rfl rfl ?_
  refine sw_iadd 33 C dX2_at_33 ?_
  refine sw_ialdN 34 1 0 (i * 8 + k) C dX2_at_34 (by rw [show (8 : Int32) = nI 8 from rfl, pk_mul, nI_add]) (by omega) rfl rfl rfl ?_
  refine sw_iret 35 C RC dX2_at_35 ?_
  exact ⟨rfl, rfl⟩
set_option maxHeartbeats 4000000 in
set_option maxRecDepth 100000 in
theorem ct_X2_set (l : Launch) {D : va_G} {cI cJ cQ : ClassId} {a0 a1 n : Nat} {f : Nat → Int32} {x1 x2 x3 : Int32} (i k : Nat) (h1 : x1 = nI i) (h2 : x2 = nI k) (hi : i < n) (hk : k < 8) (hn : n ≤ 40) : Ct l yX2_set (Cond.code yX2_set cX2_set 4 none) 0 0 0 0 D (tyz cI cJ cQ) [.ref a0, .int x1, .int x2, .int x3] (wPet a0 a1 cI n f) (pstV (wPet a0 a1 cI n (upd f (i * 8 + k) x3))) := by
  refine Ct.of RX2 (by decide) rfl (Nat.le_of_ble_eq_true rfl) ?_
  intro p e s m below meth c A C RC
  subst h1 h2
  refine sw_iload_n 0 1 C dX2_set_0 rfl rfl ?_
  refine sw_if_lt 1 34 C dX2_set_1 (by decide) (fun c_1 => ?_) (fun c_1 => ?_)
  · exact by first | exact absurd c_1 (nI_pos (by omega)) | exact absurd (nI_pos (by omega)) c_1
  refine sw_iload_n 4 1 C dX2_set_4 rfl rfl ?_
  refine sw_aload_n 5 0 C dX2_set_5 rfl rfl ?_
  refine sw_get 6 0 0 C dX2_set_6 rfl rfl (inA lwX2) (C.w wF_X2_15) rfl rfl rfl ?_
  refine sw_icmp_ge 9 34 C dX2_set_9 (by decide) (fun c_9 => ?_) (fun c_9 => ?_)
  · exact by first | exact absurd c_9 (nI_ge hi (by omega)) | exact absurd (nI_ge hi (by omega)) c_9
  refine sw_iload_n 12 2 C dX2_set_12 rfl rfl ?_
  refine sw_if_lt 13 34 C dX2_set_13 (by decide) (fun c_13 => ?_) (fun c_13 => ?_)
  · exact by first | exact absurd c_13 (nI_pos (by omega)) | exact absurd (nI_pos (by omega)) c_13
  refine sw_iload_n 16 2 C dX2_set_16 rfl rfl ?_
  refine sw_bipush 17 C dX2_set_17 8 (by decide) ?_
  refine sw_icmp_ge 19 34 C dX2_set_19 (by decide) (fun c_19 => ?_) (fun c_19 => ?_)
  · exact by first | exact absurd c_19 (nI_ge hk (by decide)) | exact absurd (nI_ge hk (by decide)) c_19
  refine sw_aload_n 22 0 C dX2_set_22 rfl rfl ?_
  refine sw_get 23 0 1 C dX2_set_23 rfl rfl (inA lwX2) (C.w wF_X2_9) rfl rfl rfl ?_
  refine sw_iload_n 26 1 C dX2_set_26 rfl rfl ?_
  refine sw_bipush 27 C dX2_set_27 8 (by decide) ?_
  refine sw_imul 29 C dX2_set_29 ?_
  refine sw_iload_n 30 2 C dX2_set_30 rfl rfl ?_
  refine sw_iadd 31 C dX2_set_31 ?_
  refine sw_iload_n 32 3 C dX2_set_32 rfl rfl ?_
  refine sw_iastN 33 1 0 (i * 8 + k) C dX2_set_33 (by rw [show (8 : Int32) = nI 8 from rfl, pk_mul, nI_add]) (by omega) rfl rfl rfl ?_
  refine sw_ws [(_, .inr (2, [.int _, .ref _])), (_, .inl (_, _, .inl _))] rfl ?_
  refine sw_vret 34 C RC dX2_set_34 ?_
  exact ⟨rfl, rfl⟩
/-! what the Petitions' methods say -/
def bI (b : Bool) : Int32 := if b = true then 1 else 0
theorem bI_f {b : Bool} (h : bI b = 0) : b = false := by
  cases b
  · rfl
  · exact absurd h (by decide)
theorem bI_t {b : Bool} (h : ¬ bI b = 0) : b = true := by
  cases b
  · exact absurd rfl h
  · rfl
theorem bI_nar (b : Bool) : narrow .boolean (.int (bI b)) = .int (bI b) := by cases b <;> rfl
def oI : Option Nat → Int32
  | none => -1
  | some j => nI j
def bfr (f : Nat → Int32) (i j : Nat) : Bool :=
  if f (i * 8 + 2) = f (j * 8 + 2) then (if f (i * 8 + 3) = f (j * 8 + 3) then decide (f (i * 8 + 7) < f (j * 8 + 7)) else decide (f (j * 8 + 3) < f (i * 8 + 3))) else decide (f (j * 8 + 2) < f (i * 8 + 2))
theorem bfr_self (f : Nat → Int32) (i : Nat) : bfr f i i = false := by
  unfold bfr
  rw [if_pos rfl, if_pos rfl]
  exact decide_eq_false (fun h => Int32.lt_irrefl h)
def cbf (f : Nat → Int32) (n i : Nat) : Nat := ct (fun o => bfr f o i) n
theorem ct_lt {p : Nat → Bool} {i : Nat} (h : p i = false) : ∀ {n : Nat}, i < n → ct p n < n
  | 0, hn => absurd hn (Nat.not_lt_zero _)
  | n + 1, hn => by
    unfold ct
    by_cases e : i = n
    · subst e
      rw [h]
      have := ct_le p i
      simp
      omega
    · have := ct_lt h (n := n) (by omega)
      split <;> omega
theorem cbf_lt {f : Nat → Int32} {n i : Nat} (h : i < n) : cbf f n i < n := ct_lt (p := fun o => bfr f o i) (bfr_self f i) h
def frs (f : Nat → Int32) : Nat → Option Nat
  | 0 => none
  | i + 1 => match frs f i with
    | none => some i
    | some j => if bfr f i j = true then some i else some j
theorem frs_lt (f : Nat → Int32) : ∀ (i j : Nat), frs f i = some j → j < i
  | 0, j, h => by cases h
  | i + 1, j, h => by
    unfold frs at h
    cases hq : frs f i with
    | none => rw [hq] at h; cases h; omega
    | some k =>
      rw [hq] at h
      have := frs_lt f i k hq
      dsimp only at h
      split at h <;> cases h <;> omega
def knd (f : Nat → Int32) (i : Nat) : Int32 := if f (i * 8 + 1) = -1 then (if 0 < f (i * 8 + 6) then 1 else 0) else 2
def tel (f : Nat → Int32) (n i w : Nat) : Int32 := if w = 7 then f (i * 8 + 5) - f (i * 8 + 3) else if w = 8 then nI (cbf f n i) else if w = 9 then knd f i else f (i * 8 + w)
def arrg (f : Nat → Int32) (n : Nat) (g : Nat → Int32) : Nat → Nat → Int32
  | 0 => g
  | i + 1 => upd (arrg f n g i) (cbf f n i) (nI i)
def isOf (f : Nat → Int32) (x : Int32) (i : Nat) : Bool := decide (f (i * 8 + 0) = x ∨ f (i * 8 + 1) = x)
def isRk (f : Nat → Int32) (x : Int32) (i : Nat) : Bool := decide (f (i * 8 + 2) = x)
def ldr (f : Nat → Int32) : Nat → Int32
  | 0 => -1
  | i + 1 => if ldr f i < f (i * 8 + 2) then f (i * 8 + 2) else ldr f i
def smb (f : Nat → Int32) : Nat → Int32
  | 0 => 0
  | i + 1 => smb f i + f (i * 8 + 6)
def fnd (f : Nat → Int32) (x : Int32) : Nat → Option Nat
  | 0 => none
  | i + 1 => match fnd f x i with
    | some j => some j
    | none => if f (i * 8 + 7) = x then some i else none
theorem fnd_up {f : Nat → Int32} {x : Int32} {i j : Nat} (h : fnd f x i = some j) : ∀ d, fnd f x (i + d) = some j
  | 0 => h
  | d + 1 => by
    show fnd f x (i + d + 1) = _
    unfold fnd
    rw [fnd_up h d]
theorem fnd_lt {f : Nat → Int32} {x : Int32} : ∀ (i j : Nat), fnd f x i = some j → j < i
  | 0, j, h => by cases h
  | i + 1, j, h => by
    unfold fnd at h
    cases hq : fnd f x i with
    | none =>
      rw [hq] at h
      dsimp only at h
      split at h
      · cases h; omega
      · cases h
    | some k =>
      rw [hq] at h
      cases h
      have := fnd_lt i _ hq
      omega
def zrr (f : Nat → Int32) (n c : Nat) : Nat → Int32 := fun k => if n * 8 ≤ k ∧ k < n * 8 + c then 0 else f k
theorem zrr_0 (f : Nat → Int32) (n : Nat) : zrr f n 0 = f := by
  funext k
  unfold zrr
  rw [if_neg (by omega)]
theorem zrr_s (f : Nat → Int32) (n c : Nat) : upd (zrr f n c) (n * 8 + c) 0 = zrr f n (c + 1) := by
  funext k
  unfold upd zrr
  by_cases h : k = n * 8 + c
  · rw [if_pos h, if_pos (by omega)]
  · rw [if_neg h]
    by_cases h2 : n * 8 ≤ k ∧ k < n * 8 + c
    · rw [if_pos h2, if_pos (by omega)]
    · rw [if_neg h2, if_neg (by omega)]
def rmv (f : Nat → Int32) (n i : Nat) : Nat → Int32 := va_cpy f f ((i + 1) * 8) (i * 8) (n * 8 - (i + 1) * 8)

set_option maxHeartbeats 4000000 in
set_option maxRecDepth 100000 in
theorem ct_X2_isBefore (l : Launch) {D : va_G} {cI cJ cQ : ClassId} {a0 a1 n : Nat} {f : Nat → Int32} {x1 x2 : Int32} (i j : Nat) (h1 : x1 = nI i) (h2 : x2 = nI j) (hi : i < n) (hj : j < n) (hn : n ≤ 40) : Ct l yX2_isBefore (Cond.code yX2_isBefore cX2_isBefore 7 (some .boolean)) 1 22 0 0 D (tyz cI cJ cQ) [.ref a0, .int x1, .int x2] (wPet a0 a1 cI n f) (pstI (bI (bfr f i j)) (wPet a0 a1 cI n f)) := by
  refine Ct.of RX2 (by decide) rfl (Nat.le_of_ble_eq_true rfl) ?_
  intro p e s m below meth c A C RC
  subst h1 h2
  refine sw_aload_n 0 0 C dX2_isBefore_0 rfl rfl ?_
  refine sw_iload_n 1 1 C dX2_isBefore_1 rfl rfl ?_
  refine sw_iconst 2 C dX2_isBefore_2 2 (by decide) ?_
  refine sw_callVIP 3 [0, 1] 2 C dX2_isBefore_3 (ct_X2_at l (i) 2 rfl rfl (by omega) (by decide) (by omega)) wK_X2_at wM_X2_29 wN_X2_at wS_X2_X2_at wI_X2 hd_X2_at rfl rfl rfl ⟨rfl, rfl⟩ ⟨Nat.le_of_ble_eq_true rfl, Nat.le_of_ble_eq_true rfl⟩ rfl rfl rfl rfl ?_
  refine sw_istore_n 6 3 C dX2_isBefore_6 rfl rfl ?_
  refine sw_aload_n 7 0 C dX2_isBefore_7 rfl rfl ?_
  refine sw_iload_n 8 2 C dX2_isBefore_8 rfl rfl ?_
  refine sw_iconst 9 C dX2_isBefore_9 2 (by decide) ?_
  refine sw_callVIP 10 [0, 1] 2 C dX2_isBefore_10 (ct_X2_at l (j) 2 rfl rfl (by omega) (by decide) (by omega)) wK_X2_at wM_X2_29 wN_X2_at wS_X2_X2_at wI_X2 hd_X2_at rfl rfl rfl ⟨rfl, rfl⟩ ⟨Nat.le_of_ble_eq_true rfl, Nat.le_of_ble_eq_true rfl⟩ rfl rfl rfl rfl ?_
  refine sw_istore 13 C dX2_isBefore_13 rfl ?_
  refine sw_loc (L1 := [(0, .ref _), (1, .int _), (2, .int _), (3, .int _), (4, .int _)]) ?_ rfl
  refine sw_iload_n 15 3 C dX2_isBefore_15 rfl rfl ?_
  refine sw_iload 16 C dX2_isBefore_16 rfl ?_
  refine sw_icmp_eq 18 33 C dX2_isBefore_18 (by decide) (fun c_18 => ?_) (fun c_18 => ?_)
  · refine sw_aload_n 33 0 C dX2_isBefore_33 rfl rfl ?_
    refine sw_iload_n 34 1 C dX2_isBefore_34 rfl rfl ?_
    refine sw_iconst 35 C dX2_isBefore_35 3 (by decide) ?_
    refine sw_callVIP 36 [0, 1] 2 C dX2_isBefore_36 (ct_X2_at l (i) 3 rfl rfl (by omega) (by decide) (by omega)) wK_X2_at wM_X2_29 wN_X2_at wS_X2_X2_at wI_X2 hd_X2_at rfl rfl rfl ⟨rfl, rfl⟩ ⟨Nat.le_of_ble_eq_true rfl, Nat.le_of_ble_eq_true rfl⟩ rfl rfl rfl rfl ?_
    refine sw_istore 39 C dX2_isBefore_39 rfl ?_
    refine sw_aload_n 41 0 C dX2_isBefore_41 rfl rfl ?_
    refine sw_iload_n 42 2 C dX2_isBefore_42 rfl rfl ?_
    refine sw_iconst 43 C dX2_isBefore_43 3 (by decide) ?_
    refine sw_callVIP 44 [0, 1] 2 C dX2_isBefore_44 (ct_X2_at l (j) 3 rfl rfl (by omega) (by decide) (by omega)) wK_X2_at wM_X2_29 wN_X2_at wS_X2_X2_at wI_X2 hd_X2_at rfl rfl rfl ⟨rfl, rfl⟩ ⟨Nat.le_of_ble_eq_true rfl, Nat.le_of_ble_eq_true rfl⟩ rfl rfl rfl rfl ?_
    refine sw_istore 47 C dX2_isBefore_47 rfl ?_
    refine sw_loc (L1 := [(0, .ref _), (1, .int _), (2, .int _), (3, .int _), (4, .int _), (5, .int _), (6, .int _)]) ?_ rfl
    refine sw_iload 49 C dX2_isBefore_49 rfl ?_
    refine sw_iload 51 C dX2_isBefore_51 rfl ?_
    refine sw_icmp_eq 53 69 C dX2_isBefore_53 (by decide) (fun c_53 => ?_) (fun c_53 => ?_)
    · refine sw_aload_n 69 0 C dX2_isBefore_69 rfl rfl ?_
      refine sw_iload_n 70 1 C dX2_isBefore_70 rfl rfl ?_
      refine sw_bipush 71 C dX2_isBefore_71 7 (by decide) ?_
      refine sw_callVIP 73 [0, 1] 2 C dX2_isBefore_73 (ct_X2_at l (i) 7 rfl rfl (by omega) (by decide) (by omega)) wK_X2_at wM_X2_29 wN_X2_at wS_X2_X2_at wI_X2 hd_X2_at rfl rfl rfl ⟨rfl, rfl⟩ ⟨Nat.le_of_ble_eq_true rfl, Nat.le_of_ble_eq_true rfl⟩ rfl rfl rfl rfl ?_
      refine sw_aload_n 76 0 C dX2_isBefore_76 rfl rfl ?_
      refine sw_iload_n 77 2 C dX2_isBefore_77 rfl rfl ?_
      refine sw_bipush 78 C dX2_isBefore_78 7 (by decide) ?_
      refine sw_callVIP 80 [0, 1] 2 C dX2_isBefore_80 (ct_X2_at l (j) 7 rfl rfl (by omega) (by decide) (by omega)) wK_X2_at wM_X2_29 wN_X2_at wS_X2_X2_at wI_X2 hd_X2_at rfl rfl rfl ⟨rfl, rfl⟩ ⟨Nat.le_of_ble_eq_true rfl, Nat.le_of_ble_eq_true rfl⟩ rfl rfl rfl rfl ?_
      refine sw_icmp_ge 83 90 C dX2_isBefore_83 (by decide) (fun c_83 => ?_) (fun c_83 => ?_)
      · refine sw_iconst 90 C dX2_isBefore_90 0 (by decide) ?_
        refine sw_zret 91 C RC rfl dX2_isBefore_91 ?_
        exact ⟨by simp [bfr, bI, c_18, c_53, c_83], rfl⟩
      · refine sw_iconst 86 C dX2_isBefore_86 1 (by decide) ?_
        refine sw_goto 87 91 C dX2_isBefore_87 (by decide) ?_
        refine sw_zret 91 C RC rfl dX2_isBefore_91 ?_
        exact ⟨by simp [bfr, bI, c_18, c_53, c_83], rfl⟩
    · refine sw_iload 56 C dX2_isBefore_56 rfl ?_
      refine sw_iload 58 C dX2_isBefore_58 rfl ?_
      refine sw_icmp_le 60 67 C dX2_isBefore_60 (by decide) (fun c_60 => ?_) (fun c_60 => ?_)
      · refine sw_iconst 67 C dX2_isBefore_67 0 (by decide) ?_
        refine sw_zret 68 C RC rfl dX2_isBefore_68 ?_
        exact ⟨by simp [bfr, bI, c_18, c_53, c_60], rfl⟩
      · refine sw_iconst 63 C dX2_isBefore_63 1 (by decide) ?_
        refine sw_goto 64 68 C dX2_isBefore_64 (by decide) ?_
        refine sw_zret 68 C RC rfl dX2_isBefore_68 ?_
        exact ⟨by simp [bfr, bI, c_18, c_53, c_60], rfl⟩
  · refine sw_iload_n 21 3 C dX2_isBefore_21 rfl rfl ?_
    refine sw_iload 22 C dX2_isBefore_22 rfl ?_
    refine sw_icmp_le 24 31 C dX2_isBefore_24 (by decide) (fun c_24 => ?_) (fun c_24 => ?_)
    · refine sw_iconst 31 C dX2_isBefore_31 0 (by decide) ?_
      refine sw_zret 32 C RC rfl dX2_isBefore_32 ?_
      exact ⟨by simp [bfr, bI, c_18, c_24], rfl⟩
    · refine sw_iconst 27 C dX2_isBefore_27 1 (by decide) ?_
      refine sw_goto 28 32 C dX2_isBefore_28 (by decide) ?_
      refine sw_zret 32 C RC rfl dX2_isBefore_32 ?_
      exact ⟨by simp [bfr, bI, c_18, c_24], rfl⟩
set_option maxHeartbeats 4000000 in
set_option maxRecDepth 100000 in
theorem ct_X2_kindOf (l : Launch) {D : va_G} {cI cJ cQ : ClassId} {a0 a1 n : Nat} {f : Nat → Int32} {x1 : Int32} (i : Nat) (h1 : x1 = nI i) (hi : i < n) (hn : n ≤ 40) : Ct l yX2_kindOf (Cond.code yX2_kindOf cX2_kindOf 2 (some .int)) 1 22 0 0 D (tyz cI cJ cQ) [.ref a0, .int x1] (wPet a0 a1 cI n f) (pstI (knd f i) (wPet a0 a1 cI n f)) := by
  refine Ct.of RX2 (by decide) rfl (Nat.le_of_ble_eq_true rfl) ?_
  intro p e s m below meth c A C RC
  subst h1
  refine sw_aload_n 0 0 C dX2_kindOf_0 rfl rfl ?_
  refine sw_iload_n 1 1 C dX2_kindOf_1 rfl rfl ?_
  refine sw_iconst 2 C dX2_kindOf_2 1 (by decide) ?_
  refine sw_callVIP 3 [0, 1] 2 C dX2_kindOf_3 (ct_X2_at l (i) 1 rfl rfl (by omega) (by decide) (by omega)) wK_X2_at wM_X2_29 wN_X2_at wS_X2_X2_at wI_X2 hd_X2_at rfl rfl rfl ⟨rfl, rfl⟩ ⟨Nat.le_of_ble_eq_true rfl, Nat.le_of_ble_eq_true rfl⟩ rfl rfl rfl rfl ?_
  refine sw_iconst 6 C dX2_kindOf_6 (-1) (by decide) ?_
  refine sw_icmp_eq 7 12 C dX2_kindOf_7 (by decide) (fun c_7 => ?_) (fun c_7 => ?_)
  · refine sw_aload_n 12 0 C dX2_kindOf_12 rfl rfl ?_
    refine sw_iload_n 13 1 C dX2_kindOf_13 rfl rfl ?_
    refine sw_bipush 14 C dX2_kindOf_14 6 (by decide) ?_
    refine sw_callVIP 16 [0, 1] 2 C dX2_kindOf_16 (ct_X2_at l (i) 6 rfl rfl (by omega) (by decide) (by omega)) wK_X2_at wM_X2_29 wN_X2_at wS_X2_X2_at wI_X2 hd_X2_at rfl rfl rfl ⟨rfl, rfl⟩ ⟨Nat.le_of_ble_eq_true rfl, Nat.le_of_ble_eq_true rfl⟩ rfl rfl rfl rfl ?_
    refine sw_if_le 19 26 C dX2_kindOf_19 (by decide) (fun c_19 => ?_) (fun c_19 => ?_)
    · refine sw_iconst 26 C dX2_kindOf_26 0 (by decide) ?_
      refine sw_iret 27 C RC dX2_kindOf_27 ?_
      exact ⟨by simp [knd, c_7, c_19], rfl⟩
    · refine sw_iconst 22 C dX2_kindOf_22 1 (by decide) ?_
      refine sw_goto 23 27 C dX2_kindOf_23 (by decide) ?_
      refine sw_iret 27 C RC dX2_kindOf_27 ?_
      exact ⟨by simp [knd, c_7, c_19], rfl⟩
  · refine sw_iconst 10 C dX2_kindOf_10 2 (by decide) ?_
    refine sw_iret 11 C RC dX2_kindOf_11 ?_
    exact ⟨by simp [knd, c_7], rfl⟩
set_option maxHeartbeats 4000000 in
set_option maxRecDepth 100000 in
theorem lp_X2_countBefore {l : Launch} {p : Program} {e : Env} {s : State} {m : MethodId} {args : Array Value} {below : List Frame} {meth : Method} {c : Code} {A : Nat → Prop} {D : va_G} {cI cJ cQ : ClassId} {a0 a1 n : Nat} {f : Nat → Int32} (j : Nat) (hj : j < n) (hn : n ≤ 40) (C : CC p s m args c cX2_countBefore 4 RX2 (Cond.code yX2_countBefore cX2_countBefore 4 (some .int) :: lw_all) D (tyz cI cJ cQ) A s.heap) (RC : meth.sig.returnType = (some .int) ∧ meth.locks = false ∧ meth.name = yX2_countBefore.name) : ∀ (fu i : Nat), i ≤ n → n + 1 ≤ i + fu →  ∀ (xa : Int32) (xi : Int32), (xa = nI (ct (fun o => bfr f o j) i)) → (xi = nI i) →  sw p l e ({ frames := 2, cells := 0, slots := 0, locals := 48 } : Room) s m args below meth c D A s.heap 4 0 0 (MQ below (ctQ D (tyz cI cJ cQ) A (pstI (nI (cbf f n j)) (wPet a0 a1 cI n f))) args s 0 0 A) (wPet a0 a1 cI n f) 4 [(0, .ref a0), (1, .int (nI j)), (2, .int xa), (3, .int xi)] [] := by
  intro fu
  induction fu with
  | zero => intro i h1 h2; exact absurd h2 (by omega)
  | succ fu ih =>
    intro i hi hf  xa xi exa exi
    subst exa exi
    refine sw_iload_n 4 3 C dX2_countBefore_4 rfl rfl ?_
    refine sw_aload_n 5 0 C dX2_countBefore_5 rfl rfl ?_
    refine sw_get 6 0 0 C dX2_countBefore_6 rfl rfl (inA lwX2) (C.w wF_X2_15) rfl rfl rfl ?_
    refine sw_icmp_ge 9 30 C dX2_countBefore_9 (by decide) (fun c_9 => ?_) (fun c_9 => ?_)
    · refine sw_iload_n 30 2 C dX2_countBefore_30 rfl rfl ?_
      refine sw_iret 31 C RC dX2_countBefore_31 ?_
      exact ⟨by rw [show i = n by have := nI_ge' (by omega) c_9 (by omega); omega]; rfl, rfl⟩
    · have hlt : i < n := by
        rcases Nat.lt_or_ge i n with q | q
        · exact q
        · exact absurd (nI_le q (by omega)) c_9
      refine sw_aload_n 12 0 C dX2_countBefore_12 rfl rfl ?_
      refine sw_iload_n 13 3 C dX2_countBefore_13 rfl rfl ?_
      refine sw_iload_n 14 1 C dX2_countBefore_14 rfl rfl ?_
      refine sw_callVIP 15 [0, 1] 2 C dX2_countBefore_15 (ct_X2_isBefore l i j rfl rfl (by omega) hj hn) wK_X2_isBefore wM_X2_40 wN_X2_isBefore wS_X2_X2_isBefore wI_X2 hd_X2_isBefore rfl rfl rfl ⟨rfl, rfl⟩ ⟨Nat.le_of_ble_eq_true rfl, Nat.le_of_ble_eq_true rfl⟩ rfl rfl rfl rfl ?_
      refine sw_if_eq 18 24 C dX2_countBefore_18 (by decide) (fun c_18 => ?_) (fun c_18 => ?_)
      · refine sw_iinc 24 C 1 dX2_countBefore_24 (by decide) rfl rfl ?_
        refine sw_goto 27 4 C dX2_countBefore_27 (by decide) ?_
        exact sw_loc (ih (i + 1) (by omega) (by omega) _ _ (ct_f (bI_f c_18)) (nI_1 i)) rfl
      · refine sw_iinc 21 C 1 dX2_countBefore_21 (by decide) rfl rfl ?_
        refine sw_iinc 24 C 1 dX2_countBefore_24 (by decide) rfl rfl ?_
        refine sw_loc (L1 := [(0, .ref _), (1, .int _), (2, .int _), (3, .int _)]) ?_ rfl
        refine sw_goto 27 4 C dX2_countBefore_27 (by decide) ?_
        exact sw_loc (ih (i + 1) (by omega) (by omega) _ _ (ct_t (bI_t c_18)) (nI_1 i)) rfl
set_option maxHeartbeats 4000000 in
set_option maxRecDepth 100000 in
theorem ct_X2_countBefore (l : Launch) {D : va_G} {cI cJ cQ : ClassId} {a0 a1 n : Nat} {f : Nat → Int32} {x1 : Int32} (j : Nat) (h1 : x1 = nI j) (hj : j < n) (hn : n ≤ 40) : Ct l yX2_countBefore (Cond.code yX2_countBefore cX2_countBefore 4 (some .int)) 2 48 0 0 D (tyz cI cJ cQ) [.ref a0, .int x1] (wPet a0 a1 cI n f) (pstI (nI (cbf f n j)) (wPet a0 a1 cI n f)) := by
  refine Ct.of RX2 (by decide) rfl (Nat.le_of_ble_eq_true rfl) ?_
  intro p e s m below meth c A C RC
  subst h1
  refine sw_iconst 0 C dX2_countBefore_0 0 (by decide) ?_
  refine sw_istore_n 1 2 C dX2_countBefore_1 rfl rfl ?_
  refine sw_iconst 2 C dX2_countBefore_2 0 (by decide) ?_
  refine sw_istore_n 3 3 C dX2_countBefore_3 rfl rfl ?_
  exact lp_X2_countBefore j hj hn C RC (n + 1) 0 (Nat.zero_le _) (by omega) _ _ rfl rfl
set_option maxHeartbeats 4000000 in
set_option maxRecDepth 100000 in
theorem lp_X2_countOfSender {l : Launch} {p : Program} {e : Env} {s : State} {m : MethodId} {args : Array Value} {below : List Frame} {meth : Method} {c : Code} {A : Nat → Prop} {D : va_G} {cI cJ cQ : ClassId} {a0 a1 n : Nat} {f : Nat → Int32} {x : Int32} (hn : n ≤ 40) (C : CC p s m args c cX2_countOfSender 4 RX2 (Cond.code yX2_countOfSender cX2_countOfSender 4 (some .int) :: lw_all) D (tyz cI cJ cQ) A s.heap) (RC : meth.sig.returnType = (some .int) ∧ meth.locks = false ∧ meth.name = yX2_countOfSender.name) : ∀ (fu i : Nat), i ≤ n → n + 1 ≤ i + fu →  ∀ (xa : Int32) (xi : Int32), (xa = nI (ct (isOf f x) i)) → (xi = nI i) →  sw p l e ({ frames := 1, cells := 0, slots := 0, locals := 22 } : Room) s m args below meth c D A s.heap 4 0 0 (MQ below (ctQ D (tyz cI cJ cQ) A (pstI (nI (ct (isOf f x) n)) (wPet a0 a1 cI n f))) args s 0 0 A) (wPet a0 a1 cI n f) 4 [(0, .ref a0), (1, .int x), (2, .int xa), (3, .int xi)] [] := by
  intro fu
  induction fu with
  | zero => intro i h1 h2; exact absurd h2 (by omega)
  | succ fu ih =>
    intro i hi hf  xa xi exa exi
    subst exa exi
    refine sw_iload_n 4 3 C dX2_countOfSender_4 rfl rfl ?_
    refine sw_aload_n 5 0 C dX2_countOfSender_5 rfl rfl ?_
    refine sw_get 6 0 0 C dX2_countOfSender_6 rfl rfl (inA lwX2) (C.w wF_X2_15) rfl rfl rfl ?_
    refine sw_icmp_ge 9 41 C dX2_countOfSender_9 (by decide) (fun c_9 => ?_) (fun c_9 => ?_)
    · refine sw_iload_n 41 2 C dX2_countOfSender_41 rfl rfl ?_
      refine sw_iret 42 C RC dX2_countOfSender_42 ?_
      exact ⟨by rw [show i = n by have := nI_ge' (by omega) c_9 (by omega); omega], rfl⟩
    · have hlt : i < n := by
        rcases Nat.lt_or_ge i n with q | q
        · exact q
        · exact absurd (nI_le q (by omega)) c_9
      refine sw_aload_n 12 0 C dX2_countOfSender_12 rfl rfl ?_
      refine sw_iload_n 13 3 C dX2_countOfSender_13 rfl rfl ?_
      refine sw_iconst 14 C dX2_countOfSender_14 0 (by decide) ?_
      refine sw_callVIP 15 [0, 1] 2 C dX2_countOfSender_15 (ct_X2_at l (i) 0 rfl rfl (by omega) (by decide) (by omega)) wK_X2_at wM_X2_29 wN_X2_at wS_X2_X2_at wI_X2 hd_X2_at rfl rfl rfl ⟨rfl, rfl⟩ ⟨Nat.le_of_ble_eq_true rfl, Nat.le_of_ble_eq_true rfl⟩ rfl rfl rfl rfl ?_
      refine sw_iload_n 18 1 C dX2_countOfSender_18 rfl rfl ?_
      refine sw_icmp_eq 19 32 C dX2_countOfSender_19 (by decide) (fun c_19 => ?_) (fun c_19 => ?_)
      · refine sw_iinc 32 C 1 dX2_countOfSender_32 (by decide) rfl rfl ?_
        refine sw_iinc 35 C 1 dX2_countOfSender_35 (by decide) rfl rfl ?_
        refine sw_loc (L1 := [(0, .ref _), (1, .int _), (2, .int _), (3, .int _)]) ?_ rfl
        refine sw_goto 38 4 C dX2_countOfSender_38 (by decide) ?_
        exact sw_loc (ih (i + 1) (by omega) (by omega) _ _ (ct_t (by simp [isOf] at c_19 ⊢; simp [c_19])) (nI_1 i)) rfl
      · refine sw_aload_n 22 0 C dX2_countOfSender_22 rfl rfl ?_
        refine sw_iload_n 23 3 C dX2_countOfSender_23 rfl rfl ?_
        refine sw_iconst 24 C dX2_countOfSender_24 1 (by decide) ?_
        refine sw_callVIP 25 [0, 1] 2 C dX2_countOfSender_25 (ct_X2_at l (i) 1 rfl rfl (by omega) (by decide) (by omega)) wK_X2_at wM_X2_29 wN_X2_at wS_X2_X2_at wI_X2 hd_X2_at rfl rfl rfl ⟨rfl, rfl⟩ ⟨Nat.le_of_ble_eq_true rfl, Nat.le_of_ble_eq_true rfl⟩ rfl rfl rfl rfl ?_
        refine sw_iload_n 28 1 C dX2_countOfSender_28 rfl rfl ?_
        refine sw_icmp_ne 29 35 C dX2_countOfSender_29 (by decide) (fun c_29 => ?_) (fun c_29 => ?_)
        · refine sw_iinc 35 C 1 dX2_countOfSender_35 (by decide) rfl rfl ?_
          refine sw_goto 38 4 C dX2_countOfSender_38 (by decide) ?_
          exact sw_loc (ih (i + 1) (by omega) (by omega) _ _ (ct_f (by simp [isOf] at c_19 c_29 ⊢; simp [c_19, c_29])) (nI_1 i)) rfl
        · refine sw_iinc 32 C 1 dX2_countOfSender_32 (by decide) rfl rfl ?_
          refine sw_iinc 35 C 1 dX2_countOfSender_35 (by decide) rfl rfl ?_
          refine sw_loc (L1 := [(0, .ref _), (1, .int _), (2, .int _), (3, .int _)]) ?_ rfl
          refine sw_goto 38 4 C dX2_countOfSender_38 (by decide) ?_
          exact sw_loc (ih (i + 1) (by omega) (by omega) _ _ (ct_t (by simp [isOf] at c_19 c_29 ⊢; simp [c_29])) (nI_1 i)) rfl
set_option maxHeartbeats 4000000 in
set_option maxRecDepth 100000 in
theorem lp_X2_countOfRank {l : Launch} {p : Program} {e : Env} {s : State} {m : MethodId} {args : Array Value} {below : List Frame} {meth : Method} {c : Code} {A : Nat → Prop} {D : va_G} {cI cJ cQ : ClassId} {a0 a1 n : Nat} {f : Nat → Int32} {x : Int32} (hn : n ≤ 40) (C : CC p s m args c cX2_countOfRank 4 RX2 (Cond.code yX2_countOfRank cX2_countOfRank 4 (some .int) :: lw_all) D (tyz cI cJ cQ) A s.heap) (RC : meth.sig.returnType = (some .int) ∧ meth.locks = false ∧ meth.name = yX2_countOfRank.name) : ∀ (fu i : Nat), i ≤ n → n + 1 ≤ i + fu →  ∀ (xa : Int32) (xi : Int32), (xa = nI (ct (isRk f x) i)) → (xi = nI i) →  sw p l e ({ frames := 1, cells := 0, slots := 0, locals := 22 } : Room) s m args below meth c D A s.heap 4 0 0 (MQ below (ctQ D (tyz cI cJ cQ) A (pstI (nI (ct (isRk f x) n)) (wPet a0 a1 cI n f))) args s 0 0 A) (wPet a0 a1 cI n f) 4 [(0, .ref a0), (1, .int x), (2, .int xa), (3, .int xi)] [] := by
  intro fu
  induction fu with
  | zero => intro i h1 h2; exact absurd h2 (by omega)
  | succ fu ih =>
    intro i hi hf  xa xi exa exi
    subst exa exi
    refine sw_iload_n 4 3 C dX2_countOfRank_4 rfl rfl ?_
    refine sw_aload_n 5 0 C dX2_countOfRank_5 rfl rfl ?_
    refine sw_get 6 0 0 C dX2_countOfRank_6 rfl rfl (inA lwX2) (C.w wF_X2_15) rfl rfl rfl ?_
    refine sw_icmp_ge 9 31 C dX2_countOfRank_9 (by decide) (fun c_9 => ?_) (fun c_9 => ?_)
    · refine sw_iload_n 31 2 C dX2_countOfRank_31 rfl rfl ?_
      refine sw_iret 32 C RC dX2_countOfRank_32 ?_
      exact ⟨by rw [show i = n by have := nI_ge' (by omega) c_9 (by omega); omega], rfl⟩
    · have hlt : i < n := by
        rcases Nat.lt_or_ge i n with q | q
        · exact q
        · exact absurd (nI_le q (by omega)) c_9
      refine sw_aload_n 12 0 C dX2_countOfRank_12 rfl rfl ?_
      refine sw_iload_n 13 3 C dX2_countOfRank_13 rfl rfl ?_
      refine sw_iconst 14 C dX2_countOfRank_14 2 (by decide) ?_
      refine sw_callVIP 15 [0, 1] 2 C dX2_countOfRank_15 (ct_X2_at l (i) 2 rfl rfl (by omega) (by decide) (by omega)) wK_X2_at wM_X2_29 wN_X2_at wS_X2_X2_at wI_X2 hd_X2_at rfl rfl rfl ⟨rfl, rfl⟩ ⟨Nat.le_of_ble_eq_true rfl, Nat.le_of_ble_eq_true rfl⟩ rfl rfl rfl rfl ?_
      refine sw_iload_n 18 1 C dX2_countOfRank_18 rfl rfl ?_
      refine sw_icmp_ne 19 25 C dX2_countOfRank_19 (by decide) (fun c_19 => ?_) (fun c_19 => ?_)
      · refine sw_iinc 25 C 1 dX2_countOfRank_25 (by decide) rfl rfl ?_
        refine sw_goto 28 4 C dX2_countOfRank_28 (by decide) ?_
        exact sw_loc (ih (i + 1) (by omega) (by omega) _ _ (ct_f (by simp [isRk, c_19])) (nI_1 i)) rfl
      · refine sw_iinc 22 C 1 dX2_countOfRank_22 (by decide) rfl rfl ?_
        refine sw_iinc 25 C 1 dX2_countOfRank_25 (by decide) rfl rfl ?_
        refine sw_loc (L1 := [(0, .ref _), (1, .int _), (2, .int _), (3, .int _)]) ?_ rfl
        refine sw_goto 28 4 C dX2_countOfRank_28 (by decide) ?_
        exact sw_loc (ih (i + 1) (by omega) (by omega) _ _ (ct_t (by simp [isRk, c_19])) (nI_1 i)) rfl
set_option maxHeartbeats 4000000 in
set_option maxRecDepth 100000 in
theorem ct_X2_countOfSender (l : Launch) {D : va_G} {cI cJ cQ : ClassId} {a0 a1 n : Nat} {f : Nat → Int32} {x : Int32} (hn : n ≤ 40) : Ct l yX2_countOfSender (Cond.code yX2_countOfSender cX2_countOfSender 4 (some .int)) 1 22 0 0 D (tyz cI cJ cQ) [.ref a0, .int x] (wPet a0 a1 cI n f) (pstI (nI (ct (isOf f x) n)) (wPet a0 a1 cI n f)) := by
  refine Ct.of RX2 (by decide) rfl (Nat.le_of_ble_eq_true rfl) ?_
  intro p e s m below meth c A C RC
  refine sw_iconst 0 C dX2_countOfSender_0 0 (by decide) ?_
  refine sw_istore_n 1 2 C dX2_countOfSender_1 rfl rfl ?_
  refine sw_iconst 2 C dX2_countOfSender_2 0 (by decide) ?_
  refine sw_istore_n 3 3 C dX2_countOfSender_3 rfl rfl ?_
  exact lp_X2_countOfSender hn C RC (n + 1) 0 (Nat.zero_le _) (by omega) _ _ rfl rfl
set_option maxHeartbeats 4000000 in
set_option maxRecDepth 100000 in
theorem ct_X2_countOfRank (l : Launch) {D : va_G} {cI cJ cQ : ClassId} {a0 a1 n : Nat} {f : Nat → Int32} {x : Int32} (hn : n ≤ 40) : Ct l yX2_countOfRank (Cond.code yX2_countOfRank cX2_countOfRank 4 (some .int)) 1 22 0 0 D (tyz cI cJ cQ) [.ref a0, .int x] (wPet a0 a1 cI n f) (pstI (nI (ct (isRk f x) n)) (wPet a0 a1 cI n f)) := by
  refine Ct.of RX2 (by decide) rfl (Nat.le_of_ble_eq_true rfl) ?_
  intro p e s m below meth c A C RC
  refine sw_iconst 0 C dX2_countOfRank_0 0 (by decide) ?_
  refine sw_istore_n 1 2 C dX2_countOfRank_1 rfl rfl ?_
  refine sw_iconst 2 C dX2_countOfRank_2 0 (by decide) ?_
  refine sw_istore_n 3 3 C dX2_countOfRank_3 rfl rfl ?_
  exact lp_X2_countOfRank hn C RC (n + 1) 0 (Nat.zero_le _) (by omega) _ _ rfl rfl
set_option maxHeartbeats 4000000 in
set_option maxRecDepth 100000 in
theorem lp_X2_loudestRank {l : Launch} {p : Program} {e : Env} {s : State} {m : MethodId} {args : Array Value} {below : List Frame} {meth : Method} {c : Code} {A : Nat → Prop} {D : va_G} {cI cJ cQ : ClassId} {a0 a1 n : Nat} {f : Nat → Int32} (hn : n ≤ 40) (C : CC p s m args c cX2_loudestRank 3 RX2 (Cond.code yX2_loudestRank cX2_loudestRank 3 (some .int) :: lw_all) D (tyz cI cJ cQ) A s.heap) (RC : meth.sig.returnType = (some .int) ∧ meth.locks = false ∧ meth.name = yX2_loudestRank.name) : ∀ (fu i : Nat), i ≤ n → n + 1 ≤ i + fu →  ∀ (xa : Int32) (xi : Int32), (xa = ldr f i) → (xi = nI i) →  sw p l e ({ frames := 1, cells := 0, slots := 0, locals := 22 } : Room) s m args below meth c D A s.heap 3 0 0 (MQ below (ctQ D (tyz cI cJ cQ) A (pstI (ldr f n) (wPet a0 a1 cI n f))) args s 0 0 A) (wPet a0 a1 cI n f) 4 [(0, .ref a0), (1, .int xa), (2, .int xi)] [] := by
  intro fu
  induction fu with
  | zero => intro i h1 h2; exact absurd h2 (by omega)
  | succ fu ih =>
    intro i hi hf  xa xi exa exi
    subst exa exi
    refine sw_iload_n 4 2 C dX2_loudestRank_4 rfl rfl ?_
    refine sw_aload_n 5 0 C dX2_loudestRank_5 rfl rfl ?_
    refine sw_get 6 0 0 C dX2_loudestRank_6 rfl rfl (inA lwX2) (C.w wF_X2_15) rfl rfl rfl ?_
    refine sw_icmp_ge 9 29 C dX2_loudestRank_9 (by decide) (fun c_9 => ?_) (fun c_9 => ?_)
    · refine sw_iload_n 29 1 C dX2_loudestRank_29 rfl rfl ?_
      refine sw_iret 30 C RC dX2_loudestRank_30 ?_
      exact ⟨by rw [show i = n by have := nI_ge' (by omega) c_9 (by omega); omega], rfl⟩
    · have hlt : i < n := by
        rcases Nat.lt_or_ge i n with q | q
        · exact q
        · exact absurd (nI_le q (by omega)) c_9
      refine sw_iload_n 12 1 C dX2_loudestRank_12 rfl rfl ?_
      refine sw_aload_n 13 0 C dX2_loudestRank_13 rfl rfl ?_
      refine sw_iload_n 14 2 C dX2_loudestRank_14 rfl rfl ?_
      refine sw_iconst 15 C dX2_loudestRank_15 2 (by decide) ?_
      refine sw_callVIP 16 [0, 1] 2 C dX2_loudestRank_16 (ct_X2_at l (i) 2 rfl rfl (by omega) (by decide) (by omega)) wK_X2_at wM_X2_29 wN_X2_at wS_X2_X2_at wI_X2 hd_X2_at rfl rfl rfl ⟨rfl, rfl⟩ ⟨Nat.le_of_ble_eq_true rfl, Nat.le_of_ble_eq_true rfl⟩ rfl rfl rfl rfl ?_
      refine sw_mmax 19 C (C.w wM_X2_44) (C.w wT_J9_max_7cf53) (C.w wI_J9) (C.w wK_J9_max_7cf53) (Nat.le_of_ble_eq_true rfl) (Nat.le_of_ble_eq_true rfl) (Nat.le_of_ble_eq_true rfl) (Nat.le_of_ble_eq_true rfl) dX2_loudestRank_19 ?_
      refine sw_istore_n 22 1 C dX2_loudestRank_22 rfl rfl ?_
      refine sw_iinc 23 C 1 dX2_loudestRank_23 (by decide) rfl rfl ?_
      refine sw_loc (L1 := [(0, .ref _), (1, .int _), (2, .int _)]) ?_ rfl
      refine sw_goto 26 4 C dX2_loudestRank_26 (by decide) ?_
      exact sw_loc (ih (i + 1) (by omega) (by omega) _ _ rfl (nI_1 i)) rfl
set_option maxHeartbeats 4000000 in
set_option maxRecDepth 100000 in
theorem lp_X2_sumOfBribes {l : Launch} {p : Program} {e : Env} {s : State} {m : MethodId} {args : Array Value} {below : List Frame} {meth : Method} {c : Code} {A : Nat → Prop} {D : va_G} {cI cJ cQ : ClassId} {a0 a1 n : Nat} {f : Nat → Int32} (hn : n ≤ 40) (C : CC p s m args c cX2_sumOfBribes 3 RX2 (Cond.code yX2_sumOfBribes cX2_sumOfBribes 3 (some .int) :: lw_all) D (tyz cI cJ cQ) A s.heap) (RC : meth.sig.returnType = (some .int) ∧ meth.locks = false ∧ meth.name = yX2_sumOfBribes.name) : ∀ (fu i : Nat), i ≤ n → n + 1 ≤ i + fu →  ∀ (xa : Int32) (xi : Int32), (xa = smb f i) → (xi = nI i) →  sw p l e ({ frames := 1, cells := 0, slots := 0, locals := 22 } : Room) s m args below meth c D A s.heap 3 0 0 (MQ below (ctQ D (tyz cI cJ cQ) A (pstI (smb f n) (wPet a0 a1 cI n f))) args s 0 0 A) (wPet a0 a1 cI n f) 4 [(0, .ref a0), (1, .int xa), (2, .int xi)] [] := by
  intro fu
  induction fu with
  | zero => intro i h1 h2; exact absurd h2 (by omega)
  | succ fu ih =>
    intro i hi hf  xa xi exa exi
    subst exa exi
    refine sw_iload_n 4 2 C dX2_sumOfBribes_4 rfl rfl ?_
    refine sw_aload_n 5 0 C dX2_sumOfBribes_5 rfl rfl ?_
    refine sw_get 6 0 0 C dX2_sumOfBribes_6 rfl rfl (inA lwX2) (C.w wF_X2_15) rfl rfl rfl ?_
    refine sw_icmp_ge 9 28 C dX2_sumOfBribes_9 (by decide) (fun c_9 => ?_) (fun c_9 => ?_)
    · refine sw_iload_n 28 1 C dX2_sumOfBribes_28 rfl rfl ?_
      refine sw_iret 29 C RC dX2_sumOfBribes_29 ?_
      exact ⟨by rw [show i = n by have := nI_ge' (by omega) c_9 (by omega); omega], rfl⟩
    · have hlt : i < n := by
        rcases Nat.lt_or_ge i n with q | q
        · exact q
        · exact absurd (nI_le q (by omega)) c_9
      refine sw_iload_n 12 1 C dX2_sumOfBribes_12 rfl rfl ?_
      refine sw_aload_n 13 0 C dX2_sumOfBribes_13 rfl rfl ?_
      refine sw_iload_n 14 2 C dX2_sumOfBribes_14 rfl rfl ?_
      refine sw_bipush 15 C dX2_sumOfBribes_15 6 (by decide) ?_
      refine sw_callVIP 17 [0, 1] 2 C dX2_sumOfBribes_17 (ct_X2_at l (i) 6 rfl rfl (by omega) (by decide) (by omega)) wK_X2_at wM_X2_29 wN_X2_at wS_X2_X2_at wI_X2 hd_X2_at rfl rfl rfl ⟨rfl, rfl⟩ ⟨Nat.le_of_ble_eq_true rfl, Nat.le_of_ble_eq_true rfl⟩ rfl rfl rfl rfl ?_
      refine sw_iadd 20 C dX2_sumOfBribes_20 ?_
      refine sw_istore_n 21 1 C dX2_sumOfBribes_21 rfl rfl ?_
      refine sw_iinc 22 C 1 dX2_sumOfBribes_22 (by decide) rfl rfl ?_
      refine sw_loc (L1 := [(0, .ref _), (1, .int _), (2, .int _)]) ?_ rfl
      refine sw_goto 25 4 C dX2_sumOfBribes_25 (by decide) ?_
      exact sw_loc (ih (i + 1) (by omega) (by omega) _ _ rfl (nI_1 i)) rfl
set_option maxHeartbeats 4000000 in
set_option maxRecDepth 100000 in
theorem ct_X2_loudestRank (l : Launch) {D : va_G} {cI cJ cQ : ClassId} {a0 a1 n : Nat} {f : Nat → Int32} (hn : n ≤ 40) : Ct l yX2_loudestRank (Cond.code yX2_loudestRank cX2_loudestRank 3 (some .int)) 1 22 0 0 D (tyz cI cJ cQ) [.ref a0] (wPet a0 a1 cI n f) (pstI (ldr f n) (wPet a0 a1 cI n f)) := by
  refine Ct.of RX2 (by decide) rfl (Nat.le_of_ble_eq_true rfl) ?_
  intro p e s m below meth c A C RC
  refine sw_iconst 0 C dX2_loudestRank_0 (-1) (by decide) ?_
  refine sw_istore_n 1 1 C dX2_loudestRank_1 rfl rfl ?_
  refine sw_iconst 2 C dX2_loudestRank_2 0 (by decide) ?_
  refine sw_istore_n 3 2 C dX2_loudestRank_3 rfl rfl ?_
  exact lp_X2_loudestRank hn C RC (n + 1) 0 (Nat.zero_le _) (by omega) _ _ rfl rfl
set_option maxHeartbeats 4000000 in
set_option maxRecDepth 100000 in
theorem ct_X2_sumOfBribes (l : Launch) {D : va_G} {cI cJ cQ : ClassId} {a0 a1 n : Nat} {f : Nat → Int32} (hn : n ≤ 40) : Ct l yX2_sumOfBribes (Cond.code yX2_sumOfBribes cX2_sumOfBribes 3 (some .int)) 1 22 0 0 D (tyz cI cJ cQ) [.ref a0] (wPet a0 a1 cI n f) (pstI (smb f n) (wPet a0 a1 cI n f)) := by
  refine Ct.of RX2 (by decide) rfl (Nat.le_of_ble_eq_true rfl) ?_
  intro p e s m below meth c A C RC
  refine sw_iconst 0 C dX2_sumOfBribes_0 0 (by decide) ?_
  refine sw_istore_n 1 1 C dX2_sumOfBribes_1 rfl rfl ?_
  refine sw_iconst 2 C dX2_sumOfBribes_2 0 (by decide) ?_
  refine sw_istore_n 3 2 C dX2_sumOfBribes_3 rfl rfl ?_
  exact lp_X2_sumOfBribes hn C RC (n + 1) 0 (Nat.zero_le _) (by omega) _ _ rfl rfl
end
section
set_option maxHeartbeats 4000000 in
set_option maxRecDepth 100000 in
theorem frs_a {f : Nat → Int32} {i : Nat} (h : oI (frs f i) = -1) (hi : i ≤ 40) : nI i = oI (frs f (i + 1)) := by
  unfold frs
  cases hq : frs f i with
  | none => rfl
  | some j =>
    rw [hq] at h
    exact absurd h (i32_ne_m1 (by have := frs_lt f i j hq; omega))
theorem frs_b {f : Nat → Int32} {i j : Nat} (h : frs f i = some j) (hb : bfr f i j = false) : oI (frs f i) = oI (frs f (i + 1)) := by
  conv => rhs; unfold frs
  rw [h]
  dsimp only
  rw [if_neg (by rw [hb]; decide)]
theorem frs_c {f : Nat → Int32} {i j : Nat} (h : frs f i = some j) (hb : bfr f i j = true) : nI i = oI (frs f (i + 1)) := by
  conv => rhs; unfold frs
  rw [h]
  dsimp only
  rw [if_pos hb]
  rfl
set_option maxHeartbeats 4000000 in
set_option maxRecDepth 100000 in
theorem lp_X2_firstRow {l : Launch} {p : Program} {e : Env} {s : State} {m : MethodId} {args : Array Value} {below : List Frame} {meth : Method} {c : Code} {A : Nat → Prop} {D : va_G} {cI cJ cQ : ClassId} {a0 a1 n : Nat} {f : Nat → Int32} (hn : n ≤ 40) (C : CC p s m args c cX2_firstRow 3 RX2 (Cond.code yX2_firstRow cX2_firstRow 3 (some .int) :: lw_all) D (tyz cI cJ cQ) A s.heap) (RC : meth.sig.returnType = (some .int) ∧ meth.locks = false ∧ meth.name = yX2_firstRow.name) : ∀ (fu i : Nat), i ≤ n → n + 1 ≤ i + fu →  ∀ (xa : Int32) (xi : Int32), (xa = oI (frs f i)) → (xi = nI i) →  sw p l e ({ frames := 2, cells := 0, slots := 0, locals := 48 } : Room) s m args below meth c D A s.heap 3 0 0 (MQ below (ctQ D (tyz cI cJ cQ) A (pstI (oI (frs f n)) (wPet a0 a1 cI n f))) args s 0 0 A) (wPet a0 a1 cI n f) 4 [(0, .ref a0), (1, .int xa), (2, .int xi)] [] := by
  intro fu
  induction fu with
  | zero => intro i h1 h2; exact absurd h2 (by omega)
  | succ fu ih =>
    intro i hi hf  xa xi exa exi
    subst exa exi
    refine sw_iload_n 4 2 C dX2_firstRow_4 rfl rfl ?_
    refine sw_aload_n 5 0 C dX2_firstRow_5 rfl rfl ?_
    refine sw_get 6 0 0 C dX2_firstRow_6 rfl rfl (inA lwX2) (C.w wF_X2_15) rfl rfl rfl ?_
    refine sw_icmp_ge 9 34 C dX2_firstRow_9 (by decide) (fun c_9 => ?_) (fun c_9 => ?_)
    · refine sw_iload_n 34 1 C dX2_firstRow_34 rfl rfl ?_
      refine sw_iret 35 C RC dX2_firstRow_35 ?_
      exact ⟨by rw [show i = n by have := nI_ge' (by omega) c_9 (by omega); omega], rfl⟩
    · have hlt : i < n := by
        rcases Nat.lt_or_ge i n with q | q
        · exact q
        · exact absurd (nI_le q (by omega)) c_9
      refine sw_iload_n 12 1 C dX2_firstRow_12 rfl rfl ?_
      refine sw_iconst 13 C dX2_firstRow_13 (-1) (by decide) ?_
      refine sw_icmp_eq 14 26 C dX2_firstRow_14 (by decide) (fun c_14 => ?_) (fun c_14 => ?_)
      · refine sw_iload_n 26 2 C dX2_firstRow_26 rfl rfl ?_
        refine sw_istore_n 27 1 C dX2_firstRow_27 rfl rfl ?_
        refine sw_iinc 28 C 1 dX2_firstRow_28 (by decide) rfl rfl ?_
        refine sw_loc (L1 := [(0, .ref _), (1, .int _), (2, .int _)]) ?_ rfl
        refine sw_goto 31 4 C dX2_firstRow_31 (by decide) ?_
        exact sw_loc (ih (i + 1) (by omega) (by omega) _ _ (frs_a c_14 (by omega)) (nI_1 i)) rfl
      · obtain ⟨j, hj⟩ : ∃ j, frs f i = some j := by
          cases hq : frs f i with
          | none => rw [hq] at c_14; exact absurd rfl c_14
          | some j => exact ⟨j, rfl⟩
        have hji : j < i := frs_lt f i j hj
        refine sw_aload_n 17 0 C dX2_firstRow_17 rfl rfl ?_
        refine sw_iload_n 18 2 C dX2_firstRow_18 rfl rfl ?_
        refine sw_iload_n 19 1 C dX2_firstRow_19 rfl rfl ?_
        refine sw_callVIP 20 [0, 1] 2 C dX2_firstRow_20 (ct_X2_isBefore l i j rfl (by rw [hj]; rfl) (by omega) (by omega) (by omega)) wK_X2_isBefore wM_X2_40 wN_X2_isBefore wS_X2_X2_isBefore wI_X2 hd_X2_isBefore rfl rfl rfl ⟨rfl, rfl⟩ ⟨Nat.le_of_ble_eq_true rfl, Nat.le_of_ble_eq_true rfl⟩ rfl rfl rfl rfl ?_
        refine sw_if_eq 23 28 C dX2_firstRow_23 (by decide) (fun c_23 => ?_) (fun c_23 => ?_)
        · refine sw_iinc 28 C 1 dX2_firstRow_28 (by decide) rfl rfl ?_
          refine sw_goto 31 4 C dX2_firstRow_31 (by decide) ?_
          exact sw_loc (ih (i + 1) (by omega) (by omega) _ _ (frs_b hj (bI_f c_23)) (nI_1 i)) rfl
        · refine sw_iload_n 26 2 C dX2_firstRow_26 rfl rfl ?_
          refine sw_istore_n 27 1 C dX2_firstRow_27 rfl rfl ?_
          refine sw_iinc 28 C 1 dX2_firstRow_28 (by decide) rfl rfl ?_
          refine sw_loc (L1 := [(0, .ref _), (1, .int _), (2, .int _)]) ?_ rfl
          refine sw_goto 31 4 C dX2_firstRow_31 (by decide) ?_
          exact sw_loc (ih (i + 1) (by omega) (by omega) _ _ (frs_c hj (bI_t c_23)) (nI_1 i)) rfl
set_option maxHeartbeats 4000000 in
set_option maxRecDepth 100000 in
theorem ct_X2_firstRow (l : Launch) {D : va_G} {cI cJ cQ : ClassId} {a0 a1 n : Nat} {f : Nat → Int32} (hn : n ≤ 40) : Ct l yX2_firstRow (Cond.code yX2_firstRow cX2_firstRow 3 (some .int)) 2 48 0 0 D (tyz cI cJ cQ) [.ref a0] (wPet a0 a1 cI n f) (pstI (oI (frs f n)) (wPet a0 a1 cI n f)) := by
  refine Ct.of RX2 (by decide) rfl (Nat.le_of_ble_eq_true rfl) ?_
  intro p e s m below meth c A C RC
  refine sw_iconst 0 C dX2_firstRow_0 (-1) (by decide) ?_
  refine sw_istore_n 1 1 C dX2_firstRow_1 rfl rfl ?_
  refine sw_iconst 2 C dX2_firstRow_2 0 (by decide) ?_
  refine sw_istore_n 3 2 C dX2_firstRow_3 rfl rfl ?_
  exact lp_X2_firstRow hn C RC (n + 1) 0 (Nat.zero_le _) (by omega) _ _ rfl rfl
set_option maxHeartbeats 4000000 in
set_option maxRecDepth 100000 in
theorem ct_X2_tell (l : Launch) {D : va_G} {cI cJ cQ : ClassId} {a0 a1 n : Nat} {f : Nat → Int32} {x1 x2 : Int32} (i w : Nat) (h1 : x1 = nI i) (h2 : x2 = nI w) (hi : i < n) (hw : w ≤ 9) (hn : n ≤ 40) : Ct l yX2_tell (Cond.code yX2_tell cX2_tell 3 (some .int)) 3 71 0 0 D (tyz cI cJ cQ) [.ref a0, .int x1, .int x2] (wPet a0 a1 cI n f) (pstI (tel f n i w) (wPet a0 a1 cI n f)) := by
  refine Ct.of RX2 (by decide) rfl (Nat.le_of_ble_eq_true rfl) ?_
  intro p e s m below meth c A C RC
  subst h1 h2
  refine sw_iload_n 0 2 C dX2_tell_0 rfl rfl ?_
  by_cases e_1_7 : w = 7
  · refine sw_tblIn 1 28 C 0 dX2_tell_1 (by rw [e_1_7]; decide) (by decide) rfl (by decide) ?_
    refine sw_aload_n 28 0 C dX2_tell_28 rfl rfl ?_
    refine sw_iload_n 29 1 C dX2_tell_29 rfl rfl ?_
    refine sw_iconst 30 C dX2_tell_30 5 (by decide) ?_
    refine sw_callVIP 31 [0, 1] 2 C dX2_tell_31 (ct_X2_at l (i) 5 rfl rfl (by omega) (by decide) (by omega)) wK_X2_at wM_X2_29 wN_X2_at wS_X2_X2_at wI_X2 hd_X2_at rfl rfl rfl ⟨rfl, rfl⟩ ⟨Nat.le_of_ble_eq_true rfl, Nat.le_of_ble_eq_true rfl⟩ rfl rfl rfl rfl ?_
    refine sw_aload_n 34 0 C dX2_tell_34 rfl rfl ?_
    refine sw_iload_n 35 1 C dX2_tell_35 rfl rfl ?_
    refine sw_iconst 36 C dX2_tell_36 3 (by decide) ?_
    refine sw_callVIP 37 [0, 1] 2 C dX2_tell_37 (ct_X2_at l (i) 3 rfl rfl (by omega) (by decide) (by omega)) wK_X2_at wM_X2_29 wN_X2_at wS_X2_X2_at wI_X2 hd_X2_at rfl rfl rfl ⟨rfl, rfl⟩ ⟨Nat.le_of_ble_eq_true rfl, Nat.le_of_ble_eq_true rfl⟩ rfl rfl rfl rfl ?_
    refine sw_isub 40 C dX2_tell_40 ?_
    refine sw_iret 41 C RC dX2_tell_41 ?_
    exact ⟨by simp [tel, e_1_7], rfl⟩
  by_cases e_1_8 : w = 8
  · refine sw_tblIn 1 42 C 1 dX2_tell_1 (by rw [e_1_8]; decide) (by decide) rfl (by decide) ?_
    refine sw_aload_n 42 0 C dX2_tell_42 rfl rfl ?_
    refine sw_iload_n 43 1 C dX2_tell_43 rfl rfl ?_
    refine sw_callVIP 44 [0, 1] 1 C dX2_tell_44 (ct_X2_countBefore l i rfl hi hn) wK_X2_countBefore wM_X2_33 wN_X2_countBefore wS_X2_X2_countBefore wI_X2 hd_X2_countBefore rfl rfl rfl ⟨rfl, rfl⟩ ⟨Nat.le_of_ble_eq_true rfl, Nat.le_of_ble_eq_true rfl⟩ rfl rfl rfl rfl ?_
    refine sw_iret 47 C RC dX2_tell_47 ?_
    exact ⟨by simp [tel, e_1_8], rfl⟩
  by_cases e_1_9 : w = 9
  · refine sw_tblIn 1 48 C 2 dX2_tell_1 (by rw [e_1_9]; decide) (by decide) rfl (by decide) ?_
    refine sw_aload_n 48 0 C dX2_tell_48 rfl rfl ?_
    refine sw_iload_n 49 1 C dX2_tell_49 rfl rfl ?_
    refine sw_callVIP 50 [0, 1] 1 C dX2_tell_50 (ct_X2_kindOf l i rfl hi hn) wK_X2_kindOf wM_X2_37 wN_X2_kindOf wS_X2_X2_kindOf wI_X2 hd_X2_kindOf rfl rfl rfl ⟨rfl, rfl⟩ ⟨Nat.le_of_ble_eq_true rfl, Nat.le_of_ble_eq_true rfl⟩ rfl rfl rfl rfl ?_
    refine sw_iret 53 C RC dX2_tell_53 ?_
    exact ⟨by simp [tel, e_1_9], rfl⟩
  refine sw_tblOut 1 54 C dX2_tell_1 (by rw [nI_toInt (by omega)]; omega) (by decide) ?_
  refine sw_aload_n 54 0 C dX2_tell_54 rfl rfl ?_
  refine sw_iload_n 55 1 C dX2_tell_55 rfl rfl ?_
  refine sw_iload_n 56 2 C dX2_tell_56 rfl rfl ?_
  refine sw_callVIP 57 [0, 1] 2 C dX2_tell_57 (ct_X2_at l i w rfl rfl hi (by omega) hn) wK_X2_at wM_X2_29 wN_X2_at wS_X2_X2_at wI_X2 hd_X2_at rfl rfl rfl ⟨rfl, rfl⟩ ⟨Nat.le_of_ble_eq_true rfl, Nat.le_of_ble_eq_true rfl⟩ rfl rfl rfl rfl ?_
  refine sw_iret 60 C RC dX2_tell_60 ?_
  exact ⟨by simp [tel, e_1_7, e_1_8, e_1_9], rfl⟩
set_option maxHeartbeats 4000000 in
set_option maxRecDepth 100000 in
theorem lp_X2_arrange {l : Launch} {p : Program} {e : Env} {s : State} {m : MethodId} {args : Array Value} {below : List Frame} {meth : Method} {c : Code} {A : Nat → Prop} {D : va_G} {cI cJ cQ : ClassId} {a0 a1 a2 n : Nat} {f g : Nat → Int32} (hn : n ≤ 40) (C : CC p s m args c cX2_arrange 4 RX2 (Cond.code yX2_arrange cX2_arrange 4 none :: lw_all) D (tyz cI cJ cQ) A s.heap) (RC : meth.sig.returnType = none ∧ meth.locks = false ∧ meth.name = yX2_arrange.name) : ∀ (fu i : Nat), i ≤ n → n + 1 ≤ i + fu →  ∀ (xi : Int32), (xi = nI i) →  sw p l e ({ frames := 3, cells := 0, slots := 0, locals := 71 } : Room) s m args below meth c D A s.heap 4 0 0 (MQ below (ctQ D (tyz cI cJ cQ) A (pstV [(a0, .inr (2, [.int (nI n), .ref a1])), (a1, .inl (cI, 320, .inl f)), (a2, .inl (cI, 40, .inl (arrg f n g n)))])) args s 0 0 A) [(a0, .inr (2, [.int (nI n), .ref a1])), (a1, .inl (cI, 320, .inl f)), (a2, .inl (cI, 40, .inl (arrg f n g i)))] 2 [(0, .ref a0), (1, .ref a2), (2, .int xi)] [] := by
  intro fu
  induction fu with
  | zero => intro i h1 h2; exact absurd h2 (by omega)
  | succ fu ih =>
    intro i hi hf  xi exi
    subst exi
    refine sw_iload_n 2 2 C dX2_arrange_2 rfl rfl ?_
    refine sw_aload_n 3 0 C dX2_arrange_3 rfl rfl ?_
    refine sw_get 4 0 0 C dX2_arrange_4 rfl rfl (inA lwX2) (C.w wF_X2_15) rfl rfl rfl ?_
    refine sw_icmp_ge 7 32 C dX2_arrange_7 (by decide) (fun c_7 => ?_) (fun c_7 => ?_)
    · refine sw_vret 32 C RC dX2_arrange_32 ?_
      exact ⟨rfl, by rw [show i = n by have := nI_ge' (by omega) c_7 (by omega); omega]⟩
    · have hlt : i < n := by
        rcases Nat.lt_or_ge i n with q | q
        · exact q
        · exact absurd (nI_le q (by omega)) c_7
      refine sw_aload_n 10 0 C dX2_arrange_10 rfl rfl ?_
      refine sw_iload_n 11 2 C dX2_arrange_11 rfl rfl ?_
      refine sw_callVIP 12 [0, 1] 1 C dX2_arrange_12 (ct_X2_countBefore l i rfl hlt hn) wK_X2_countBefore wM_X2_33 wN_X2_countBefore wS_X2_X2_countBefore wI_X2 hd_X2_countBefore rfl rfl rfl ⟨rfl, rfl⟩ ⟨Nat.le_of_ble_eq_true rfl, Nat.le_of_ble_eq_true rfl⟩ rfl rfl rfl rfl ?_
      refine sw_istore_n 15 3 C dX2_arrange_15 rfl rfl ?_
      refine sw_iload_n 16 3 C dX2_arrange_16 rfl rfl ?_
      refine sw_aload_n 17 1 C dX2_arrange_17 rfl rfl ?_
      refine sw_alen 18 2 0 C 40 dX2_arrange_18 rfl rfl rfl ?_
      refine sw_icmp_ge 19 26 C dX2_arrange_19 (by decide) (fun c_19 => ?_) (fun c_19 => ?_)
      · exact by first | exact absurd c_19 (nI_ge (Nat.lt_of_lt_of_le (cbf_lt hlt) hn) (by decide)) | exact absurd (nI_ge (Nat.lt_of_lt_of_le (cbf_lt hlt) hn) (by decide)) c_19
      refine sw_aload_n 22 1 C dX2_arrange_22 rfl rfl ?_
      refine sw_iload_n 23 3 C dX2_arrange_23 rfl rfl ?_
      refine sw_iload_n 24 2 C dX2_arrange_24 rfl rfl ?_
      refine sw_iastN 25 2 0 (cbf f n i) C dX2_arrange_25 rfl (Nat.lt_of_lt_of_le (cbf_lt hlt) hn) rfl rfl rfl ?_
      refine sw_ws [(_, .inr (2, [.int _, .ref _])), (_, .inl (_, _, .inl _)), (_, .inl (_, _, .inl _))] rfl ?_
      refine sw_iinc 26 C 1 dX2_arrange_26 (by decide) rfl rfl ?_
      refine sw_loc (L1 := [(0, .ref _), (1, .ref _), (2, .int _), (3, .int _)]) ?_ rfl
      refine sw_goto 29 2 C dX2_arrange_29 (by decide) ?_
      exact sw_loc (ih (i + 1) (by omega) (by omega) _ (nI_1 i)) rfl
set_option maxHeartbeats 4000000 in
set_option maxRecDepth 100000 in
theorem ct_X2_arrange (l : Launch) {D : va_G} {cI cJ cQ : ClassId} {a0 a1 a2 n : Nat} {f g : Nat → Int32} (hn : n ≤ 40) : Ct l yX2_arrange (Cond.code yX2_arrange cX2_arrange 4 none) 3 71 0 0 D (tyz cI cJ cQ) [.ref a0, .ref a2] [(a0, .inr (2, [.int (nI n), .ref a1])), (a1, .inl (cI, 320, .inl f)), (a2, .inl (cI, 40, .inl (g)))] (pstV [(a0, .inr (2, [.int (nI n), .ref a1])), (a1, .inl (cI, 320, .inl f)), (a2, .inl (cI, 40, .inl (arrg f n g n)))]) := by
  refine Ct.of RX2 (by decide) rfl (Nat.le_of_ble_eq_true rfl) ?_
  intro p e s m below meth c A C RC
  refine sw_iconst 0 C dX2_arrange_0 0 (by decide) ?_
  refine sw_istore_n 1 2 C dX2_arrange_1 rfl rfl ?_
  exact lp_X2_arrange hn C RC (n + 1) 0 (Nat.zero_le _) (by omega) _ rfl
theorem fnd_no {f : Nat → Int32} {x : Int32} {i : Nat} (h : fnd f x i = none) (hc : ¬ f (i * 8 + 7) = x) : fnd f x (i + 1) = none := by
  unfold fnd
  rw [h]
  exact if_neg hc
theorem fnd_yes {f : Nat → Int32} {x : Int32} {i n : Nat} (h : fnd f x i = none) (hc : f (i * 8 + 7) = x) (hn : i < n) : fnd f x n = some i := by
  have e : fnd f x (i + 1) = some i := by
    unfold fnd
    rw [h]
    exact if_pos hc
  have := fnd_up e (n - (i + 1))
  rwa [show i + 1 + (n - (i + 1)) = n by omega] at this
set_option maxHeartbeats 4000000 in
set_option maxRecDepth 100000 in
theorem lp_X2_rowOf {l : Launch} {p : Program} {e : Env} {s : State} {m : MethodId} {args : Array Value} {below : List Frame} {meth : Method} {c : Code} {A : Nat → Prop} {D : va_G} {cI cJ cQ : ClassId} {a0 a1 n : Nat} {f : Nat → Int32} {x : Int32} (hn : n ≤ 40) (C : CC p s m args c cX2_rowOf 3 RX2 (Cond.code yX2_rowOf cX2_rowOf 3 (some .int) :: lw_all) D (tyz cI cJ cQ) A s.heap) (RC : meth.sig.returnType = (some .int) ∧ meth.locks = false ∧ meth.name = yX2_rowOf.name) : ∀ (fu i : Nat), i ≤ n → n + 1 ≤ i + fu → fnd f x i = none → ∀ (xi : Int32), (xi = nI i) →  sw p l e ({ frames := 1, cells := 0, slots := 0, locals := 22 } : Room) s m args below meth c D A s.heap 3 0 0 (MQ below (ctQ D (tyz cI cJ cQ) A (pstI (oI (fnd f x n)) (wPet a0 a1 cI n f))) args s 0 0 A) (wPet a0 a1 cI n f) 2 [(0, .ref a0), (1, .int x), (2, .int xi)] [] := by
  intro fu
  induction fu with
  | zero => intro i h1 h2; exact absurd h2 (by omega)
  | succ fu ih =>
    intro i hi hf hno xi exi
    subst exi
    refine sw_iload_n 2 2 C dX2_rowOf_2 rfl rfl ?_
    refine sw_aload_n 3 0 C dX2_rowOf_3 rfl rfl ?_
    refine sw_get 4 0 0 C dX2_rowOf_4 rfl rfl (inA lwX2) (C.w wF_X2_15) rfl rfl rfl ?_
    refine sw_icmp_ge 7 29 C dX2_rowOf_7 (by decide) (fun c_7 => ?_) (fun c_7 => ?_)
    · refine sw_iconst 29 C dX2_rowOf_29 (-1) (by decide) ?_
      refine sw_iret 30 C RC dX2_rowOf_30 ?_
      exact ⟨by rw [show i = n by have := nI_ge' (by omega) c_7 (by omega); omega] at hno; rw [hno]; rfl, rfl⟩
    · have hlt : i < n := by
        rcases Nat.lt_or_ge i n with q | q
        · exact q
        · exact absurd (nI_le q (by omega)) c_7
      refine sw_aload_n 10 0 C dX2_rowOf_10 rfl rfl ?_
      refine sw_iload_n 11 2 C dX2_rowOf_11 rfl rfl ?_
      refine sw_bipush 12 C dX2_rowOf_12 7 (by decide) ?_
      refine sw_callVIP 14 [0, 1] 2 C dX2_rowOf_14 (ct_X2_at l (i) 7 rfl rfl (by omega) (by decide) (by omega)) wK_X2_at wM_X2_29 wN_X2_at wS_X2_X2_at wI_X2 hd_X2_at rfl rfl rfl ⟨rfl, rfl⟩ ⟨Nat.le_of_ble_eq_true rfl, Nat.le_of_ble_eq_true rfl⟩ rfl rfl rfl rfl ?_
      refine sw_iload_n 17 1 C dX2_rowOf_17 rfl rfl ?_
      refine sw_icmp_ne 18 23 C dX2_rowOf_18 (by decide) (fun c_18 => ?_) (fun c_18 => ?_)
      · refine sw_iinc 23 C 1 dX2_rowOf_23 (by decide) rfl rfl ?_
        refine sw_goto 26 2 C dX2_rowOf_26 (by decide) ?_
        exact sw_loc (ih (i + 1) (by omega) (by omega) (fnd_no hno c_18) _ (nI_1 i)) rfl
      · refine sw_iload_n 21 2 C dX2_rowOf_21 rfl rfl ?_
        refine sw_iret 22 C RC dX2_rowOf_22 ?_
        exact ⟨by rw [fnd_yes hno c_18 hlt]; rfl, rfl⟩
set_option maxHeartbeats 4000000 in
set_option maxRecDepth 100000 in
theorem ct_X2_rowOf (l : Launch) {D : va_G} {cI cJ cQ : ClassId} {a0 a1 n : Nat} {f : Nat → Int32} {x : Int32} (hn : n ≤ 40) : Ct l yX2_rowOf (Cond.code yX2_rowOf cX2_rowOf 3 (some .int)) 1 22 0 0 D (tyz cI cJ cQ) [.ref a0, .int x] (wPet a0 a1 cI n f) (pstI (oI (fnd f x n)) (wPet a0 a1 cI n f)) := by
  refine Ct.of RX2 (by decide) rfl (Nat.le_of_ble_eq_true rfl) ?_
  intro p e s m below meth c A C RC
  refine sw_iconst 0 C dX2_rowOf_0 0 (by decide) ?_
  refine sw_istore_n 1 2 C dX2_rowOf_1 rfl rfl ?_
  exact lp_X2_rowOf hn C RC (n + 1) 0 (Nat.zero_le _) (by omega) rfl _ rfl
set_option maxHeartbeats 4000000 in
set_option maxRecDepth 100000 in
theorem lp_X2_addRow {l : Launch} {p : Program} {e : Env} {s : State} {m : MethodId} {args : Array Value} {below : List Frame} {meth : Method} {c : Code} {A : Nat → Prop} {D : va_G} {cI cJ cQ : ClassId} {a0 a1 n : Nat} {f : Nat → Int32} (hn : n < 40) (C : CC p s m args c cX2_addRow 3 RX2 (Cond.code yX2_addRow cX2_addRow 3 (some .int) :: lw_all) D (tyz cI cJ cQ) A s.heap) (RC : meth.sig.returnType = (some .int) ∧ meth.locks = false ∧ meth.name = yX2_addRow.name) : ∀ (fu i : Nat), i ≤ 8 → 8 + 1 ≤ i + fu →  ∀ (xi : Int32), (xi = nI i) →  sw p l e ({ frames := 1, cells := 0, slots := 0, locals := 23 } : Room) s m args below meth c D A s.heap 3 0 0 (MQ below (ctQ D (tyz cI cJ cQ) A (pstI (nI n) (wPet a0 a1 cI (n + 1) (zrr f n 8)))) args s 0 0 A) (wPet a0 a1 cI (n + 1) (zrr f n i)) 28 [(0, .ref a0), (1, .int (nI n)), (2, .int xi)] [] := by
  intro fu
  induction fu with
  | zero => intro i h1 h2; exact absurd h2 (by omega)
  | succ fu ih =>
    intro i hi hf  xi exi
    subst exi
    refine sw_iload_n 28 2 C dX2_addRow_28 rfl rfl ?_
    refine sw_bipush 29 C dX2_addRow_29 8 (by decide) ?_
    refine sw_icmp_ge 31 47 C dX2_addRow_31 (by decide) (fun c_31 => ?_) (fun c_31 => ?_)
    · refine sw_iload_n 47 1 C dX2_addRow_47 rfl rfl ?_
      refine sw_iret 48 C RC dX2_addRow_48 ?_
      exact ⟨rfl, by rw [show i = 8 by have := nI_ge' (by omega) (b := 8) c_31 (by omega); omega]⟩
    · have hlt : i < 8 := by
        rcases Nat.lt_or_ge i 8 with q | q
        · exact q
        · exact absurd (nI_le q (by omega)) c_31
      refine sw_aload_n 34 0 C dX2_addRow_34 rfl rfl ?_
      refine sw_iload_n 35 1 C dX2_addRow_35 rfl rfl ?_
      refine sw_iload_n 36 2 C dX2_addRow_36 rfl rfl ?_
      refine sw_iconst 37 C dX2_addRow_37 0 (by decide) ?_
      refine sw_callVV 38 [0, 1] 3 C dX2_addRow_38 (ct_X2_set l n i rfl rfl (by omega) hlt (by omega)) wK_X2_set wM_X2_19 wN_X2_set wS_X2_X2_set wI_X2 hd_X2_set rfl rfl rfl ⟨rfl, rfl⟩ ⟨Nat.le_of_ble_eq_true rfl, Nat.le_of_ble_eq_true rfl⟩ rfl rfl rfl rfl rfl ?_
      refine sw_ws [(_, .inr (2, [.int _, .ref _])), (_, .inl (_, _, .inl _))] rfl ?_
      refine sw_iinc 41 C 1 dX2_addRow_41 (by decide) rfl rfl ?_
      refine sw_goto 44 28 C dX2_addRow_44 (by decide) ?_
      refine sw_ws (wPet a0 a1 cI (n + 1) (zrr f n (i + 1))) (by rw [← zrr_s]) ?_
      exact sw_loc (ih (i + 1) (by omega) (by omega) _ (nI_1 i)) rfl
set_option maxHeartbeats 4000000 in
set_option maxRecDepth 100000 in
theorem ct_X2_addRow (l : Launch) {D : va_G} {cI cJ cQ : ClassId} {a0 a1 n : Nat} {f : Nat → Int32} (hn : n < 40) : Ct l yX2_addRow (Cond.code yX2_addRow cX2_addRow 3 (some .int)) 1 23 0 0 D (tyz cI cJ cQ) [.ref a0] (wPet a0 a1 cI n f) (pstI (nI n) (wPet a0 a1 cI (n + 1) (zrr f n 8))) := by
  refine Ct.of RX2 (by decide) rfl (Nat.le_of_ble_eq_true rfl) ?_
  intro p e s m below meth c A C RC
  refine sw_aload_n 0 0 C dX2_addRow_0 rfl rfl ?_
  refine sw_get 1 0 0 C dX2_addRow_1 rfl rfl (inA lwX2) (C.w wF_X2_15) rfl rfl rfl ?_
  refine sw_bipush 4 C dX2_addRow_4 40 (by decide) ?_
  refine sw_icmp_lt 6 11 C dX2_addRow_6 (by decide) (fun c_6 => ?_) (fun c_6 => ?_)
  rotate_left
  · exact by first | exact absurd c_6 (nI_lt hn (by decide)) | exact absurd (nI_lt hn (by decide)) c_6
  refine sw_aload_n 11 0 C dX2_addRow_11 rfl rfl ?_
  refine sw_get 12 0 0 C dX2_addRow_12 rfl rfl (inA lwX2) (C.w wF_X2_15) rfl rfl rfl ?_
  refine sw_istore_n 15 1 C dX2_addRow_15 rfl rfl ?_
  refine sw_aload_n 16 0 C dX2_addRow_16 rfl rfl ?_
  refine sw_dup 17 C dX2_addRow_17 rfl ?_
  refine sw_get 18 0 0 C dX2_addRow_18 rfl rfl (inA lwX2) (C.w wF_X2_15) rfl rfl rfl ?_
  refine sw_iconst 21 C dX2_addRow_21 1 (by decide) ?_
  refine sw_iadd 22 C dX2_addRow_22 ?_
  refine sw_top (nI_1 n) ?_
  refine sw_put 23 0 0 tyX2 C dX2_addRow_23 rfl rfl (inA lwX2) tyX2_ok nmX2 (C.w wF_X2_15) rfl rfl rfl rfl rfl rfl rfl ?_
  refine sw_ws [(_, .inr (2, [.int _, .ref _])), (_, .inl (_, _, .inl _))] rfl ?_
  refine sw_iconst 26 C dX2_addRow_26 0 (by decide) ?_
  refine sw_istore_n 27 2 C dX2_addRow_27 rfl rfl ?_
  refine sw_ws (wPet a0 a1 cI (n + 1) (zrr f n 0)) (by rw [zrr_0]) ?_
  exact lp_X2_addRow hn C RC 9 0 (Nat.zero_le _) (by omega) _ rfl
set_option maxHeartbeats 4000000 in
set_option maxRecDepth 100000 in
theorem ct_X2_removeRow (l : Launch) {D : va_G} {cI cJ cQ : ClassId} {a0 a1 n : Nat} {f : Nat → Int32} {x1 : Int32} (i : Nat) (h1 : x1 = nI i) (hi : i < n) (hn : n ≤ 40) : Ct l yX2_removeRow (Cond.code yX2_removeRow cX2_removeRow 4 none) 1 20 0 0 D (tyz cI cJ cQ) [.ref a0, .int x1] (wPet a0 a1 cI n f) (pstV (wPet a0 a1 cI (n - 1) (rmv f n i))) := by
  refine Ct.of RX2 (by decide) rfl (Nat.le_of_ble_eq_true rfl) ?_
  intro p e s m below meth c A C RC
  subst h1
  refine sw_iload_n 0 1 C dX2_removeRow_0 rfl rfl ?_
  refine sw_if_lt 1 12 C dX2_removeRow_1 (by decide) (fun c_1 => ?_) (fun c_1 => ?_)
  · exact by first | exact absurd c_1 (nI_pos (by omega)) | exact absurd (nI_pos (by omega)) c_1
  refine sw_iload_n 4 1 C dX2_removeRow_4 rfl rfl ?_
  refine sw_aload_n 5 0 C dX2_removeRow_5 rfl rfl ?_
  refine sw_get 6 0 0 C dX2_removeRow_6 rfl rfl (inA lwX2) (C.w wF_X2_15) rfl rfl rfl ?_
  refine sw_icmp_lt 9 13 C dX2_removeRow_9 (by decide) (fun c_9 => ?_) (fun c_9 => ?_)
  rotate_left
  · exact by first | exact absurd c_9 (nI_lt hi (by omega)) | exact absurd (nI_lt hi (by omega)) c_9
  refine sw_iload_n 13 1 C dX2_removeRow_13 rfl rfl ?_
  refine sw_iconst 14 C dX2_removeRow_14 1 (by decide) ?_
  refine sw_iadd 15 C dX2_removeRow_15 ?_
  refine sw_bipush 16 C dX2_removeRow_16 8 (by decide) ?_
  refine sw_imul 18 C dX2_removeRow_18 ?_
  refine sw_istore_n 19 2 C dX2_removeRow_19 rfl rfl ?_
  refine sw_aload_n 20 0 C dX2_removeRow_20 rfl rfl ?_
  refine sw_get 21 0 0 C dX2_removeRow_21 rfl rfl (inA lwX2) (C.w wF_X2_15) rfl rfl rfl ?_
  refine sw_bipush 24 C dX2_removeRow_24 8 (by decide) ?_
  refine sw_imul 26 C dX2_removeRow_26 ?_
  refine sw_iload_n 27 2 C dX2_removeRow_27 rfl rfl ?_
  refine sw_isub 28 C dX2_removeRow_28 ?_
  refine sw_istore_n 29 3 C dX2_removeRow_29 rfl rfl ?_
  refine sw_loc (L1 := [(0, .ref _), (1, .int _), (2, .int _), (3, .int _)]) ?_ rfl
  refine sw_aload_n 30 0 C dX2_removeRow_30 rfl rfl ?_
  refine sw_get 31 0 1 C dX2_removeRow_31 rfl rfl (inA lwX2) (C.w wF_X2_9) rfl rfl rfl ?_
  refine sw_iload_n 34 2 C dX2_removeRow_34 rfl rfl ?_
  refine sw_aload_n 35 0 C dX2_removeRow_35 rfl rfl ?_
  refine sw_get 36 0 1 C dX2_removeRow_36 rfl rfl (inA lwX2) (C.w wF_X2_9) rfl rfl rfl ?_
  refine sw_iload_n 39 1 C dX2_removeRow_39 rfl rfl ?_
  refine sw_bipush 40 C dX2_removeRow_40 8 (by decide) ?_
  refine sw_imul 42 C dX2_removeRow_42 ?_
  refine sw_iload_n 43 3 C dX2_removeRow_43 rfl rfl ?_
  refine sw_copyN 44 1 1 0 ((i + 1) * 8) (i * 8) (n * 8 - (i + 1) * 8) C dX2_removeRow_44 (C.w wM_X2_23) (C.w wNat_J10_arraycopy__Ljava_lang_Object_ILjava_lang_Object_II_V) (C.w wT_J10_arraycopy__Ljava_lang_Object_ILjava_lang_Object_II_V) (C.w wI_J10) (by rw [nI_1, show (8 : Int32) = nI 8 from rfl, pk_mul]) (by rw [show (8 : Int32) = nI 8 from rfl, pk_mul]) (by rw [nI_1, show (8 : Int32) = nI 8 from rfl, pk_mul, pk_mul, pk_sub (by omega)]) (by omega) (by omega) rfl rfl (Nat.le_of_ble_eq_true rfl) (Nat.le_of_ble_eq_true rfl) rfl rfl rfl ?_
  refine sw_ws [(_, .inr (2, [.int _, .ref _])), (_, .inl (_, _, .inl _))] rfl ?_
  refine sw_aload_n 47 0 C dX2_removeRow_47 rfl rfl ?_
  refine sw_dup 48 C dX2_removeRow_48 rfl ?_
  refine sw_get 49 0 0 C dX2_removeRow_49 rfl rfl (inA lwX2) (C.w wF_X2_15) rfl rfl rfl ?_
  refine sw_iconst 52 C dX2_removeRow_52 1 (by decide) ?_
  refine sw_isub 53 C dX2_removeRow_53 ?_
  refine sw_top (show nI n - 1 = nI (n - 1) by rw [show (1 : Int32) = nI 1 from rfl, pk_sub (by omega)]) ?_
  refine sw_put 54 0 0 tyX2 C dX2_removeRow_54 rfl rfl (inA lwX2) tyX2_ok nmX2 (C.w wF_X2_15) rfl rfl rfl rfl rfl rfl rfl ?_
  refine sw_ws [(_, .inr (2, [.int _, .ref _])), (_, .inl (_, _, .inl _))] rfl ?_
  refine sw_vret 57 C RC dX2_removeRow_57 ?_
  exact ⟨rfl, rfl⟩
theorem va_cpy_all {f g : Nat → Int32} {n j : Nat} (h : j < n) : va_cpy f g 0 0 n j = f j := by
  unfold va_cpy
  rw [if_pos (by omega)]
  congr 1
  omega
set_option maxHeartbeats 4000000 in
set_option maxRecDepth 100000 in
theorem ct_X2_copyFrom (l : Launch) {D : va_G} {cI cJ cQ : ClassId} {a0 a1 b0 b1 : Nat} {f g : Nat → Int32} {x y : Int32} : Ct l yX2_copyFrom (Cond.code yX2_copyFrom cX2_copyFrom 2 none) 1 20 0 0 D (tyz cI cJ cQ) [.ref a0, .ref b0] [(a0, .inr (2, [.int (y), .ref a1])), (a1, .inl (cI, 320, .inl g)), (b0, .inr (2, [.int x, .ref b1])), (b1, .inl (cI, 320, .inl f))] (pstV [(a0, .inr (2, [.int (x), .ref a1])), (a1, .inl (cI, 320, .inl f)), (b0, .inr (2, [.int x, .ref b1])), (b1, .inl (cI, 320, .inl f))]) := by
  refine Ct.of RX2 (by decide) rfl (Nat.le_of_ble_eq_true rfl) ?_
  intro p e s m below meth c A C RC
  refine sw_aload_n 0 0 C dX2_copyFrom_0 rfl rfl ?_
  refine sw_aload_n 1 1 C dX2_copyFrom_1 rfl rfl ?_
  refine sw_get 2 2 0 C dX2_copyFrom_2 rfl rfl (inA lwX2) (C.w wF_X2_15) rfl rfl rfl ?_
  refine sw_put 5 0 0 tyX2 C dX2_copyFrom_5 rfl rfl (inA lwX2) tyX2_ok nmX2 (C.w wF_X2_15) rfl rfl rfl rfl rfl rfl rfl ?_
  refine sw_ws [(_, .inr (2, [.int _, .ref _])), (_, .inl (_, _, .inl _)), (_, .inr (2, [.int _, .ref _])), (_, .inl (_, _, .inl _))] rfl ?_
  refine sw_aload_n 8 1 C dX2_copyFrom_8 rfl rfl ?_
  refine sw_get 9 2 1 C dX2_copyFrom_9 rfl rfl (inA lwX2) (C.w wF_X2_9) rfl rfl rfl ?_
  refine sw_iconst 12 C dX2_copyFrom_12 0 (by decide) ?_
  refine sw_aload_n 13 0 C dX2_copyFrom_13 rfl rfl ?_
  refine sw_get 14 0 1 C dX2_copyFrom_14 rfl rfl (inA lwX2) (C.w wF_X2_9) rfl rfl rfl ?_
  refine sw_iconst 17 C dX2_copyFrom_17 0 (by decide) ?_
  refine sw_aload_n 18 0 C dX2_copyFrom_18 rfl rfl ?_
  refine sw_get 19 0 1 C dX2_copyFrom_19 rfl rfl (inA lwX2) (C.w wF_X2_9) rfl rfl rfl ?_
  refine sw_alen 22 1 0 C 320 dX2_copyFrom_22 rfl rfl rfl ?_
  refine sw_copyN 23 3 1 0 (0) (0) (320) C dX2_copyFrom_23 (C.w wM_X2_23) (C.w wNat_J10_arraycopy__Ljava_lang_Object_ILjava_lang_Object_II_V) (C.w wT_J10_arraycopy__Ljava_lang_Object_ILjava_lang_Object_II_V) (C.w wI_J10) rfl rfl rfl (by decide) (by decide) rfl rfl (Nat.le_of_ble_eq_true rfl) (Nat.le_of_ble_eq_true rfl) rfl rfl rfl ?_
  refine sw_ws [(_, .inr (2, [.int _, .ref _])), (_, .inl (_, _, .inl _)), (_, .inr (2, [.int _, .ref _])), (_, .inl (_, _, .inl _))] rfl ?_
  refine sw_arrEq 1 f rfl (fun j hj => va_cpy_all hj) ?_
  refine sw_vret 26 C RC dX2_copyFrom_26 ?_
  exact ⟨rfl, rfl⟩
end
section
theorem hd_X0_at : yX0_at.cls = RX0 ∧ yX0_at.cls ≠ "java/lang/invoke/MethodHandle" ∧ yX0_at.cls ≠ "java/lang/invoke/VarHandle" ∧ (parseMethodDescriptor yX0_at.desc).map (fun d => d.parameters.length) = some 2 := by decide +kernel
theorem hd_X0_add : yX0_add.cls = RX0 ∧ yX0_add.cls ≠ "java/lang/invoke/MethodHandle" ∧ yX0_add.cls ≠ "java/lang/invoke/VarHandle" ∧ (parseMethodDescriptor yX0_add.desc).map (fun d => d.parameters.length) = some 5 := by decide +kernel
theorem hd_X0_copyFrom : yX0_copyFrom.cls = RX0 ∧ yX0_copyFrom.cls ≠ "java/lang/invoke/MethodHandle" ∧ yX0_copyFrom.cls ≠ "java/lang/invoke/VarHandle" ∧ (parseMethodDescriptor yX0_copyFrom.desc).map (fun d => d.parameters.length) = some 1 := by decide +kernel
theorem hd_X5_at : yX5_at.cls = RX5 ∧ yX5_at.cls ≠ "java/lang/invoke/MethodHandle" ∧ yX5_at.cls ≠ "java/lang/invoke/VarHandle" ∧ (parseMethodDescriptor yX5_at.desc).map (fun d => d.parameters.length) = some 1 := by decide +kernel
theorem hd_X5_add : yX5_add.cls = RX5 ∧ yX5_add.cls ≠ "java/lang/invoke/MethodHandle" ∧ yX5_add.cls ≠ "java/lang/invoke/VarHandle" ∧ (parseMethodDescriptor yX5_add.desc).map (fun d => d.parameters.length) = some 1 := by decide +kernel
theorem hd_X4_copyFrom : yX4_copyFrom.cls = RX4 ∧ yX4_copyFrom.cls ≠ "java/lang/invoke/MethodHandle" ∧ yX4_copyFrom.cls ≠ "java/lang/invoke/VarHandle" ∧ (parseMethodDescriptor yX4_copyFrom.desc).map (fun d => d.parameters.length) = some 1 := by decide +kernel
theorem hd_X4_hasRoomFor : yX4_hasRoomFor.cls = RX4 ∧ yX4_hasRoomFor.cls ≠ "java/lang/invoke/MethodHandle" ∧ yX4_hasRoomFor.cls ≠ "java/lang/invoke/VarHandle" ∧ (parseMethodDescriptor yX4_hasRoomFor.desc).map (fun d => d.parameters.length) = some 2 := by decide +kernel
theorem hd_X4_quotaAllows : yX4_quotaAllows.cls = RX4 ∧ yX4_quotaAllows.cls ≠ "java/lang/invoke/MethodHandle" ∧ yX4_quotaAllows.cls ≠ "java/lang/invoke/VarHandle" ∧ (parseMethodDescriptor yX4_quotaAllows.desc).map (fun d => d.parameters.length) = some 1 := by decide +kernel
theorem hd_X4_putIn : yX4_putIn.cls = RX4 ∧ yX4_putIn.cls ≠ "java/lang/invoke/MethodHandle" ∧ yX4_putIn.cls ≠ "java/lang/invoke/VarHandle" ∧ (parseMethodDescriptor yX4_putIn.desc).map (fun d => d.parameters.length) = some 5 := by decide +kernel
theorem hd_X4_serveFirst : yX4_serveFirst.cls = RX4 ∧ yX4_serveFirst.cls ≠ "java/lang/invoke/MethodHandle" ∧ yX4_serveFirst.cls ≠ "java/lang/invoke/VarHandle" ∧ (parseMethodDescriptor yX4_serveFirst.desc).map (fun d => d.parameters.length) = some 0 := by decide +kernel
theorem hd_X4_letLeave : yX4_letLeave.cls = RX4 ∧ yX4_letLeave.cls ≠ "java/lang/invoke/MethodHandle" ∧ yX4_letLeave.cls ≠ "java/lang/invoke/VarHandle" ∧ (parseMethodDescriptor yX4_letLeave.desc).map (fun d => d.parameters.length) = some 2 := by decide +kernel
theorem hd_X4_bribeGivenBack : yX4_bribeGivenBack.cls = RX4 ∧ yX4_bribeGivenBack.cls ≠ "java/lang/invoke/MethodHandle" ∧ yX4_bribeGivenBack.cls ≠ "java/lang/invoke/VarHandle" ∧ (parseMethodDescriptor yX4_bribeGivenBack.desc).map (fun d => d.parameters.length) = some 2 := by decide +kernel
theorem hd_X4_hasTimeFor : yX4_hasTimeFor.cls = RX4 ∧ yX4_hasTimeFor.cls ≠ "java/lang/invoke/MethodHandle" ∧ yX4_hasTimeFor.cls ≠ "java/lang/invoke/VarHandle" ∧ (parseMethodDescriptor yX4_hasTimeFor.desc).map (fun d => d.parameters.length) = some 1 := by decide +kernel
theorem hd_X4_letPass : yX4_letPass.cls = RX4 ∧ yX4_letPass.cls ≠ "java/lang/invoke/MethodHandle" ∧ yX4_letPass.cls ≠ "java/lang/invoke/VarHandle" ∧ (parseMethodDescriptor yX4_letPass.desc).map (fun d => d.parameters.length) = some 1 := by decide +kernel
theorem hd_X4_letOneTickPass : yX4_letOneTickPass.cls = RX4 ∧ yX4_letOneTickPass.cls ≠ "java/lang/invoke/MethodHandle" ∧ yX4_letOneTickPass.cls ≠ "java/lang/invoke/VarHandle" ∧ (parseMethodDescriptor yX4_letOneTickPass.desc).map (fun d => d.parameters.length) = some 0 := by decide +kernel
theorem hd_X4_growOlder : yX4_growOlder.cls = RX4 ∧ yX4_growOlder.cls ≠ "java/lang/invoke/MethodHandle" ∧ yX4_growOlder.cls ≠ "java/lang/invoke/VarHandle" ∧ (parseMethodDescriptor yX4_growOlder.desc).map (fun d => d.parameters.length) = some 1 := by decide +kernel
theorem hd_X4_givenBackTo : yX4_givenBackTo.cls = RX4 ∧ yX4_givenBackTo.cls ≠ "java/lang/invoke/MethodHandle" ∧ yX4_givenBackTo.cls ≠ "java/lang/invoke/VarHandle" ∧ (parseMethodDescriptor yX4_givenBackTo.desc).map (fun d => d.parameters.length) = some 1 := by decide +kernel
theorem hd_X4_sumGivenBack : yX4_sumGivenBack.cls = RX4 ∧ yX4_sumGivenBack.cls ≠ "java/lang/invoke/MethodHandle" ∧ yX4_sumGivenBack.cls ≠ "java/lang/invoke/VarHandle" ∧ (parseMethodDescriptor yX4_sumGivenBack.desc).map (fun d => d.parameters.length) = some 0 := by decide +kernel
theorem hd_X4_leftBy : yX4_leftBy.cls = RX4 ∧ yX4_leftBy.cls ≠ "java/lang/invoke/MethodHandle" ∧ yX4_leftBy.cls ≠ "java/lang/invoke/VarHandle" ∧ (parseMethodDescriptor yX4_leftBy.desc).map (fun d => d.parameters.length) = some 1 := by decide +kernel
theorem hd_X4_figure : yX4_figure.cls = RX4 ∧ yX4_figure.cls ≠ "java/lang/invoke/MethodHandle" ∧ yX4_figure.cls ≠ "java/lang/invoke/VarHandle" ∧ (parseMethodDescriptor yX4_figure.desc).map (fun d => d.parameters.length) = some 1 := by decide +kernel
theorem hd_X3_add : yX3_add.cls = RX3 ∧ yX3_add.cls ≠ "java/lang/invoke/MethodHandle" ∧ yX3_add.cls ≠ "java/lang/invoke/VarHandle" ∧ (parseMethodDescriptor yX3_add.desc).map (fun d => d.parameters.length) = some 1 := by decide +kernel
theorem hd_X3_takeLatest : yX3_takeLatest.cls = RX3 ∧ yX3_takeLatest.cls ≠ "java/lang/invoke/MethodHandle" ∧ yX3_takeLatest.cls ≠ "java/lang/invoke/VarHandle" ∧ (parseMethodDescriptor yX3_takeLatest.desc).map (fun d => d.parameters.length) = some 1 := by decide +kernel
/-! Log: count c, cells g (5 an entry) -/
abbrev wLog (a0 a1 : Nat) (cI : ClassId) (c : Nat) (g : Nat → Int32) : va_W := [(a0, .inr (0, [.int (nI c), .ref a1])), (a1, .inl (cI, 80, .inl g))]
def lga (g : Nat → Int32) (x1 x2 x3 x4 x5 : Int32) : Nat → Int32 := upd (upd (upd (upd (upd (va_cpy g g 0 5 75) 0 x1) 1 x2) 2 x3) 3 x4) 4 x5
def lgc (c : Nat) : Nat := if c < 16 then c + 1 else c
set_option maxHeartbeats 4000000 in
set_option maxRecDepth 100000 in
theorem ct_X0_at (l : Launch) {D : va_G} {cI cJ cQ : ClassId} {a0 a1 n : Nat} {f : Nat → Int32} {x1 x2 : Int32} (i k : Nat) (h1 : x1 = nI i) (h2 : x2 = nI k) (hi : i < n) (hk : k < 5) (hn : n ≤ 16) : Ct l yX0_at (Cond.code yX0_at cX0_at 3 (some .int)) 0 0 0 0 D (tyz cI cJ cQ) [.ref a0, .int x1, .int x2] (wLog a0 a1 cI n f) (pstI (f (i * 5 + k)) (wLog a0 a1 cI n f)) := by
  refine Ct.of RX0 (by decide) rfl (Nat.le_of_ble_eq_true rfl) ?_
  intro p e s m below meth c A C RC
  subst h1 h2
  refine sw_iload_n 0 1 C dX0_at_0 rfl rfl ?_
  refine sw_if_lt 1 21 C dX0_at_1 (by decide) (fun c_1 => ?_) (fun c_1 => ?_)
  · exact by first | exact absurd c_1 (nI_pos (by omega)) | exact absurd (nI_pos (by omega)) c_1
  refine sw_iload_n 4 1 C dX0_at_4 rfl rfl ?_
  refine sw_aload_n 5 0 C dX0_at_5 rfl rfl ?_
  refine sw_get 6 0 0 C dX0_at_6 rfl rfl (inA lwX0) (C.w wF_X0_15) rfl rfl rfl ?_
  refine sw_icmp_ge 9 21 C dX0_at_9 (by decide) (fun c_9 => ?_) (fun c_9 => ?_)
  · exact by first | exact absurd c_9 (nI_ge hi (by omega)) | exact absurd (nI_ge hi (by omega)) c_9
  refine sw_iload_n 12 2 C dX0_at_12 rfl rfl ?_
  refine sw_if_lt 13 21 C dX0_at_13 (by decide) (fun c_13 => ?_) (fun c_13 => ?_)
  · exact by first | exact absurd c_13 (nI_pos (by omega)) | exact absurd (nI_pos (by omega)) c_13
  refine sw_iload_n 16 2 C dX0_at_16 rfl rfl ?_
  refine sw_iconst 17 C dX0_at_17 5 (by decide) ?_
  refine sw_icmp_lt 18 23 C dX0_at_18 (by decide) (fun c_18 => ?_) (fun c_18 => ?_)
  rotate_left
  · exact by first | exact absurd c_18 (nI_lt hk (by decide)) | exact absurd (nI_lt hk (by decide)) c_18
  refine sw_aload_n 23 0 C dX0_at_23 rfl rfl ?_
  refine sw_get 24 0 1 C dX0_at_24 rfl rfl (inA lwX0) (C.w wF_X0_9) rfl rfl rfl ?_
  refine sw_iload_n 27 1 C dX0_at_27 rfl rfl ?_
  refine sw_iconst 28 C dX0_at_28 5 (by decide) ?_
  refine sw_imul 29 C dX0_at_29 ?_
  refine sw_iload_n 30 2 C dX0_at_30 rfl rfl ?_
  refine sw_iadd 31 C dX0_at_31 ?_
  refine sw_ialdN 32 1 0 (i * 5 + k) C dX0_at_32 (by rw [show (5 : Int32) = nI 5 from rfl, pk_mul, nI_add]) (by omega) rfl rfl rfl ?_
  refine sw_iret 33 C RC dX0_at_33 ?_
  exact ⟨rfl, rfl⟩
set_option maxHeartbeats 4000000 in
set_option maxRecDepth 100000 in
theorem ct_X0_add (l : Launch) {D : va_G} {cI cJ cQ : ClassId} {a0 a1 n : Nat} {f : Nat → Int32} {x1 x2 x3 x4 x5 : Int32} (hn : n ≤ 16) : Ct l yX0_add (Cond.code yX0_add cX0_add 6 none) 1 20 0 0 D (tyz cI cJ cQ) [.ref a0, .int x1, .int x2, .int x3, .int x4, .int x5] (wLog a0 a1 cI n f) (pstV (wLog a0 a1 cI (lgc n) (lga f x1 x2 x3 x4 x5))) := by
  refine Ct.of RX0 (by decide) rfl (Nat.le_of_ble_eq_true rfl) ?_
  intro p e s m below meth c A C RC
  refine sw_aload_n 0 0 C dX0_add_0 rfl rfl ?_
  refine sw_get 1 0 1 C dX0_add_1 rfl rfl (inA lwX0) (C.w wF_X0_9) rfl rfl rfl ?_
  refine sw_iconst 4 C dX0_add_4 0 (by decide) ?_
  refine sw_aload_n 5 0 C dX0_add_5 rfl rfl ?_
  refine sw_get 6 0 1 C dX0_add_6 rfl rfl (inA lwX0) (C.w wF_X0_9) rfl rfl rfl ?_
  refine sw_iconst 9 C dX0_add_9 5 (by decide) ?_
  refine sw_aload_n 10 0 C dX0_add_10 rfl rfl ?_
  refine sw_get 11 0 1 C dX0_add_11 rfl rfl (inA lwX0) (C.w wF_X0_9) rfl rfl rfl ?_
  refine sw_alen 14 1 0 C 80 dX0_add_14 rfl rfl rfl ?_
  refine sw_iconst 15 C dX0_add_15 5 (by decide) ?_
  refine sw_isub 16 C dX0_add_16 ?_
  refine sw_copyN 17 1 1 0 (0) (5) (75) C dX0_add_17 (C.w wM_X0_19) (C.w wNat_J10_arraycopy__Ljava_lang_Object_ILjava_lang_Object_II_V) (C.w wT_J10_arraycopy__Ljava_lang_Object_ILjava_lang_Object_II_V) (C.w wI_J10) rfl rfl rfl (by decide) (by decide) rfl rfl (Nat.le_of_ble_eq_true rfl) (Nat.le_of_ble_eq_true rfl) rfl rfl rfl ?_
  refine sw_ws [(_, .inr (0, [.int _, .ref _])), (_, .inl (_, _, .inl _))] rfl ?_
  refine sw_aload_n 20 0 C dX0_add_20 rfl rfl ?_
  refine sw_get 21 0 1 C dX0_add_21 rfl rfl (inA lwX0) (C.w wF_X0_9) rfl rfl rfl ?_
  refine sw_iconst 24 C dX0_add_24 0 (by decide) ?_
  refine sw_iload_n 25 1 C dX0_add_25 rfl rfl ?_
  refine sw_iastN 26 1 0 (0) C dX0_add_26 rfl (by decide) rfl rfl rfl ?_
  refine sw_ws [(_, .inr (0, [.int _, .ref _])), (_, .inl (_, _, .inl _))] rfl ?_
  refine sw_aload_n 27 0 C dX0_add_27 rfl rfl ?_
  refine sw_get 28 0 1 C dX0_add_28 rfl rfl (inA lwX0) (C.w wF_X0_9) rfl rfl rfl ?_
  refine sw_iconst 31 C dX0_add_31 1 (by decide) ?_
  refine sw_iload_n 32 2 C dX0_add_32 rfl rfl ?_
  refine sw_iastN 33 1 0 (1) C dX0_add_33 rfl (by decide) rfl rfl rfl ?_
  refine sw_ws [(_, .inr (0, [.int _, .ref _])), (_, .inl (_, _, .inl _))] rfl ?_
  refine sw_aload_n 34 0 C dX0_add_34 rfl rfl ?_
  refine sw_get 35 0 1 C dX0_add_35 rfl rfl (inA lwX0) (C.w wF_X0_9) rfl rfl rfl ?_
  refine sw_iconst 38 C dX0_add_38 2 (by decide) ?_
  refine sw_iload_n 39 3 C dX0_add_39 rfl rfl ?_
  refine sw_iastN 40 1 0 (2) C dX0_add_40 rfl (by decide) rfl rfl rfl ?_
  refine sw_ws [(_, .inr (0, [.int _, .ref _])), (_, .inl (_, _, .inl _))] rfl ?_
  refine sw_aload_n 41 0 C dX0_add_41 rfl rfl ?_
  refine sw_get 42 0 1 C dX0_add_42 rfl rfl (inA lwX0) (C.w wF_X0_9) rfl rfl rfl ?_
  refine sw_iconst 45 C dX0_add_45 3 (by decide) ?_
  refine sw_iload 46 C dX0_add_46 rfl ?_
  refine sw_iastN 48 1 0 (3) C dX0_add_48 rfl (by decide) rfl rfl rfl ?_
  refine sw_ws [(_, .inr (0, [.int _, .ref _])), (_, .inl (_, _, .inl _))] rfl ?_
  refine sw_aload_n 49 0 C dX0_add_49 rfl rfl ?_
  refine sw_get 50 0 1 C dX0_add_50 rfl rfl (inA lwX0) (C.w wF_X0_9) rfl rfl rfl ?_
  refine sw_iconst 53 C dX0_add_53 4 (by decide) ?_
  refine sw_iload 54 C dX0_add_54 rfl ?_
  refine sw_iastN 56 1 0 (4) C dX0_add_56 rfl (by decide) rfl rfl rfl ?_
  refine sw_ws [(_, .inr (0, [.int _, .ref _])), (_, .inl (_, _, .inl _))] rfl ?_
  refine sw_aload_n 57 0 C dX0_add_57 rfl rfl ?_
  refine sw_get 58 0 0 C dX0_add_58 rfl rfl (inA lwX0) (C.w wF_X0_15) rfl rfl rfl ?_
  refine sw_bipush 61 C dX0_add_61 16 (by decide) ?_
  refine sw_icmp_ge 63 76 C dX0_add_63 (by decide) (fun c_63 => ?_) (fun c_63 => ?_)
  · refine sw_vret 76 C RC dX0_add_76 ?_
    exact ⟨rfl, by rw [show lgc n = n from if_neg (fun h => absurd (nI_lt h (by decide)) (Int32.not_lt.mpr c_63))]; rfl⟩
  · refine sw_aload_n 66 0 C dX0_add_66 rfl rfl ?_
    refine sw_dup 67 C dX0_add_67 rfl ?_
    refine sw_get 68 0 0 C dX0_add_68 rfl rfl (inA lwX0) (C.w wF_X0_15) rfl rfl rfl ?_
    refine sw_iconst 71 C dX0_add_71 1 (by decide) ?_
    refine sw_iadd 72 C dX0_add_72 ?_
    refine sw_top (nI_1 n) ?_
    refine sw_put 73 0 0 tyX0 C dX0_add_73 rfl rfl (inA lwX0) tyX0_ok nmX0 (C.w wF_X0_15) rfl rfl rfl rfl rfl rfl rfl ?_
    refine sw_ws [(_, .inr (0, [.int _, .ref _])), (_, .inl (_, _, .inl _))] rfl ?_
    refine sw_vret 76 C RC dX0_add_76 ?_
    exact ⟨rfl, by rw [show lgc n = n + 1 from if_pos (by have := Int32.not_le.mp c_63; exact (nI_ltI (by omega) (by decide)).mp this)]; rfl⟩
set_option maxHeartbeats 4000000 in
set_option maxRecDepth 100000 in
theorem ct_X0_copyFrom (l : Launch) {D : va_G} {cI cJ cQ : ClassId} {a0 a1 b0 b1 : Nat} {f g : Nat → Int32} {x y : Int32} : Ct l yX0_copyFrom (Cond.code yX0_copyFrom cX0_copyFrom 2 none) 1 20 0 0 D (tyz cI cJ cQ) [.ref a0, .ref b0] [(a0, .inr (0, [.int y, .ref a1])), (a1, .inl (cI, 80, .inl g)), (b0, .inr (0, [.int x, .ref b1])), (b1, .inl (cI, 80, .inl f))] (pstV [(a0, .inr (0, [.int x, .ref a1])), (a1, .inl (cI, 80, .inl f)), (b0, .inr (0, [.int x, .ref b1])), (b1, .inl (cI, 80, .inl f))]) := by
  refine Ct.of RX0 (by decide) rfl (Nat.le_of_ble_eq_true rfl) ?_
  intro p e s m below meth c A C RC
  refine sw_aload_n 0 0 C dX0_copyFrom_0 rfl rfl ?_
  refine sw_aload_n 1 1 C dX0_copyFrom_1 rfl rfl ?_
  refine sw_get 2 2 0 C dX0_copyFrom_2 rfl rfl (inA lwX0) (C.w wF_X0_15) rfl rfl rfl ?_
  refine sw_put 5 0 0 tyX0 C dX0_copyFrom_5 rfl rfl (inA lwX0) tyX0_ok nmX0 (C.w wF_X0_15) rfl rfl rfl rfl rfl rfl rfl ?_
  refine sw_ws [(_, .inr (0, [.int _, .ref _])), (_, .inl (_, _, .inl _)), (_, .inr (0, [.int _, .ref _])), (_, .inl (_, _, .inl _))] rfl ?_
  refine sw_aload_n 8 1 C dX0_copyFrom_8 rfl rfl ?_
  refine sw_get 9 2 1 C dX0_copyFrom_9 rfl rfl (inA lwX0) (C.w wF_X0_9) rfl rfl rfl ?_
  refine sw_iconst 12 C dX0_copyFrom_12 0 (by decide) ?_
  refine sw_aload_n 13 0 C dX0_copyFrom_13 rfl rfl ?_
  refine sw_get 14 0 1 C dX0_copyFrom_14 rfl rfl (inA lwX0) (C.w wF_X0_9) rfl rfl rfl ?_
  refine sw_iconst 17 C dX0_copyFrom_17 0 (by decide) ?_
  refine sw_aload_n 18 0 C dX0_copyFrom_18 rfl rfl ?_
  refine sw_get 19 0 1 C dX0_copyFrom_19 rfl rfl (inA lwX0) (C.w wF_X0_9) rfl rfl rfl ?_
  refine sw_alen 22 1 0 C 80 dX0_copyFrom_22 rfl rfl rfl ?_
  refine sw_copyN 23 3 1 0 (0) (0) (80) C dX0_copyFrom_23 (C.w wM_X0_19) (C.w wNat_J10_arraycopy__Ljava_lang_Object_ILjava_lang_Object_II_V) (C.w wT_J10_arraycopy__Ljava_lang_Object_ILjava_lang_Object_II_V) (C.w wI_J10) rfl rfl rfl (by decide) (by decide) rfl rfl (Nat.le_of_ble_eq_true rfl) (Nat.le_of_ble_eq_true rfl) rfl rfl rfl ?_
  refine sw_ws [(_, .inr (0, [.int _, .ref _])), (_, .inl (_, _, .inl _)), (_, .inr (0, [.int _, .ref _])), (_, .inl (_, _, .inl _))] rfl ?_
  refine sw_arrEq 1 f rfl (fun j hj => va_cpy_all hj) ?_
  refine sw_vret 26 C RC dX0_copyFrom_26 ?_
  exact ⟨rfl, rfl⟩
/-! State -/
def qal (f : Nat → Int32) (n : Nat) (q x : Int32) : Bool := decide (nI (ct (isOf f x) n) < q)
def hrf (f : Nat → Int32) (n : Nat) (q x y : Int32) : Bool := decide (n < 40) && qal f n q x && (decide (y = -1) || qal f n q y)
set_option maxHeartbeats 4000000 in
set_option maxRecDepth 100000 in
theorem ct_X4_quotaAllows (l : Launch) {D : va_G} {cI cJ cQ : ClassId} {a0 a1 a2 a3 a4 a5 a6 a7 : Nat} {q g sv t ps ck : Int32} {n lc : Nat} {pat f lg lv bk : Nat → Int32} {x : Int32} (hn : n ≤ 40) : Ct l yX4_quotaAllows (Cond.code yX4_quotaAllows cX4_quotaAllows 2 (some .boolean)) 2 45 0 0 D (tyz cI cJ cQ) [.ref a0, .int x] [(a0, .inr (4, [.int (q), .int (g), .int (sv), .ref a1, .ref a2, .ref a4, .int (t), .int (ps), .int (ck), .ref a6, .ref a7])), (a1, .inl (cI, 4, .inl (pat))), (a2, .inr (2, [.int (nI (n)), .ref a3])), (a3, .inl (cI, 320, .inl (f))), (a4, .inr (0, [.int (nI (lc)), .ref a5])), (a5, .inl (cI, 80, .inl (lg))), (a6, .inl (cI, 3, .inl (lv))), (a7, .inl (cI, 8, .inl (bk)))] (pstI (bI (qal f n q x)) [(a0, .inr (4, [.int (q), .int (g), .int (sv), .ref a1, .ref a2, .ref a4, .int (t), .int (ps), .int (ck), .ref a6, .ref a7])), (a1, .inl (cI, 4, .inl (pat))), (a2, .inr (2, [.int (nI (n)), .ref a3])), (a3, .inl (cI, 320, .inl (f))), (a4, .inr (0, [.int (nI (lc)), .ref a5])), (a5, .inl (cI, 80, .inl (lg))), (a6, .inl (cI, 3, .inl (lv))), (a7, .inl (cI, 8, .inl (bk)))]) := by
  refine Ct.of RX4 (by decide) rfl (Nat.le_of_ble_eq_true rfl) ?_
  intro p e s m below meth c A C RC
  refine sw_aload_n 0 0 C dX4_quotaAllows_0 rfl rfl ?_
  refine sw_get 1 0 4 C dX4_quotaAllows_1 rfl rfl (inA lwX4) (C.w wF_X4_25) rfl rfl rfl ?_
  refine sw_iload_n 4 1 C dX4_quotaAllows_4 rfl rfl ?_
  refine sw_callVIP 5 [2, 3] 1 C dX4_quotaAllows_5 (ct_X2_countOfSender l hn) wK_X2_countOfSender wM_X4_74 wN_X2_countOfSender wS_X2_X2_countOfSender wI_X2 hd_X2_countOfSender rfl rfl rfl ⟨rfl, rfl⟩ ⟨Nat.le_of_ble_eq_true rfl, Nat.le_of_ble_eq_true rfl⟩ rfl rfl rfl rfl ?_
  refine sw_aload_n 8 0 C dX4_quotaAllows_8 rfl rfl ?_
  refine sw_get 9 0 0 C dX4_quotaAllows_9 rfl rfl (inA lwX4) (C.w wF_X4_9) rfl rfl rfl ?_
  refine sw_icmp_ge 12 19 C dX4_quotaAllows_12 (by decide) (fun c_12 => ?_) (fun c_12 => ?_)
  · refine sw_iconst 19 C dX4_quotaAllows_19 0 (by decide) ?_
    refine sw_zret 20 C RC rfl dX4_quotaAllows_20 ?_
    exact ⟨by simp [qal, bI, c_12], rfl⟩
  · refine sw_iconst 15 C dX4_quotaAllows_15 1 (by decide) ?_
    refine sw_goto 16 20 C dX4_quotaAllows_16 (by decide) ?_
    refine sw_zret 20 C RC rfl dX4_quotaAllows_20 ?_
    exact ⟨by simp [qal, bI, c_12], rfl⟩
set_option maxHeartbeats 4000000 in
set_option maxRecDepth 100000 in
theorem ct_X4_hasRoomFor (l : Launch) {D : va_G} {cI cJ cQ : ClassId} {a0 a1 a2 a3 a4 a5 a6 a7 : Nat} {q g sv t ps ck : Int32} {n lc : Nat} {pat f lg lv bk : Nat → Int32} {x y : Int32} (hn : n ≤ 40) : Ct l yX4_hasRoomFor (Cond.code yX4_hasRoomFor cX4_hasRoomFor 3 (some .boolean)) 3 66 0 0 D (tyz cI cJ cQ) [.ref a0, .int x, .int y] [(a0, .inr (4, [.int (q), .int (g), .int (sv), .ref a1, .ref a2, .ref a4, .int (t), .int (ps), .int (ck), .ref a6, .ref a7])), (a1, .inl (cI, 4, .inl (pat))), (a2, .inr (2, [.int (nI (n)), .ref a3])), (a3, .inl (cI, 320, .inl (f))), (a4, .inr (0, [.int (nI (lc)), .ref a5])), (a5, .inl (cI, 80, .inl (lg))), (a6, .inl (cI, 3, .inl (lv))), (a7, .inl (cI, 8, .inl (bk)))] (pstI (bI (hrf f n q x y)) [(a0, .inr (4, [.int (q), .int (g), .int (sv), .ref a1, .ref a2, .ref a4, .int (t), .int (ps), .int (ck), .ref a6, .ref a7])), (a1, .inl (cI, 4, .inl (pat))), (a2, .inr (2, [.int (nI (n)), .ref a3])), (a3, .inl (cI, 320, .inl (f))), (a4, .inr (0, [.int (nI (lc)), .ref a5])), (a5, .inl (cI, 80, .inl (lg))), (a6, .inl (cI, 3, .inl (lv))), (a7, .inl (cI, 8, .inl (bk)))]) := by
  refine Ct.of RX4 (by decide) rfl (Nat.le_of_ble_eq_true rfl) ?_
  intro p e s m below meth c A C RC
  refine sw_aload_n 0 0 C dX4_hasRoomFor_0 rfl rfl ?_
  refine sw_get 1 0 4 C dX4_hasRoomFor_1 rfl rfl (inA lwX4) (C.w wF_X4_25) rfl rfl rfl ?_
  refine sw_get 4 2 0 C dX4_hasRoomFor_4 rfl rfl (inA lwX2) (C.w wF_X4_67) rfl rfl rfl ?_
  refine sw_bipush 7 C dX4_hasRoomFor_7 40 (by decide) ?_
  refine sw_icmp_ge 9 37 C dX4_hasRoomFor_9 (by decide) (fun c_9 => ?_) (fun c_9 => ?_)
  · refine sw_iconst 37 C dX4_hasRoomFor_37 0 (by decide) ?_
    refine sw_zret 38 C RC rfl dX4_hasRoomFor_38 ?_
    exact ⟨by rw [hrf, decide_eq_false (p := n < 40) (fun h => absurd c_9 (nI_ge h (by decide)))]; rfl, rfl⟩
  · have hlt : n < 40 := (nI_ltI (b := 40) (by omega) (by decide)).mp (Int32.not_le.mp c_9)
    refine sw_aload_n 12 0 C dX4_hasRoomFor_12 rfl rfl ?_
    refine sw_iload_n 13 1 C dX4_hasRoomFor_13 rfl rfl ?_
    refine sw_callVIP 14 [0, 1, 2, 3, 4, 5, 6, 7] 1 C dX4_hasRoomFor_14 (ct_X4_quotaAllows l hn) wK_X4_quotaAllows wM_X4_70 wN_X4_quotaAllows wS_X4_X4_quotaAllows wI_X4 hd_X4_quotaAllows rfl rfl rfl ⟨rfl, rfl⟩ ⟨Nat.le_of_ble_eq_true rfl, Nat.le_of_ble_eq_true rfl⟩ rfl rfl rfl rfl ?_
    refine sw_if_eq 17 37 C dX4_hasRoomFor_17 (by decide) (fun c_17 => ?_) (fun c_17 => ?_)
    · refine sw_iconst 37 C dX4_hasRoomFor_37 0 (by decide) ?_
      refine sw_zret 38 C RC rfl dX4_hasRoomFor_38 ?_
      exact ⟨by rw [hrf, bI_f c_17, Bool.and_false, Bool.false_and]; rfl, rfl⟩
    · refine sw_iload_n 20 2 C dX4_hasRoomFor_20 rfl rfl ?_
      refine sw_iconst 21 C dX4_hasRoomFor_21 (-1) (by decide) ?_
      refine sw_icmp_eq 22 33 C dX4_hasRoomFor_22 (by decide) (fun c_22 => ?_) (fun c_22 => ?_)
      · refine sw_iconst 33 C dX4_hasRoomFor_33 1 (by decide) ?_
        refine sw_goto 34 38 C dX4_hasRoomFor_34 (by decide) ?_
        refine sw_zret 38 C RC rfl dX4_hasRoomFor_38 ?_
        exact ⟨by rw [hrf, bI_t c_17, decide_eq_true hlt, decide_eq_true c_22]; rfl, rfl⟩
      · refine sw_aload_n 25 0 C dX4_hasRoomFor_25 rfl rfl ?_
        refine sw_iload_n 26 2 C dX4_hasRoomFor_26 rfl rfl ?_
        refine sw_callVIP 27 [0, 1, 2, 3, 4, 5, 6, 7] 1 C dX4_hasRoomFor_27 (ct_X4_quotaAllows l hn) wK_X4_quotaAllows wM_X4_70 wN_X4_quotaAllows wS_X4_X4_quotaAllows wI_X4 hd_X4_quotaAllows rfl rfl rfl ⟨rfl, rfl⟩ ⟨Nat.le_of_ble_eq_true rfl, Nat.le_of_ble_eq_true rfl⟩ rfl rfl rfl rfl ?_
        refine sw_if_eq 30 37 C dX4_hasRoomFor_30 (by decide) (fun c_30 => ?_) (fun c_30 => ?_)
        · refine sw_iconst 37 C dX4_hasRoomFor_37 0 (by decide) ?_
          refine sw_zret 38 C RC rfl dX4_hasRoomFor_38 ?_
          exact ⟨by rw [hrf, bI_t c_17, decide_eq_true hlt, decide_eq_false c_22, bI_f c_30]; rfl, rfl⟩
        · refine sw_iconst 33 C dX4_hasRoomFor_33 1 (by decide) ?_
          refine sw_goto 34 38 C dX4_hasRoomFor_34 (by decide) ?_
          refine sw_zret 38 C RC rfl dX4_hasRoomFor_38 ?_
          exact ⟨by rw [hrf, bI_t c_17, decide_eq_true hlt, decide_eq_false c_22, bI_t c_30]; rfl, rfl⟩
def pin (f : Nat → Int32) (n : Nat) (ps x1 x2 x3 x4 x5 : Int32) : Nat → Int32 :=
  upd (upd (upd (upd (upd (upd (zrr f n 8) (n * 8 + 7) ps) (n * 8 + 0) x1) (n * 8 + 1) x2) (n * 8 + 2) (if x3 + x5 / 25 < 4 then x3 + x5 / 25 else 4)) (n * 8 + 5) x4) (n * 8 + 6) x5
set_option maxHeartbeats 4000000 in
set_option maxRecDepth 100000 in
theorem ct_X4_putIn (l : Launch) {D : va_G} {cI cJ cQ : ClassId} {a0 a1 a2 a3 a4 a5 a6 a7 : Nat} {q g sv t ps ck : Int32} {n lc : Nat} {pat f lg lv bk : Nat → Int32} {x1 x2 x3 x4 x5 : Int32} (hn : n < 40) : Ct l yX4_putIn (Cond.code yX4_putIn cX4_putIn 8 (some .int)) 2 45 0 0 D (tyz cI cJ cQ) [.ref a0, .int x1, .int x2, .int x3, .int x4, .int x5] [(a0, .inr (4, [.int (q), .int (g), .int (sv), .ref a1, .ref a2, .ref a4, .int (t), .int (ps), .int (ck), .ref a6, .ref a7])), (a1, .inl (cI, 4, .inl (pat))), (a2, .inr (2, [.int (nI (n)), .ref a3])), (a3, .inl (cI, 320, .inl (f))), (a4, .inr (0, [.int (nI (lc)), .ref a5])), (a5, .inl (cI, 80, .inl (lg))), (a6, .inl (cI, 3, .inl (lv))), (a7, .inl (cI, 8, .inl (bk)))] (pstI ps [(a0, .inr (4, [.int (q), .int (g), .int (sv), .ref a1, .ref a2, .ref a4, .int (t), .int (ps + 1), .int (ck), .ref a6, .ref a7])), (a1, .inl (cI, 4, .inl (pat))), (a2, .inr (2, [.int (nI (n + 1)), .ref a3])), (a3, .inl (cI, 320, .inl (pin f n ps x1 x2 x3 x4 x5))), (a4, .inr (0, [.int (nI (lc)), .ref a5])), (a5, .inl (cI, 80, .inl (lg))), (a6, .inl (cI, 3, .inl (lv))), (a7, .inl (cI, 8, .inl (bk)))]) := by
  refine Ct.of RX4 (by decide) rfl (Nat.le_of_ble_eq_true rfl) ?_
  intro p e s m below meth c A C RC
  refine sw_aload_n 0 0 C dX4_putIn_0 rfl rfl ?_
  refine sw_get 1 0 7 C dX4_putIn_1 rfl rfl (inA lwX4) (C.w wF_X4_48) rfl rfl rfl ?_
  refine sw_istore 4 C dX4_putIn_4 rfl ?_
  refine sw_aload_n 6 0 C dX4_putIn_6 rfl rfl ?_
  refine sw_dup 7 C dX4_putIn_7 rfl ?_
  refine sw_get 8 0 7 C dX4_putIn_8 rfl rfl (inA lwX4) (C.w wF_X4_48) rfl rfl rfl ?_
  refine sw_iconst 11 C dX4_putIn_11 1 (by decide) ?_
  refine sw_iadd 12 C dX4_putIn_12 ?_
  refine sw_put 13 0 7 tyX4 C dX4_putIn_13 rfl rfl (inA lwX4) tyX4_ok nmX4 (C.w wF_X4_48) rfl rfl rfl rfl rfl rfl rfl ?_
  refine sw_ws [(_, .inr (4, [.int _, .int _, .int _, .ref _, .ref _, .ref _, .int _, .int _, .int _, .ref _, .ref _])), (_, .inl (_, _, .inl _)), (_, .inr (2, [.int _, .ref _])), (_, .inl (_, _, .inl _)), (_, .inr (0, [.int _, .ref _])), (_, .inl (_, _, .inl _)), (_, .inl (_, _, .inl _)), (_, .inl (_, _, .inl _))] rfl ?_
  refine sw_aload_n 16 0 C dX4_putIn_16 rfl rfl ?_
  refine sw_get 17 0 4 C dX4_putIn_17 rfl rfl (inA lwX4) (C.w wF_X4_25) rfl rfl rfl ?_
  refine sw_callVI 20 [2, 3] 0 C dX4_putIn_20 (ct_X2_addRow l hn) wK_X2_addRow wM_X4_78 wN_X2_addRow wS_X2_X2_addRow wI_X2 hd_X2_addRow rfl rfl rfl ⟨rfl, rfl⟩ ⟨Nat.le_of_ble_eq_true rfl, Nat.le_of_ble_eq_true rfl⟩ rfl rfl rfl rfl rfl ?_
  refine sw_ws [(_, .inr (4, [.int _, .int _, .int _, .ref _, .ref _, .ref _, .int _, .int _, .int _, .ref _, .ref _])), (_, .inl (_, _, .inl _)), (_, .inr (2, [.int _, .ref _])), (_, .inl (_, _, .inl _)), (_, .inr (0, [.int _, .ref _])), (_, .inl (_, _, .inl _)), (_, .inl (_, _, .inl _)), (_, .inl (_, _, .inl _))] rfl ?_
  refine sw_istore 23 C dX4_putIn_23 rfl ?_
  refine sw_loc (L1 := [(0, .ref _), (1, .int _), (2, .int _), (3, .int _), (4, .int _), (5, .int _), (6, .int _), (7, .int _)]) ?_ rfl
  refine sw_aload_n 25 0 C dX4_putIn_25 rfl rfl ?_
  refine sw_get 26 0 4 C dX4_putIn_26 rfl rfl (inA lwX4) (C.w wF_X4_25) rfl rfl rfl ?_
  refine sw_iload 29 C dX4_putIn_29 rfl ?_
  refine sw_bipush 31 C dX4_putIn_31 7 (by decide) ?_
  refine sw_iload 33 C dX4_putIn_33 rfl ?_
  refine sw_callVV 35 [2, 3] 3 C dX4_putIn_35 (ct_X2_set l n 7 rfl rfl (by omega) (by decide) (by omega)) wK_X2_set wM_X4_82 wN_X2_set wS_X2_X2_set wI_X2 hd_X2_set rfl rfl rfl ⟨rfl, rfl⟩ ⟨Nat.le_of_ble_eq_true rfl, Nat.le_of_ble_eq_true rfl⟩ rfl rfl rfl rfl rfl ?_
  refine sw_ws [(_, .inr (4, [.int _, .int _, .int _, .ref _, .ref _, .ref _, .int _, .int _, .int _, .ref _, .ref _])), (_, .inl (_, _, .inl _)), (_, .inr (2, [.int _, .ref _])), (_, .inl (_, _, .inl _)), (_, .inr (0, [.int _, .ref _])), (_, .inl (_, _, .inl _)), (_, .inl (_, _, .inl _)), (_, .inl (_, _, .inl _))] rfl ?_
  refine sw_aload_n 38 0 C dX4_putIn_38 rfl rfl ?_
  refine sw_get 39 0 4 C dX4_putIn_39 rfl rfl (inA lwX4) (C.w wF_X4_25) rfl rfl rfl ?_
  refine sw_iload 42 C dX4_putIn_42 rfl ?_
  refine sw_iconst 44 C dX4_putIn_44 0 (by decide) ?_
  refine sw_iload_n 45 1 C dX4_putIn_45 rfl rfl ?_
  refine sw_callVV 46 [2, 3] 3 C dX4_putIn_46 (ct_X2_set l n 0 rfl rfl (by omega) (by decide) (by omega)) wK_X2_set wM_X4_82 wN_X2_set wS_X2_X2_set wI_X2 hd_X2_set rfl rfl rfl ⟨rfl, rfl⟩ ⟨Nat.le_of_ble_eq_true rfl, Nat.le_of_ble_eq_true rfl⟩ rfl rfl rfl rfl rfl ?_
  refine sw_ws [(_, .inr (4, [.int _, .int _, .int _, .ref _, .ref _, .ref _, .int _, .int _, .int _, .ref _, .ref _])), (_, .inl (_, _, .inl _)), (_, .inr (2, [.int _, .ref _])), (_, .inl (_, _, .inl _)), (_, .inr (0, [.int _, .ref _])), (_, .inl (_, _, .inl _)), (_, .inl (_, _, .inl _)), (_, .inl (_, _, .inl _))] rfl ?_
  refine sw_aload_n 49 0 C dX4_putIn_49 rfl rfl ?_
  refine sw_get 50 0 4 C dX4_putIn_50 rfl rfl (inA lwX4) (C.w wF_X4_25) rfl rfl rfl ?_
  refine sw_iload 53 C dX4_putIn_53 rfl ?_
  refine sw_iconst 55 C dX4_putIn_55 1 (by decide) ?_
  refine sw_iload_n 56 2 C dX4_putIn_56 rfl rfl ?_
  refine sw_callVV 57 [2, 3] 3 C dX4_putIn_57 (ct_X2_set l n 1 rfl rfl (by omega) (by decide) (by omega)) wK_X2_set wM_X4_82 wN_X2_set wS_X2_X2_set wI_X2 hd_X2_set rfl rfl rfl ⟨rfl, rfl⟩ ⟨Nat.le_of_ble_eq_true rfl, Nat.le_of_ble_eq_true rfl⟩ rfl rfl rfl rfl rfl ?_
  refine sw_ws [(_, .inr (4, [.int _, .int _, .int _, .ref _, .ref _, .ref _, .int _, .int _, .int _, .ref _, .ref _])), (_, .inl (_, _, .inl _)), (_, .inr (2, [.int _, .ref _])), (_, .inl (_, _, .inl _)), (_, .inr (0, [.int _, .ref _])), (_, .inl (_, _, .inl _)), (_, .inl (_, _, .inl _)), (_, .inl (_, _, .inl _))] rfl ?_
  refine sw_aload_n 60 0 C dX4_putIn_60 rfl rfl ?_
  refine sw_get 61 0 4 C dX4_putIn_61 rfl rfl (inA lwX4) (C.w wF_X4_25) rfl rfl rfl ?_
  refine sw_iload 64 C dX4_putIn_64 rfl ?_
  refine sw_iconst 66 C dX4_putIn_66 2 (by decide) ?_
  refine sw_iconst 67 C dX4_putIn_67 4 (by decide) ?_
  refine sw_iload_n 68 3 C dX4_putIn_68 rfl rfl ?_
  refine sw_iload 69 C dX4_putIn_69 rfl ?_
  refine sw_bipush 71 C dX4_putIn_71 25 (by decide) ?_
  refine sw_idiv 73 C dX4_putIn_73 (by decide) ?_
  refine sw_iadd 74 C dX4_putIn_74 ?_
  refine sw_mmin 75 C (C.w wM_X4_86) (C.w wT_J9_min_7cf53) (C.w wI_J9) (C.w wK_J9_min_7cf53) (Nat.le_of_ble_eq_true rfl) (Nat.le_of_ble_eq_true rfl) (Nat.le_of_ble_eq_true rfl) (Nat.le_of_ble_eq_true rfl) dX4_putIn_75 ?_
  refine sw_callVV 78 [2, 3] 3 C dX4_putIn_78 (ct_X2_set l n 2 rfl rfl (by omega) (by decide) (by omega)) wK_X2_set wM_X4_82 wN_X2_set wS_X2_X2_set wI_X2 hd_X2_set rfl rfl rfl ⟨rfl, rfl⟩ ⟨Nat.le_of_ble_eq_true rfl, Nat.le_of_ble_eq_true rfl⟩ rfl rfl rfl rfl rfl ?_
  refine sw_ws [(_, .inr (4, [.int _, .int _, .int _, .ref _, .ref _, .ref _, .int _, .int _, .int _, .ref _, .ref _])), (_, .inl (_, _, .inl _)), (_, .inr (2, [.int _, .ref _])), (_, .inl (_, _, .inl _)), (_, .inr (0, [.int _, .ref _])), (_, .inl (_, _, .inl _)), (_, .inl (_, _, .inl _)), (_, .inl (_, _, .inl _))] rfl ?_
  refine sw_aload_n 81 0 C dX4_putIn_81 rfl rfl ?_
  refine sw_get 82 0 4 C dX4_putIn_82 rfl rfl (inA lwX4) (C.w wF_X4_25) rfl rfl rfl ?_
  refine sw_iload 85 C dX4_putIn_85 rfl ?_
  refine sw_iconst 87 C dX4_putIn_87 5 (by decide) ?_
  refine sw_iload 88 C dX4_putIn_88 rfl ?_
  refine sw_callVV 90 [2, 3] 3 C dX4_putIn_90 (ct_X2_set l n 5 rfl rfl (by omega) (by decide) (by omega)) wK_X2_set wM_X4_82 wN_X2_set wS_X2_X2_set wI_X2 hd_X2_set rfl rfl rfl ⟨rfl, rfl⟩ ⟨Nat.le_of_ble_eq_true rfl, Nat.le_of_ble_eq_true rfl⟩ rfl rfl rfl rfl rfl ?_
  refine sw_ws [(_, .inr (4, [.int _, .int _, .int _, .ref _, .ref _, .ref _, .int _, .int _, .int _, .ref _, .ref _])), (_, .inl (_, _, .inl _)), (_, .inr (2, [.int _, .ref _])), (_, .inl (_, _, .inl _)), (_, .inr (0, [.int _, .ref _])), (_, .inl (_, _, .inl _)), (_, .inl (_, _, .inl _)), (_, .inl (_, _, .inl _))] rfl ?_
  refine sw_aload_n 93 0 C dX4_putIn_93 rfl rfl ?_
  refine sw_get 94 0 4 C dX4_putIn_94 rfl rfl (inA lwX4) (C.w wF_X4_25) rfl rfl rfl ?_
  refine sw_iload 97 C dX4_putIn_97 rfl ?_
  refine sw_bipush 99 C dX4_putIn_99 6 (by decide) ?_
  refine sw_iload 101 C dX4_putIn_101 rfl ?_
  refine sw_callVV 103 [2, 3] 3 C dX4_putIn_103 (ct_X2_set l n 6 rfl rfl (by omega) (by decide) (by omega)) wK_X2_set wM_X4_82 wN_X2_set wS_X2_X2_set wI_X2 hd_X2_set rfl rfl rfl ⟨rfl, rfl⟩ ⟨Nat.le_of_ble_eq_true rfl, Nat.le_of_ble_eq_true rfl⟩ rfl rfl rfl rfl rfl ?_
  refine sw_ws [(_, .inr (4, [.int _, .int _, .int _, .ref _, .ref _, .ref _, .int _, .int _, .int _, .ref _, .ref _])), (_, .inl (_, _, .inl _)), (_, .inr (2, [.int _, .ref _])), (_, .inl (_, _, .inl _)), (_, .inr (0, [.int _, .ref _])), (_, .inl (_, _, .inl _)), (_, .inl (_, _, .inl _)), (_, .inl (_, _, .inl _))] rfl ?_
  refine sw_iload 106 C dX4_putIn_106 rfl ?_
  refine sw_iret 108 C RC dX4_putIn_108 ?_
  exact ⟨rfl, rfl⟩
def gbk (f : Nat → Int32) (g : Int32) (i w : Nat) : Int32 := if w = 0 then (if f (i * 8 + 3) ≤ g then 0 else f (i * 8 + 6) / 2) else if w = 1 then f (i * 8 + 6) else f (i * 8 + 6) - f (i * 8 + 6) / 4
theorem way_ne {w k : Nat} (hw : w < 3) (hk : k < 3) (h : ¬ w = k) : ¬ nI w = nI k := fun e => h (nI_inj (by omega) (by omega) e)
set_option maxHeartbeats 4000000 in
set_option maxRecDepth 100000 in
theorem ct_X4_bribeGivenBack (l : Launch) {D : va_G} {cI cJ cQ : ClassId} {a0 a1 a2 a3 a4 a5 a6 a7 : Nat} {q g sv t ps ck : Int32} {n lc : Nat} {pat f lg lv bk : Nat → Int32} {x1 x2 : Int32} (i w : Nat) (h1 : x1 = nI i) (h2 : x2 = nI w) (hi : i < n) (hw : w < 3) (hn : n ≤ 40) : Ct l yX4_bribeGivenBack (Cond.code yX4_bribeGivenBack cX4_bribeGivenBack 4 (some .int)) 1 22 0 0 D (tyz cI cJ cQ) [.ref a0, .int x1, .int x2] [(a0, .inr (4, [.int (q), .int (g), .int (sv), .ref a1, .ref a2, .ref a4, .int (t), .int (ps), .int (ck), .ref a6, .ref a7])), (a1, .inl (cI, 4, .inl (pat))), (a2, .inr (2, [.int (nI (n)), .ref a3])), (a3, .inl (cI, 320, .inl (f))), (a4, .inr (0, [.int (nI (lc)), .ref a5])), (a5, .inl (cI, 80, .inl (lg))), (a6, .inl (cI, 3, .inl (lv))), (a7, .inl (cI, 8, .inl (bk)))] (pstI (gbk f g i w) [(a0, .inr (4, [.int (q), .int (g), .int (sv), .ref a1, .ref a2, .ref a4, .int (t), .int (ps), .int (ck), .ref a6, .ref a7])), (a1, .inl (cI, 4, .inl (pat))), (a2, .inr (2, [.int (nI (n)), .ref a3])), (a3, .inl (cI, 320, .inl (f))), (a4, .inr (0, [.int (nI (lc)), .ref a5])), (a5, .inl (cI, 80, .inl (lg))), (a6, .inl (cI, 3, .inl (lv))), (a7, .inl (cI, 8, .inl (bk)))]) := by
  refine Ct.of RX4 (by decide) rfl (Nat.le_of_ble_eq_true rfl) ?_
  intro p e s m below meth c A C RC
  subst h1 h2
  refine sw_aload_n 0 0 C dX4_bribeGivenBack_0 rfl rfl ?_
  refine sw_get 1 0 4 C dX4_bribeGivenBack_1 rfl rfl (inA lwX4) (C.w wF_X4_25) rfl rfl rfl ?_
  refine sw_iload_n 4 1 C dX4_bribeGivenBack_4 rfl rfl ?_
  refine sw_bipush 5 C dX4_bribeGivenBack_5 6 (by decide) ?_
  refine sw_callVIP 7 [2, 3] 2 C dX4_bribeGivenBack_7 (ct_X2_at l (i) 6 rfl rfl (by omega) (by decide) (by omega)) wK_X2_at wM_X4_95 wN_X2_at wS_X2_X2_at wI_X2 hd_X2_at rfl rfl rfl ⟨rfl, rfl⟩ ⟨Nat.le_of_ble_eq_true rfl, Nat.le_of_ble_eq_true rfl⟩ rfl rfl rfl rfl ?_
  refine sw_istore_n 10 3 C dX4_bribeGivenBack_10 rfl rfl ?_
  refine sw_iload_n 11 2 C dX4_bribeGivenBack_11 rfl rfl ?_
  by_cases e_12_0 : w = 0
  · refine sw_lkp 12 40 (off := 28) C dX4_bribeGivenBack_12 (by decide) (by rw [e_12_0]; decide) (by decide) ?_
    refine sw_aload_n 40 0 C dX4_bribeGivenBack_40 rfl rfl ?_
    refine sw_get 41 0 4 C dX4_bribeGivenBack_41 rfl rfl (inA lwX4) (C.w wF_X4_25) rfl rfl rfl ?_
    refine sw_iload_n 44 1 C dX4_bribeGivenBack_44 rfl rfl ?_
    refine sw_iconst 45 C dX4_bribeGivenBack_45 3 (by decide) ?_
    refine sw_callVIP 46 [2, 3] 2 C dX4_bribeGivenBack_46 (ct_X2_at l (i) 3 rfl rfl (by omega) (by decide) (by omega)) wK_X2_at wM_X4_95 wN_X2_at wS_X2_X2_at wI_X2 hd_X2_at rfl rfl rfl ⟨rfl, rfl⟩ ⟨Nat.le_of_ble_eq_true rfl, Nat.le_of_ble_eq_true rfl⟩ rfl rfl rfl rfl ?_
    refine sw_aload_n 49 0 C dX4_bribeGivenBack_49 rfl rfl ?_
    refine sw_get 50 0 1 C dX4_bribeGivenBack_50 rfl rfl (inA lwX4) (C.w wF_X4_15) rfl rfl rfl ?_
    refine sw_icmp_gt 53 60 C dX4_bribeGivenBack_53 (by decide) (fun c_53 => ?_) (fun c_53 => ?_)
    · refine sw_iload_n 60 3 C dX4_bribeGivenBack_60 rfl rfl ?_
      refine sw_iconst 61 C dX4_bribeGivenBack_61 2 (by decide) ?_
      refine sw_idiv 62 C dX4_bribeGivenBack_62 (by decide) ?_
      refine sw_iret 63 C RC dX4_bribeGivenBack_63 ?_
      exact ⟨by simp [gbk, e_12_0, Int32.not_le.mpr c_53], rfl⟩
    · refine sw_iconst 56 C dX4_bribeGivenBack_56 0 (by decide) ?_
      refine sw_goto 57 63 C dX4_bribeGivenBack_57 (by decide) ?_
      refine sw_iret 63 C RC dX4_bribeGivenBack_63 ?_
      exact ⟨by simp [gbk, e_12_0, Int32.not_lt.mp c_53], rfl⟩
  by_cases e_12_1 : w = 1
  · refine sw_lkp 12 64 (off := 52) C dX4_bribeGivenBack_12 (by decide) (by rw [e_12_1]; decide) (by decide) ?_
    refine sw_iload_n 64 3 C dX4_bribeGivenBack_64 rfl rfl ?_
    refine sw_iret 65 C RC dX4_bribeGivenBack_65 ?_
    exact ⟨by simp [gbk, e_12_0, e_12_1], rfl⟩
  refine sw_lkp 12 66 (off := 54) C dX4_bribeGivenBack_12 (by decide) (lkp_out (by rw [nI_toInt (by omega)]; simp; omega)) (by decide) ?_
  refine sw_iload_n 66 3 C dX4_bribeGivenBack_66 rfl rfl ?_
  refine sw_iload_n 67 3 C dX4_bribeGivenBack_67 rfl rfl ?_
  refine sw_iconst 68 C dX4_bribeGivenBack_68 4 (by decide) ?_
  refine sw_idiv 69 C dX4_bribeGivenBack_69 (by decide) ?_
  refine sw_isub 70 C dX4_bribeGivenBack_70 ?_
  refine sw_iret 71 C RC dX4_bribeGivenBack_71 ?_
  exact ⟨by simp [gbk, e_12_0, e_12_1], rfl⟩
end
