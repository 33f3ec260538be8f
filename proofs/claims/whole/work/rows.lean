section
-- ===== PART A: goes FIRST, ahead of the names: the tables' words, and 'selects' of the private methods out of them =====
/-- a private method of a class that the tables say can be made, by its rows of tables_1 -/
def lw_okq (q : MethodName × Nat) : Prop := (q.1.cls ≠ "java/lang/invoke/MethodHandle" ∧ q.1.cls ≠ "java/lang/invoke/VarHandle") ∧ Cond.instantiable q.1.cls q.2 ∈ tables_1 ∧ Cond.privateMethod q.1 ∈ tables_1 ∧ Cond.instanceMethod q.1 ∈ tables_1
theorem lw_p0 : lw_okq (⟨"JarNotes", "found", "(I)I"⟩, 10) := ⟨⟨by decide +kernel, by decide +kernel⟩, List.mem_of_getElem? (i := 14) (by decide +kernel), List.mem_of_getElem? (i := 265) (by decide +kernel), List.mem_of_getElem? (i := 266) (by decide +kernel)⟩
theorem lw_p1 : lw_okq (⟨"JarNotes", "fine", "(I)I"⟩, 10) := ⟨⟨by decide +kernel, by decide +kernel⟩, List.mem_of_getElem? (i := 14) (by decide +kernel), List.mem_of_getElem? (i := 274) (by decide +kernel), List.mem_of_getElem? (i := 275) (by decide +kernel)⟩
theorem lw_p2 : lw_okq (⟨"JarNotes$Tape", "passes", "(I)Z"⟩, 5) := ⟨⟨by decide +kernel, by decide +kernel⟩, List.mem_of_getElem? (i := 49) (by decide +kernel), List.mem_of_getElem? (i := 330) (by decide +kernel), List.mem_of_getElem? (i := 331) (by decide +kernel)⟩
theorem lw_p3 : lw_okq (⟨"JarNotes$Tape", "fails", "(I)Z"⟩, 5) := ⟨⟨by decide +kernel, by decide +kernel⟩, List.mem_of_getElem? (i := 49) (by decide +kernel), List.mem_of_getElem? (i := 334) (by decide +kernel), List.mem_of_getElem? (i := 335) (by decide +kernel)⟩
theorem lw_p4 : lw_okq (⟨"JarNotes$Tape", "numbers", "(II)Z"⟩, 5) := ⟨⟨by decide +kernel, by decide +kernel⟩, List.mem_of_getElem? (i := 49) (by decide +kernel), List.mem_of_getElem? (i := 338) (by decide +kernel), List.mem_of_getElem? (i := 339) (by decide +kernel)⟩
theorem lw_p5 : lw_okq (⟨"JarNotes$Tape", "figures", "()I"⟩, 5) := ⟨⟨by decide +kernel, by decide +kernel⟩, List.mem_of_getElem? (i := 49) (by decide +kernel), List.mem_of_getElem? (i := 342) (by decide +kernel), List.mem_of_getElem? (i := 343) (by decide +kernel)⟩
theorem lw_p6 : lw_okq (⟨"JarNotes$Tape", "tellsJar", "(LJarNotes$Cellar;)Z"⟩, 5) := ⟨⟨by decide +kernel, by decide +kernel⟩, List.mem_of_getElem? (i := 49) (by decide +kernel), List.mem_of_getElem? (i := 347) (by decide +kernel), List.mem_of_getElem? (i := 348) (by decide +kernel)⟩
theorem lw_p7 : lw_okq (⟨"JarNotes", "noCellar", "()Z"⟩, 10) := ⟨⟨by decide +kernel, by decide +kernel⟩, List.mem_of_getElem? (i := 14) (by decide +kernel), List.mem_of_getElem? (i := 386) (by decide +kernel), List.mem_of_getElem? (i := 387) (by decide +kernel)⟩
theorem lw_p8 : lw_okq (⟨"JarNotes", "isSneeze", "(II)Z"⟩, 10) := ⟨⟨by decide +kernel, by decide +kernel⟩, List.mem_of_getElem? (i := 14) (by decide +kernel), List.mem_of_getElem? (i := 410) (by decide +kernel), List.mem_of_getElem? (i := 411) (by decide +kernel)⟩
theorem lw_p9 : lw_okq (⟨"JarNotes", "isPlace", "(I)Z"⟩, 10) := ⟨⟨by decide +kernel, by decide +kernel⟩, List.mem_of_getElem? (i := 14) (by decide +kernel), List.mem_of_getElem? (i := 417) (by decide +kernel), List.mem_of_getElem? (i := 418) (by decide +kernel)⟩
theorem lw_p10 : lw_okq (⟨"JarNotes$Echo", "struckFrom", "(II)I"⟩, 6) := ⟨⟨by decide +kernel, by decide +kernel⟩, List.mem_of_getElem? (i := 152) (by decide +kernel), List.mem_of_getElem? (i := 445) (by decide +kernel), List.mem_of_getElem? (i := 446) (by decide +kernel)⟩
theorem lw_p11 : lw_okq (⟨"JarNotes$Echo", "breakingBy", "(I)I"⟩, 6) := ⟨⟨by decide +kernel, by decide +kernel⟩, List.mem_of_getElem? (i := 152) (by decide +kernel), List.mem_of_getElem? (i := 455) (by decide +kernel), List.mem_of_getElem? (i := 456) (by decide +kernel)⟩
theorem lw_p12 : lw_okq (⟨"JarNotes", "isJar", "(I)Z"⟩, 10) := ⟨⟨by decide +kernel, by decide +kernel⟩, List.mem_of_getElem? (i := 14) (by decide +kernel), List.mem_of_getElem? (i := 471) (by decide +kernel), List.mem_of_getElem? (i := 472) (by decide +kernel)⟩
theorem lw_p13 : lw_okq (⟨"JarNotes$Foretold", "mostBroken", "(II)I"⟩, 7) := ⟨⟨by decide +kernel, by decide +kernel⟩, List.mem_of_getElem? (i := 146) (by decide +kernel), List.mem_of_getElem? (i := 514) (by decide +kernel), List.mem_of_getElem? (i := 515) (by decide +kernel)⟩
theorem lw_p14 : lw_okq (⟨"JarNotes$Foretold", "keepFewest", "(II)V"⟩, 7) := ⟨⟨by decide +kernel, by decide +kernel⟩, List.mem_of_getElem? (i := 146) (by decide +kernel), List.mem_of_getElem? (i := 564) (by decide +kernel), List.mem_of_getElem? (i := 565) (by decide +kernel)⟩
theorem lw_p15 : lw_okq (⟨"JarNotes$Foretold", "guessFits", "(I[III)Z"⟩, 7) := ⟨⟨by decide +kernel, by decide +kernel⟩, List.mem_of_getElem? (i := 146) (by decide +kernel), List.mem_of_getElem? (i := 613) (by decide +kernel), List.mem_of_getElem? (i := 614) (by decide +kernel)⟩
def lw_privs_1 : List (MethodName × Nat) := [(⟨"JarNotes", "found", "(I)I"⟩, 10), (⟨"JarNotes", "fine", "(I)I"⟩, 10), (⟨"JarNotes$Tape", "passes", "(I)Z"⟩, 5), (⟨"JarNotes$Tape", "fails", "(I)Z"⟩, 5), (⟨"JarNotes$Tape", "numbers", "(II)Z"⟩, 5), (⟨"JarNotes$Tape", "figures", "()I"⟩, 5), (⟨"JarNotes$Tape", "tellsJar", "(LJarNotes$Cellar;)Z"⟩, 5), (⟨"JarNotes", "noCellar", "()Z"⟩, 10), (⟨"JarNotes", "isSneeze", "(II)Z"⟩, 10), (⟨"JarNotes", "isPlace", "(I)Z"⟩, 10), (⟨"JarNotes$Echo", "struckFrom", "(II)I"⟩, 6), (⟨"JarNotes$Echo", "breakingBy", "(I)I"⟩, 6), (⟨"JarNotes", "isJar", "(I)Z"⟩, 10), (⟨"JarNotes$Foretold", "mostBroken", "(II)I"⟩, 7), (⟨"JarNotes$Foretold", "keepFewest", "(II)V"⟩, 7), (⟨"JarNotes$Foretold", "guessFits", "(I[III)Z"⟩, 7)]
theorem lw_r1 : ∀ q ∈ lw_privs_1, lw_okq q := List.forall_mem_cons.mpr ⟨lw_p0, List.forall_mem_cons.mpr ⟨lw_p1, List.forall_mem_cons.mpr ⟨lw_p2, List.forall_mem_cons.mpr ⟨lw_p3, List.forall_mem_cons.mpr ⟨lw_p4, List.forall_mem_cons.mpr ⟨lw_p5, List.forall_mem_cons.mpr ⟨lw_p6, List.forall_mem_cons.mpr ⟨lw_p7, List.forall_mem_cons.mpr ⟨lw_p8, List.forall_mem_cons.mpr ⟨lw_p9, List.forall_mem_cons.mpr ⟨lw_p10, List.forall_mem_cons.mpr ⟨lw_p11, List.forall_mem_cons.mpr ⟨lw_p12, List.forall_mem_cons.mpr ⟨lw_p13, List.forall_mem_cons.mpr ⟨lw_p14, List.forall_mem_cons.mpr ⟨lw_p15, fun _ h => absurd h List.not_mem_nil⟩⟩⟩⟩⟩⟩⟩⟩⟩⟩⟩⟩⟩⟩⟩⟩
theorem lw_p16 : lw_okq (⟨"JarNotes$Asks", "asked", "(LJarNotes$Cellar;III)I"⟩, 2) := ⟨⟨by decide +kernel, by decide +kernel⟩, List.mem_of_getElem? (i := 208) (by decide +kernel), List.mem_of_getElem? (i := 689) (by decide +kernel), List.mem_of_getElem? (i := 690) (by decide +kernel)⟩
theorem lw_p17 : lw_okq (⟨"JarNotes$Asks", "body", "(LJarNotes$Cellar;III)I"⟩, 2) := ⟨⟨by decide +kernel, by decide +kernel⟩, List.mem_of_getElem? (i := 208) (by decide +kernel), List.mem_of_getElem? (i := 702) (by decide +kernel), List.mem_of_getElem? (i := 703) (by decide +kernel)⟩
theorem lw_p18 : lw_okq (⟨"JarNotes$Asks", "leave", "(I)V"⟩, 2) := ⟨⟨by decide +kernel, by decide +kernel⟩, List.mem_of_getElem? (i := 208) (by decide +kernel), List.mem_of_getElem? (i := 706) (by decide +kernel), List.mem_of_getElem? (i := 707) (by decide +kernel)⟩
theorem lw_p19 : lw_okq (⟨"JarNotesModel", "finding", "(I)I"⟩, 28) := ⟨⟨by decide +kernel, by decide +kernel⟩, List.mem_of_getElem? (i := 727) (by decide +kernel), List.mem_of_getElem? (i := 831) (by decide +kernel), List.mem_of_getElem? (i := 832) (by decide +kernel)⟩
theorem lw_p20 : lw_okq (⟨"JarNotesModel", "begin", "()V"⟩, 28) := ⟨⟨by decide +kernel, by decide +kernel⟩, List.mem_of_getElem? (i := 727) (by decide +kernel), List.mem_of_getElem? (i := 862) (by decide +kernel), List.mem_of_getElem? (i := 863) (by decide +kernel)⟩
theorem lw_p21 : lw_okq (⟨"JarNotesModel", "nextToken", "()V"⟩, 28) := ⟨⟨by decide +kernel, by decide +kernel⟩, List.mem_of_getElem? (i := 727) (by decide +kernel), List.mem_of_getElem? (i := 866) (by decide +kernel), List.mem_of_getElem? (i := 867) (by decide +kernel)⟩
theorem lw_p22 : lw_okq (⟨"JarNotesModel", "isLetter", "(I)Z"⟩, 28) := ⟨⟨by decide +kernel, by decide +kernel⟩, List.mem_of_getElem? (i := 727) (by decide +kernel), List.mem_of_getElem? (i := 875) (by decide +kernel), List.mem_of_getElem? (i := 876) (by decide +kernel)⟩
theorem lw_p23 : lw_okq (⟨"JarNotesModel", "must", "(Z)V"⟩, 28) := ⟨⟨by decide +kernel, by decide +kernel⟩, List.mem_of_getElem? (i := 727) (by decide +kernel), List.mem_of_getElem? (i := 879) (by decide +kernel), List.mem_of_getElem? (i := 880) (by decide +kernel)⟩
theorem lw_p24 : lw_okq (⟨"JarNotesModel", "bad", "(I)V"⟩, 28) := ⟨⟨by decide +kernel, by decide +kernel⟩, List.mem_of_getElem? (i := 727) (by decide +kernel), List.mem_of_getElem? (i := 883) (by decide +kernel), List.mem_of_getElem? (i := 884) (by decide +kernel)⟩
theorem lw_p25 : lw_okq (⟨"JarNotesModel", "number", "(II)I"⟩, 28) := ⟨⟨by decide +kernel, by decide +kernel⟩, List.mem_of_getElem? (i := 727) (by decide +kernel), List.mem_of_getElem? (i := 887) (by decide +kernel), List.mem_of_getElem? (i := 888) (by decide +kernel)⟩
theorem lw_p26 : lw_okq (⟨"JarNotesModel", "mustSign", "(I)V"⟩, 28) := ⟨⟨by decide +kernel, by decide +kernel⟩, List.mem_of_getElem? (i := 727) (by decide +kernel), List.mem_of_getElem? (i := 891) (by decide +kernel), List.mem_of_getElem? (i := 892) (by decide +kernel)⟩
theorem lw_p27 : lw_okq (⟨"JarNotesModel", "isSort", "()Z"⟩, 28) := ⟨⟨by decide +kernel, by decide +kernel⟩, List.mem_of_getElem? (i := 727) (by decide +kernel), List.mem_of_getElem? (i := 895) (by decide +kernel), List.mem_of_getElem? (i := 896) (by decide +kernel)⟩
theorem lw_p28 : lw_okq (⟨"JarNotesModel", "readJar", "()V"⟩, 28) := ⟨⟨by decide +kernel, by decide +kernel⟩, List.mem_of_getElem? (i := 727) (by decide +kernel), List.mem_of_getElem? (i := 902) (by decide +kernel), List.mem_of_getElem? (i := 903) (by decide +kernel)⟩
theorem lw_p29 : lw_okq (⟨"JarNotesModel", "failed", "()Z"⟩, 28) := ⟨⟨by decide +kernel, by decide +kernel⟩, List.mem_of_getElem? (i := 727) (by decide +kernel), List.mem_of_getElem? (i := 906) (by decide +kernel), List.mem_of_getElem? (i := 907) (by decide +kernel)⟩
theorem lw_p30 : lw_okq (⟨"JarNotesModel", "isThere", "()Z"⟩, 28) := ⟨⟨by decide +kernel, by decide +kernel⟩, List.mem_of_getElem? (i := 727) (by decide +kernel), List.mem_of_getElem? (i := 915) (by decide +kernel), List.mem_of_getElem? (i := 916) (by decide +kernel)⟩
theorem lw_p31 : lw_okq (⟨"JarNotesModel", "keep", "()V"⟩, 28) := ⟨⟨by decide +kernel, by decide +kernel⟩, List.mem_of_getElem? (i := 727) (by decide +kernel), List.mem_of_getElem? (i := 921) (by decide +kernel), List.mem_of_getElem? (i := 922) (by decide +kernel)⟩
def lw_privs_2 : List (MethodName × Nat) := [(⟨"JarNotes$Asks", "asked", "(LJarNotes$Cellar;III)I"⟩, 2), (⟨"JarNotes$Asks", "body", "(LJarNotes$Cellar;III)I"⟩, 2), (⟨"JarNotes$Asks", "leave", "(I)V"⟩, 2), (⟨"JarNotesModel", "finding", "(I)I"⟩, 28), (⟨"JarNotesModel", "begin", "()V"⟩, 28), (⟨"JarNotesModel", "nextToken", "()V"⟩, 28), (⟨"JarNotesModel", "isLetter", "(I)Z"⟩, 28), (⟨"JarNotesModel", "must", "(Z)V"⟩, 28), (⟨"JarNotesModel", "bad", "(I)V"⟩, 28), (⟨"JarNotesModel", "number", "(II)I"⟩, 28), (⟨"JarNotesModel", "mustSign", "(I)V"⟩, 28), (⟨"JarNotesModel", "isSort", "()Z"⟩, 28), (⟨"JarNotesModel", "readJar", "()V"⟩, 28), (⟨"JarNotesModel", "failed", "()Z"⟩, 28), (⟨"JarNotesModel", "isThere", "()Z"⟩, 28), (⟨"JarNotesModel", "keep", "()V"⟩, 28)]
theorem lw_r2 : ∀ q ∈ lw_privs_2, lw_okq q := List.forall_mem_cons.mpr ⟨lw_p16, List.forall_mem_cons.mpr ⟨lw_p17, List.forall_mem_cons.mpr ⟨lw_p18, List.forall_mem_cons.mpr ⟨lw_p19, List.forall_mem_cons.mpr ⟨lw_p20, List.forall_mem_cons.mpr ⟨lw_p21, List.forall_mem_cons.mpr ⟨lw_p22, List.forall_mem_cons.mpr ⟨lw_p23, List.forall_mem_cons.mpr ⟨lw_p24, List.forall_mem_cons.mpr ⟨lw_p25, List.forall_mem_cons.mpr ⟨lw_p26, List.forall_mem_cons.mpr ⟨lw_p27, List.forall_mem_cons.mpr ⟨lw_p28, List.forall_mem_cons.mpr ⟨lw_p29, List.forall_mem_cons.mpr ⟨lw_p30, List.forall_mem_cons.mpr ⟨lw_p31, fun _ h => absurd h List.not_mem_nil⟩⟩⟩⟩⟩⟩⟩⟩⟩⟩⟩⟩⟩⟩⟩⟩
theorem lw_p32 : lw_okq (⟨"JarNotesModel", "isJar", "(I)Z"⟩, 28) := ⟨⟨by decide +kernel, by decide +kernel⟩, List.mem_of_getElem? (i := 727) (by decide +kernel), List.mem_of_getElem? (i := 945) (by decide +kernel), List.mem_of_getElem? (i := 946) (by decide +kernel)⟩
theorem lw_p33 : lw_okq (⟨"JarNotesModel", "sneezes", "([III)V"⟩, 28) := ⟨⟨by decide +kernel, by decide +kernel⟩, List.mem_of_getElem? (i := 727) (by decide +kernel), List.mem_of_getElem? (i := 949) (by decide +kernel), List.mem_of_getElem? (i := 950) (by decide +kernel)⟩
theorem lw_p34 : lw_okq (⟨"JarNotesModel", "chainOf", "([IIII)I"⟩, 28) := ⟨⟨by decide +kernel, by decide +kernel⟩, List.mem_of_getElem? (i := 727) (by decide +kernel), List.mem_of_getElem? (i := 953) (by decide +kernel), List.mem_of_getElem? (i := 954) (by decide +kernel)⟩
theorem lw_p35 : lw_okq (⟨"JarNotesModel", "setsOff", "([II)Z"⟩, 28) := ⟨⟨by decide +kernel, by decide +kernel⟩, List.mem_of_getElem? (i := 727) (by decide +kernel), List.mem_of_getElem? (i := 960) (by decide +kernel), List.mem_of_getElem? (i := 961) (by decide +kernel)⟩
theorem lw_p36 : lw_okq (⟨"JarNotesModel", "worstOf", "([I)I"⟩, 28) := ⟨⟨by decide +kernel, by decide +kernel⟩, List.mem_of_getElem? (i := 727) (by decide +kernel), List.mem_of_getElem? (i := 1012) (by decide +kernel), List.mem_of_getElem? (i := 1013) (by decide +kernel)⟩
theorem lw_p37 : lw_okq (⟨"JarNotesModel", "layThen", "()V"⟩, 28) := ⟨⟨by decide +kernel, by decide +kernel⟩, List.mem_of_getElem? (i := 727) (by decide +kernel), List.mem_of_getElem? (i := 1027) (by decide +kernel), List.mem_of_getElem? (i := 1028) (by decide +kernel)⟩
theorem lw_p38 : lw_okq (⟨"JarNotesModel", "breaksBy", "(II)Z"⟩, 28) := ⟨⟨by decide +kernel, by decide +kernel⟩, List.mem_of_getElem? (i := 727) (by decide +kernel), List.mem_of_getElem? (i := 1051) (by decide +kernel), List.mem_of_getElem? (i := 1052) (by decide +kernel)⟩
theorem lw_p39 : lw_okq (⟨"JarNotesModel", "rowFound", "(III)I"⟩, 28) := ⟨⟨by decide +kernel, by decide +kernel⟩, List.mem_of_getElem? (i := 727) (by decide +kernel), List.mem_of_getElem? (i := 1063) (by decide +kernel), List.mem_of_getElem? (i := 1064) (by decide +kernel)⟩
theorem lw_p40 : lw_okq (⟨"JarNotesModel", "isSo", "(III)Z"⟩, 28) := ⟨⟨by decide +kernel, by decide +kernel⟩, List.mem_of_getElem? (i := 727) (by decide +kernel), List.mem_of_getElem? (i := 1071) (by decide +kernel), List.mem_of_getElem? (i := 1072) (by decide +kernel)⟩
theorem lw_p41 : lw_okq (⟨"JarNotesModel", "sizeOf", "(I)I"⟩, 28) := ⟨⟨by decide +kernel, by decide +kernel⟩, List.mem_of_getElem? (i := 727) (by decide +kernel), List.mem_of_getElem? (i := 1116) (by decide +kernel), List.mem_of_getElem? (i := 1117) (by decide +kernel)⟩
theorem lw_p42 : lw_okq (⟨"JarNotesModel", "stoneSize", "(I)I"⟩, 28) := ⟨⟨by decide +kernel, by decide +kernel⟩, List.mem_of_getElem? (i := 727) (by decide +kernel), List.mem_of_getElem? (i := 1120) (by decide +kernel), List.mem_of_getElem? (i := 1121) (by decide +kernel)⟩
theorem lw_p43 : lw_okq (⟨"JarNotesModel", "began", "(I)V"⟩, 28) := ⟨⟨by decide +kernel, by decide +kernel⟩, List.mem_of_getElem? (i := 727) (by decide +kernel), List.mem_of_getElem? (i := 1124) (by decide +kernel), List.mem_of_getElem? (i := 1125) (by decide +kernel)⟩
theorem lw_p44 : lw_okq (⟨"JarNotesModel", "plainSize", "(I)I"⟩, 28) := ⟨⟨by decide +kernel, by decide +kernel⟩, List.mem_of_getElem? (i := 727) (by decide +kernel), List.mem_of_getElem? (i := 1128) (by decide +kernel), List.mem_of_getElem? (i := 1129) (by decide +kernel)⟩
theorem lw_p45 : lw_okq (⟨"JarNotesModel", "markOf", "(I)I"⟩, 28) := ⟨⟨by decide +kernel, by decide +kernel⟩, List.mem_of_getElem? (i := 727) (by decide +kernel), List.mem_of_getElem? (i := 1132) (by decide +kernel), List.mem_of_getElem? (i := 1133) (by decide +kernel)⟩
def lw_privs_3 : List (MethodName × Nat) := [(⟨"JarNotesModel", "isJar", "(I)Z"⟩, 28), (⟨"JarNotesModel", "sneezes", "([III)V"⟩, 28), (⟨"JarNotesModel", "chainOf", "([IIII)I"⟩, 28), (⟨"JarNotesModel", "setsOff", "([II)Z"⟩, 28), (⟨"JarNotesModel", "worstOf", "([I)I"⟩, 28), (⟨"JarNotesModel", "layThen", "()V"⟩, 28), (⟨"JarNotesModel", "breaksBy", "(II)Z"⟩, 28), (⟨"JarNotesModel", "rowFound", "(III)I"⟩, 28), (⟨"JarNotesModel", "isSo", "(III)Z"⟩, 28), (⟨"JarNotesModel", "sizeOf", "(I)I"⟩, 28), (⟨"JarNotesModel", "stoneSize", "(I)I"⟩, 28), (⟨"JarNotesModel", "began", "(I)V"⟩, 28), (⟨"JarNotesModel", "plainSize", "(I)I"⟩, 28), (⟨"JarNotesModel", "markOf", "(I)I"⟩, 28)]
theorem lw_r3 : ∀ q ∈ lw_privs_3, lw_okq q := List.forall_mem_cons.mpr ⟨lw_p32, List.forall_mem_cons.mpr ⟨lw_p33, List.forall_mem_cons.mpr ⟨lw_p34, List.forall_mem_cons.mpr ⟨lw_p35, List.forall_mem_cons.mpr ⟨lw_p36, List.forall_mem_cons.mpr ⟨lw_p37, List.forall_mem_cons.mpr ⟨lw_p38, List.forall_mem_cons.mpr ⟨lw_p39, List.forall_mem_cons.mpr ⟨lw_p40, List.forall_mem_cons.mpr ⟨lw_p41, List.forall_mem_cons.mpr ⟨lw_p42, List.forall_mem_cons.mpr ⟨lw_p43, List.forall_mem_cons.mpr ⟨lw_p44, List.forall_mem_cons.mpr ⟨lw_p45, fun _ h => absurd h List.not_mem_nil⟩⟩⟩⟩⟩⟩⟩⟩⟩⟩⟩⟩⟩⟩
def lw_privs : List (MethodName × Nat) := lw_privs_1 ++ (lw_privs_2 ++ (lw_privs_3))
def lw_tbl : List Cond := k2_sels lw_privs ++ tables_1
theorem lw_privs_ok : ∀ q ∈ lw_privs, lw_okq q := by
  show ∀ q ∈ lw_privs_1 ++ (lw_privs_2 ++ (lw_privs_3)), lw_okq q
  exact List.forall_mem_append.mpr ⟨lw_r1, List.forall_mem_append.mpr ⟨lw_r2, lw_r3⟩⟩
end
section
def RX0 : String := "JarNotes$Acts"
def TX0 : u_T := fun k => match k with
  | 0 => ("JarNotes$Acts", "befores", "[LJarNotes$Cellar;", true)
  | 1 => ("JarNotes$Acts", "next", "I", false)
  | _ => ("JarNotes$Acts", "size", "I", false)
def tyX0 : Nat → FieldType := fun k => match k with
  | 0 => .array (.object "JarNotes$Cellar")
  | 1 => .int
  | _ => .int
theorem nmX0 : ∀ a, a < 3 → ∀ b, b < 3 → a ≠ b → (TX0 a).2.1 ≠ (TX0 b).2.1 := by decide +kernel
theorem tyX0_ok : ∀ k, k < 3 → parseFieldDescriptor (TX0 k).2.2.1 = some (tyX0 k) := by decide +kernel
abbrev cX0_init : ByteArray := prog_2_method_1_code
def yX0_init : MethodName := ⟨RX0, "<init>", "()V"⟩
abbrev cX0_keep : ByteArray := prog_2_method_2_code
def yX0_keep : MethodName := ⟨RX0, "keep", "(LJarNotes$Cellar;)V"⟩
abbrev cX0_takeBack : ByteArray := prog_2_method_3_code
def yX0_takeBack : MethodName := ⟨RX0, "takeBack", "(LJarNotes$Cellar;)Z"⟩
abbrev cX0_forget : ByteArray := prog_2_method_4_code
def yX0_forget : MethodName := ⟨RX0, "forget", "()V"⟩
def RX1 : String := "JarNotes$Asks"
def TX1 : u_T := fun k => match k with
  | 0 => ("JarNotes$Asks", "traced", "[I", true)
  | _ => ("JarNotes$Asks", "size", "I", false)
def tyX1 : Nat → FieldType := fun k => match k with
  | 0 => .array .int
  | _ => .int
theorem nmX1 : ∀ a, a < 2 → ∀ b, b < 2 → a ≠ b → (TX1 a).2.1 ≠ (TX1 b).2.1 := by decide +kernel
theorem tyX1_ok : ∀ k, k < 2 → parseFieldDescriptor (TX1 k).2.2.1 = some (tyX1 k) := by decide +kernel
abbrev cX1_init : ByteArray := prog_3_method_1_code
def yX1_init : MethodName := ⟨RX1, "<init>", "()V"⟩
abbrev cX1_answer : ByteArray := prog_3_method_2_code
def yX1_answer : MethodName := ⟨RX1, "answer", "(LJarNotes$Cellar;II)I"⟩
abbrev cX1_asked : ByteArray := prog_3_method_3_code
def yX1_asked : MethodName := ⟨RX1, "asked", "(LJarNotes$Cellar;III)I"⟩
abbrev cX1_bodyFor : ByteArray := prog_3_method_4_code
def yX1_bodyFor : MethodName := ⟨RX1, "bodyFor", "(II)I"⟩
abbrev cX1_body : ByteArray := prog_3_method_5_code
def yX1_body : MethodName := ⟨RX1, "body", "(LJarNotes$Cellar;III)I"⟩
abbrev cX1_leave : ByteArray := prog_3_method_6_code
def yX1_leave : MethodName := ⟨RX1, "leave", "(I)V"⟩
def RX2 : String := "JarNotes$Cellar"
def TX2 : u_T := fun k => match k with
  | 0 => ("JarNotes$Cellar", "jars", "I", false)
  | 1 => ("JarNotes$Cellar", "year", "I", false)
  | 2 => ("JarNotes$Cellar", "reach", "I", false)
  | 3 => ("JarNotes$Cellar", "kinds", "[I", true)
  | 4 => ("JarNotes$Cellar", "notes", "[I", true)
  | 5 => ("JarNotes$Cellar", "keeps", "[I", true)
  | 6 => ("JarNotes$Cellar", "places", "[I", true)
  | _ => ("JarNotes$Cellar", "hows", "[I", true)
def tyX2 : Nat → FieldType := fun k => match k with
  | 0 => .int
  | 1 => .int
  | 2 => .int
  | 3 => .array .int
  | 4 => .array .int
  | 5 => .array .int
  | 6 => .array .int
  | _ => .array .int
theorem nmX2 : ∀ a, a < 8 → ∀ b, b < 8 → a ≠ b → (TX2 a).2.1 ≠ (TX2 b).2.1 := by decide +kernel
theorem tyX2_ok : ∀ k, k < 8 → parseFieldDescriptor (TX2 k).2.2.1 = some (tyX2 k) := by decide +kernel
abbrev cX2_init : ByteArray := prog_4_method_1_code
def yX2_init : MethodName := ⟨RX2, "<init>", "()V"⟩
abbrev cX2_clear : ByteArray := prog_4_method_2_code
def yX2_clear : MethodName := ⟨RX2, "clear", "()V"⟩
abbrev cX2_add : ByteArray := prog_4_method_3_code
def yX2_add : MethodName := ⟨RX2, "add", "(III)V"⟩
abbrev cX2_become : ByteArray := prog_4_method_4_code
def yX2_become : MethodName := ⟨RX2, "become", "(LJarNotes$Cellar;)V"⟩
abbrev cX2_age : ByteArray := prog_4_method_5_code
def yX2_age : MethodName := ⟨RX2, "age", "()V"⟩
abbrev cX2_smash : ByteArray := prog_4_method_6_code
def yX2_smash : MethodName := ⟨RX2, "smash", "(I)V"⟩
abbrev cX2_swapPlaces : ByteArray := prog_4_method_7_code
def yX2_swapPlaces : MethodName := ⟨RX2, "swapPlaces", "(II)V"⟩
abbrev cX2_those : ByteArray := prog_4_method_8_code
def yX2_those : MethodName := ⟨RX2, "those", "(I)I"⟩
abbrev cX2_wholeBehind : ByteArray := prog_4_method_9_code
def yX2_wholeBehind : MethodName := ⟨RX2, "wholeBehind", "(I)I"⟩
def RX3 : String := "JarNotes$Echo"
def TX3 : u_T := fun k => match k with
  | 0 => ("JarNotes$Echo", "answering", "[I", true)
  | 1 => ("JarNotes$Echo", "near", "[I", true)
  | 2 => ("JarNotes$Echo", "struckBy", "[I", true)
  | 3 => ("JarNotes$Echo", "thick", "I", false)
  | 4 => ("JarNotes$Echo", "jars", "I", false)
  | _ => ("JarNotes$Echo", "rounds", "I", false)
def tyX3 : Nat → FieldType := fun k => match k with
  | 0 => .array .int
  | 1 => .array .int
  | 2 => .array .int
  | 3 => .int
  | 4 => .int
  | _ => .int
theorem nmX3 : ∀ a, a < 6 → ∀ b, b < 6 → a ≠ b → (TX3 a).2.1 ≠ (TX3 b).2.1 := by decide +kernel
theorem tyX3_ok : ∀ k, k < 6 → parseFieldDescriptor (TX3 k).2.2.1 = some (tyX3 k) := by decide +kernel
abbrev cX3_init : ByteArray := prog_5_method_1_code
def yX3_init : MethodName := ⟨RX3, "<init>", "()V"⟩
abbrev cX3_tune : ByteArray := prog_5_method_2_code
def yX3_tune : MethodName := ⟨RX3, "tune", "(LJarNotes$Cellar;)V"⟩
abbrev cX3_answeringTo : ByteArray := prog_5_method_3_code
def yX3_answeringTo : MethodName := ⟨RX3, "answeringTo", "(LJarNotes$Cellar;I)I"⟩
abbrev cX3_nearTo : ByteArray := prog_5_method_4_code
def yX3_nearTo : MethodName := ⟨RX3, "nearTo", "(LJarNotes$Cellar;I)I"⟩
abbrev cX3_apart : ByteArray := prog_5_method_5_code
def yX3_apart : MethodName := ⟨RX3, "apart", "(II)I"⟩
abbrev cX3_answers : ByteArray := prog_5_method_6_code
def yX3_answers : MethodName := ⟨RX3, "answers", "(II)Z"⟩
abbrev cX3_struckFrom : ByteArray := prog_5_method_7_code
def yX3_struckFrom : MethodName := ⟨RX3, "struckFrom", "(II)I"⟩
abbrev cX3_broken : ByteArray := prog_5_method_8_code
def yX3_broken : MethodName := ⟨RX3, "broken", "(III)I"⟩
abbrev cX3_breakingBy : ByteArray := prog_5_method_9_code
def yX3_breakingBy : MethodName := ⟨RX3, "breakingBy", "(I)I"⟩
abbrev cX3_eachStrikesOther : ByteArray := prog_5_method_10_code
def yX3_eachStrikesOther : MethodName := ⟨RX3, "eachStrikesOther", "(II)Z"⟩
def RX4 : String := "JarNotes$Foretold"
def TX4 : u_T := fun k => match k with
  | 0 => ("JarNotes$Foretold", "echo", "LJarNotes$Echo;", true)
  | 1 => ("JarNotes$Foretold", "guess", "LJarNotes$Cellar;", true)
  | 2 => ("JarNotes$Foretold", "which", "I", false)
  | 3 => ("JarNotes$Foretold", "howMany", "I", false)
  | 4 => ("JarNotes$Foretold", "above", "J", false)
  | 5 => ("JarNotes$Foretold", "below", "J", false)
  | _ => ("JarNotes$Foretold", "loudest", "I", false)
def tyX4 : Nat → FieldType := fun k => match k with
  | 0 => .object "JarNotes$Echo"
  | 1 => .object "JarNotes$Cellar"
  | 2 => .int
  | 3 => .int
  | 4 => .long
  | 5 => .long
  | _ => .int
theorem nmX4 : ∀ a, a < 7 → ∀ b, b < 7 → a ≠ b → (TX4 a).2.1 ≠ (TX4 b).2.1 := by decide +kernel
theorem tyX4_ok : ∀ k, k < 7 → parseFieldDescriptor (TX4 k).2.2.1 = some (tyX4 k) := by decide +kernel
abbrev cX4_init : ByteArray := prog_6_method_1_code
def yX4_init : MethodName := ⟨RX4, "<init>", "()V"⟩
abbrev cX4_brokenBy : ByteArray := prog_6_method_2_code
def yX4_brokenBy : MethodName := ⟨RX4, "brokenBy", "(LJarNotes$Cellar;II)I"⟩
abbrev cX4_findWorst : ByteArray := prog_6_method_3_code
def yX4_findWorst : MethodName := ⟨RX4, "findWorst", "(LJarNotes$Cellar;)V"⟩
abbrev cX4_mostBroken : ByteArray := prog_6_method_4_code
def yX4_mostBroken : MethodName := ⟨RX4, "mostBroken", "(II)I"⟩
abbrev cX4_findGuard : ByteArray := prog_6_method_5_code
def yX4_findGuard : MethodName := ⟨RX4, "findGuard", "(LJarNotes$Cellar;III)V"⟩
abbrev cX4_findChange : ByteArray := prog_6_method_6_code
def yX4_findChange : MethodName := ⟨RX4, "findChange", "(LJarNotes$Cellar;)V"⟩
abbrev cX4_findTuned : ByteArray := prog_6_method_7_code
def yX4_findTuned : MethodName := ⟨RX4, "findTuned", "(LJarNotes$Cellar;I)V"⟩
abbrev cX4_findSpared : ByteArray := prog_6_method_8_code
def yX4_findSpared : MethodName := ⟨RX4, "findSpared", "(LJarNotes$Cellar;)V"⟩
abbrev cX4_keepFewest : ByteArray := prog_6_method_9_code
def yX4_keepFewest : MethodName := ⟨RX4, "keepFewest", "(II)V"⟩
abbrev cX4_findAlike : ByteArray := prog_6_method_10_code
def yX4_findAlike : MethodName := ⟨RX4, "findAlike", "(LJarNotes$Cellar;)V"⟩
abbrev cX4_findSong : ByteArray := prog_6_method_11_code
def yX4_findSong : MethodName := ⟨RX4, "findSong", "(LJarNotes$Cellar;[III)V"⟩
abbrev cX4_leastOf : ByteArray := prog_6_method_12_code
def yX4_leastOf : MethodName := ⟨RX4, "leastOf", "(LJarNotes$Cellar;II)I"⟩
abbrev cX4_fittingKinds : ByteArray := prog_6_method_13_code
def yX4_fittingKinds : MethodName := ⟨RX4, "fittingKinds", "(LJarNotes$Cellar;II[III)I"⟩
abbrev cX4_fittingNotes : ByteArray := prog_6_method_14_code
def yX4_fittingNotes : MethodName := ⟨RX4, "fittingNotes", "(LJarNotes$Cellar;II[III)I"⟩
abbrev cX4_fittingReaches : ByteArray := prog_6_method_15_code
def yX4_fittingReaches : MethodName := ⟨RX4, "fittingReaches", "(LJarNotes$Cellar;I[III)I"⟩
abbrev cX4_guessFits : ByteArray := prog_6_method_16_code
def yX4_guessFits : MethodName := ⟨RX4, "guessFits", "(I[III)Z"⟩
abbrev cX4_findMould : ByteArray := prog_6_method_17_code
def yX4_findMould : MethodName := ⟨RX4, "findMould", "(LJarNotes$Cellar;IIII)V"⟩
abbrev cX4_power : ByteArray := prog_6_method_18_code
def yX4_power : MethodName := ⟨RX4, "power", "(JI)J"⟩
abbrev cX4_sharedDivisor : ByteArray := prog_6_method_19_code
def yX4_sharedDivisor : MethodName := ⟨RX4, "sharedDivisor", "(JJ)J"⟩
abbrev cX4_findVintage : ByteArray := prog_6_method_20_code
def yX4_findVintage : MethodName := ⟨RX4, "findVintage", "(LJarNotes$Cellar;II)V"⟩
def RX5 : String := "JarNotes$Rows"
def TX5 : u_T := fun k => match k with
  | 0 => ("JarNotes$Rows", "there", "[Z", true)
  | 1 => ("JarNotes$Rows", "lanes", "[I", true)
  | 2 => ("JarNotes$Rows", "sizes", "[I", true)
  | _ => ("JarNotes$Rows", "items", "[[I", true)
def tyX5 : Nat → FieldType := fun k => match k with
  | 0 => .array .boolean
  | 1 => .array .int
  | 2 => .array .int
  | _ => .array (.array .int)
theorem nmX5 : ∀ a, a < 4 → ∀ b, b < 4 → a ≠ b → (TX5 a).2.1 ≠ (TX5 b).2.1 := by decide +kernel
theorem tyX5_ok : ∀ k, k < 4 → parseFieldDescriptor (TX5 k).2.2.1 = some (tyX5 k) := by decide +kernel
abbrev cX5_init : ByteArray := prog_7_method_1_code
def yX5_init : MethodName := ⟨RX5, "<init>", "()V"⟩
abbrev cX5_lay : ByteArray := prog_7_method_2_code
def yX5_lay : MethodName := ⟨RX5, "lay", "(III)V"⟩
abbrev cX5_put : ByteArray := prog_7_method_3_code
def yX5_put : MethodName := ⟨RX5, "put", "(III)I"⟩
abbrev cX5_narrowed : ByteArray := prog_7_method_4_code
def yX5_narrowed : MethodName := ⟨RX5, "narrowed", "(II)I"⟩
abbrev cX5_holds : ByteArray := prog_7_method_5_code
def yX5_holds : MethodName := ⟨RX5, "holds", "(III)Z"⟩
abbrev cX5_lacking : ByteArray := prog_7_method_6_code
def yX5_lacking : MethodName := ⟨RX5, "lacking", "(III)I"⟩
abbrev cX5_tellsNotes : ByteArray := prog_7_method_7_code
def yX5_tellsNotes : MethodName := ⟨RX5, "tellsNotes", "(III)Z"⟩
abbrev cX5_howMany : ByteArray := prog_7_method_8_code
def yX5_howMany : MethodName := ⟨RX5, "howMany", "()I"⟩
def RX6 : String := "JarNotes$Tape"
def TX6 : u_T := fun k => match k with
  | 0 => ("JarNotes$Tape", "bytes", "[I", true)
  | 1 => ("JarNotes$Tape", "size", "I", false)
  | 2 => ("JarNotes$Tape", "at", "I", false)
  | 3 => ("JarNotes$Tape", "fault", "I", false)
  | _ => ("JarNotes$Tape", "value", "I", false)
def tyX6 : Nat → FieldType := fun k => match k with
  | 0 => .array .int
  | 1 => .int
  | 2 => .int
  | 3 => .int
  | _ => .int
theorem nmX6 : ∀ a, a < 5 → ∀ b, b < 5 → a ≠ b → (TX6 a).2.1 ≠ (TX6 b).2.1 := by decide +kernel
theorem tyX6_ok : ∀ k, k < 5 → parseFieldDescriptor (TX6 k).2.2.1 = some (tyX6 k) := by decide +kernel
abbrev cX6_init : ByteArray := prog_8_method_1_code
def yX6_init : MethodName := ⟨RX6, "<init>", "()V"⟩
abbrev cX6_takes : ByteArray := prog_8_method_2_code
def yX6_takes : MethodName := ⟨RX6, "takes", "(I)Z"⟩
abbrev cX6_tells : ByteArray := prog_8_method_3_code
def yX6_tells : MethodName := ⟨RX6, "tells", "(LJarNotes$Cellar;)Z"⟩
abbrev cX6_tellsJar : ByteArray := prog_8_method_4_code
def yX6_tellsJar : MethodName := ⟨RX6, "tellsJar", "(LJarNotes$Cellar;)Z"⟩
abbrev cX6_kindOf : ByteArray := prog_8_method_5_code
def yX6_kindOf : MethodName := ⟨RX6, "kindOf", "(I)I"⟩
abbrev cX6_passes : ByteArray := prog_8_method_6_code
def yX6_passes : MethodName := ⟨RX6, "passes", "(I)Z"⟩
abbrev cX6_numbers : ByteArray := prog_8_method_7_code
def yX6_numbers : MethodName := ⟨RX6, "numbers", "(II)Z"⟩
abbrev cX6_figures : ByteArray := prog_8_method_8_code
def yX6_figures : MethodName := ⟨RX6, "figures", "()I"⟩
abbrev cX6_fails : ByteArray := prog_8_method_9_code
def yX6_fails : MethodName := ⟨RX6, "fails", "(I)Z"⟩
def RX7 : String := "JarNotes"
def TX7 : u_T := fun k => match k with
  | 0 => ("JarNotes", "rows", "LJarNotes$Rows;", true)
  | 1 => ("JarNotes", "tape", "LJarNotes$Tape;", true)
  | 2 => ("JarNotes", "cellar", "LJarNotes$Cellar;", true)
  | 3 => ("JarNotes", "draft", "LJarNotes$Cellar;", true)
  | 4 => ("JarNotes", "acts", "LJarNotes$Acts;", true)
  | 5 => ("JarNotes", "foretold", "LJarNotes$Foretold;", true)
  | 6 => ("JarNotes", "asks", "LJarNotes$Asks;", true)
  | 7 => ("JarNotes", "images", "[LJarNotes$Cellar;", true)
  | 8 => ("JarNotes", "latestFault", "I", false)
  | _ => ("JarNotes", "finding", "I", false)
def tyX7 : Nat → FieldType := fun k => match k with
  | 0 => .object "JarNotes$Rows"
  | 1 => .object "JarNotes$Tape"
  | 2 => .object "JarNotes$Cellar"
  | 3 => .object "JarNotes$Cellar"
  | 4 => .object "JarNotes$Acts"
  | 5 => .object "JarNotes$Foretold"
  | 6 => .object "JarNotes$Asks"
  | 7 => .array (.object "JarNotes$Cellar")
  | 8 => .int
  | _ => .int
theorem nmX7 : ∀ a, a < 10 → ∀ b, b < 10 → a ≠ b → (TX7 a).2.1 ≠ (TX7 b).2.1 := by decide +kernel
theorem tyX7_ok : ∀ k, k < 10 → parseFieldDescriptor (TX7 k).2.2.1 = some (tyX7 k) := by decide +kernel
abbrev cX7_init : ByteArray := prog_1_method_1_code
def yX7_init : MethodName := ⟨RX7, "<init>", "()V"⟩
abbrev cX7_row : ByteArray := prog_1_method_2_code
def yX7_row : MethodName := ⟨RX7, "row", "(III)I"⟩
abbrev cX7_set : ByteArray := prog_1_method_3_code
def yX7_set : MethodName := ⟨RX7, "set", "(III)I"⟩
abbrev cX7_copy : ByteArray := prog_1_method_4_code
def yX7_copy : MethodName := ⟨RX7, "copy", "(IIIII)I"⟩
abbrev cX7_drop : ByteArray := prog_1_method_5_code
def yX7_drop : MethodName := ⟨RX7, "drop", "(I)I"⟩
abbrev cX7_feed : ByteArray := prog_1_method_6_code
def yX7_feed : MethodName := ⟨RX7, "feed", "(I)I"⟩
abbrev cX7_cellar : ByteArray := prog_1_method_7_code
def yX7_cellar : MethodName := ⟨RX7, "cellar", "()I"⟩
abbrev cX7_fault : ByteArray := prog_1_method_8_code
def yX7_fault : MethodName := ⟨RX7, "fault", "()I"⟩
abbrev cX7_undo : ByteArray := prog_1_method_9_code
def yX7_undo : MethodName := ⟨RX7, "undo", "()I"⟩
abbrev cX7_years : ByteArray := prog_1_method_10_code
def yX7_years : MethodName := ⟨RX7, "years", "(I)I"⟩
abbrev cX7_sneeze : ByteArray := prog_1_method_11_code
def yX7_sneeze : MethodName := ⟨RX7, "sneeze", "(II)I"⟩
abbrev cX7_open : ByteArray := prog_1_method_12_code
def yX7_open : MethodName := ⟨RX7, "open", "(I)I"⟩
abbrev cX7_change : ByteArray := prog_1_method_13_code
def yX7_change : MethodName := ⟨RX7, "change", "(II)I"⟩
abbrev cX7_seal : ByteArray := prog_1_method_14_code
def yX7_seal : MethodName := ⟨RX7, "seal", "(III)I"⟩
abbrev cX7_reach : ByteArray := prog_1_method_15_code
def yX7_reach : MethodName := ⟨RX7, "reach", "(I)I"⟩
abbrev cX7_jar : ByteArray := prog_1_method_16_code
def yX7_jar : MethodName := ⟨RX7, "jar", "(II)I"⟩
abbrev cX7_stand : ByteArray := prog_1_method_17_code
def yX7_stand : MethodName := ⟨RX7, "stand", "(I)I"⟩
abbrev cX7_chain : ByteArray := prog_1_method_18_code
def yX7_chain : MethodName := ⟨RX7, "chain", "(III)I"⟩
abbrev cX7_worst : ByteArray := prog_1_method_19_code
def yX7_worst : MethodName := ⟨RX7, "worst", "(I)I"⟩
abbrev cX7_when : ByteArray := prog_1_method_20_code
def yX7_when : MethodName := ⟨RX7, "when", "(I)I"⟩
abbrev cX7_kept : ByteArray := prog_1_method_21_code
def yX7_kept : MethodName := ⟨RX7, "kept", "(I)I"⟩
abbrev cX7_guard : ByteArray := prog_1_method_22_code
def yX7_guard : MethodName := ⟨RX7, "guard", "(IIII)I"⟩
abbrev cX7_changes : ByteArray := prog_1_method_23_code
def yX7_changes : MethodName := ⟨RX7, "changes", "(I)I"⟩
abbrev cX7_tuned : ByteArray := prog_1_method_24_code
def yX7_tuned : MethodName := ⟨RX7, "tuned", "(II)I"⟩
abbrev cX7_spared : ByteArray := prog_1_method_25_code
def yX7_spared : MethodName := ⟨RX7, "spared", "(I)I"⟩
abbrev cX7_alike : ByteArray := prog_1_method_26_code
def yX7_alike : MethodName := ⟨RX7, "alike", "(I)I"⟩
abbrev cX7_song : ByteArray := prog_1_method_27_code
def yX7_song : MethodName := ⟨RX7, "song", "(IIII)I"⟩
abbrev cX7_who : ByteArray := prog_1_method_28_code
def yX7_who : MethodName := ⟨RX7, "who", "(IIIIII)I"⟩
abbrev cX7_reaches : ByteArray := prog_1_method_29_code
def yX7_reaches : MethodName := ⟨RX7, "reaches", "(IIII)I"⟩
abbrev cX7_mould : ByteArray := prog_1_method_30_code
def yX7_mould : MethodName := ⟨RX7, "mould", "(IIIII)J"⟩
abbrev cX7_drawn : ByteArray := prog_1_method_31_code
def yX7_drawn : MethodName := ⟨RX7, "drawn", "(III)I"⟩
abbrev cX7_image : ByteArray := prog_1_method_32_code
def yX7_image : MethodName := ⟨RX7, "image", "(I)I"⟩
abbrev cX7_restore : ByteArray := prog_1_method_33_code
def yX7_restore : MethodName := ⟨RX7, "restore", "(I)I"⟩
abbrev cX7_kind : ByteArray := prog_1_method_34_code
def yX7_kind : MethodName := ⟨RX7, "kind", "(I)I"⟩
abbrev cX7_as : ByteArray := prog_1_method_35_code
def yX7_as : MethodName := ⟨RX7, "as", "(II)I"⟩
abbrev cX7_ask : ByteArray := prog_1_method_36_code
def yX7_ask : MethodName := ⟨RX7, "ask", "(II)I"⟩
abbrev cX7_trace : ByteArray := prog_1_method_37_code
def yX7_trace : MethodName := ⟨RX7, "trace", "(I)I"⟩
abbrev cX7_count : ByteArray := prog_1_method_38_code
def yX7_count : MethodName := ⟨RX7, "count", "(I)I"⟩
abbrev cX7_status : ByteArray := prog_1_method_39_code
def yX7_status : MethodName := ⟨RX7, "status", "()I"⟩
abbrev cX7_found : ByteArray := prog_1_method_40_code
def yX7_found : MethodName := ⟨RX7, "found", "(I)I"⟩
abbrev cX7_fine : ByteArray := prog_1_method_41_code
def yX7_fine : MethodName := ⟨RX7, "fine", "(I)I"⟩
abbrev cX7_noCellar : ByteArray := prog_1_method_42_code
def yX7_noCellar : MethodName := ⟨RX7, "noCellar", "()Z"⟩
abbrev cX7_isJar : ByteArray := prog_1_method_43_code
def yX7_isJar : MethodName := ⟨RX7, "isJar", "(I)Z"⟩
abbrev cX7_isPlace : ByteArray := prog_1_method_44_code
def yX7_isPlace : MethodName := ⟨RX7, "isPlace", "(I)Z"⟩
abbrev cX7_isSneeze : ByteArray := prog_1_method_45_code
def yX7_isSneeze : MethodName := ⟨RX7, "isSneeze", "(II)Z"⟩
abbrev cX7_isNote : ByteArray := prog_1_method_46_code
def yX7_isNote : MethodName := ⟨RX7, "isNote", "(I)Z"⟩
abbrev cX7_isRow : ByteArray := prog_1_method_47_code
def yX7_isRow : MethodName := ⟨RX7, "isRow", "(I)Z"⟩
abbrev cX7_isHalf : ByteArray := prog_1_method_48_code
def yX7_isHalf : MethodName := ⟨RX7, "isHalf", "(I)Z"⟩
abbrev cX7_within : ByteArray := prog_1_method_49_code
def yX7_within : MethodName := ⟨RX7, "within", "(III)Z"⟩
abbrev cX7_has : ByteArray := prog_1_method_50_code
def yX7_has : MethodName := ⟨RX7, "has", "(II)Z"⟩
abbrev cX7_isA : ByteArray := prog_1_method_51_code
def yX7_isA : MethodName := ⟨RX7, "isA", "(II)Z"⟩
def RX8 : String := "JarNotesModel"
def TX8 : u_T := fun k => match k with
  | 0 => ("JarNotesModel", "thrown", "I", false)
  | 1 => ("JarNotesModel", "status", "I", false)
  | 2 => ("JarNotesModel", "lane", "[I", true)
  | 3 => ("JarNotesModel", "many", "[I", true)
  | 4 => ("JarNotesModel", "item", "[I", true)
  | 5 => ("JarNotesModel", "cellar", "[I", true)
  | 6 => ("JarNotesModel", "fresh", "[I", true)
  | 7 => ("JarNotesModel", "then", "[I", true)
  | 8 => ("JarNotesModel", "was", "[I", true)
  | 9 => ("JarNotesModel", "acts", "I", false)
  | 10 => ("JarNotesModel", "tape", "[I", true)
  | 11 => ("JarNotesModel", "taped", "I", false)
  | 12 => ("JarNotesModel", "cursor", "I", false)
  | 13 => ("JarNotesModel", "start", "I", false)
  | 14 => ("JarNotesModel", "token", "I", false)
  | 15 => ("JarNotesModel", "value", "I", false)
  | 16 => ("JarNotesModel", "fault", "I", false)
  | 17 => ("JarNotesModel", "faultAt", "I", false)
  | 18 => ("JarNotesModel", "latest", "I", false)
  | 19 => ("JarNotesModel", "sounds", "[I", true)
  | 20 => ("JarNotesModel", "next", "[I", true)
  | 21 => ("JarNotesModel", "rounds", "I", false)
  | 22 => ("JarNotesModel", "worstNote", "I", false)
  | 23 => ("JarNotesModel", "worstPlace", "I", false)
  | 24 => ("JarNotesModel", "isImage", "[Z", true)
  | 25 => ("JarNotesModel", "images", "[I", true)
  | 26 => ("JarNotesModel", "trace", "[I", true)
  | _ => ("JarNotesModel", "traced", "I", false)
def tyX8 : Nat → FieldType := fun k => match k with
  | 0 => .int
  | 1 => .int
  | 2 => .array .int
  | 3 => .array .int
  | 4 => .array .int
  | 5 => .array .int
  | 6 => .array .int
  | 7 => .array .int
  | 8 => .array .int
  | 9 => .int
  | 10 => .array .int
  | 11 => .int
  | 12 => .int
  | 13 => .int
  | 14 => .int
  | 15 => .int
  | 16 => .int
  | 17 => .int
  | 18 => .int
  | 19 => .array .int
  | 20 => .array .int
  | 21 => .int
  | 22 => .int
  | 23 => .int
  | 24 => .array .boolean
  | 25 => .array .int
  | 26 => .array .int
  | _ => .int
theorem nmX8 : ∀ a, a < 28 → ∀ b, b < 28 → a ≠ b → (TX8 a).2.1 ≠ (TX8 b).2.1 := by decide +kernel
theorem tyX8_ok : ∀ k, k < 28 → parseFieldDescriptor (TX8 k).2.2.1 = some (tyX8 k) := by decide +kernel
abbrev cX8_init : ByteArray := prog_10_method_1_code
def yX8_init : MethodName := ⟨RX8, "<init>", "()V"⟩
abbrev cX8_in : ByteArray := prog_10_method_3_code
def yX8_in : MethodName := ⟨RX8, "in", "(JJJ)Z"⟩
abbrev cX8_finding : ByteArray := prog_10_method_4_code
def yX8_finding : MethodName := ⟨RX8, "finding", "(I)I"⟩
abbrev cX8_isRow : ByteArray := prog_10_method_5_code
def yX8_isRow : MethodName := ⟨RX8, "isRow", "(I)Z"⟩
abbrev cX8_row : ByteArray := prog_10_method_6_code
def yX8_row : MethodName := ⟨RX8, "row", "(III)I"⟩
abbrev cX8_set : ByteArray := prog_10_method_7_code
def yX8_set : MethodName := ⟨RX8, "set", "(III)I"⟩
abbrev cX8_copy : ByteArray := prog_10_method_8_code
def yX8_copy : MethodName := ⟨RX8, "copy", "(IIIII)I"⟩
abbrev cX8_drop : ByteArray := prog_10_method_9_code
def yX8_drop : MethodName := ⟨RX8, "drop", "(I)I"⟩
abbrev cX8_feed : ByteArray := prog_10_method_10_code
def yX8_feed : MethodName := ⟨RX8, "feed", "(I)I"⟩
abbrev cX8_bad : ByteArray := prog_10_method_11_code
def yX8_bad : MethodName := ⟨RX8, "bad", "(I)V"⟩
abbrev cX8_nextToken : ByteArray := prog_10_method_12_code
def yX8_nextToken : MethodName := ⟨RX8, "nextToken", "()V"⟩
abbrev cX8_must : ByteArray := prog_10_method_13_code
def yX8_must : MethodName := ⟨RX8, "must", "(Z)V"⟩
abbrev cX8_isLetter : ByteArray := prog_10_method_14_code
def yX8_isLetter : MethodName := ⟨RX8, "isLetter", "(I)Z"⟩
abbrev cX8_number : ByteArray := prog_10_method_15_code
def yX8_number : MethodName := ⟨RX8, "number", "(II)I"⟩
abbrev cX8_mustSign : ByteArray := prog_10_method_16_code
def yX8_mustSign : MethodName := ⟨RX8, "mustSign", "(I)V"⟩
abbrev cX8_begin : ByteArray := prog_10_method_17_code
def yX8_begin : MethodName := ⟨RX8, "begin", "()V"⟩
abbrev cX8_failed : ByteArray := prog_10_method_18_code
def yX8_failed : MethodName := ⟨RX8, "failed", "()Z"⟩
abbrev cX8_fault : ByteArray := prog_10_method_19_code
def yX8_fault : MethodName := ⟨RX8, "fault", "()I"⟩
abbrev cX8_kindBy : ByteArray := prog_10_method_20_code
def yX8_kindBy : MethodName := ⟨RX8, "kindBy", "(I)I"⟩
abbrev cX8_isSort : ByteArray := prog_10_method_21_code
def yX8_isSort : MethodName := ⟨RX8, "isSort", "()Z"⟩
abbrev cX8_readJar : ByteArray := prog_10_method_22_code
def yX8_readJar : MethodName := ⟨RX8, "readJar", "()V"⟩
abbrev cX8_cellar : ByteArray := prog_10_method_23_code
def yX8_cellar : MethodName := ⟨RX8, "cellar", "()I"⟩
abbrev cX8_isThere : ByteArray := prog_10_method_24_code
def yX8_isThere : MethodName := ⟨RX8, "isThere", "()Z"⟩
abbrev cX8_isJar : ByteArray := prog_10_method_25_code
def yX8_isJar : MethodName := ⟨RX8, "isJar", "(I)Z"⟩
abbrev cX8_isNote : ByteArray := prog_10_method_26_code
def yX8_isNote : MethodName := ⟨RX8, "isNote", "(J)Z"⟩
abbrev cX8_bits : ByteArray := prog_10_method_27_code
def yX8_bits : MethodName := ⟨RX8, "bits", "(I)I"⟩
abbrev cX8_has : ByteArray := prog_10_method_28_code
def yX8_has : MethodName := ⟨RX8, "has", "(II)Z"⟩
abbrev cX8_of : ByteArray := prog_10_method_29_code
def yX8_of : MethodName := ⟨RX8, "of", "([III)I"⟩
abbrev cX8_be : ByteArray := prog_10_method_30_code
def yX8_be : MethodName := ⟨RX8, "be", "([IIII)V"⟩
abbrev cX8_those : ByteArray := prog_10_method_31_code
def yX8_those : MethodName := ⟨RX8, "those", "([II)I"⟩
abbrev cX8_apart : ByteArray := prog_10_method_32_code
def yX8_apart : MethodName := ⟨RX8, "apart", "(II)I"⟩
abbrev cX8_gap : ByteArray := prog_10_method_33_code
def yX8_gap : MethodName := ⟨RX8, "gap", "(II)I"⟩
abbrev cX8_setsOff : ByteArray := prog_10_method_34_code
def yX8_setsOff : MethodName := ⟨RX8, "setsOff", "([II)Z"⟩
abbrev cX8_chainOf : ByteArray := prog_10_method_35_code
def yX8_chainOf : MethodName := ⟨RX8, "chainOf", "([IIII)I"⟩
abbrev cX8_worstOf : ByteArray := prog_10_method_36_code
def yX8_worstOf : MethodName := ⟨RX8, "worstOf", "([I)I"⟩
abbrev cX8_sneezes : ByteArray := prog_10_method_37_code
def yX8_sneezes : MethodName := ⟨RX8, "sneezes", "([III)V"⟩
abbrev cX8_yearOf : ByteArray := prog_10_method_38_code
def yX8_yearOf : MethodName := ⟨RX8, "yearOf", "([I)V"⟩
abbrev cX8_changePlaces : ByteArray := prog_10_method_39_code
def yX8_changePlaces : MethodName := ⟨RX8, "changePlaces", "([III)V"⟩
abbrev cX8_layThen : ByteArray := prog_10_method_40_code
def yX8_layThen : MethodName := ⟨RX8, "layThen", "()V"⟩
abbrev cX8_keep : ByteArray := prog_10_method_41_code
def yX8_keep : MethodName := ⟨RX8, "keep", "()V"⟩
abbrev cX8_years : ByteArray := prog_10_method_42_code
def yX8_years : MethodName := ⟨RX8, "years", "(I)I"⟩
abbrev cX8_sneeze : ByteArray := prog_10_method_43_code
def yX8_sneeze : MethodName := ⟨RX8, "sneeze", "(II)I"⟩
abbrev cX8_open : ByteArray := prog_10_method_44_code
def yX8_open : MethodName := ⟨RX8, "open", "(I)I"⟩
abbrev cX8_change : ByteArray := prog_10_method_45_code
def yX8_change : MethodName := ⟨RX8, "change", "(II)I"⟩
abbrev cX8_seal : ByteArray := prog_10_method_46_code
def yX8_seal : MethodName := ⟨RX8, "seal", "(III)I"⟩
abbrev cX8_reach : ByteArray := prog_10_method_47_code
def yX8_reach : MethodName := ⟨RX8, "reach", "(I)I"⟩
abbrev cX8_undo : ByteArray := prog_10_method_48_code
def yX8_undo : MethodName := ⟨RX8, "undo", "()I"⟩
abbrev cX8_jar : ByteArray := prog_10_method_49_code
def yX8_jar : MethodName := ⟨RX8, "jar", "(II)I"⟩
abbrev cX8_stand : ByteArray := prog_10_method_50_code
def yX8_stand : MethodName := ⟨RX8, "stand", "(I)I"⟩
abbrev cX8_chain : ByteArray := prog_10_method_51_code
def yX8_chain : MethodName := ⟨RX8, "chain", "(III)I"⟩
abbrev cX8_worst : ByteArray := prog_10_method_52_code
def yX8_worst : MethodName := ⟨RX8, "worst", "(I)I"⟩
abbrev cX8_when : ByteArray := prog_10_method_53_code
def yX8_when : MethodName := ⟨RX8, "when", "(I)I"⟩
abbrev cX8_kept : ByteArray := prog_10_method_54_code
def yX8_kept : MethodName := ⟨RX8, "kept", "(I)I"⟩
abbrev cX8_guard : ByteArray := prog_10_method_55_code
def yX8_guard : MethodName := ⟨RX8, "guard", "(IIII)I"⟩
abbrev cX8_changes : ByteArray := prog_10_method_56_code
def yX8_changes : MethodName := ⟨RX8, "changes", "(I)I"⟩
abbrev cX8_tuned : ByteArray := prog_10_method_57_code
def yX8_tuned : MethodName := ⟨RX8, "tuned", "(II)I"⟩
abbrev cX8_spared : ByteArray := prog_10_method_58_code
def yX8_spared : MethodName := ⟨RX8, "spared", "(I)I"⟩
abbrev cX8_breaksBy : ByteArray := prog_10_method_59_code
def yX8_breaksBy : MethodName := ⟨RX8, "breaksBy", "(II)Z"⟩
abbrev cX8_alike : ByteArray := prog_10_method_60_code
def yX8_alike : MethodName := ⟨RX8, "alike", "(I)I"⟩
abbrev cX8_rowFound : ByteArray := prog_10_method_61_code
def yX8_rowFound : MethodName := ⟨RX8, "rowFound", "(III)I"⟩
abbrev cX8_isMany : ByteArray := prog_10_method_62_code
def yX8_isMany : MethodName := ⟨RX8, "isMany", "(II)Z"⟩
abbrev cX8_song : ByteArray := prog_10_method_63_code
def yX8_song : MethodName := ⟨RX8, "song", "(IIII)I"⟩
abbrev cX8_isSo : ByteArray := prog_10_method_64_code
def yX8_isSo : MethodName := ⟨RX8, "isSo", "(III)Z"⟩
abbrev cX8_who : ByteArray := prog_10_method_65_code
def yX8_who : MethodName := ⟨RX8, "who", "(IIIIII)I"⟩
abbrev cX8_reaches : ByteArray := prog_10_method_66_code
def yX8_reaches : MethodName := ⟨RX8, "reaches", "(IIII)I"⟩
abbrev cX8_mould : ByteArray := prog_10_method_67_code
def yX8_mould : MethodName := ⟨RX8, "mould", "(IIIII)J"⟩
abbrev cX8_drawn : ByteArray := prog_10_method_68_code
def yX8_drawn : MethodName := ⟨RX8, "drawn", "(III)I"⟩
abbrev cX8_image : ByteArray := prog_10_method_69_code
def yX8_image : MethodName := ⟨RX8, "image", "(I)I"⟩
abbrev cX8_restore : ByteArray := prog_10_method_70_code
def yX8_restore : MethodName := ⟨RX8, "restore", "(I)I"⟩
abbrev cX8_isOf : ByteArray := prog_10_method_71_code
def yX8_isOf : MethodName := ⟨RX8, "isOf", "(II)Z"⟩
abbrev cX8_kind : ByteArray := prog_10_method_72_code
def yX8_kind : MethodName := ⟨RX8, "kind", "(I)I"⟩
abbrev cX8_as : ByteArray := prog_10_method_73_code
def yX8_as : MethodName := ⟨RX8, "as", "(II)I"⟩
abbrev cX8_began : ByteArray := prog_10_method_74_code
def yX8_began : MethodName := ⟨RX8, "began", "(I)V"⟩
abbrev cX8_plainSize : ByteArray := prog_10_method_75_code
def yX8_plainSize : MethodName := ⟨RX8, "plainSize", "(I)I"⟩
abbrev cX8_stoneSize : ByteArray := prog_10_method_76_code
def yX8_stoneSize : MethodName := ⟨RX8, "stoneSize", "(I)I"⟩
abbrev cX8_markOf : ByteArray := prog_10_method_77_code
def yX8_markOf : MethodName := ⟨RX8, "markOf", "(I)I"⟩
abbrev cX8_sizeOf : ByteArray := prog_10_method_78_code
def yX8_sizeOf : MethodName := ⟨RX8, "sizeOf", "(I)I"⟩
abbrev cX8_ask : ByteArray := prog_10_method_79_code
def yX8_ask : MethodName := ⟨RX8, "ask", "(II)I"⟩
abbrev cX8_trace : ByteArray := prog_10_method_80_code
def yX8_trace : MethodName := ⟨RX8, "trace", "(I)I"⟩
abbrev cX8_count : ByteArray := prog_10_method_81_code
def yX8_count : MethodName := ⟨RX8, "count", "(I)I"⟩
abbrev cX8_status : ByteArray := prog_10_method_82_code
def yX8_status : MethodName := ⟨RX8, "status", "()I"⟩
def RJ6 : String := "java/lang/Integer"
def TJ6 : u_T := fun k => match k with
  | _ => ("", "", "", false)
def tyJ6 : Nat → FieldType := fun k => match k with
  | _ => .int
theorem nmJ6 : ∀ a, a < 0 → ∀ b, b < 0 → a ≠ b → (TJ6 a).2.1 ≠ (TJ6 b).2.1 := by decide +kernel
theorem tyJ6_ok : ∀ k, k < 0 → parseFieldDescriptor (TJ6 k).2.2.1 = some (tyJ6 k) := by decide +kernel
abbrev cJ6_bitCount_0f7a4 : ByteArray := prog_11_method_49_code
def yJ6_bitCount_0f7a4 : MethodName := ⟨RJ6, "bitCount", "(I)I"⟩
def RJ9 : String := "java/lang/Math"
def TJ9 : u_T := fun k => match k with
  | _ => ("", "", "", false)
def tyJ9 : Nat → FieldType := fun k => match k with
  | _ => .int
theorem nmJ9 : ∀ a, a < 0 → ∀ b, b < 0 → a ≠ b → (TJ9 a).2.1 ≠ (TJ9 b).2.1 := by decide +kernel
theorem tyJ9_ok : ∀ k, k < 0 → parseFieldDescriptor (TJ9 k).2.2.1 = some (tyJ9 k) := by decide +kernel
abbrev cJ9_abs_0f7a4 : ByteArray := prog_12_method_59_code
def yJ9_abs_0f7a4 : MethodName := ⟨RJ9, "abs", "(I)I"⟩
abbrev cJ9_min_7cf53 : ByteArray := prog_12_method_69_code
def yJ9_min_7cf53 : MethodName := ⟨RJ9, "min", "(II)I"⟩
def RJ10 : String := "java/lang/System"
def TJ10 : u_T := fun k => match k with
  | _ => ("", "", "", false)
def tyJ10 : Nat → FieldType := fun k => match k with
  | _ => .int
theorem nmJ10 : ∀ a, a < 0 → ∀ b, b < 0 → a ≠ b → (TJ10 a).2.1 ≠ (TJ10 b).2.1 := by decide +kernel
theorem tyJ10_ok : ∀ k, k < 0 → parseFieldDescriptor (TJ10 k).2.2.1 = some (tyJ10 k) := by decide +kernel
def RL : String := "JarNotesLaw"
abbrev cL_law : ByteArray := code
def yL_law : MethodName := ⟨RL, "law", "([I)Z"⟩
end
section

/-! THE LOGIC: a small machine over numbered cells, with its rows out of the kit's rows -/
abbrev MI : Type := MethodName × ByteArray × Nat × Option FieldType
abbrev SC : Type := (Nat × List Value) ⊕ (FieldType × vp_A)
abbrev SH : Type := (Nat → SC) × Nat
abbrev vwCl : List vw_C := [(RX0, TX0, 3), (RX1, TX1, 2), (RX2, TX2, 8), (RX3, TX3, 6), (RX4, TX4, 7), (RX5, TX5, 4), (RX6, TX6, 5), (RX7, TX7, 10), (RX8, TX8, 28)]
def TT : Nat → u_T := fun ci => match ci with
  | 0 => TX0 | 1 => TX1 | 2 => TX2 | 3 => TX3 | 4 => TX4 | 5 => TX5 | 6 => TX6 | 7 => TX7 | _ => TX8
def RR : Nat → String := fun ci => match ci with
  | 0 => RX0 | 1 => RX1 | 2 => RX2 | 3 => RX3 | 4 => RX4 | 5 => RX5 | 6 => RX6 | 7 => RX7 | _ => RX8
def NN : Nat → Nat := fun ci => match ci with
  | 0 => 3 | 1 => 2 | 2 => 8 | 3 => 6 | 4 => 7 | 5 => 4 | 6 => 5 | 7 => 10 | _ => 28
def tyT : Nat → Nat → FieldType := fun ci => match ci with
  | 0 => tyX0 | 1 => tyX1 | 2 => tyX2 | 3 => tyX3 | 4 => tyX4 | 5 => tyX5 | 6 => tyX6 | 7 => tyX7 | _ => tyX8
def lw_g : List Cond := lw_tbl.filter goodWord
def isNest : Cond → Bool
  | .methodLinkNest .. => true
  | .fieldLinkNest .. => true
  | _ => false
def nestW : List Cond := lw_tbl.filter isNest
theorem lw_g_good : ∀ w ∈ lw_g, goodWord w = true := fun w h => (List.mem_filter.mp h).2
theorem lw_g_in : ∀ w ∈ lw_g, w ∈ lw_tbl := fun w h => (List.mem_filter.mp h).1
theorem gd {w : Cond} (i : Nat) (h : tables_1[i]? = some w) (hg : goodWord w = true) : w ∈ lw_g := List.mem_filter.mpr ⟨List.mem_append_right _ (List.mem_of_getElem? h), hg⟩
theorem gdp {w : Cond} (i : Nat) (h : (k2_sels lw_privs)[i]? = some w) (hg : goodWord w = true) : w ∈ lw_g := List.mem_filter.mpr ⟨List.mem_append_left _ (List.mem_of_getElem? h), hg⟩
theorem gdn {w : Cond} (i : Nat) (h : tables_1[i]? = some w) (hg : isNest w = true) : w ∈ nestW := List.mem_filter.mpr ⟨List.mem_append_right _ (List.mem_of_getElem? h), hg⟩
def aoA (U : State) : Prop := (Cond.arrayOver (.array .int)).before #[] U = true
def Nws (U : State) : Prop := (∀ w ∈ nestW, va_Nw w U) ∧ va_AO RX2 U ∧ aoA U
theorem aoA.moved {u U : State} (hvm : u.vm.Alike U.vm) (h : aoA u) : aoA U := by
  have hv : ∀ V : State, aoA V ↔ ((V.vm.findClass (FieldType.array .int).toString).bind fun comp => (V.vm.classes.findIdx? fun (x : Class) => match x.kind with | .array component _ => component == comp | _ => false).bind fun c => (V.vm.classes[c]?).map fun (k : Class) => match k.kind with | .array _ ty => decide (ty = FieldType.array .int) && decide (V.vm.findClass ("[" ++ (FieldType.array .int).toString) = some c) | _ => false) = some true := by
    intro V
    unfold aoA Cond.before Cond.holds
    simp only [Cond.value, beq_iff_eq]
    exact Iff.rfl
  rw [hv] at h ⊢
  rw [hvm.findClass]
  cases hc : u.vm.findClass (FieldType.array .int).toString with
  | none => rw [hc] at h; cases h
  | some comp =>
    rw [hc] at h
    simp only [Option.bind_some] at h ⊢
    have hi : (U.vm.classes.findIdx? fun (x : Class) => match x.kind with | .array component _ => component == comp | _ => false) = (u.vm.classes.findIdx? fun (x : Class) => match x.kind with | .array component _ => component == comp | _ => false) := by
      have a1 := va_idx_bare U.vm comp
      have a2 := va_idx_bare u.vm comp
      first | rw [hvm.bare_eq] at a1 | rw [← hvm.bare_eq] at a1
      exact a1.symm.trans a2
    rw [hi]
    cases hx : (u.vm.classes.findIdx? fun (x : Class) => match x.kind with | .array component _ => component == comp | _ => false) with
    | none => rw [hx] at h; cases h
    | some c =>
      rw [hx] at h
      simp only [Option.bind_some] at h ⊢
      cases hk : u.vm.classes[c]? with
      | none => rw [hk] at h; cases h
      | some k =>
        obtain ⟨k', hk', he⟩ := hvm.2.2 _ _ hk
        rw [hk] at h
        rw [hk']
        simp only [Option.map_some] at h ⊢
        have hkk : k'.kind = k.kind := by rw [he]
        rw [hkk, hvm.findClass]
        exact h
theorem Nws.warm {s U : State} (hW : s.WarmedH U.vm) (h : Nws s) : Nws U := by
  refine ⟨fun w hw => ?_, h.2.1.moved hW.alike, h.2.2.moved hW.alike⟩
  have h1 := h.1 w hw
  have h2 := (List.mem_filter.mp hw).2
  cases w <;> first | (exact va_Nw.warmM hW h1) | (exact va_Nw.warmF hW h1) | (cases h2)
theorem nine {P : Nat → Prop} (h0 : P 0) (h1 : P 1) (h2 : P 2) (h3 : P 3) (h4 : P 4) (h5 : P 5) (h6 : P 6) (h7 : P 7) (h8 : P 8) : ∀ ci, ci < 9 → P ci := by
  intro ci h
  match ci, h with
  | 0, _ => exact h0
  | 1, _ => exact h1
  | 2, _ => exact h2
  | 3, _ => exact h3
  | 4, _ => exact h4
  | 5, _ => exact h5
  | 6, _ => exact h6
  | 7, _ => exact h7
  | 8, _ => exact h8
  | k + 9, h => omega
theorem vwCl_get : ∀ ci, ci < 9 → vwCl[ci]? = some (RR ci, TT ci, NN ci) := nine rfl rfl rfl rfl rfl rfl rfl rfl rfl
theorem tyT_ok : ∀ ci, ci < 9 → ∀ k, k < NN ci → parseFieldDescriptor (TT ci k).2.2.1 = some (tyT ci k) := nine tyX0_ok tyX1_ok tyX2_ok tyX3_ok tyX4_ok tyX5_ok tyX6_ok tyX7_ok tyX8_ok
theorem nm_ok : ∀ ci, ci < 9 → ∀ a, a < NN ci → ∀ b, b < NN ci → a ≠ b → (TT ci a).2.1 ≠ (TT ci b).2.1 := nine nmX0 nmX1 nmX2 nmX3 nmX4 nmX5 nmX6 nmX7 nmX8
theorem in_ok0 : ∀ w ∈ u_ws RX0 TX0 3, w ∈ lw_g := by decide +kernel
theorem in_ok1 : ∀ w ∈ u_ws RX1 TX1 2, w ∈ lw_g := by decide +kernel
theorem in_ok2 : ∀ w ∈ u_ws RX2 TX2 8, w ∈ lw_g := by decide +kernel
theorem in_ok3 : ∀ w ∈ u_ws RX3 TX3 6, w ∈ lw_g := by decide +kernel
theorem in_ok4 : ∀ w ∈ u_ws RX4 TX4 7, w ∈ lw_g := by decide +kernel
theorem in_ok5 : ∀ w ∈ u_ws RX5 TX5 4, w ∈ lw_g := by decide +kernel
theorem in_ok6 : ∀ w ∈ u_ws RX6 TX6 5, w ∈ lw_g := by decide +kernel
theorem in_ok7 : ∀ w ∈ u_ws RX7 TX7 10, w ∈ lw_g := by decide +kernel
theorem in_ok8 : ∀ w ∈ u_ws RX8 TX8 28, w ∈ lw_g := by decide +kernel
theorem in_ok : ∀ ci, ci < 9 → ∀ w ∈ u_ws (RR ci) (TT ci) (NN ci), w ∈ lw_g := nine in_ok0 in_ok1 in_ok2 in_ok3 in_ok4 in_ok5 in_ok6 in_ok7 in_ok8

def adr (base : Nat) (x : Nat → Nat) (i : Nat) : Nat := if i < 4 then x i else base + (i - 4)
theorem adr_ge {base : Nat} {x : Nat → Nat} {i : Nat} (h : 4 ≤ i) : adr base x i = base + (i - 4) := if_neg (Nat.not_lt.mpr h)
theorem adr_lt {base : Nat} {x : Nat → Nat} {i : Nat} (h : i < 4) : adr base x i = x i := if_pos h
def trV (a : Nat → Nat) : Value → Value
  | .ref i => .ref (a i)
  | v => v
theorem trV_cat (a : Nat → Nat) (v : Value) : (trV a v).category = v.category := by cases v <;> rfl
def trA (a : Nat → Nat) : vp_A → vp_A
  | (n, .inr (.inr (.inr (.inr f)))) => (n, .inr (.inr (.inr (.inr (fun j => (f j).map a)))))
  | b => b
def trC (a : Nat → Nat) (ca : ClassId) : SC → va_E
  | .inl o => .inr (o.1, o.2.map (trV a))
  | .inr b => .inl (ca, trA a b.2)
def wd (base : Nat) (x : Nat → Nat) (ca : Nat → ClassId) (h : SH) : va_W := (List.range h.2).map (fun i => (base + i, trC (adr base x) (ca i) (h.1 (i + 4))))
theorem wd_get (base : Nat) (x : Nat → Nat) (ca : Nat → ClassId) (h : SH) {i : Nat} (hi : i < h.2) : (wd base x ca h)[i]? = some (base + i, trC (adr base x) (ca i) (h.1 (i + 4))) := by
  unfold wd
  rw [List.getElem?_map, List.getElem?_range hi]
  rfl
theorem wd_at {base : Nat} {x : Nat → Nat} {ca : Nat → ClassId} {h : SH} {i : Nat} {c : SC} (h4 : 4 ≤ i) (hi : i < h.2 + 4) (hc : h.1 i = c) : (wd base x ca h)[i - 4]? = some (adr base x i, trC (adr base x) (ca (i - 4)) c) := by
  rw [wd_get base x ca h (by omega), show i - 4 + 4 = i by omega, hc, adr_ge h4]
theorem wd_some {base : Nat} {x : Nat → Nat} {ca : Nat → ClassId} {h : SH} {k : Nat} {q : Nat × va_E} (hq : (wd base x ca h)[k]? = some q) : k < h.2 ∧ q.1 = base + k := by
  have hl : k < h.2 := by
    have := (List.getElem?_eq_some_iff.mp hq).1
    simpa [wd] using this
  rw [wd_get base x ca h hl] at hq
  cases hq
  exact ⟨hl, rfl⟩
theorem wd_D (base : Nat) (x : Nat → Nat) (ca : Nat → ClassId) (h : SH) : va_D (fun q => base ≤ q) (wd base x ca h) := by
  refine ⟨fun i j p q hi hj e => ?_, fun k q hk => ?_⟩
  · have := (wd_some hi).2
    have := (wd_some hj).2
    omega
  · have := (wd_some hk).2
    show base ≤ q.1
    omega
def hset (h : SH) (i : Nat) (c : SC) : SH := (va_up h.1 i c, h.2)
def hnew (h : SH) (c : SC) : SH := (va_up h.1 (h.2 + 4) c, h.2 + 1)
theorem wd_set {base : Nat} {x : Nat → Nat} {ca : Nat → ClassId} {h : SH} {i : Nat} {c : SC} (h4 : 4 ≤ i) : wd base x ca (hset h i c) = (wd base x ca h).set (i - 4) (adr base x i, trC (adr base x) (ca (i - 4)) c) := by
  apply List.ext_getElem?
  intro k
  by_cases hk : k < h.2
  · rw [wd_get base x ca (hset h i c) hk, List.getElem?_set]
    by_cases e : i - 4 = k
    · subst e
      rw [if_pos rfl, if_pos (by simpa [wd] using hk)]
      show some (base + (i - 4), trC (adr base x) (ca (i - 4)) (va_up h.1 i c (i - 4 + 4))) = _
      rw [show i - 4 + 4 = i by omega, adr_ge h4]
      simp [va_up]
    · rw [if_neg e, wd_get base x ca h hk]
      show some (base + k, trC (adr base x) (ca k) (va_up h.1 i c (k + 4))) = _
      have : k + 4 ≠ i := by omega
      simp [va_up, this]
  · have l1 : (wd base x ca (hset h i c)).length = h.2 := by simp [wd, hset]
    have l2 : ((wd base x ca h).set (i - 4) (adr base x i, trC (adr base x) (ca (i - 4)) c)).length = h.2 := by simp [wd]
    rw [List.getElem?_eq_none (by omega), List.getElem?_eq_none (by omega)]
theorem wd_new {base : Nat} {x : Nat → Nat} {ca : Nat → ClassId} {h : SH} {c : SC} {cA : ClassId} : wd base x (va_up ca h.2 cA) (hnew h c) = wd base x ca h ++ [(base + h.2, trC (adr base x) cA c)] := by
  apply List.ext_getElem?
  intro k
  have hlen : (wd base x ca h).length = h.2 := by simp [wd]
  rcases Nat.lt_trichotomy k h.2 with hk | hk | hk
  · rw [List.getElem?_append_left (by omega), wd_get base x ca h hk, wd_get base x _ (hnew h c) (by show k < h.2 + 1; omega)]
    show some (base + k, trC (adr base x) (va_up ca h.2 cA k) (va_up h.1 (h.2 + 4) c (k + 4))) = _
    have e1 : k ≠ h.2 := by omega
    have e2 : k + 4 ≠ h.2 + 4 := by omega
    simp [va_up, e1]
  · subst hk
    rw [List.getElem?_append_right (by omega), hlen, Nat.sub_self, wd_get base x _ (hnew h c) (by show h.2 < h.2 + 1; omega)]
    show some (base + h.2, trC (adr base x) (va_up ca h.2 cA h.2) (va_up h.1 (h.2 + 4) c (h.2 + 4))) = _
    simp [va_up]
  · have l1 : (wd base x (va_up ca h.2 cA) (hnew h c)).length = h.2 + 1 := by simp [wd, hnew]
    rw [List.getElem?_eq_none (by omega), List.getElem?_eq_none (by simp [hlen]; omega)]
def Tys (tys : List (ClassId × FieldType)) (ca : Nat → ClassId) (h : SH) : Prop := ∀ i, i < h.2 → ∀ ty a, h.1 (i + 4) = .inr (ty, a) → ∃ t0 : Nat, tys[t0]? = some (ca i, ty)
def Xt (x : Nat → Nat) (base : Nat) (E : Nat → SC) (s : State) : Prop := (∀ i, i < 4 → ∃ (n : Nat) (f : Nat → Int32), E i = .inr (.int, n, .inl f) ∧ va_T .int (x i) n (fun j => .int (f j)) (fun q => base ≤ q) s s.heap) ∧
  va_Z RX7 "KIND_ABOVE" "[I" (.ref (x 1)) (fun q => base ≤ q) s s.heap ∧ va_Z RX1 "SIZE_BODIES" "[I" (.ref (x 2)) (fun q => base ≤ q) s s.heap ∧ va_Z RX1 "MARK_BODIES" "[I" (.ref (x 3)) (fun q => base ≤ q) s s.heap ∧ Nws s
def Dy (R : Room) (s : State) (D : va_G) (base : Nat) (x : Nat → Nat) (E : Nat → SC) (H : Heap) (locs : List Loc) (cells slots : Nat) (ca : Nat → ClassId) (tys : List (ClassId × FieldType)) (h : SH) : Prop :=
  va_K D vwCl tys s ∧ va_P D vwCl (wd base x ca h) H ∧ va_S (fun q => base ≤ q) s.heap H locs ∧ H.size = base + h.2 ∧ Tys tys ca h ∧ (∀ i, i < 4 → h.1 i = E i) ∧ cells ≤ R.cells ∧ slots ≤ R.slots
def RetAt (M : MI) (pc : Nat) (r : Option Value) : Prop :=
  (r = none ∧ M.2.2.2 = none ∧ decode M.2.1 pc = .ok (.return_, 1)) ∨ (∃ (v : Int32) (ty : FieldType), r = some (.int v) ∧ M.2.2.2 = some ty ∧ narrow ty (.int v) = .int v ∧ decode M.2.1 pc = .ok (.ireturn, 1)) ∨ (∃ v : Int64, r = some (.long v) ∧ M.2.2.2 = some .long ∧ decode M.2.1 pc = .ok (.lreturn, 1))
def Fx (M : MI) (d : Nat) (p : Program) (l : Launch) (e : Env) (R : Room) (s : State) (m : MethodId) (args : Array Value) (below : List Frame) (meth : Method) (c : Code) (Z : State → Prop) (D : va_G) (base : Nat) (x : Nat → Nat) (E : Nat → SC) (Q : Option Value → SH → Prop) : Prop :=
  p.tables.exec = Jvm.exec ∧ c.code = M.2.1 ∧ c.maxLocals = M.2.2.1 ∧ s.vm.findClass M.1.cls = some m.cls ∧ (∀ w ∈ lw_g, w.before args s = true) ∧ base ≤ s.heap.size ∧ (d + 1 ≤ R.frames ∧ 64 * (d + 1) ≤ R.locals) ∧ Xt x base E s ∧ meth.name = M.1.name ∧
  ∀ (pc : Nat) (r : Option Value) (h' : SH) (H' : Heap) (locs' : List Loc) (cells' slots' : Nat) (ca' : Nat → ClassId) (tys' : List (ClassId × FieldType)) (lsA' : Array Slot), RetAt M pc r → Dy R s D base x E H' locs' cells' slots' ca' tys' h' → Q r h' → W p l e R s m args below meth c H' locs' cells' slots' Z (F0 m pc lsA' (r.toList.map (trV (adr base x))))
abbrev trL (a : Nat → Nat) (q : Nat × Value) : Nat × Value := (q.1, trV a q.2)
def T (M : MI) (d kc ks pc : Nat) (ls : List (Nat × Value)) (st : List Value) (h : SH) (Q : Option Value → SH → Prop) : Prop :=
  ∀ (p : Program) (l : Launch) (e : Env) (R : Room) (s : State) (m : MethodId) (args : Array Value) (below : List Frame) (meth : Method) (c : Code) (Z : State → Prop) (D : va_G) (base : Nat) (x : Nat → Nat) (E : Nat → SC) (H : Heap) (locs : List Loc) (cells slots : Nat) (ca : Nat → ClassId) (tys : List (ClassId × FieldType)) (lsA : Array Slot),
    Fx M d p l e R s m args below meth c Z D base x E Q → Dy R s D base x E H locs (cells + kc) (slots + ks) ca tys h → lv_has lsA M.2.2.1 (ls.map (trL (adr base x))) →
    W p l e R s m args below meth c H locs cells slots Z (F0 m pc lsA (st.map (trV (adr base x))))
def lset (i : Nat) (v : Value) (ls : List (Nat × Value)) : List (Nat × Value) := (i, v) :: ls.filter (fun q => !(q.1 == i) && !(q.1 + 1 == i && q.2.category == 2))
def lsetL (i : Nat) (v : Value) (ls : List (Nat × Value)) : List (Nat × Value) := (i, v) :: ls.filter (fun q => !(q.1 == i) && (!(q.1 == i + 1) && !(q.1 + 1 == i && q.2.category == 2)))
theorem lset_tr (a : Nat → Nat) (i : Nat) (v : Value) (ls : List (Nat × Value)) : (i, trV a v) :: (ls.map (trL a)).filter (fun q => !(q.1 == i) && !(q.1 + 1 == i && q.2.category == 2)) = (lset i v ls).map (trL a) := by
  unfold lset
  rw [List.map_cons, List.filter_map]
  congr 2
  apply List.filter_congr
  intro q _
  simp [trV_cat]
theorem lsetL_tr (a : Nat → Nat) (i : Nat) (v : Value) (ls : List (Nat × Value)) : (i, trV a v) :: (ls.map (trL a)).filter (fun q => !(q.1 == i) && (!(q.1 == i + 1) && !(q.1 + 1 == i && q.2.category == 2))) = (lsetL i v ls).map (trL a) := by
  unfold lsetL
  rw [List.map_cons, List.filter_map]
  congr 2
  apply List.filter_congr
  intro q _
  simp [trV_cat]
theorem lk_mem {ls : List (Nat × Value)} {i : Nat} {v : Value} (h : ls.lookup i = some v) : (i, v) ∈ ls := by
  induction ls with
  | nil => cases h
  | cons q t ih =>
    obtain ⟨k, w⟩ := q
    rw [List.lookup_cons] at h
    by_cases e : i == k
    · rw [e] at h
      cases h
      rw [eq_of_beq e]
      exact List.mem_cons_self
    · rw [show (i == k) = false by simpa using e] at h
      exact List.mem_cons_of_mem _ (ih h)
theorem lk_at {a : Nat → Nat} {lsA : Array Slot} {n : Nat} {ls : List (Nat × Value)} {i : Nat} {v : Value} (L : lv_has lsA n (ls.map (trL a))) (h : ls.lookup i = some v) : lsA[i]? = some (.val (trV a v)) :=
  L.2.2 (i, trV a v) (List.mem_map.mpr ⟨(i, v), lk_mem h, rfl⟩)
def hob (h : SH) (i ci : Nat) (fs : List Value) : Prop := 4 ≤ i ∧ i < h.2 + 4 ∧ h.1 i = .inl (ci, fs)
def har (h : SH) (i : Nat) (ty : FieldType) (a : vp_A) : Prop := 4 ≤ i ∧ i < h.2 + 4 ∧ h.1 i = .inr (ty, a)
def hxa (h : SH) (i n : Nat) (f : Nat → Int32) : Prop := i < 4 ∧ h.1 i = .inr (.int, n, .inl f)
def FL (own : String) (idx ci k : Nat) : Prop := Cond.fieldLink own idx (TT ci k).1 (TT ci k).2.1 (TT ci k).2.2.1 ∈ lw_g ∧ ci < 9 ∧ k < NN ci
end
section
section TRows
variable {M : MI} {d kc ks pc pc2 : Nat} {ls : List (Nat × Value)} {st : List Value} {h : SH} {Q : Option Value → SH → Prop}
theorem T_iconst {n : Int} {v : Int32} (hf : decode M.2.1 pc = .ok (.iconst n, 1)) (hv : Int32.ofInt n = v) (hp : pc + 1 = pc2) (k : T M d kc ks pc2 ls (.int v :: st) h Q) : T M d kc ks pc ls (st) h Q := by
  subst hp
  intro p l e R s m args below meth c Z D base x E H locs cells slots ca tys lsA F Y L
  exact lv_iconst F.1 F.2.1 hf hv (k p l e R s m args below meth c Z D base x E H locs cells slots ca tys lsA F Y L)
theorem T_bipush {n : Int} {v : Int32} (hf : decode M.2.1 pc = .ok (.bipush n, 2)) (hv : (Int8.ofInt n).toInt32 = v) (hp : pc + 2 = pc2) (k : T M d kc ks pc2 ls (.int v :: st) h Q) : T M d kc ks pc ls (st) h Q := by
  subst hp
  intro p l e R s m args below meth c Z D base x E H locs cells slots ca tys lsA F Y L
  exact lv_bipush F.1 F.2.1 hf hv (k p l e R s m args below meth c Z D base x E H locs cells slots ca tys lsA F Y L)
theorem T_sipush {n : Int} {v : Int32} (hf : decode M.2.1 pc = .ok (.sipush n, 3)) (hv : (Int16.ofInt n).toInt32 = v) (hp : pc + 3 = pc2) (k : T M d kc ks pc2 ls (.int v :: st) h Q) : T M d kc ks pc ls (st) h Q := by
  subst hp
  intro p l e R s m args below meth c Z D base x E H locs cells slots ca tys lsA F Y L
  exact lv_sipush F.1 F.2.1 hf hv (k p l e R s m args below meth c Z D base x E H locs cells slots ca tys lsA F Y L)
theorem T_lconst {n : Fin 2} {v : Int64} (hf : decode M.2.1 pc = .ok (.lconst n, 1)) (hv : Int64.ofNat (n : Nat) = v) (hp : pc + 1 = pc2) (k : T M d kc ks pc2 ls (.long v :: st) h Q) : T M d kc ks pc ls (st) h Q := by
  subst hp
  intro p l e R s m args below meth c Z D base x E H locs cells slots ca tys lsA F Y L
  exact lv_lconst F.1 F.2.1 hf hv (k p l e R s m args below meth c Z D base x E H locs cells slots ca tys lsA F Y L)
theorem T_iadd {a b : Int32} (hf : decode M.2.1 pc = .ok (.iadd, 1)) (hp : pc + 1 = pc2) (k : T M d kc ks pc2 ls (.int (a + b) :: st) h Q) : T M d kc ks pc ls (.int b :: .int a :: st) h Q := by
  subst hp
  intro p l e R s m args below meth c Z D base x E H locs cells slots ca tys lsA F Y L
  exact lv_iadd F.1 F.2.1 hf (k p l e R s m args below meth c Z D base x E H locs cells slots ca tys lsA F Y L)
theorem T_isub {a b : Int32} (hf : decode M.2.1 pc = .ok (.isub, 1)) (hp : pc + 1 = pc2) (k : T M d kc ks pc2 ls (.int (a - b) :: st) h Q) : T M d kc ks pc ls (.int b :: .int a :: st) h Q := by
  subst hp
  intro p l e R s m args below meth c Z D base x E H locs cells slots ca tys lsA F Y L
  exact lv_isub F.1 F.2.1 hf (k p l e R s m args below meth c Z D base x E H locs cells slots ca tys lsA F Y L)
theorem T_imul {a b : Int32} (hf : decode M.2.1 pc = .ok (.imul, 1)) (hp : pc + 1 = pc2) (k : T M d kc ks pc2 ls (.int (a * b) :: st) h Q) : T M d kc ks pc ls (.int b :: .int a :: st) h Q := by
  subst hp
  intro p l e R s m args below meth c Z D base x E H locs cells slots ca tys lsA F Y L
  exact lv_imul F.1 F.2.1 hf (k p l e R s m args below meth c Z D base x E H locs cells slots ca tys lsA F Y L)
theorem T_iand {a b : Int32} (hf : decode M.2.1 pc = .ok (.iand, 1)) (hp : pc + 1 = pc2) (k : T M d kc ks pc2 ls (.int (a &&& b) :: st) h Q) : T M d kc ks pc ls (.int b :: .int a :: st) h Q := by
  subst hp
  intro p l e R s m args below meth c Z D base x E H locs cells slots ca tys lsA F Y L
  exact lv_iand F.1 F.2.1 hf (k p l e R s m args below meth c Z D base x E H locs cells slots ca tys lsA F Y L)
theorem T_ior {a b : Int32} (hf : decode M.2.1 pc = .ok (.ior, 1)) (hp : pc + 1 = pc2) (k : T M d kc ks pc2 ls (.int (a ||| b) :: st) h Q) : T M d kc ks pc ls (.int b :: .int a :: st) h Q := by
  subst hp
  intro p l e R s m args below meth c Z D base x E H locs cells slots ca tys lsA F Y L
  exact lv_ior F.1 F.2.1 hf (k p l e R s m args below meth c Z D base x E H locs cells slots ca tys lsA F Y L)
theorem T_ixor {a b : Int32} (hf : decode M.2.1 pc = .ok (.ixor, 1)) (hp : pc + 1 = pc2) (k : T M d kc ks pc2 ls (.int (a ^^^ b) :: st) h Q) : T M d kc ks pc ls (.int b :: .int a :: st) h Q := by
  subst hp
  intro p l e R s m args below meth c Z D base x E H locs cells slots ca tys lsA F Y L
  exact lv_ixor F.1 F.2.1 hf (k p l e R s m args below meth c Z D base x E H locs cells slots ca tys lsA F Y L)
theorem T_ishl {a b : Int32} (hf : decode M.2.1 pc = .ok (.ishl, 1)) (hp : pc + 1 = pc2) (k : T M d kc ks pc2 ls (.int (a <<< (b &&& 31)) :: st) h Q) : T M d kc ks pc ls (.int b :: .int a :: st) h Q := by
  subst hp
  intro p l e R s m args below meth c Z D base x E H locs cells slots ca tys lsA F Y L
  exact lv_ishl F.1 F.2.1 hf (k p l e R s m args below meth c Z D base x E H locs cells slots ca tys lsA F Y L)
theorem T_ishr {a b : Int32} (hf : decode M.2.1 pc = .ok (.ishr, 1)) (hp : pc + 1 = pc2) (k : T M d kc ks pc2 ls (.int (a >>> (b &&& 31)) :: st) h Q) : T M d kc ks pc ls (.int b :: .int a :: st) h Q := by
  subst hp
  intro p l e R s m args below meth c Z D base x E H locs cells slots ca tys lsA F Y L
  exact lv_ishr F.1 F.2.1 hf (k p l e R s m args below meth c Z D base x E H locs cells slots ca tys lsA F Y L)
theorem T_iushr {a b : Int32} (hf : decode M.2.1 pc = .ok (.iushr, 1)) (hp : pc + 1 = pc2) (k : T M d kc ks pc2 ls (.int ((a.toUInt32 >>> (b.toUInt32 &&& Int32.toUInt32 31)).toInt32) :: st) h Q) : T M d kc ks pc ls (.int b :: .int a :: st) h Q := by
  subst hp
  intro p l e R s m args below meth c Z D base x E H locs cells slots ca tys lsA F Y L
  exact lv_iushr F.1 F.2.1 hf rfl (k p l e R s m args below meth c Z D base x E H locs cells slots ca tys lsA F Y L)
theorem T_ladd {a b : Int64} (hf : decode M.2.1 pc = .ok (.ladd, 1)) (hp : pc + 1 = pc2) (k : T M d kc ks pc2 ls (.long (a + b) :: st) h Q) : T M d kc ks pc ls (.long b :: .long a :: st) h Q := by
  subst hp
  intro p l e R s m args below meth c Z D base x E H locs cells slots ca tys lsA F Y L
  exact lv_ladd F.1 F.2.1 hf (k p l e R s m args below meth c Z D base x E H locs cells slots ca tys lsA F Y L)
theorem T_lsub {a b : Int64} (hf : decode M.2.1 pc = .ok (.lsub, 1)) (hp : pc + 1 = pc2) (k : T M d kc ks pc2 ls (.long (a - b) :: st) h Q) : T M d kc ks pc ls (.long b :: .long a :: st) h Q := by
  subst hp
  intro p l e R s m args below meth c Z D base x E H locs cells slots ca tys lsA F Y L
  exact lv_lsub F.1 F.2.1 hf (k p l e R s m args below meth c Z D base x E H locs cells slots ca tys lsA F Y L)
theorem T_lmul {a b : Int64} (hf : decode M.2.1 pc = .ok (.lmul, 1)) (hp : pc + 1 = pc2) (k : T M d kc ks pc2 ls (.long (a * b) :: st) h Q) : T M d kc ks pc ls (.long b :: .long a :: st) h Q := by
  subst hp
  intro p l e R s m args below meth c Z D base x E H locs cells slots ca tys lsA F Y L
  exact lv_lmul F.1 F.2.1 hf (k p l e R s m args below meth c Z D base x E H locs cells slots ca tys lsA F Y L)
theorem T_irem {a b : Int32} (hf : decode M.2.1 pc = .ok (.irem, 1)) (hne : ¬ b = 0) (hp : pc + 1 = pc2) (k : T M d kc ks pc2 ls (.int (a - a / b * b) :: st) h Q) : T M d kc ks pc ls (.int b :: .int a :: st) h Q := by
  subst hp
  intro p l e R s m args below meth c Z D base x E H locs cells slots ca tys lsA F Y L
  exact lv_irem F.1 F.2.1 hf hne (k p l e R s m args below meth c Z D base x E H locs cells slots ca tys lsA F Y L)
theorem T_ldiv {a b : Int64} (hf : decode M.2.1 pc = .ok (.ldiv, 1)) (hne : ¬ b = 0) (hp : pc + 1 = pc2) (k : T M d kc ks pc2 ls (.long (a / b) :: st) h Q) : T M d kc ks pc ls (.long b :: .long a :: st) h Q := by
  subst hp
  intro p l e R s m args below meth c Z D base x E H locs cells slots ca tys lsA F Y L
  exact lv_ldiv F.1 F.2.1 hf hne (k p l e R s m args below meth c Z D base x E H locs cells slots ca tys lsA F Y L)
theorem T_lrem {a b : Int64} (hf : decode M.2.1 pc = .ok (.lrem, 1)) (hne : ¬ b = 0) (hp : pc + 1 = pc2) (k : T M d kc ks pc2 ls (.long (a - a / b * b) :: st) h Q) : T M d kc ks pc ls (.long b :: .long a :: st) h Q := by
  subst hp
  intro p l e R s m args below meth c Z D base x E H locs cells slots ca tys lsA F Y L
  exact lv_lrem F.1 F.2.1 hf hne (k p l e R s m args below meth c Z D base x E H locs cells slots ca tys lsA F Y L)
theorem T_lcmp {a b : Int64} (hf : decode M.2.1 pc = .ok (.lcmp, 1)) (hp : pc + 1 = pc2) (k : T M d kc ks pc2 ls (.int (lg_cmp a b) :: st) h Q) : T M d kc ks pc ls (.long b :: .long a :: st) h Q := by
  subst hp
  intro p l e R s m args below meth c Z D base x E H locs cells slots ca tys lsA F Y L
  exact W.lcmp F.1 F.2.1 hf (k p l e R s m args below meth c Z D base x E H locs cells slots ca tys lsA F Y L)
theorem T_ineg {a : Int32} (hf : decode M.2.1 pc = .ok (.ineg, 1)) (hp : pc + 1 = pc2) (k : T M d kc ks pc2 ls (.int (-a) :: st) h Q) : T M d kc ks pc ls (.int a :: st) h Q := by
  subst hp
  intro p l e R s m args below meth c Z D base x E H locs cells slots ca tys lsA F Y L
  exact lv_ineg F.1 F.2.1 hf (k p l e R s m args below meth c Z D base x E H locs cells slots ca tys lsA F Y L)
theorem T_i2l {a : Int32} (hf : decode M.2.1 pc = .ok (.i2l, 1)) (hp : pc + 1 = pc2) (k : T M d kc ks pc2 ls (.long a.toInt64 :: st) h Q) : T M d kc ks pc ls (.int a :: st) h Q := by
  subst hp
  intro p l e R s m args below meth c Z D base x E H locs cells slots ca tys lsA F Y L
  exact lv_i2l F.1 F.2.1 hf rfl (k p l e R s m args below meth c Z D base x E H locs cells slots ca tys lsA F Y L)
theorem T_l2i {a : Int64} (hf : decode M.2.1 pc = .ok (.l2i, 1)) (hp : pc + 1 = pc2) (k : T M d kc ks pc2 ls (.int a.toInt32 :: st) h Q) : T M d kc ks pc ls (.long a :: st) h Q := by
  subst hp
  intro p l e R s m args below meth c Z D base x E H locs cells slots ca tys lsA F Y L
  exact lv_l2i F.1 F.2.1 hf rfl (k p l e R s m args below meth c Z D base x E H locs cells slots ca tys lsA F Y L)
theorem T_i2b {a : Int32} (hf : decode M.2.1 pc = .ok (.i2b, 1)) (hp : pc + 1 = pc2) (k : T M d kc ks pc2 ls (.int a.toInt8.toInt32 :: st) h Q) : T M d kc ks pc ls (.int a :: st) h Q := by
  subst hp
  intro p l e R s m args below meth c Z D base x E H locs cells slots ca tys lsA F Y L
  exact lv_i2b F.1 F.2.1 hf rfl (k p l e R s m args below meth c Z D base x E H locs cells slots ca tys lsA F Y L)
theorem T_i2s {a : Int32} (hf : decode M.2.1 pc = .ok (.i2s, 1)) (hp : pc + 1 = pc2) (k : T M d kc ks pc2 ls (.int a.toInt16.toInt32 :: st) h Q) : T M d kc ks pc ls (.int a :: st) h Q := by
  subst hp
  intro p l e R s m args below meth c Z D base x E H locs cells slots ca tys lsA F Y L
  exact lv_i2s F.1 F.2.1 hf rfl (k p l e R s m args below meth c Z D base x E H locs cells slots ca tys lsA F Y L)
theorem T_dup {v : Value} (hf : decode M.2.1 pc = .ok (.dup, 1)) (hv : v.category = 1) (hp : pc + 1 = pc2) (k : T M d kc ks pc2 ls (v :: v :: st) h Q) : T M d kc ks pc ls (v :: st) h Q := by
  subst hp
  intro p l e R s m args below meth c Z D base x E H locs cells slots ca tys lsA F Y L
  exact lv_dup F.1 F.2.1 hf (by rw [trV_cat]; exact hv) (k p l e R s m args below meth c Z D base x E H locs cells slots ca tys lsA F Y L)
theorem T_pop {v : Value} (hf : decode M.2.1 pc = .ok (.pop, 1)) (hv : v.category = 1) (hp : pc + 1 = pc2) (k : T M d kc ks pc2 ls (st) h Q) : T M d kc ks pc ls (v :: st) h Q := by
  subst hp
  intro p l e R s m args below meth c Z D base x E H locs cells slots ca tys lsA F Y L
  exact lv_pop F.1 F.2.1 hf (by rw [trV_cat]; exact hv) (k p l e R s m args below meth c Z D base x E H locs cells slots ca tys lsA F Y L)
theorem T_dup2 {v w : Value} (hf : decode M.2.1 pc = .ok (.dup2, 1)) (hv : v.category = 1) (hw : w.category = 1) (hp : pc + 1 = pc2) (k : T M d kc ks pc2 ls (v :: w :: v :: w :: st) h Q) : T M d kc ks pc ls (v :: w :: st) h Q := by
  subst hp
  intro p l e R s m args below meth c Z D base x E H locs cells slots ca tys lsA F Y L
  exact lv_dup2_11 F.1 F.2.1 hf (by rw [trV_cat]; exact hv) (by rw [trV_cat]; exact hw) (k p l e R s m args below meth c Z D base x E H locs cells slots ca tys lsA F Y L)
theorem T_iload_n {i : Fin 4} {v : Int32} (hf : decode M.2.1 pc = .ok (.iload_n i, 1)) (hl : ls.lookup (i : Nat) = some (.int v)) (hp : pc + 1 = pc2) (k : T M d kc ks pc2 ls (.int v :: st) h Q) : T M d kc ks pc ls st h Q := by
  subst hp
  intro p l e R s m args below meth c Z D base x E H locs cells slots ca tys lsA F Y L
  exact lv_iload_n F.1 F.2.1 hf rfl (lk_at L hl) (k p l e R s m args below meth c Z D base x E H locs cells slots ca tys lsA F Y L)
theorem T_iload {i : Nat} {v : Int32} (hf : decode M.2.1 pc = .ok (.iload i, 2)) (hl : ls.lookup i = some (.int v)) (hp : pc + 2 = pc2) (k : T M d kc ks pc2 ls (.int v :: st) h Q) : T M d kc ks pc ls st h Q := by
  subst hp
  intro p l e R s m args below meth c Z D base x E H locs cells slots ca tys lsA F Y L
  exact lv_iload F.1 F.2.1 hf (lk_at L hl) (k p l e R s m args below meth c Z D base x E H locs cells slots ca tys lsA F Y L)
theorem T_lload_n {i : Fin 4} {v : Int64} (hf : decode M.2.1 pc = .ok (.lload_n i, 1)) (hl : ls.lookup (i : Nat) = some (.long v)) (hp : pc + 1 = pc2) (k : T M d kc ks pc2 ls (.long v :: st) h Q) : T M d kc ks pc ls st h Q := by
  subst hp
  intro p l e R s m args below meth c Z D base x E H locs cells slots ca tys lsA F Y L
  exact lv_lload_n F.1 F.2.1 hf rfl (lk_at L hl) (k p l e R s m args below meth c Z D base x E H locs cells slots ca tys lsA F Y L)
theorem T_lload {i : Nat} {v : Int64} (hf : decode M.2.1 pc = .ok (.lload i, 2)) (hl : ls.lookup i = some (.long v)) (hp : pc + 2 = pc2) (k : T M d kc ks pc2 ls (.long v :: st) h Q) : T M d kc ks pc ls st h Q := by
  subst hp
  intro p l e R s m args below meth c Z D base x E H locs cells slots ca tys lsA F Y L
  exact lv_lload F.1 F.2.1 hf (lk_at L hl) (k p l e R s m args below meth c Z D base x E H locs cells slots ca tys lsA F Y L)
theorem T_aload_n {i : Fin 4} {v : Nat} (hf : decode M.2.1 pc = .ok (.aload_n i, 1)) (hl : ls.lookup (i : Nat) = some (.ref v)) (hp : pc + 1 = pc2) (k : T M d kc ks pc2 ls (.ref v :: st) h Q) : T M d kc ks pc ls st h Q := by
  subst hp
  intro p l e R s m args below meth c Z D base x E H locs cells slots ca tys lsA F Y L
  exact lv_aload_n F.1 F.2.1 hf rfl (lk_at L hl) (k p l e R s m args below meth c Z D base x E H locs cells slots ca tys lsA F Y L)
theorem T_aload {i : Nat} {v : Nat} (hf : decode M.2.1 pc = .ok (.aload i, 2)) (hl : ls.lookup i = some (.ref v)) (hp : pc + 2 = pc2) (k : T M d kc ks pc2 ls (.ref v :: st) h Q) : T M d kc ks pc ls st h Q := by
  subst hp
  intro p l e R s m args below meth c Z D base x E H locs cells slots ca tys lsA F Y L
  exact lv_aload F.1 F.2.1 hf (lk_at L hl) (k p l e R s m args below meth c Z D base x E H locs cells slots ca tys lsA F Y L)
theorem T_istore_n {i : Fin 4} {v : Int32} (hf : decode M.2.1 pc = .ok (.istore_n i, 1)) (hn : (i : Nat) < M.2.2.1) (hp : pc + 1 = pc2) (k : T M d kc ks pc2 (lset (i : Nat) (.int v) ls) st h Q) : T M d kc ks pc ls (.int v :: st) h Q := by
  subst hp
  intro p l e R s m args below meth c Z D base x E H locs cells slots ca tys lsA F Y L
  exact lv_istore_n F.1 F.2.1 hf rfl L hn (lset_tr (adr base x) (i : Nat) (.int v) ls) (fun lsB L2 => k p l e R s m args below meth c Z D base x E H locs cells slots ca tys lsB F Y L2)
theorem T_istore {i : Nat} {v : Int32} (hf : decode M.2.1 pc = .ok (.istore i, 2)) (hn : i < M.2.2.1) (hp : pc + 2 = pc2) (k : T M d kc ks pc2 (lset i (.int v) ls) st h Q) : T M d kc ks pc ls (.int v :: st) h Q := by
  subst hp
  intro p l e R s m args below meth c Z D base x E H locs cells slots ca tys lsA F Y L
  exact lv_istore F.1 F.2.1 hf L hn (lset_tr (adr base x) i (.int v) ls) (fun lsB L2 => k p l e R s m args below meth c Z D base x E H locs cells slots ca tys lsB F Y L2)
theorem T_lstore_n {i : Fin 4} {v : Int64} (hf : decode M.2.1 pc = .ok (.lstore_n i, 1)) (hn : (i : Nat) + 1 < M.2.2.1) (hp : pc + 1 = pc2) (k : T M d kc ks pc2 (lsetL (i : Nat) (.long v) ls) st h Q) : T M d kc ks pc ls (.long v :: st) h Q := by
  subst hp
  intro p l e R s m args below meth c Z D base x E H locs cells slots ca tys lsA F Y L
  exact lv_lstore_n F.1 F.2.1 hf rfl L hn (lsetL_tr (adr base x) (i : Nat) (.long v) ls) (fun lsB L2 => k p l e R s m args below meth c Z D base x E H locs cells slots ca tys lsB F Y L2)
theorem T_lstore {i : Nat} {v : Int64} (hf : decode M.2.1 pc = .ok (.lstore i, 2)) (hn : i + 1 < M.2.2.1) (hp : pc + 2 = pc2) (k : T M d kc ks pc2 (lsetL i (.long v) ls) st h Q) : T M d kc ks pc ls (.long v :: st) h Q := by
  subst hp
  intro p l e R s m args below meth c Z D base x E H locs cells slots ca tys lsA F Y L
  exact lv_lstore F.1 F.2.1 hf L hn (lsetL_tr (adr base x) i (.long v) ls) (fun lsB L2 => k p l e R s m args below meth c Z D base x E H locs cells slots ca tys lsB F Y L2)
theorem T_astore_n {i : Fin 4} {v : Nat} (hf : decode M.2.1 pc = .ok (.astore_n i, 1)) (hn : (i : Nat) < M.2.2.1) (hp : pc + 1 = pc2) (k : T M d kc ks pc2 (lset (i : Nat) (.ref v) ls) st h Q) : T M d kc ks pc ls (.ref v :: st) h Q := by
  subst hp
  intro p l e R s m args below meth c Z D base x E H locs cells slots ca tys lsA F Y L
  exact lv_astore_n F.1 F.2.1 hf rfl L hn (lset_tr (adr base x) (i : Nat) (.ref v) ls) (fun lsB L2 => k p l e R s m args below meth c Z D base x E H locs cells slots ca tys lsB F Y L2)
theorem T_astore {i : Nat} {v : Nat} (hf : decode M.2.1 pc = .ok (.astore i, 2)) (hn : i < M.2.2.1) (hp : pc + 2 = pc2) (k : T M d kc ks pc2 (lset i (.ref v) ls) st h Q) : T M d kc ks pc ls (.ref v :: st) h Q := by
  subst hp
  intro p l e R s m args below meth c Z D base x E H locs cells slots ca tys lsA F Y L
  exact lv_astore F.1 F.2.1 hf L hn (lset_tr (adr base x) i (.ref v) ls) (fun lsB L2 => k p l e R s m args below meth c Z D base x E H locs cells slots ca tys lsB F Y L2)
theorem T_iinc {i : Nat} {n : Int} {v w : Int32} (hf : decode M.2.1 pc = .ok (.iinc i n, 3)) (hl : ls.lookup i = some (.int v)) (hw : v + Int32.ofInt n = w) (hn : i < M.2.2.1) (hp : pc + 3 = pc2) (k : T M d kc ks pc2 (lset i (.int w) ls) st h Q) : T M d kc ks pc ls st h Q := by
  subst hp
  intro p l e R s m args below meth c Z D base x E H locs cells slots ca tys lsA F Y L
  obtain ⟨j, hj⟩ := List.getElem?_of_mem (List.mem_map.mpr ⟨(i, Value.int v), lk_mem hl, rfl⟩ : (i, Value.int v) ∈ ls.map (trL (adr base x)))
  exact lv_iinc F.1 F.2.1 hf L hj hw hn (lset_tr (adr base x) i (.int w) ls) (fun lsB L2 => k p l e R s m args below meth c Z D base x E H locs cells slots ca tys lsB F Y L2)
theorem T_ifeq {a : Int32} {off : Int} {tgt : Nat} (hf : decode M.2.1 pc = .ok (.ifCond .eq off, 3)) (ht : (pc : Int) + off = (tgt : Int)) (hp : pc + 3 = pc2) (kt : a = 0 → T M d kc ks tgt ls st h Q) (kf : ¬ a = 0 → T M d kc ks pc2 ls st h Q) : T M d kc ks pc ls (.int a :: st) h Q := by
  subst hp
  intro p l e R s m args below meth c Z D base x E H locs cells slots ca tys lsA F Y L
  exact lv_if_eq F.1 F.2.1 hf ht (fun z => kt z p l e R s m args below meth c Z D base x E H locs cells slots ca tys lsA F Y L) (fun z => kf z p l e R s m args below meth c Z D base x E H locs cells slots ca tys lsA F Y L)
theorem T_ifne {a : Int32} {off : Int} {tgt : Nat} (hf : decode M.2.1 pc = .ok (.ifCond .ne off, 3)) (ht : (pc : Int) + off = (tgt : Int)) (hp : pc + 3 = pc2) (kt : ¬ a = 0 → T M d kc ks tgt ls st h Q) (kf : a = 0 → T M d kc ks pc2 ls st h Q) : T M d kc ks pc ls (.int a :: st) h Q := by
  subst hp
  intro p l e R s m args below meth c Z D base x E H locs cells slots ca tys lsA F Y L
  exact lv_if_ne F.1 F.2.1 hf ht (fun z => kt z p l e R s m args below meth c Z D base x E H locs cells slots ca tys lsA F Y L) (fun z => kf z p l e R s m args below meth c Z D base x E H locs cells slots ca tys lsA F Y L)
theorem T_iflt {a : Int32} {off : Int} {tgt : Nat} (hf : decode M.2.1 pc = .ok (.ifCond .lt off, 3)) (ht : (pc : Int) + off = (tgt : Int)) (hp : pc + 3 = pc2) (kt : a < 0 → T M d kc ks tgt ls st h Q) (kf : ¬ a < 0 → T M d kc ks pc2 ls st h Q) : T M d kc ks pc ls (.int a :: st) h Q := by
  subst hp
  intro p l e R s m args below meth c Z D base x E H locs cells slots ca tys lsA F Y L
  exact lv_if_lt F.1 F.2.1 hf ht (fun z => kt z p l e R s m args below meth c Z D base x E H locs cells slots ca tys lsA F Y L) (fun z => kf z p l e R s m args below meth c Z D base x E H locs cells slots ca tys lsA F Y L)
theorem T_ifge {a : Int32} {off : Int} {tgt : Nat} (hf : decode M.2.1 pc = .ok (.ifCond .ge off, 3)) (ht : (pc : Int) + off = (tgt : Int)) (hp : pc + 3 = pc2) (kt : 0 ≤ a → T M d kc ks tgt ls st h Q) (kf : ¬ 0 ≤ a → T M d kc ks pc2 ls st h Q) : T M d kc ks pc ls (.int a :: st) h Q := by
  subst hp
  intro p l e R s m args below meth c Z D base x E H locs cells slots ca tys lsA F Y L
  exact lv_if_ge F.1 F.2.1 hf ht (fun z => kt z p l e R s m args below meth c Z D base x E H locs cells slots ca tys lsA F Y L) (fun z => kf z p l e R s m args below meth c Z D base x E H locs cells slots ca tys lsA F Y L)
theorem T_ifgt {a : Int32} {off : Int} {tgt : Nat} (hf : decode M.2.1 pc = .ok (.ifCond .gt off, 3)) (ht : (pc : Int) + off = (tgt : Int)) (hp : pc + 3 = pc2) (kt : 0 < a → T M d kc ks tgt ls st h Q) (kf : ¬ 0 < a → T M d kc ks pc2 ls st h Q) : T M d kc ks pc ls (.int a :: st) h Q := by
  subst hp
  intro p l e R s m args below meth c Z D base x E H locs cells slots ca tys lsA F Y L
  exact lv_if_gt F.1 F.2.1 hf ht (fun z => kt z p l e R s m args below meth c Z D base x E H locs cells slots ca tys lsA F Y L) (fun z => kf z p l e R s m args below meth c Z D base x E H locs cells slots ca tys lsA F Y L)
theorem T_ifle {a : Int32} {off : Int} {tgt : Nat} (hf : decode M.2.1 pc = .ok (.ifCond .le off, 3)) (ht : (pc : Int) + off = (tgt : Int)) (hp : pc + 3 = pc2) (kt : a ≤ 0 → T M d kc ks tgt ls st h Q) (kf : ¬ a ≤ 0 → T M d kc ks pc2 ls st h Q) : T M d kc ks pc ls (.int a :: st) h Q := by
  subst hp
  intro p l e R s m args below meth c Z D base x E H locs cells slots ca tys lsA F Y L
  exact lv_if_le F.1 F.2.1 hf ht (fun z => kt z p l e R s m args below meth c Z D base x E H locs cells slots ca tys lsA F Y L) (fun z => kf z p l e R s m args below meth c Z D base x E H locs cells slots ca tys lsA F Y L)
theorem T_icmpeq {a b : Int32} {off : Int} {tgt : Nat} (hf : decode M.2.1 pc = .ok (.if_icmp .eq off, 3)) (ht : (pc : Int) + off = (tgt : Int)) (hp : pc + 3 = pc2) (kt : a = b → T M d kc ks tgt ls st h Q) (kf : ¬ a = b → T M d kc ks pc2 ls st h Q) : T M d kc ks pc ls (.int b :: .int a :: st) h Q := by
  subst hp
  intro p l e R s m args below meth c Z D base x E H locs cells slots ca tys lsA F Y L
  exact lv_icmp_eq F.1 F.2.1 hf ht (fun z => kt z p l e R s m args below meth c Z D base x E H locs cells slots ca tys lsA F Y L) (fun z => kf z p l e R s m args below meth c Z D base x E H locs cells slots ca tys lsA F Y L)
theorem T_icmpne {a b : Int32} {off : Int} {tgt : Nat} (hf : decode M.2.1 pc = .ok (.if_icmp .ne off, 3)) (ht : (pc : Int) + off = (tgt : Int)) (hp : pc + 3 = pc2) (kt : ¬ a = b → T M d kc ks tgt ls st h Q) (kf : a = b → T M d kc ks pc2 ls st h Q) : T M d kc ks pc ls (.int b :: .int a :: st) h Q := by
  subst hp
  intro p l e R s m args below meth c Z D base x E H locs cells slots ca tys lsA F Y L
  exact lv_icmp_ne F.1 F.2.1 hf ht (fun z => kt z p l e R s m args below meth c Z D base x E H locs cells slots ca tys lsA F Y L) (fun z => kf z p l e R s m args below meth c Z D base x E H locs cells slots ca tys lsA F Y L)
theorem T_icmplt {a b : Int32} {off : Int} {tgt : Nat} (hf : decode M.2.1 pc = .ok (.if_icmp .lt off, 3)) (ht : (pc : Int) + off = (tgt : Int)) (hp : pc + 3 = pc2) (kt : a < b → T M d kc ks tgt ls st h Q) (kf : ¬ a < b → T M d kc ks pc2 ls st h Q) : T M d kc ks pc ls (.int b :: .int a :: st) h Q := by
  subst hp
  intro p l e R s m args below meth c Z D base x E H locs cells slots ca tys lsA F Y L
  exact lv_icmp_lt F.1 F.2.1 hf ht (fun z => kt z p l e R s m args below meth c Z D base x E H locs cells slots ca tys lsA F Y L) (fun z => kf z p l e R s m args below meth c Z D base x E H locs cells slots ca tys lsA F Y L)
theorem T_icmpge {a b : Int32} {off : Int} {tgt : Nat} (hf : decode M.2.1 pc = .ok (.if_icmp .ge off, 3)) (ht : (pc : Int) + off = (tgt : Int)) (hp : pc + 3 = pc2) (kt : b ≤ a → T M d kc ks tgt ls st h Q) (kf : ¬ b ≤ a → T M d kc ks pc2 ls st h Q) : T M d kc ks pc ls (.int b :: .int a :: st) h Q := by
  subst hp
  intro p l e R s m args below meth c Z D base x E H locs cells slots ca tys lsA F Y L
  exact lv_icmp_ge F.1 F.2.1 hf ht (fun z => kt z p l e R s m args below meth c Z D base x E H locs cells slots ca tys lsA F Y L) (fun z => kf z p l e R s m args below meth c Z D base x E H locs cells slots ca tys lsA F Y L)
theorem T_icmpgt {a b : Int32} {off : Int} {tgt : Nat} (hf : decode M.2.1 pc = .ok (.if_icmp .gt off, 3)) (ht : (pc : Int) + off = (tgt : Int)) (hp : pc + 3 = pc2) (kt : b < a → T M d kc ks tgt ls st h Q) (kf : ¬ b < a → T M d kc ks pc2 ls st h Q) : T M d kc ks pc ls (.int b :: .int a :: st) h Q := by
  subst hp
  intro p l e R s m args below meth c Z D base x E H locs cells slots ca tys lsA F Y L
  exact lv_icmp_gt F.1 F.2.1 hf ht (fun z => kt z p l e R s m args below meth c Z D base x E H locs cells slots ca tys lsA F Y L) (fun z => kf z p l e R s m args below meth c Z D base x E H locs cells slots ca tys lsA F Y L)
theorem T_icmple {a b : Int32} {off : Int} {tgt : Nat} (hf : decode M.2.1 pc = .ok (.if_icmp .le off, 3)) (ht : (pc : Int) + off = (tgt : Int)) (hp : pc + 3 = pc2) (kt : a ≤ b → T M d kc ks tgt ls st h Q) (kf : ¬ a ≤ b → T M d kc ks pc2 ls st h Q) : T M d kc ks pc ls (.int b :: .int a :: st) h Q := by
  subst hp
  intro p l e R s m args below meth c Z D base x E H locs cells slots ca tys lsA F Y L
  exact lv_icmp_le F.1 F.2.1 hf ht (fun z => kt z p l e R s m args below meth c Z D base x E H locs cells slots ca tys lsA F Y L) (fun z => kf z p l e R s m args below meth c Z D base x E H locs cells slots ca tys lsA F Y L)
theorem T_goto {off : Int} {tgt : Nat} (hf : decode M.2.1 pc = .ok (.goto off, 3)) (ht : (pc : Int) + off = (tgt : Int)) (k : T M d kc ks tgt ls st h Q) : T M d kc ks pc ls st h Q := by
  intro p l e R s m args below meth c Z D base x E H locs cells slots ca tys lsA F Y L
  exact lv_goto F.1 F.2.1 hf ht (k p l e R s m args below meth c Z D base x E H locs cells slots ca tys lsA F Y L)
theorem T_tableIn {a : Int32} {dflt lo hi : Int} {offs : Array Int} {len : Nat} {off : Int} {tgt : Nat} (hf : decode M.2.1 pc = .ok (.tableswitch dflt lo hi offs, len)) (h1 : ¬ a.toInt < lo) (h2 : ¬ hi < a.toInt) (ho : offs[(a.toInt - lo).toNat]? = some off) (ht : (pc : Int) + off = (tgt : Int)) (k : T M d kc ks tgt ls st h Q) : T M d kc ks pc ls (.int a :: st) h Q := by
  intro p l e R s m args below meth c Z D base x E H locs cells slots ca tys lsA F Y L
  exact lv_tableIn F.1 F.2.1 hf h1 h2 ho ht (k p l e R s m args below meth c Z D base x E H locs cells slots ca tys lsA F Y L)
theorem T_tableOut {a : Int32} {dflt lo hi : Int} {offs : Array Int} {len : Nat} {tgt : Nat} (hf : decode M.2.1 pc = .ok (.tableswitch dflt lo hi offs, len)) (h1 : a.toInt < lo ∨ hi < a.toInt) (ht : (pc : Int) + dflt = (tgt : Int)) (k : T M d kc ks tgt ls st h Q) : T M d kc ks pc ls (.int a :: st) h Q := by
  intro p l e R s m args below meth c Z D base x E H locs cells slots ca tys lsA F Y L
  exact lv_tableOut F.1 F.2.1 hf h1 ht (k p l e R s m args below meth c Z D base x E H locs cells slots ca tys lsA F Y L)
theorem T_lookup {a : Int32} {dflt : Int} {ps : Array (Int × Int)} {len : Nat} {off : Int} {tgt : Nat} (hf : decode M.2.1 pc = .ok (.lookupswitch dflt ps, len)) (h1 : (ps.toList.zip (ps.toList.drop 1)).all (fun (a, next) => a.1 < next.1) = true) (ho : Op.lookupswitch.offset ps.toList dflt a.toInt = off) (ht : (pc : Int) + off = (tgt : Int)) (k : T M d kc ks tgt ls st h Q) : T M d kc ks pc ls (.int a :: st) h Q := by
  intro p l e R s m args below meth c Z D base x E H locs cells slots ca tys lsA F Y L
  exact lv_lookup F.1 F.2.1 hf h1 ho ht (k p l e R s m args below meth c Z D base x E H locs cells slots ca tys lsA F Y L)
theorem T_ifnonnull {r : Option Nat} {off : Int} {tgt : Nat} (hf : decode M.2.1 pc = .ok (.ifnonnull off, 3)) (ht : (pc : Int) + off = (tgt : Int)) (hp : pc + 3 = pc2) (kt : ∀ i, r = some i → T M d kc ks tgt ls st h Q) (kf : r = none → T M d kc ks pc2 ls st h Q) : T M d kc ks pc ls (va_rf r :: st) h Q := by
  subst hp
  intro p l e R s m args below meth c Z D base x E H locs cells slots ca tys lsA F Y L
  cases r with
  | none => exact lv_ifnonnullN F.1 F.2.1 hf (kf rfl p l e R s m args below meth c Z D base x E H locs cells slots ca tys lsA F Y L)
  | some i => exact lv_ifnonnull F.1 F.2.1 hf ht (kt i rfl p l e R s m args below meth c Z D base x E H locs cells slots ca tys lsA F Y L)
theorem T_ldc {index : Nat} {v : Int32} (hf : decode M.2.1 pc = .ok (.ldc index, 2)) (hc : Cond.constant M.1.cls index v ∈ lw_g) (hp : pc + 2 = pc2) (k : T M d kc ks pc2 ls (.int v :: st) h Q) : T M d kc ks pc ls st h Q := by
  subst hp
  intro p l e R s m args below meth c Z D base x E H locs cells slots ca tys lsA F Y L
  obtain ⟨hx, hb, hml, hown, hts, hbs, hR, hXt, hnm, hret⟩ := id F
  exact lv_ldc hx hb hown (hts _ hc) hf (k p l e R s m args below meth c Z D base x E H locs cells slots ca tys lsA F Y L)
theorem T_ldcw {index : Nat} {v : Int32} (hf : decode M.2.1 pc = .ok (.ldc_w index, 3)) (hc : Cond.constant M.1.cls index v ∈ lw_g) (hp : pc + 3 = pc2) (k : T M d kc ks pc2 ls (.int v :: st) h Q) : T M d kc ks pc ls st h Q := by
  subst hp
  intro p l e R s m args below meth c Z D base x E H locs cells slots ca tys lsA F Y L
  obtain ⟨hx, hb, hml, hown, hts, hbs, hR, hXt, hnm, hret⟩ := id F
  exact lv_ldcw hx hb hown (hts _ hc) hf (k p l e R s m args below meth c Z D base x E H locs cells slots ca tys lsA F Y L)
theorem T_ldc2 {index : Nat} {v : Int64} (hf : decode M.2.1 pc = .ok (.ldc2_w index, 3)) (hc : Cond.constantLong M.1.cls index v ∈ lw_g) (hp : pc + 3 = pc2) (k : T M d kc ks pc2 ls (.long v :: st) h Q) : T M d kc ks pc ls st h Q := by
  subst hp
  intro p l e R s m args below meth c Z D base x E H locs cells slots ca tys lsA F Y L
  obtain ⟨hx, hb, hml, hown, hts, hbs, hR, hXt, hnm, hret⟩ := id F
  exact lv_ldc2 hx hb hown (hts _ hc) hf (k p l e R s m args below meth c Z D base x E H locs cells slots ca tys lsA F Y L)
theorem T_getfield {idx ci kf i : Nat} {fs : List Value} {v : Value} (hf : decode M.2.1 pc = .ok (.getfield idx, 3)) (hl : FL M.1.cls idx ci kf) (ho : hob h i ci fs) (hv : fs[kf]? = some v) (hp : pc + 3 = pc2) (k : T M d kc ks pc2 ls (v :: st) h Q) : T M d kc ks pc ls (.ref i :: st) h Q := by
  subst hp
  intro p l e R s m args below meth c Z D base x E H locs cells slots ca tys lsA F Y L
  obtain ⟨hx, hb, hml, hown, hts, hbs, hR, hXt, hnm, hret⟩ := id F
  exact va_get (C := RR ci) (T := TT ci) (N := NN ci) (ci := ci) hx hb hts (in_ok ci hl.2.1) hown Y.1 Y.2.1 (i - 4) (wd_at ho.1 ho.2.1 ho.2.2) (vwCl_get ci hl.2.1) kf hl.2.2 (hts _ hl.1) (fun _ h9 => h9) (by rw [List.getElem?_map, hv]; rfl) hf (k p l e R s m args below meth c Z D base x E H locs cells slots ca tys lsA F Y L)
theorem T_iaload {i n : Nat} {f : Nat → Int32} {j : Int32} (hf : decode M.2.1 pc = .ok (.iaload, 1)) (ho : har h i .int (n, .inl f)) (hj : vp_in j n) (hp : pc + 1 = pc2) (k : T M d kc ks pc2 ls (.int (f j.toNatClampNeg) :: st) h Q) : T M d kc ks pc ls (.int j :: .ref i :: st) h Q := by
  subst hp
  intro p l e R s m args below meth c Z D base x E H locs cells slots ca tys lsA F Y L
  obtain ⟨hx, hb, hml, hown, hts, hbs, hR, hXt, hnm, hret⟩ := id F
  obtain ⟨t0, ht0⟩ := Y.2.2.2.2.1 (i - 4) (by have := ho.1; have := ho.2.1; omega) .int (n, .inl f) (by rw [show i - 4 + 4 = i by have := ho.1; omega]; exact ho.2.2)
  exact va_iald hx hb Y.1 Y.2.1 (i - 4) t0 (wd_at ho.1 ho.2.1 ho.2.2) ht0 hj hf (k p l e R s m args below meth c Z D base x E H locs cells slots ca tys lsA F Y L)
theorem T_baload {i n : Nat} {f : Nat → Int32} {j : Int32} (hf : decode M.2.1 pc = .ok (.baload, 1)) (ho : har h i .boolean (n, .inl f)) (hj : vp_in j n) (hp : pc + 1 = pc2) (k : T M d kc ks pc2 ls (.int (f j.toNatClampNeg) :: st) h Q) : T M d kc ks pc ls (.int j :: .ref i :: st) h Q := by
  subst hp
  intro p l e R s m args below meth c Z D base x E H locs cells slots ca tys lsA F Y L
  obtain ⟨hx, hb, hml, hown, hts, hbs, hR, hXt, hnm, hret⟩ := id F
  obtain ⟨t0, ht0⟩ := Y.2.2.2.2.1 (i - 4) (by have := ho.1; have := ho.2.1; omega) .boolean (n, .inl f) (by rw [show i - 4 + 4 = i by have := ho.1; omega]; exact ho.2.2)
  exact va_zald hx hb Y.1 Y.2.1 (i - 4) t0 (wd_at ho.1 ho.2.1 ho.2.2) ht0 hj hf (k p l e R s m args below meth c Z D base x E H locs cells slots ca tys lsA F Y L)
theorem T_xaload {i n : Nat} {f : Nat → Int32} {j : Int32} (hf : decode M.2.1 pc = .ok (.iaload, 1)) (ho : hxa h i n f) (hj : vp_in j n) (hp : pc + 1 = pc2) (k : T M d kc ks pc2 ls (.int (f j.toNatClampNeg) :: st) h Q) : T M d kc ks pc ls (.int j :: .ref i :: st) h Q := by
  subst hp
  intro p l e R s m args below meth c Z D base x E H locs cells slots ca tys lsA F Y L
  obtain ⟨hx, hb, hml, hown, hts, hbs, hR, hXt, hnm, hret⟩ := id F
  obtain ⟨n2, f2, e2, hT⟩ := hXt.1 i ho.1
  have e3 := (Y.2.2.2.2.2.1 i ho.1).symm.trans ho.2
  rw [e2] at e3
  cases e3
  show W p l e R s m args below meth c H locs cells slots Z (F0 m pc lsA (.int j :: .ref (adr base x i) :: st.map (trV (adr base x))))
  rw [adr_lt ho.1]
  exact va_ti hx hb hT Y.2.2.1 hj rfl hf (k p l e R s m args below meth c Z D base x E H locs cells slots ca tys lsA F Y L)
theorem T_xlen {i n : Nat} {f : Nat → Int32} {v : Int32} (hf : decode M.2.1 pc = .ok (.arraylength, 1)) (ho : hxa h i n f) (hv : Int32.ofNat n = v) (hp : pc + 1 = pc2) (k : T M d kc ks pc2 ls (.int v :: st) h Q) : T M d kc ks pc ls (.ref i :: st) h Q := by
  subst hp
  intro p l e R s m args below meth c Z D base x E H locs cells slots ca tys lsA F Y L
  obtain ⟨hx, hb, hml, hown, hts, hbs, hR, hXt, hnm, hret⟩ := id F
  obtain ⟨n2, f2, e2, hT⟩ := hXt.1 i ho.1
  have e3 := (Y.2.2.2.2.2.1 i ho.1).symm.trans ho.2
  rw [e2] at e3
  cases e3
  show W p l e R s m args below meth c H locs cells slots Z (F0 m pc lsA (.ref (adr base x i) :: st.map (trV (adr base x))))
  rw [adr_lt ho.1]
  exact va_tlen hx hb hT Y.2.2.1 hv hf (k p l e R s m args below meth c Z D base x E H locs cells slots ca tys lsA F Y L)
theorem trV_rf (a : Nat → Nat) (r : Option Nat) : trV a (va_rf r) = va_rf (r.map a) := by cases r <;> rfl
theorem T_aaload {i n : Nat} {ty : FieldType} {f : Nat → Option Nat} {j : Int32} (hf : decode M.2.1 pc = .ok (.aaload, 1)) (ho : har h i ty (n, .inr (.inr (.inr (.inr f))))) (hty : ty.isReference = true) (hj : vp_in j n) (hp : pc + 1 = pc2) (k : T M d kc ks pc2 ls (va_rf (f j.toNatClampNeg) :: st) h Q) : T M d kc ks pc ls (.int j :: .ref i :: st) h Q := by
  subst hp
  intro p l e R s m args below meth c Z D base x E H locs cells slots ca tys lsA F Y L
  obtain ⟨hx, hb, hml, hown, hts, hbs, hR, hXt, hnm, hret⟩ := id F
  obtain ⟨t0, ht0⟩ := Y.2.2.2.2.1 (i - 4) (by have := ho.1; have := ho.2.1; omega) ty _ (by rw [show i - 4 + 4 = i by have := ho.1; omega]; exact ho.2.2)
  have hlt : j.toNatClampNeg < n := Nat.not_le.mp fun q => hj (Or.inr q)
  have hk := (k p l e R s m args below meth c Z D base x E H locs cells slots ca tys lsA F Y L)
  rw [List.map_cons, trV_rf] at hk
  have hc : H[adr base x i]? = some (arrV (ca (i - 4)) n (fun q => va_rf ((f q).map (adr base x)))) := Y.2.1 _ _ (wd_at (base := base) (x := x) (ca := ca) ho.1 ho.2.1 ho.2.2)
  exact W.aald (v := va_rf ((f j.toNatClampNeg).map (adr base x))) (ty := ty) hx hb hc ((Y.1.2 t0 _ ht0).1 n (fun q => va_rf ((f q).map (adr base x)))) hty (fun q => by cases q) (by rw [arrV_size]; exact hj) (by rw [arrV_read _ _ hlt]) rfl rfl hf hk
end TRows
end
section
section TStores
variable {M : MI} {d kc ks pc pc2 : Nat} {ls : List (Nat × Value)} {st : List Value} {h : SH} {Q : Option Value → SH → Prop}
theorem Tys.set {tys : List (ClassId × FieldType)} {ca : Nat → ClassId} {h : SH} {i : Nat} {c : SC} (h0 : Tys tys ca h) (hc : ∀ ty a, c = .inr (ty, a) → ∃ b, h.1 i = .inr (ty, b)) : Tys tys ca (hset h i c) := by
  intro j hj ty a e
  by_cases q : j + 4 = i
  · subst q
    have e2 : c = .inr (ty, a) := by
      have : va_up h.1 (j + 4) c (j + 4) = .inr (ty, a) := e
      simpa [va_up] using this
    obtain ⟨b, hb⟩ := hc ty a e2
    exact h0 j hj ty b hb
  · have : va_up h.1 i c (j + 4) = .inr (ty, a) := e
    simp only [va_up, if_neg q] at this
    exact h0 j hj ty a this
/-- what is left of a store: the world with one cell set -/
theorem Dy.set {R : Room} {s : State} {D : va_G} {base : Nat} {x : Nat → Nat} {E : Nat → SC} {H H1 : Heap} {locs : List Loc} {cells slots : Nat} {ca : Nat → ClassId} {tys : List (ClassId × FieldType)} {i : Nat} {c : SC} {j : Nat}
    (Y : Dy R s D base x E H locs cells slots ca tys h) (h4 : 4 ≤ i) (hi : i < h.2 + 4) (hc : ∀ ty a, c = .inr (ty, a) → ∃ b, h.1 i = .inr (ty, b)) (he : va_at D vwCl (adr base x i, trC (adr base x) (ca (i - 4)) c) H1) (z : H1.size = H.size) (oq : ∀ q : Nat, q ≠ adr base x i → H1[q]? = H[q]?) :
    Dy R s D base x E H1 (locs ++ [⟨adr base x i, j⟩]) cells slots ca tys (hset h i c) := by
  refine ⟨Y.1, ?_, Y.2.2.1.put z oq (by show base ≤ adr base x i; rw [adr_ge h4]; omega), by rw [z]; exact Y.2.2.2.1, Y.2.2.2.2.1.set hc, fun q hq => ?_, Y.2.2.2.2.2.2⟩
  · rw [wd_set h4]
    exact Y.2.1.set (wd_D base x ca h) (wd_at h4 hi rfl) he oq
  · have : q ≠ i := by omega
    show va_up h.1 i c q = E q
    simp only [va_up, if_neg this]
    exact Y.2.2.2.2.2.1 q hq
theorem T_putfield {idx ci kf i : Nat} {fs : List Value} {v : Value} (hf : decode M.2.1 pc = .ok (.putfield idx, 3)) (hl : FL M.1.cls idx ci kf) (ho : hob h i ci fs) (hfin : (TT ci kf).2.2.2 = false) (hn : ∀ a, narrow (tyT ci kf) (trV a v) = trV a v) (hfit : ∀ a, fits (tyT ci kf) (trV a v) = true) (hlen : kf < fs.length) (hp : pc + 3 = pc2) (k : T M d kc ks pc2 ls st (hset h i (.inl (ci, fs.set kf v))) Q) : T M d kc ks pc ls (v :: .ref i :: st) h Q := by
  subst hp
  intro p l e R s m args below meth c Z D base x E H locs cells slots ca tys lsA F Y L
  obtain ⟨hx, hb, hml, hown, hts, hbs, hR, hXt, hnm, hret⟩ := id F
  have hci := hl.2.1
  have hap := va_apart (D := D) (cl := vwCl) (own := M.1.cls) hts (in_ok ci hci) (tyT ci) (tyT_ok ci hci) (nm_ok ci hci) Y.1 (vwCl_get ci hci)
  obtain ⟨r, h1, cell, q1, q2, q3, q4⟩ := Y.2.1 _ _ (wd_at (base := base) (x := x) (ca := ca) ho.1 ho.2.1 ho.2.2)
  have hr : r = (RR ci, TT ci, NN ci) := Option.some.inj (h1.symm.trans (vwCl_get ci hci))
  subst hr
  obtain ⟨hS, hfc, kC, hkC, hkind⟩ := Y.1.1 ci _ (vwCl_get ci hci)
  obtain ⟨cf, kq, fi, f, hi, hsl⟩ := hS kf hl.2.2
  have hlay := hts _ (in_ok ci hci _ (u_in_lay hl.2.2))
  unfold u_lay at hlay
  rw [if_neg (by rw [hfin]; decide)] at hlay
  have hst := (u_facts hfc hkC (u_lays hts (in_ok ci hci) hl.2.2) hi).1
  have h6 := u_store hfc hkC hkind hlay hi (tyT_ok ci hci kf hl.2.2) (hn (adr base x)) (hfit (adr base x))
  refine W.putK hx hb (f := f) ⟨hown, hts _ hl.1, ⟨_, _, _, hi⟩, hst⟩ (by rw [q2]; exact h6) q1 q3 (by rw [hsl]; exact k2_hasslot (q4 kf hl.2.2)) rfl rfl hf fun H' e1 e2 e3 => ?_
  rw [hsl] at e1 ⊢
  refine k p l e R s m args below meth c Z D base x E H' _ cells slots ca tys lsA F (Y.set ho.1 ho.2.1 (fun ty a q => by cases q) ?_ e2 e3) L
  refine ⟨_, vwCl_get ci hci, t_OB.to (V := updV (vp_V (fs.map (trV (adr base x)))) kf (trV (adr base x) v)) ⟨_, e1, q2, q3, t_set q4 hap hl.2.2 _⟩ (fun j _ => ?_)⟩
  rw [vp_updV_set (by rw [List.length_map]; exact hlen)]
  show _ = vp_V ((fs.set kf v).map (trV (adr base x))) j
  rw [List.map_set]
theorem T_putfinal {idx ci kf i : Nat} {fs : List Value} {v : Value} (hf : decode M.2.1 pc = .ok (.putfield idx, 3)) (hl : FL M.1.cls idx ci kf) (ho : hob h i ci fs) (hfin : (TT ci kf).2.2.2 = true) (hin2 : M.1.name = "<init>") (hdecl : (TT ci kf).1 = M.1.cls) (hn : ∀ a, narrow (tyT ci kf) (trV a v) = trV a v) (hfit : ∀ a, fits (tyT ci kf) (trV a v) = true) (hlen : kf < fs.length) (hp : pc + 3 = pc2) (k : T M d kc ks pc2 ls st (hset h i (.inl (ci, fs.set kf v))) Q) : T M d kc ks pc ls (v :: .ref i :: st) h Q := by
  subst hp
  intro p l e R s m args below meth c Z D base x E H locs cells slots ca tys lsA F Y L
  obtain ⟨hx, hb, hml, hown, hts, hbs, hR, hXt, hnm, hret⟩ := id F
  have hci := hl.2.1
  have hap := va_apart (D := D) (cl := vwCl) (own := M.1.cls) hts (in_ok ci hci) (tyT ci) (tyT_ok ci hci) (nm_ok ci hci) Y.1 (vwCl_get ci hci)
  obtain ⟨r, h1, cell, q1, q2, q3, q4⟩ := Y.2.1 _ _ (wd_at (base := base) (x := x) (ca := ca) ho.1 ho.2.1 ho.2.2)
  have hr : r = (RR ci, TT ci, NN ci) := Option.some.inj (h1.symm.trans (vwCl_get ci hci))
  subst hr
  obtain ⟨hS, hfc, kC, hkC, hkind⟩ := Y.1.1 ci _ (vwCl_get ci hci)
  obtain ⟨cf, kq, fi, f, hi, hsl⟩ := hS kf hl.2.2
  have hlay := hts _ (in_ok ci hci _ (u_in_lay hl.2.2))
  unfold u_lay at hlay
  rw [if_pos hfin] at hlay
  have hst := (u_facts hfc hkC (u_lays hts (in_ok ci hci) hl.2.2) hi).1
  have hcf : m.cls = cf := by
    obtain ⟨_, _, c', _, _, _, -, -, hf', -, -, -, hown2, -⟩ := Cond.laysFinal_spec hlay
    have e1 : c' = cf := by have := hi.symm.trans hf'; simp at this; exact this.1.symm
    rw [hdecl] at hown2
    rw [← e1]; exact Option.some.inj (hown.symm.trans hown2)
  have h6 := u_fits hfc hkC hkind (Or.inr hlay) hi (tyT_ok ci hci kf hl.2.2) (hn (adr base x)) (hfit (adr base x))
  refine W.putFinK hx hb hown (hts _ hl.1) hi hst hcf (hnm.trans hin2) (by rw [q2]; exact h6) q1 q3 (by rw [hsl]; exact k2_hasslot (q4 kf hl.2.2)) rfl rfl hf fun H' e1 e2 e3 => ?_
  rw [hsl] at e1 ⊢
  refine k p l e R s m args below meth c Z D base x E H' _ cells slots ca tys lsA F (Y.set ho.1 ho.2.1 (fun ty a q => by cases q) ?_ e2 e3) L
  refine ⟨_, vwCl_get ci hci, t_OB.to (V := updV (vp_V (fs.map (trV (adr base x)))) kf (trV (adr base x) v)) ⟨_, e1, q2, q3, t_set q4 hap hl.2.2 _⟩ (fun j _ => ?_)⟩
  rw [vp_updV_set (by rw [List.length_map]; exact hlen)]
  show _ = vp_V ((fs.set kf v).map (trV (adr base x))) j
  rw [List.map_set]
theorem T_iastore {i n : Nat} {f : Nat → Int32} {j v : Int32} (hf : decode M.2.1 pc = .ok (.iastore, 1)) (ho : har h i .int (n, .inl f)) (hj : vp_in j n) (hp : pc + 1 = pc2) (k : T M d kc ks pc2 ls st (hset h i (.inr (.int, n, .inl (upd f j.toNatClampNeg v)))) Q) : T M d kc ks pc ls (.int v :: .int j :: .ref i :: st) h Q := by
  subst hp
  intro p l e R s m args below meth c Z D base x E H locs cells slots ca tys lsA F Y L
  obtain ⟨hx, hb, hml, hown, hts, hbs, hR, hXt, hnm, hret⟩ := id F
  obtain ⟨t0, ht0⟩ := Y.2.2.2.2.1 (i - 4) (by have := ho.1; have := ho.2.1; omega) .int (n, .inl f) (by rw [show i - 4 + 4 = i by have := ho.1; omega]; exact ho.2.2)
  have hc : H[adr base x i]? = some (arrV (ca (i - 4)) n (fun q => .int (f q))) := Y.2.1 _ _ (wd_at (base := base) (x := x) (ca := ca) ho.1 ho.2.1 ho.2.2)
  refine W.iast hx hb hc ((Y.1.2 t0 _ ht0).1 n (fun q => .int (f q))) (fun q => by cases q) (by rw [arrV_size]; exact hj) rfl rfl hf fun H1 e1 z oq => ?_
  refine k p l e R s m args below meth c Z D base x E H1 _ cells slots ca tys lsA F (Y.set ho.1 ho.2.1 (fun ty a q => by cases q; exact ⟨_, ho.2.2⟩) ?_ z oq) L
  show H1[adr base x i]? = some (arrV (ca (i - 4)) n (fun q => .int (upd f j.toNatClampNeg v q)))
  rw [e1, arrV_store]
  congr 2
  funext q
  by_cases hq : q = j.toNatClampNeg
  · subst hq
    simp [updV, upd, vp_nar]
    try rfl
  · simp [updV, upd, hq]
theorem T_bastore {i n : Nat} {f : Nat → Int32} {j v : Int32} (hf : decode M.2.1 pc = .ok (.bastore, 1)) (ho : har h i .boolean (n, .inl f)) (hj : vp_in j n) (hp : pc + 1 = pc2) (k : T M d kc ks pc2 ls st (hset h i (.inr (.boolean, n, .inl (upd f j.toNatClampNeg (vp_nar .boolean v))))) Q) : T M d kc ks pc ls (.int v :: .int j :: .ref i :: st) h Q := by
  subst hp
  intro p l e R s m args below meth c Z D base x E H locs cells slots ca tys lsA F Y L
  obtain ⟨hx, hb, hml, hown, hts, hbs, hR, hXt, hnm, hret⟩ := id F
  obtain ⟨t0, ht0⟩ := Y.2.2.2.2.1 (i - 4) (by have := ho.1; have := ho.2.1; omega) .boolean (n, .inl f) (by rw [show i - 4 + 4 = i by have := ho.1; omega]; exact ho.2.2)
  have hc : H[adr base x i]? = some (arrV (ca (i - 4)) n (fun q => .int (f q))) := Y.2.1 _ _ (wd_at (base := base) (x := x) (ca := ca) ho.1 ho.2.1 ho.2.2)
  refine W.zast hx hb hc ((Y.1.2 t0 _ ht0).1 n (fun q => .int (f q))) (fun q => by cases q) (by rw [arrV_size]; exact hj) rfl rfl hf fun H1 e1 z oq => ?_
  refine k p l e R s m args below meth c Z D base x E H1 _ cells slots ca tys lsA F (Y.set ho.1 ho.2.1 (fun ty a q => by cases q; exact ⟨_, ho.2.2⟩) ?_ z oq) L
  show H1[adr base x i]? = some (arrV (ca (i - 4)) n (fun q => .int (upd f j.toNatClampNeg (vp_nar .boolean v) q)))
  rw [e1, arrV_store]
  congr 2
  funext q
  by_cases hq : q = j.toNatClampNeg
  · subst hq
    simp [updV, upd, vp_nar]
    try rfl
  · simp [updV, upd, hq]
theorem T_aastore {i n ci q : Nat} {fs : List Value} {f : Nat → Option Nat} {j : Int32} (hf : decode M.2.1 pc = .ok (.aastore, 1)) (hci : ci < 9) (ho : har h i (.object (RR ci)) (n, .inr (.inr (.inr (.inr f))))) (hq : hob h q ci fs) (hj : vp_in j n) (hp : pc + 1 = pc2) (k : T M d kc ks pc2 ls st (hset h i (.inr (.object (RR ci), n, .inr (.inr (.inr (.inr (va_up f j.toNatClampNeg (some q)))))))) Q) : T M d kc ks pc ls (.ref q :: .int j :: .ref i :: st) h Q := by
  subst hp
  intro p l e R s m args below meth c Z D base x E H locs cells slots ca tys lsA F Y L
  obtain ⟨hx, hb, hml, hown, hts, hbs, hR, hXt, hnm, hret⟩ := id F
  obtain ⟨t0, ht0⟩ := Y.2.2.2.2.1 (i - 4) (by have := ho.1; have := ho.2.1; omega) _ _ (by rw [show i - 4 + 4 = i by have := ho.1; omega]; exact ho.2.2)
  have hc : H[adr base x i]? = some (arrV (ca (i - 4)) n (fun q => va_rf ((f q).map (adr base x)))) := Y.2.1 _ _ (wd_at (base := base) (x := x) (ca := ca) ho.1 ho.2.1 ho.2.2)
  have hlt : j.toNatClampNeg < n := Nat.not_le.mp fun q => hj (Or.inr q)
  have h0 : ¬ j < 0 := fun q => hj (Or.inl q)
  obtain ⟨r', hr', cellV, g1, g2, g3, -⟩ := Y.2.1 _ _ (wd_at (base := base) (x := x) (ca := ca) hq.1 hq.2.1 hq.2.2)
  have hcls := (Y.1.1 ci _ (vwCl_get ci hci)).2
  obtain ⟨kA, comp, k1, k2, k3, -⟩ := (Y.1.2 t0 _ ht0).2
  have hcomp : comp = D.1 ci := Option.some.inj (k3.symm.trans hcls.1)
  subst hcomp
  obtain ⟨kC, hkC, -⟩ := hcls.2
  refine W.aast hx hb hc (fun q h => by cases h) (fun h => by cases h) k1 k2 rfl hkC ⟨h0, by rw [arrV_size]; exact hlt⟩ g1 (fun q h => by rw [g3] at h; cases h) (by rw [g2]; exact hkC) (by rw [g2]; exact va_assign hcls) rfl rfl hf fun H1 e1 z oq => ?_
  refine k p l e R s m args below meth c Z D base x E H1 _ cells slots ca tys lsA F (Y.set ho.1 ho.2.1 (fun ty a q => by cases q; exact ⟨_, ho.2.2⟩) ?_ z oq) L
  show H1[adr base x i]? = some (arrV (ca (i - 4)) n (fun z => va_rf ((va_up f j.toNatClampNeg (some q) z).map (adr base x))))
  rw [e1, arrV_store]
  congr 2
  funext y
  by_cases hy : y = j.toNatClampNeg
  · subst hy
    simp [updV, va_up, va_rf]
  · simp [updV, va_up, hy]
/-- a cell more -/
theorem Dy.new {R : Room} {s : State} {D : va_G} {base : Nat} {x : Nat → Nat} {E : Nat → SC} {H H1 : Heap} {locs : List Loc} {cells slots : Nat} {ca : Nat → ClassId} {tys tys2 : List (ClassId × FieldType)} {c : SC} {cA : ClassId}
    (Y : Dy R s D base x E H locs cells slots ca tys h) (hK : va_K D vwCl (tys ++ tys2) s) (hc : ∀ ty a, c = .inr (ty, a) → ∃ t0 : Nat, (tys ++ tys2)[t0]? = some (cA, ty)) (he : va_at D vwCl (H.size, trC (adr base x) cA c) H1) (z : H1.size = H.size + 1) (oq : ∀ q : Nat, q < H.size → H1[q]? = H[q]?) :
    Dy R s D base x E H1 locs cells slots (va_up ca h.2 cA) (tys ++ tys2) (hnew h c) := by
  have hk : ∀ (k : Nat) (q : Nat × va_E), (wd base x ca h)[k]? = some q → H1[q.1]? = H[q.1]? := fun k q hq => oq q.1 ((Y.2.1 k q hq).lt)
  refine ⟨hK, ?_, ⟨Nat.le_trans Y.2.2.1.1 (by omega), fun q h1 h2 => (oq q (Nat.lt_of_lt_of_le h1 Y.2.2.1.1)).trans (Y.2.2.1.2.1 q h1 h2), Y.2.2.1.2.2⟩, ?_, ?_, fun q hq => ?_, Y.2.2.2.2.2.2⟩
  · rw [wd_new]
    refine (Y.2.1.kept hk).app (fun k q hq => ?_)
    have h0 : k < 1 := (List.getElem?_eq_some_iff.mp hq).1
    rw [show k = 0 by omega] at hq
    cases hq
    rw [← Y.2.2.2.1]
    exact he
  · show H1.size = base + (h.2 + 1)
    rw [z, Y.2.2.2.1]
    omega
  · intro j hj ty a ea
    have hj : j < h.2 + 1 := hj
    have ea : va_up h.1 (h.2 + 4) c (j + 4) = .inr (ty, a) := ea
    by_cases q : j = h.2
    · subst q
      simp only [va_up, if_pos] at ea
      obtain ⟨t0, ht⟩ := hc ty a ea
      exact ⟨t0, by simpa [va_up] using ht⟩
    · have q2 : ¬ j + 4 = h.2 + 4 := by omega
      simp only [va_up, if_neg q2] at ea
      obtain ⟨t0, ht⟩ := Y.2.2.2.2.1 j (by omega) ty a ea
      refine ⟨t0, ?_⟩
      rw [List.getElem?_append_left (List.getElem?_eq_some_iff.mp ht).1, ht]
      simp [va_up, q]
  · have : q ≠ h.2 + 4 := by omega
    show va_up h.1 (h.2 + 4) c q = E q
    simp only [va_up, if_neg this]
    exact Y.2.2.2.2.2.1 q hq
theorem Dy.budget {R : Room} {s : State} {D : va_G} {base : Nat} {x : Nat → Nat} {E : Nat → SC} {H : Heap} {locs : List Loc} {cells slots cells2 slots2 : Nat} {ca : Nat → ClassId} {tys : List (ClassId × FieldType)}
    (Y : Dy R s D base x E H locs cells slots ca tys h) (h1 : cells2 ≤ cells) (h2 : slots2 ≤ slots) : Dy R s D base x E H locs cells2 slots2 ca tys h :=
  ⟨Y.1, Y.2.1, Y.2.2.1, Y.2.2.2.1, Y.2.2.2.2.1, Y.2.2.2.2.2.1, Nat.le_trans h1 Y.2.2.2.2.2.2.1, Nat.le_trans h2 Y.2.2.2.2.2.2.2⟩
theorem T_new {idx ci : Nat} {fs : List Value} (hf : decode M.2.1 pc = .ok (.new idx, 3)) (hci : ci < 9) (hcl : Cond.classLink M.1.cls idx (RR ci) ∈ lw_g) (hins : Cond.instantiable (RR ci) (NN ci) ∈ lw_g) (hini : Cond.initialized (RR ci) ∈ lw_g) (hfs : ∀ a j, j < NN ci → defaultValue (tyT ci j) = vp_V (fs.map (trV a)) j) (hp : pc + 3 = pc2) (k : T M d kc ks pc2 ls (.ref (h.2 + 4) :: st) (hnew h (.inl (ci, fs))) Q) : T M d (kc + 1) (ks + NN ci) pc ls st h Q := by
  subst hp
  intro p l e R s m args below meth c Z D base x E H locs cells slots ca tys lsA F Y L
  obtain ⟨hx, hb, hml, hown, hts, hbs, hR, hXt, hnm, hret⟩ := id F
  have hKn := Y.1.1 ci _ (vwCl_get ci hci)
  have hb1 := Y.2.2.2.2.2.2.1
  have hb2 := Y.2.2.2.2.2.2.2
  refine W.newcK hx hb hown (hts _ hcl) (hts _ hins) (hts _ hini) rfl hf (by omega) (by omega) hKn.2.1 rfl fun H1 kC hkC e1 z1 o1 => ?_
  have Y2 := (Y.new (tys2 := []) (c := .inl (ci, fs)) (cA := 0) (by rw [List.append_nil]; exact Y.1) (fun ty a q => by cases q) ⟨_, vwCl_get ci hci, (u_born (tyT ci) hts (in_ok ci hci) hKn hkC e1 (tyT_ok ci hci)).to (hfs (adr base x))⟩ z1 o1).budget (cells2 := cells + 1 + kc) (slots2 := slots + NN ci + ks) (by omega) (by omega)
  have hk := k p l e R s m args below meth c Z D base x E H1 locs (cells + 1) (slots + NN ci) _ _ lsA F Y2 L
  have ea : adr base x (h.2 + 4) = H.size := by rw [adr_ge (by omega), Y.2.2.2.1]; omega
  rw [List.map_cons, show trV (adr base x) (.ref (h.2 + 4)) = .ref H.size by rw [← ea]; rfl] at hk
  exact hk
theorem T_newarray {at2 : ArrayType} {ty : FieldType} {n : Int32} {N : Nat} {a0 : vp_A} (hf : decode M.2.1 pc = .ok (.newarray at2, 2)) (harr : Cond.arrayClass (newarray.typeOf at2) ∈ lw_g) (hty : newarray.typeOf at2 = ty) (ha : ∀ (cA : ClassId) (a : Nat → Nat), vp_cell cA (trA a a0) = arrV cA N (fun _ => defaultValue ty)) (hn : ¬ n < 0) (hN : n.toNatClampNeg = N) (hbytes : N * componentBytes ty ≤ 536870912) (hp : pc + 2 = pc2) (k : T M d kc ks pc2 ls (.ref (h.2 + 4) :: st) (hnew h (.inr (ty, a0))) Q) : T M d (kc + 1) (ks + N) pc ls (.int n :: st) h Q := by
  subst hp
  intro p l e R s m args below meth c Z D base x E H locs cells slots ca tys lsA F Y L
  obtain ⟨hx, hb, hml, hown, hts, hbs, hR, hXt, hnm, hret⟩ := id F
  subst hty
  have hb1 := Y.2.2.2.2.2.2.1
  have hb2 := Y.2.2.2.2.2.2.2
  refine va_newaK hx hb (hts _ harr) rfl hf rfl hn hN hbytes (by omega) (by omega) rfl fun H1 cA e1 z1 o1 hAr hNm => ?_
  have hK2 : va_K D vwCl (tys ++ [(cA, newarray.typeOf at2)]) s := by
    refine ⟨Y.1.1, fun j q hq => ?_⟩
    by_cases hl : j < tys.length
    · rw [List.getElem?_append_left hl] at hq
      exact Y.1.2 j q hq
    · rw [List.getElem?_append_right (by omega)] at hq
      have hz : j - tys.length < 1 := (List.getElem?_eq_some_iff.mp hq).1
      rw [show j - tys.length = 0 by omega] at hq
      cases hq
      exact ⟨hAr, by cases at2 <;> exact hNm⟩
  have Y2 := (Y.new (tys2 := [(cA, newarray.typeOf at2)]) (c := .inr (newarray.typeOf at2, a0)) (cA := cA) hK2 (fun ty a q => by cases q; exact ⟨tys.length, by simp⟩) (show H1[H.size]? = some (vp_cell cA (trA (adr base x) a0)) by rw [ha]; exact e1) z1 o1).budget (cells2 := cells + 1 + kc) (slots2 := slots + N + ks) (by omega) (by omega)
  have hk := k p l e R s m args below meth c Z D base x E H1 locs (cells + 1) (slots + N) _ _ lsA F Y2 L
  have ea : adr base x (h.2 + 4) = H.size := by rw [adr_ge (by omega), Y.2.2.2.1]; omega
  rw [List.map_cons, show trV (adr base x) (.ref (h.2 + 4)) = .ref H.size by rw [← ea]; rfl] at hk
  exact hk
theorem T_anewarray {idx N : Nat} {n : Int32} (hf : decode M.2.1 pc = .ok (.anewarray idx, 3)) (hcl : Cond.classLink M.1.cls idx RX2 ∈ lw_g) (hn : ¬ n < 0) (hN : n.toNatClampNeg = N) (hbytes : N * 4 ≤ 536870912) (hp : pc + 3 = pc2) (k : T M d kc ks pc2 ls (.ref (h.2 + 4) :: st) (hnew h (.inr (.object RX2, N, .inr (.inr (.inr (.inr (fun _ => none))))))) Q) : T M d (kc + 1) (ks + N) pc ls (.int n :: st) h Q := by
  subst hp
  intro p l e R s m args below meth c Z D base x E H locs cells slots ca tys lsA F Y L
  obtain ⟨hx, hb, hml, hown, hts, hbs, hR, hXt, hnm, hret⟩ := id F
  subst hN
  have hb1 := Y.2.2.2.2.2.2.1
  have hb2 := Y.2.2.2.2.2.2.2
  refine W.anew hx hb hown (hts _ hcl) (va_AO.use hXt.2.2.2.2.2.1) rfl hf rfl hn hbytes (by omega) (by omega) fun cA kA comp f1 f2 f3 f4 => ?_
  generalize hH1 : H.push ({ cls := cA, slots := Array.replicate n.toNatClampNeg .null, vm := .none } : Cell) = H1
  have z1 : H1.size = H.size + 1 := by rw [← hH1, Array.size_push]
  have e1 : H1[H.size]? = some (arrV cA n.toNatClampNeg (fun _ => .null)) := by rw [← hH1, Array.getElem?_push_size, ← arrV_new]
  have o1 : ∀ q : Nat, q < H.size → H1[q]? = H[q]? := fun q hq => by rw [← hH1, Array.getElem?_push, if_neg (Nat.ne_of_lt hq)]
  have hAr : ArrOfT s cA (.object RX2) := fun N z => ⟨(fun k h => by cases h), kA, f2, comp, f3⟩
  have hK2 : va_K D vwCl (tys ++ [(cA, .object RX2)]) s := by
    refine ⟨Y.1.1, fun j q hq => ?_⟩
    by_cases hl : j < tys.length
    · rw [List.getElem?_append_left hl] at hq
      exact Y.1.2 j q hq
    · rw [List.getElem?_append_right (by omega)] at hq
      have hz : j - tys.length < 1 := (List.getElem?_eq_some_iff.mp hq).1
      rw [show j - tys.length = 0 by omega] at hq
      cases hq
      exact ⟨hAr, kA, comp, f2, f3, f4, f1⟩
  have Y2 := (Y.new (tys2 := [(cA, .object RX2)]) (c := .inr (.object RX2, n.toNatClampNeg, .inr (.inr (.inr (.inr (fun _ => none)))))) (cA := cA) hK2 (fun ty a q => by cases q; exact ⟨tys.length, by simp⟩) (show H1[H.size]? = some (vp_cell cA _) from e1) z1 o1).budget (cells2 := cells + 1 + kc) (slots2 := slots + n.toNatClampNeg + ks) (by omega) (by omega)
  have hk := k p l e R s m args below meth c Z D base x E H1 locs (cells + 1) (slots + n.toNatClampNeg) _ _ lsA F Y2 L
  have ea : adr base x (h.2 + 4) = H.size := by rw [adr_ge (by omega), Y.2.2.2.1]; omega
  rw [List.map_cons, show trV (adr base x) (.ref (h.2 + 4)) = .ref H.size by rw [← ea]; rfl] at hk
  exact hk
end TStores
end
section
theorem objI_in : Cond.instanceMethod Lib.objectInit ∈ lw_g := gd 19 (by decide +kernel) (by decide +kernel)
theorem objC_in : Cond.code Lib.objectInit ⟨#[0xb1]⟩ 1 none ∈ lw_g := gd 20 (by decide +kernel) (by decide +kernel)
section TCalls
variable {M : MI} {d kc ks pc pc2 : Nat} {ls : List (Nat × Value)} {st : List Value} {h : SH} {Q : Option Value → SH → Prop}
theorem trV_catsum (a : Nat → Nat) (st : List Value) : ((st.map (trV a)).map fun v => v.category).sum = (st.map fun v => v.category).sum := by
  rw [List.map_map]
  congr 1
  apply List.map_congr_left
  intro v _
  exact trV_cat a v
/-- arraycopy over two int arrays -/
theorem T_arraycopy {idx i0 i1 n0 n1 : Nat} {f g : Nat → Int32} {sp dp n : Int32} (hf : decode M.2.1 pc = .ok (.invokestatic idx, 3)) (hlk : Cond.methodLink M.1.cls idx arraycopyName ∈ lw_g) (hnat : Cond.native arraycopyName ∈ lw_g) (hstat : Cond.static arraycopyName ∈ lw_g) (hini : Cond.initialized "java/lang/System" ∈ lw_g)
    (ho0 : har h i0 .int (n0, .inl f)) (ho1 : har h i1 .int (n1, .inl g)) (h1 : ¬ sp < 0) (h2 : ¬ dp < 0) (h3 : ¬ n < 0) (h4 : sp.toNatClampNeg + n.toNatClampNeg ≤ n0) (h5 : dp.toNatClampNeg + n.toNatClampNeg ≤ n1) (hst : (st.map fun v => v.category).sum ≤ 8) (hp : pc + 3 = pc2)
    (k : T M d kc ks pc2 ls st (hset h i1 (.inr (.int, n1, .inl (va_cpy f g sp.toNatClampNeg dp.toNatClampNeg n.toNatClampNeg)))) Q) : T M d kc ks pc ls (.int n :: .int dp :: .ref i1 :: .int sp :: .ref i0 :: st) h Q := by
  subst hp
  intro p l e R s m args below meth c Z D base x E H locs cells slots ca tys lsA F Y L
  obtain ⟨hx, hb, hml, hown, hts, hbs, hR, hXt, hnm, hret⟩ := id F
  have nn : ∀ z : Int32, ¬ z < 0 → z.toInt = (z.toNatClampNeg : Int) := by
    intro z hz
    have hz0 : (0 : Int) ≤ z.toInt := by
      have := Int32.not_lt.mp hz
      simpa using Int32.le_iff_toInt_le.mp this
    show z.toInt = ((z.toInt.toNat : Nat) : Int)
    omega
  obtain ⟨t0, ht0⟩ := Y.2.2.2.2.1 (i0 - 4) (by have := ho0.1; have := ho0.2.1; omega) _ _ (by rw [show i0 - 4 + 4 = i0 by have := ho0.1; omega]; exact ho0.2.2)
  obtain ⟨t1, ht1⟩ := Y.2.2.2.2.1 (i1 - 4) (by have := ho1.1; have := ho1.2.1; omega) _ _ (by rw [show i1 - 4 + 4 = i1 by have := ho1.1; omega]; exact ho1.2.2)
  have hc0 : H[adr base x i0]? = some (arrV (ca (i0 - 4)) n0 (fun q => .int (f q))) := Y.2.1 _ _ (wd_at (base := base) (x := x) (ca := ca) ho0.1 ho0.2.1 ho0.2.2)
  have hc1 : H[adr base x i1]? = some (arrV (ca (i1 - 4)) n1 (fun q => .int (g q))) := Y.2.1 _ _ (wd_at (base := base) (x := x) (ca := ca) ho1.1 ho1.2.1 ho1.2.2)
  obtain ⟨-, k0, hk0, cm0, hkk0⟩ := (Y.1.2 t0 _ ht0).1 n0 (fun j => .int (f j))
  obtain ⟨-, k1, hk1, cm1, hkk1⟩ := (Y.1.2 t1 _ ht1).1 n1 (fun j => .int (g j))
  intro T hT X
  obtain ⟨vm', X', step⟩ := X.arraycopy hx hown (hts _ hlk) (hts _ hnat) (hts _ hstat) (hts _ hini) (src := adr base x i0) (dst := adr base x i1) (srcPos := sp) (destPos := dp) (n := n) (by rw [hT]; exact hc0) (by rw [hT]; exact hc1)
    (fun _ h => by cases h) (fun _ h => by cases h) (fun h => by cases h) (fun h => by cases h) hk0 hk1 hkk0 hkk1 (by show ((refKind FieldType.int != refKind FieldType.int) || (!refKind FieldType.int && FieldType.int != FieldType.int)) = false; decide) h1 h2 h3
    (by rw [nn sp h1, nn n h3, arrV_size]; omega)
    (by rw [nn dp h2, nn n h3, arrV_size]; omega)
    (fun vm₁ _ i hi => by
      have e : (arrV (ca (i0 - 4)) n0 (fun q => .int (f q))).slots.getD (sp.toNatClampNeg + i) .null = .int (f (sp.toNatClampNeg + i)) := by
        rw [Array.getD_eq_getD_getElem?, arrV_read _ _ (by omega)]
        rfl
      refine ⟨?_, ?_⟩
      · rw [e]
        rfl
      · rw [e]
        exact trivial)
    (g := F0 m pc lsA ((.int n :: .int dp :: .ref i1 :: .int sp :: .ref i0 :: st).map (trV (adr base x)))) rfl (by rw [hml]; exact L.1) (rest := st.map (trV (adr base x))) rfl (by rw [hb]; exact hf) (by omega) (by
      show 2 * 0 + ((st.map (trV (adr base x))).map fun v => v.category).sum + (nativeFrameWords "java/lang/System" "arraycopy" 5 + 11) ≤ R.locals
      rw [trV_catsum, show nativeFrameWords "java/lang/System" "arraycopy" 5 = 7 by decide]
      omega)
  have e1 : copied (arrV (ca (i0 - 4)) n0 (fun q => .int (f q))) (arrV (ca (i1 - 4)) n1 (fun q => .int (g q))) sp dp n = arrV (ca (i1 - 4)) n1 (fun q => .int (va_cpy f g sp.toNatClampNeg dp.toNatClampNeg n.toNatClampNeg q)) := va_copied (fun z => .int z) _ _ f g h4
  rw [e1] at X' step
  have hl : adr base x i1 < H.size := (Array.getElem?_eq_some_iff.mp hc1).1
  generalize hcl : arrV (ca (i1 - 4)) n1 (fun q => .int (va_cpy f g sp.toNatClampNeg dp.toNatClampNeg n.toNatClampNeg q)) = cl at X' step
  have hheap : ((T.setVm vm').setCell (adr base x i1) cl).heap = H.setIfInBounds (adr base x i1) cl := by rw [← hT]; rfl
  have oq : ∀ q : Nat, q ≠ adr base x i1 → (H.setIfInBounds (adr base x i1) cl)[q]? = H[q]? := fun q hq => by simp [Array.getElem?_setIfInBounds, Ne.symm hq]
  have Y2 := Y.set (j := 0) (H1 := H.setIfInBounds (adr base x i1) cl) (c := .inr (.int, n1, .inl (va_cpy f g sp.toNatClampNeg dp.toNatClampNeg n.toNatClampNeg))) ho1.1 ho1.2.1 (fun ty a q => by cases q; exact ⟨_, ho1.2.2⟩) (show (H.setIfInBounds (adr base x i1) cl)[adr base x i1]? = some (arrV (ca (i1 - 4)) n1 (fun q => .int (va_cpy f g sp.toNatClampNeg dp.toNatClampNeg n.toNatClampNeg q))) by rw [hcl]; simp [Array.getElem?_setIfInBounds, hl]) (by simp) oq
  have Y3 : Dy R s D base x E (H.setIfInBounds (adr base x i1) cl) (locs ++ ((arrV (ca (i0 - 4)) n0 (fun q => .int (f q))).stretch sp.toNatClampNeg n.toNatClampNeg).zipIdx.map fun q => ⟨adr base x i1, dp.toNatClampNeg + q.2⟩) (cells + kc) (slots + ks) ca tys (hset h i1 (.inr (.int, n1, .inl (va_cpy f g sp.toNatClampNeg dp.toNatClampNeg n.toNatClampNeg)))) :=
    ⟨Y2.1, Y2.2.1, ⟨Y2.2.2.1.1, Y2.2.2.1.2.1, fun q hq => by
      rcases List.mem_append.mp hq with h | h
      · exact Y.2.2.1.2.2 q h
      · obtain ⟨z, -, hz⟩ := List.mem_map.mp h
        rw [← hz]
        show base ≤ adr base x i1
        rw [adr_ge ho1.1]
        omega⟩, Y2.2.2.2⟩
  obtain ⟨t, a1, b1⟩ := k p l e R s m args below meth c Z D base x E _ _ cells slots ca tys lsA F Y3 L _ hheap X'
  exact ⟨t, step t a1, b1⟩
theorem T_gets {idx i : Nat} {C n : String} (hf : decode M.2.1 pc = .ok (.getstatic idx, 3)) (hi : (i = 1 ∧ C = RX7 ∧ n = "KIND_ABOVE") ∨ (i = 2 ∧ C = RX1 ∧ n = "SIZE_BODIES") ∨ (i = 3 ∧ C = RX1 ∧ n = "MARK_BODIES")) (hlk : Cond.fieldLink M.1.cls idx C n "[I" ∈ lw_g) (hp : pc + 3 = pc2) (k : T M d kc ks pc2 ls (.ref i :: st) h Q) : T M d kc ks pc ls st h Q := by
  subst hp
  intro p l e R s m args below meth c Z D base x E H locs cells slots ca tys lsA F Y L
  obtain ⟨hx, hb, hml, hown, hts, hbs, hR, hXt, hnm, hret⟩ := id F
  have hZ : va_Z C n "[I" (.ref (x i)) (fun q => base ≤ q) s s.heap := by
    rcases hi with ⟨rfl, rfl, rfl⟩ | ⟨rfl, rfl, rfl⟩ | ⟨rfl, rfl, rfl⟩
    · exact hXt.2.1
    · exact hXt.2.2.1
    · exact hXt.2.2.2.1
  have hk := (k p l e R s m args below meth c Z D base x E H locs cells slots ca tys lsA F Y L)
  rw [List.map_cons, show trV (adr base x) (.ref i) = .ref (x i) by show Value.ref (adr base x i) = _; rw [adr_lt (by omega)]] at hk
  exact va_gets hx hb hZ Y.2.2.1 hown (hts _ hlk) (fun _ h9 => h9) hf hk
theorem T_getsN {idx i : Nat} {C n host : String} (hf : decode M.2.1 pc = .ok (.getstatic idx, 3)) (hi : (i = 1 ∧ C = RX7 ∧ n = "KIND_ABOVE") ∨ (i = 2 ∧ C = RX1 ∧ n = "SIZE_BODIES") ∨ (i = 3 ∧ C = RX1 ∧ n = "MARK_BODIES")) (hlk : Cond.fieldLinkNest M.1.cls idx C n "[I" host ∈ nestW) (hp : pc + 3 = pc2) (k : T M d kc ks pc2 ls (.ref i :: st) h Q) : T M d kc ks pc ls st h Q := by
  subst hp
  intro p l e R s m args below meth c Z D base x E H locs cells slots ca tys lsA F Y L
  obtain ⟨hx, hb, hml, hown, hts, hbs, hR, hXt, hnm, hret⟩ := id F
  have hZ : va_Z C n "[I" (.ref (x i)) (fun q => base ≤ q) s s.heap := by
    rcases hi with ⟨rfl, rfl, rfl⟩ | ⟨rfl, rfl, rfl⟩ | ⟨rfl, rfl, rfl⟩
    · exact hXt.2.1
    · exact hXt.2.2.1
    · exact hXt.2.2.2.1
  have hk := (k p l e R s m args below meth c Z D base x E H locs cells slots ca tys lsA F Y L)
  rw [List.map_cons, show trV (adr base x) (.ref i) = .ref (x i) by show Value.ref (adr base x i) = _; rw [adr_lt (by omega)]] at hk
  exact va_getsN hx hb hZ Y.2.2.1 hown (va_Nw.use rfl (hXt.2.2.2.2.1 _ hlk)) (fun _ h9 => h9) hf hk
theorem T_objinit {idx i : Nat} (hf : decode M.2.1 pc = .ok (.invokespecial idx, 3)) (hlk : Cond.methodLink M.1.cls idx Lib.objectInit ∈ lw_g) (hst : (st.map fun v => v.category).sum ≤ 8) (hp : pc + 3 = pc2) (k : T M d kc ks pc2 ls st h Q) : T M d kc ks pc ls (.ref i :: st) h Q := by
  subst hp
  intro p l e R s m args below meth c Z D base x E H locs cells slots ca tys lsA F Y L
  obtain ⟨hx, hb, hml, hown, hts, hbs, hR, hXt, hnm, hret⟩ := id F
  exact W.objInit hx hb hown (hts _ hlk) (hts _ objI_in) (hts _ objC_in) rfl (by rw [hml]; exact L.1) rfl hf (by omega) (by
      show 2 * 0 + ((st.map (trV (adr base x))).map fun v => v.category).sum + 12 ≤ R.locals
      rw [trV_catsum]
      omega) (k p l e R s m args below meth c Z D base x E H locs cells slots ca tys lsA F Y L)
theorem T_ret (hf : decode M.2.1 pc = .ok (.return_, 1)) (hr : M.2.2.2 = none) (k : Q none h) : T M d kc ks pc ls [] h Q := by
  intro p l e R s m args below meth c Z D base x E H locs cells slots ca tys lsA F Y L
  obtain ⟨hx, hb, hml, hown, hts, hbs, hR, hXt, hnm, hret⟩ := id F
  exact hret pc none h H locs cells slots ca tys lsA (Or.inl ⟨rfl, hr, hf⟩) (Y.budget (by omega) (by omega)) k
theorem T_iret {v : Int32} {ty : FieldType} (hf : decode M.2.1 pc = .ok (.ireturn, 1)) (hr : M.2.2.2 = some ty) (hn : narrow ty (.int v) = .int v) (k : Q (some (.int v)) h) : T M d kc ks pc ls [.int v] h Q := by
  intro p l e R s m args below meth c Z D base x E H locs cells slots ca tys lsA F Y L
  obtain ⟨hx, hb, hml, hown, hts, hbs, hR, hXt, hnm, hret⟩ := id F
  exact hret pc (some (.int v)) h H locs cells slots ca tys lsA (Or.inr (Or.inl ⟨v, ty, rfl, hr, hn, hf⟩)) (Y.budget (by omega) (by omega)) k
theorem T_lret {v : Int64} (hf : decode M.2.1 pc = .ok (.lreturn, 1)) (hr : M.2.2.2 = some .long) (k : Q (some (.long v)) h) : T M d kc ks pc ls [.long v] h Q := by
  intro p l e R s m args below meth c Z D base x E H locs cells slots ca tys lsA F Y L
  obtain ⟨hx, hb, hml, hown, hts, hbs, hR, hXt, hnm, hret⟩ := id F
  exact hret pc (some (.long v)) h H locs cells slots ca tys lsA (Or.inr (Or.inr ⟨v, rfl, hr, hf⟩)) (Y.budget (by omega) (by omega)) k
/-! calls -/
def wsm (M : MI) : List Cond := .code M.1 M.2.1 M.2.2.1 M.2.2.2 :: lw_g
def PcB (D : va_G) (base : Nat) (x : Nat → Nat) (ca : Nat → ClassId) (tys : List (ClassId × FieldType)) (E : Nat → SC) (h : SH) (U : State) : Prop :=
  va_K D vwCl tys U ∧ va_P D vwCl (wd base x ca h) U.heap ∧ U.heap.size = base + h.2 ∧ Tys tys ca h ∧ (∀ i, i < 4 → h.1 i = E i) ∧ Xt x base E U
def QcB (D : va_G) (base : Nat) (x : Nat → Nat) (E : Nat → SC) (Q : Option Value → SH → Prop) : Array Value → State → Outcome → State → Prop := fun _ st o t =>
  (∃ (r : Option Value) (h' : SH) (ca' : Nat → ClassId) (tys' : List (ClassId × FieldType)), o = .returned (r.map (trV (adr base x))) ∧ Q r h' ∧ va_K D vwCl tys' t ∧ va_P D vwCl (wd base x ca' h') t.heap ∧ t.heap.size = base + h'.2 ∧ Tys tys' ca' h' ∧ ∀ i, i < 4 → h'.1 i = E i) ∧ va_F (fun q => base ≤ q) st t
def Calls (M : MI) (d mc ms : Nat) (av : List Value) (h : SH) (Q : Option Value → SH → Prop) : Prop :=
  ∀ (l : Launch) (D : va_G) (base : Nat) (x : Nat → Nat) (ca : Nat → ClassId) (tys : List (ClassId × FieldType)) (E : Nat → SC),
    Met l M.1 (wsm M) { frames := d + 1, cells := mc, slots := ms, locals := 64 * (d + 1) } (va_Pc (av.map (trV (adr base x))) (PcB D base x ca tys E h)) (QcB D base x E Q) mc ms (fun q => base ≤ q)
theorem lv_args_tr (a : Nat → Nat) : ∀ (av : List Value) (i : Nat), lv_args i (av.map (trV a)) = (lv_args i av).map (trL a)
  | [], _ => rfl
  | v :: vs, i => by
    show (i, trV a v) :: lv_args (if (trV a v).category = 2 then i + 2 else i + 1) (vs.map (trV a)) = _
    rw [lv_args_tr a vs, trV_cat]
    rfl
theorem lg_sl_tr (a : Nat → Nat) (av : List Value) : (lg_sl (av.map (trV a))).length = (lg_sl av).length := by
  induction av with
  | nil => rfl
  | cons v vs ih =>
    unfold lg_sl at ih ⊢
    simp only [List.map_cons, List.flatMap_cons, List.length_append, trV_cat]
    rw [ih]
    split <;> rfl
theorem Calls.of {mc ms : Nat} {av : List Value} (hpl : plainName M.1.cls = true) (hlen : (lg_sl av).length ≤ M.2.2.1) (k : T M d mc ms 0 (lv_args 0 av) [] h Q) : Calls M d mc ms av h Q := by
  intro l D base x ca tys E
  refine Met.ofW (cc := M.2.1) (maxL := M.2.2.1) (ret := M.2.2.2) hpl rfl ?_
  intro p e s m args below meth c s₁ B hml hv
  obtain ⟨rfl, hK, hP, hz, hT, hE, hX⟩ := hv
  have hts := atoms_spec (ws := wsm M) B.pre
  have hown : s.vm.findClass M.1.cls = some m.cls := findClass_of_methodNamed B.named
  have hlocks := B.notSynchronized
  rw [lg_entry_eq]
  have L := lv_entry (av.map (trV (adr base x))) (n := M.2.2.1) (by rw [lg_sl_tr]; exact hlen)
  rw [lv_args_tr] at L
  refine k p l e _ s m _ below meth c _ D base x E s.heap [] 0 0 ca tys _ ⟨B.exec, B.bytes, hml, hown, fun w hw => hts w (List.mem_cons_of_mem _ hw), by rw [hz]; omega, ⟨Nat.le_refl _, Nat.le_refl _⟩, hX, (name_of_methodNamed B.named B.method).1, ?_⟩ ⟨hK, hP, va_S.rf, hz, hT, hE, by simp [headSpec], by simp [headSpec]⟩ L
  intro pc r h' H' locs' cells' slots' ca' tys' lsA' hra Y hQ
  have hb1 : cells' ≤ mc := Y.2.2.2.2.2.2.1
  have hb2 : slots' ≤ ms := Y.2.2.2.2.2.2.2
  have hend : ∀ t : State, t.heap = H' → s.WarmedH t.vm → QcB D base x E Q (av.map (trV (adr base x))).toArray s (.returned (r.map (trV (adr base x)))) t := fun t ht hW =>
    ⟨⟨r, h', ca', tys', rfl, hQ, va_K.moved hW.alike Y.1, by rw [ht]; exact Y.2.1, by rw [ht]; exact Y.2.2.2.1, Y.2.2.2.2.1, Y.2.2.2.2.2.1⟩, Y.2.2.1.F ht⟩
  refine W.widen (k := mc) (n := ms) hb1 hb2 ?_
  rcases hra with ⟨rfl, hr, hd⟩ | ⟨v, ty, rfl, hr, hn, hd⟩ | ⟨v, rfl, hr, hd⟩
  · exact W.vret B.exec B.bytes (B.returns.trans hr) hend Y.2.2.1.2.2 hd
  · exact W.zret B.exec B.bytes (B.returns.trans hr) hn hend Y.2.2.1.2.2 hd
  · exact W.lret B.exec B.bytes (B.returns.trans hr) hend Y.2.2.1.2.2 hd
theorem Xt.same {x : Nat → Nat} {base : Nat} {E : Nat → SC} {u U : State} (hX : Xt x base E u) (hv : u.vm.Alike U.vm) (hN : Nws U) (hh : ∀ a : Nat, a < u.heap.size → ¬ base ≤ a → U.heap[a]? = u.heap[a]?) : Xt x base E U := by
  refine ⟨fun i hi => ?_, (hX.2.1.kept hh).moved hv, (hX.2.2.1.kept hh).moved hv, (hX.2.2.2.1.kept hh).moved hv, hN⟩
  obtain ⟨n, f, e1, h1⟩ := hX.1 i hi
  exact ⟨n, f, e1, (h1.kept hh).moved hv⟩
theorem Nws.same {u U : State} (h : Nws u) (e : u.vm = U.vm) : Nws U := by
  have ha : u.vm.Alike U.vm := by rw [e]; exact Vm.Alike.refl _
  refine ⟨fun w hw => ?_, h.2.1.moved ha, h.2.2.moved ha⟩
  have h1 := h.1 w hw
  have h2 := (List.mem_filter.mp hw).2
  cases w <;> first | (exact va_Nw.same rfl e h1) | (cases h2)
theorem PcB.blind {D : va_G} {base : Nat} {x : Nat → Nat} {ca : Nat → ClassId} {tys : List (ClassId × FieldType)} {E : Nat → SC} {av : List Value} : FrameBlind (va_Pc av (PcB D base x ca tys E h)) := by
  intro a U g mk q
  obtain ⟨q0, hK, hP, hz, hT, hE, hX⟩ := q
  exact ⟨q0, va_K.moved (u := U) (U := U.calling g mk a) (Vm.Alike.refl U.vm) hK, hP, hz, hT, hE, hX.same (U := U.calling g mk a) (Vm.Alike.refl U.vm) (hX.2.2.2.2.same (U := U.calling g mk a) rfl) (fun _ _ _ => rfl)⟩
theorem PcB.pre {R : Room} {s : State} {D : va_G} {base : Nat} {x : Nat → Nat} {E : Nat → SC} {H : Heap} {locs : List Loc} {cells slots : Nat} {ca : Nat → ClassId} {tys : List (ClassId × FieldType)} (Y : Dy R s D base x E H locs cells slots ca tys h) (hX : Xt x base E s) (av : List Value) : ∀ U : State, U.heap = H → s.WarmedH U.vm → va_Pc (av.map (trV (adr base x))) (PcB D base x ca tys E h) (av.map (trV (adr base x))).toArray U := by
  intro U hU hW
  refine ⟨rfl, va_K.moved hW.alike Y.1, by rw [hU]; exact Y.2.1, by rw [hU]; exact Y.2.2.2.1, Y.2.2.2.2.1, Y.2.2.2.2.2.1, hX.same hW.alike (hX.2.2.2.2.warm hW) (fun a h1 h2 => ?_)⟩
  rw [hU]
  exact Y.2.2.1.2.1 a h1 h2
theorem run_W {p : Program} {l : Launch} {e : Env} {R : Room} {s : State} {m : MethodId} {args : Array Value} {below : List Frame} {meth : Method} {c : Code} {Z : State → Prop} {D : va_G} {base : Nat} {x : Nat → Nat} {E : Nat → SC} {H : Heap} {locs : List Loc} {cells slots mc ms : Nat} {ca : Nat → ClassId} {tys : List (ClassId × FieldType)} {lsA : Array Slot} {st0 rest : List Value} {a : Array Value} {Q1 : Option Value → SH → Prop}
    (hrun : va_Run p l e R s m args below meth c H locs cells slots mc ms (F0 m pc lsA st0) rest (QcB D base x E Q1 a) (fun q => base ≤ q)) (Y : Dy R s D base x E H locs (cells + (kc + mc)) (slots + (ks + ms)) ca tys h)
    (kk : ∀ (r : Option Value) (h' : SH) (H1 : Heap) (locs1 : List Loc) (ca' : Nat → ClassId) (tys' : List (ClassId × FieldType)), Q1 r h' → Dy R s D base x E H1 locs1 (cells + mc + kc) (slots + ms + ks) ca' tys' h' → W p l e R s m args below meth c H1 locs1 (cells + mc) (slots + ms) Z (F0 m (pc + 3) lsA ((r.map (trV (adr base x))).toList ++ rest))) :
    W p l e R s m args below meth c H locs cells slots Z (F0 m pc lsA st0) := by
  intro T hT X
  obtain ⟨v, st₀, t, T', L, h0, X', hL, e1, e2, ⟨⟨r, h', ca', tys', hv, hq, hK, hP, hz, hTy, hE⟩, hz2, hk⟩, st⟩ := hrun T hT X
  cases hv
  rw [h0] at hz2 hk
  have hal : t.vm.Alike s.vm := by rw [← e2]; exact X'.warmed.alike.symm
  have hS := Y.2.2.1
  obtain ⟨t2, a1, b1⟩ := kk r h' T'.heap (locs ++ L) ca' tys' hq ⟨va_K.moved hal hK, by rw [e1]; exact hP, ⟨Nat.le_trans hS.1 (by rw [e1]; exact hz2), fun q h1 h2 => by rw [e1, hk q (Nat.lt_of_lt_of_le h1 hS.1) h2]; exact hS.2.1 q h1 h2, fun q hq => by
      rcases List.mem_append.mp hq with h | h
      · exact hS.2.2 q h
      · exact hL q h⟩, by rw [e1]; exact hz, hTy, hE, by have := Y.2.2.2.2.2.2.1; omega, by have := Y.2.2.2.2.2.2.2; omega⟩ T' rfl X'
  exact ⟨t2, st t2 a1, b1⟩
/-- what is known of a method that is called: n parameters -/
def CM (M : MI) (n : Nat) : Prop := Cond.code M.1 M.2.1 M.2.2.1 M.2.2.2 ∈ lw_g ∧ M.2.2.1 ≤ 40 ∧ Cond.initialized M.1.cls ∈ lw_g ∧ (M.1.cls ≠ "java/lang/invoke/MethodHandle" ∧ M.1.cls ≠ "java/lang/invoke/VarHandle" ∧ (parseMethodDescriptor M.1.desc).map (fun d => d.parameters.length) = some n) ∧ plainName M.1.cls = true
theorem gi {M : MI} {n : Nat} (h : CM M n) : GoodIn lw_g (wsm M) := by
  intro w hw
  rcases List.mem_cons.mp hw with rfl | hw
  · exact ⟨h.1, good_of_word (lw_g_good _ h.1)⟩
  · exact ⟨hw, good_of_word (lw_g_good _ hw)⟩
theorem gi_app {ws : List Cond} {M : MI} {n : Nat} (h : CM M n) (hw : ∀ w ∈ ws, w ∈ lw_g) : GoodIn lw_g (ws ++ wsm M) := by
  intro w hq
  rcases List.mem_append.mp hq with hq | hq
  · exact ⟨hw _ hq, good_of_word (lw_g_good _ (hw _ hq))⟩
  · exact gi h w hq
def CV (M : MI) (ci n : Nat) : Prop := CM M n ∧ ci < 9 ∧ M.1.cls = RR ci ∧ Cond.instanceMethod M.1 ∈ lw_g ∧ Cond.selects (RR ci) M.1 M.1 ∈ lw_g
def CSt (M : MI) (n : Nat) : Prop := CM M n ∧ Cond.static M.1 ∈ lw_g
def CI (M : MI) (n : Nat) : Prop := CM M n ∧ M.1.name = "<init>" ∧ M.2.2.2 = none ∧ Cond.instanceMethod M.1 ∈ lw_g
theorem T_callV {M2 : MI} {idx i ci n mc ms : Nat} {fs As : List Value} (hf : decode M.2.1 pc = .ok (.invokevirtual idx, 3)) (hc : CV M2 ci n) (hlk : Cond.methodLink M.1.cls idx M2.1 ∈ lw_g) (ho : hob h i ci fs) (hn : As.length = n) (hst : (st.map fun v => v.category).sum ≤ 8) (hp : pc + 3 = pc2)
    (k : Calls M2 d mc ms (.ref i :: As) h (fun r h' => T M (d + 1) kc ks pc2 ls (r.toList ++ st) h' Q)) : T M (d + 1) (kc + mc) (ks + ms) pc ls (As.reverse ++ .ref i :: st) h Q := by
  subst hp
  intro p l e R s m args below meth c Z D base x E H locs cells slots ca tys lsA F Y L
  obtain ⟨hx, hb, hml, hown, hts, hbs, hR, hXt, hnm, hret⟩ := id F
  have hrun := va_runV (l := l) (p := p) (e := e) (below := below) (meth := meth) (locs := locs) (cells := cells) (slots := slots) (nL := M.2.2.1) (own := M.1.cls) (C := RR ci) (index := idx) (bytes := M2.2.1) (maxL := M2.2.2.1) (ret := M2.2.2.2) (n := n) (b := adr base x i) (As := As.map (trV (adr base x))) (rest := st.map (trV (adr base x))) (g := F0 m pc lsA ((As.reverse ++ .ref i :: st).map (trV (adr base x)))) (Ts := lw_g) ⟨hx, hb, hml, hown, hts⟩ (k l D base x ca tys E)
    (cwV n hts (gi_app hc.1 (fun w hw => by
      simp only [List.mem_cons, List.not_mem_nil, or_false] at hw
      rcases hw with rfl | rfl | rfl | rfl
      · exact hlk
      · exact hc.2.2.2.1
      · exact hc.2.2.2.2
      · exact hc.2.2.1 ▸ hc.1.2.2.1)) rfl rfl rfl ⟨hc.2.2.1, hc.1.2.2.2.1⟩ ⟨by show d + 1 + 1 ≤ R.frames; omega, by show 8 + (M2.2.2.1 + 11) + 64 * (d + 1) ≤ R.locals; have := hc.1.2.1; omega⟩)
    ⟨PcB.blind, va_recv Y.1 Y.2.1 (vwCl_get ci hc.2.1) (wd_at ho.1 ho.2.1 ho.2.2), PcB.pre Y hXt (.ref i :: As)⟩ rfl (by rw [List.length_map]; exact hn) L.1 (by simp [trV]) (by show 2 * 0 + _ ≤ 8; rw [trV_catsum]; omega) hf ⟨by have := Y.2.2.2.2.2.2.1; omega, by have := Y.2.2.2.2.2.2.2; omega⟩
  refine run_W hrun Y ?_
  intro r h' H1 locs1 ca' tys' hq Y2
  have hk := hq p l e R s m args below meth c Z D base x E H1 locs1 (cells + mc) (slots + ms) ca' tys' lsA (by exact F) Y2 L
  rw [List.map_append] at hk
  have er : (r.map (trV (adr base x))).toList = r.toList.map (trV (adr base x)) := by cases r <;> rfl
  rw [er]
  exact hk
theorem T_callS {M2 : MI} {idx n mc ms : Nat} {As : List Value} (hf : decode M.2.1 pc = .ok (.invokestatic idx, 3)) (hc : CSt M2 n) (hlk : Cond.methodLink M.1.cls idx M2.1 ∈ lw_g) (hn : As.length = n) (hst : (st.map fun v => v.category).sum ≤ 8) (hp : pc + 3 = pc2)
    (k : Calls M2 d mc ms As h (fun r h' => T M (d + 1) kc ks pc2 ls (r.toList ++ st) h' Q)) : T M (d + 1) (kc + mc) (ks + ms) pc ls (As.reverse ++ st) h Q := by
  subst hp
  intro p l e R s m args below meth c Z D base x E H locs cells slots ca tys lsA F Y L
  obtain ⟨hx, hb, hml, hown, hts, hbs, hR, hXt, hnm, hret⟩ := id F
  have hrun := va_runS (l := l) (p := p) (e := e) (below := below) (meth := meth) (locs := locs) (cells := cells) (slots := slots) (nL := M.2.2.1) (own := M.1.cls) (index := idx) (bytes := M2.2.1) (maxL := M2.2.2.1) (ret := M2.2.2.2) (n := n) (As := As.map (trV (adr base x))) (rest := st.map (trV (adr base x))) (g := F0 m pc lsA ((As.reverse ++ st).map (trV (adr base x)))) (Ts := lw_g) ⟨hx, hb, hml, hown, hts⟩ (k l D base x ca tys E)
    (va_cwS n hts (gi_app hc.1 (fun w hw => by
      simp only [List.mem_cons, List.not_mem_nil, or_false] at hw
      rcases hw with rfl | rfl | rfl
      · exact hlk
      · exact hc.2
      · exact hc.1.2.2.1)) rfl rfl rfl hc.1.2.2.2.1 ⟨by show d + 1 + 1 ≤ R.frames; omega, by show 8 + (M2.2.2.1 + 11) + 64 * (d + 1) ≤ R.locals; have := hc.1.2.1; omega⟩)
    ⟨PcB.blind, PcB.pre Y hXt As⟩ rfl (by rw [List.length_map]; exact hn) L.1 (by simp) (by show 2 * 0 + _ ≤ 8; rw [trV_catsum]; omega) hf ⟨by have := Y.2.2.2.2.2.2.1; omega, by have := Y.2.2.2.2.2.2.2; omega⟩
  refine run_W hrun Y ?_
  intro r h' H1 locs1 ca' tys' hq Y2
  have hk := hq p l e R s m args below meth c Z D base x E H1 locs1 (cells + mc) (slots + ms) ca' tys' lsA (by exact F) Y2 L
  rw [List.map_append] at hk
  have er : (r.map (trV (adr base x))).toList = r.toList.map (trV (adr base x)) := by cases r <;> rfl
  rw [er]
  exact hk
theorem T_callSN {M2 : MI} {idx n mc ms : Nat} {host : String} {As : List Value} (hf : decode M.2.1 pc = .ok (.invokestatic idx, 3)) (hc : CSt M2 n) (hlk : Cond.methodLinkNest M.1.cls idx M2.1 host ∈ nestW) (hn : As.length = n) (hst : (st.map fun v => v.category).sum ≤ 8) (hp : pc + 3 = pc2)
    (k : Calls M2 d mc ms As h (fun r h' => T M (d + 1) kc ks pc2 ls (r.toList ++ st) h' Q)) : T M (d + 1) (kc + mc) (ks + ms) pc ls (As.reverse ++ st) h Q := by
  subst hp
  intro p l e R s m args below meth c Z D base x E H locs cells slots ca tys lsA F Y L
  obtain ⟨hx, hb, hml, hown, hts, hbs, hR, hXt, hnm, hret⟩ := id F
  have hrun := va_runSN (l := l) (p := p) (e := e) (below := below) (meth := meth) (locs := locs) (cells := cells) (slots := slots) (nL := M.2.2.1) (own := M.1.cls) (host := host) (index := idx) (bytes := M2.2.1) (maxL := M2.2.2.1) (ret := M2.2.2.2) (n := n) (As := As.map (trV (adr base x))) (rest := st.map (trV (adr base x))) (g := F0 m pc lsA ((As.reverse ++ st).map (trV (adr base x)))) (Ts := lw_g) ⟨hx, hb, hml, hown, hts⟩ (k l D base x ca tys E)
    ⟨va_cnB n hts (gi hc.1) rfl rfl rfl (hXt.2.2.2.2.1 _ hlk) (hts _ hc.1.2.2.1) hc.1.2.2.2.1 ⟨by show d + 1 + 1 ≤ R.frames; omega, by show 8 + (M2.2.2.1 + 11) + 64 * (d + 1) ≤ R.locals; have := hc.1.2.1; omega⟩, hts _ hc.2, trivial⟩
    ⟨PcB.blind, PcB.pre Y hXt As⟩ rfl (by rw [List.length_map]; exact hn) L.1 (by simp) (by show 2 * 0 + _ ≤ 8; rw [trV_catsum]; omega) hf ⟨by have := Y.2.2.2.2.2.2.1; omega, by have := Y.2.2.2.2.2.2.2; omega⟩
  refine run_W hrun Y ?_
  intro r h' H1 locs1 ca' tys' hq Y2
  have hk := hq p l e R s m args below meth c Z D base x E H1 locs1 (cells + mc) (slots + ms) ca' tys' lsA (by exact F) Y2 L
  rw [List.map_append] at hk
  have er : (r.map (trV (adr base x))).toList = r.toList.map (trV (adr base x)) := by cases r <;> rfl
  rw [er]
  exact hk
theorem T_callI {M2 : MI} {idx i n mc ms : Nat} {As : List Value} (hf : decode M.2.1 pc = .ok (.invokespecial idx, 3)) (hc : CI M2 n) (hlk : Cond.methodLink M.1.cls idx M2.1 ∈ lw_g) (hn : As.length = n) (hst : (st.map fun v => v.category).sum ≤ 8) (hp : pc + 3 = pc2)
    (k : Calls M2 d mc ms (.ref i :: As) h (fun r h' => T M (d + 1) kc ks pc2 ls (r.toList ++ st) h' Q)) : T M (d + 1) (kc + mc) (ks + ms) pc ls (As.reverse ++ .ref i :: st) h Q := by
  subst hp
  intro p l e R s m args below meth c Z D base x E H locs cells slots ca tys lsA F Y L
  obtain ⟨hx, hb, hml, hown, hts, hbs, hR, hXt, hnm, hret⟩ := id F
  have hrun := va_runI (l := l) (p := p) (e := e) (below := below) (meth := meth) (locs := locs) (cells := cells) (slots := slots) (nL := M.2.2.1) (own := M.1.cls) (index := idx) (bytes := M2.2.1) (maxL := M2.2.2.1) (n := n) (b := adr base x i) (As := As.map (trV (adr base x))) (rest := st.map (trV (adr base x))) (g := F0 m pc lsA ((As.reverse ++ .ref i :: st).map (trV (adr base x)))) (Ts := lw_g) ⟨hx, hb, hml, hown, hts⟩ (k l D base x ca tys E)
    (cwI n hts (gi hc.1) (show wsm M2 = Cond.code M2.1 M2.2.1 M2.2.2.1 none :: lw_g by rw [← hc.2.2.1]; rfl) rfl rfl (hts _ hc.1.2.2.1) (hts _ hlk) (hts _ hc.2.2.2) hc.2.1 hc.1.2.2.2.1 ⟨by show d + 1 + 1 ≤ R.frames; omega, by show 8 + (M2.2.2.1 + 11) + 64 * (d + 1) ≤ R.locals; have := hc.1.2.1; omega⟩)
    ⟨PcB.blind, PcB.pre Y hXt (.ref i :: As)⟩ rfl (by rw [List.length_map]; exact hn) L.1 (by simp [trV]) (by show 2 * 0 + _ ≤ 8; rw [trV_catsum]; omega) hf ⟨by have := Y.2.2.2.2.2.2.1; omega, by have := Y.2.2.2.2.2.2.2; omega⟩
  refine run_W hrun Y ?_
  intro r h' H1 locs1 ca' tys' hq Y2
  have hk := hq p l e R s m args below meth c Z D base x E H1 locs1 (cells + mc) (slots + ms) ca' tys' lsA (by exact F) Y2 L
  rw [List.map_append] at hk
  have er : (r.map (trV (adr base x))).toList = r.toList.map (trV (adr base x)) := by cases r <;> rfl
  rw [er]
  exact hk
theorem T_callIN {M2 : MI} {idx i n mc ms : Nat} {host : String} {As : List Value} (hf : decode M.2.1 pc = .ok (.invokespecial idx, 3)) (hc : CI M2 n) (hlk : Cond.methodLinkNest M.1.cls idx M2.1 host ∈ nestW) (hn : As.length = n) (hst : (st.map fun v => v.category).sum ≤ 8) (hp : pc + 3 = pc2)
    (k : Calls M2 d mc ms (.ref i :: As) h (fun r h' => T M (d + 1) kc ks pc2 ls (r.toList ++ st) h' Q)) : T M (d + 1) (kc + mc) (ks + ms) pc ls (As.reverse ++ .ref i :: st) h Q := by
  subst hp
  intro p l e R s m args below meth c Z D base x E H locs cells slots ca tys lsA F Y L
  obtain ⟨hx, hb, hml, hown, hts, hbs, hR, hXt, hnm, hret⟩ := id F
  have hrun := va_runIN (l := l) (p := p) (e := e) (below := below) (meth := meth) (locs := locs) (cells := cells) (slots := slots) (nL := M.2.2.1) (own := M.1.cls) (host := host) (index := idx) (bytes := M2.2.1) (maxL := M2.2.2.1) (n := n) (b := adr base x i) (As := As.map (trV (adr base x))) (rest := st.map (trV (adr base x))) (g := F0 m pc lsA ((As.reverse ++ .ref i :: st).map (trV (adr base x)))) (Ts := lw_g) ⟨hx, hb, hml, hown, hts⟩ (k l D base x ca tys E)
    ⟨va_cnB n hts (gi hc.1) (show wsm M2 = Cond.code M2.1 M2.2.1 M2.2.2.1 none :: lw_g by rw [← hc.2.2.1]; rfl) rfl rfl (hXt.2.2.2.2.1 _ hlk) (hts _ hc.1.2.2.1) hc.1.2.2.2.1 ⟨by show d + 1 + 1 ≤ R.frames; omega, by show 8 + (M2.2.2.1 + 11) + 64 * (d + 1) ≤ R.locals; have := hc.1.2.1; omega⟩, hc.2.1, hts _ hc.2.2.2⟩
    ⟨PcB.blind, PcB.pre Y hXt (.ref i :: As)⟩ rfl (by rw [List.length_map]; exact hn) L.1 (by simp [trV]) (by show 2 * 0 + _ ≤ 8; rw [trV_catsum]; omega) hf ⟨by have := Y.2.2.2.2.2.2.1; omega, by have := Y.2.2.2.2.2.2.2; omega⟩
  refine run_W hrun Y ?_
  intro r h' H1 locs1 ca' tys' hq Y2
  have hk := hq p l e R s m args below meth c Z D base x E H1 locs1 (cells + mc) (slots + ms) ca' tys' lsA (by exact F) Y2 L
  rw [List.map_append] at hk
  have er : (r.map (trV (adr base x))).toList = r.toList.map (trV (adr base x)) := by cases r <;> rfl
  rw [er]
  exact hk
end TCalls
end
section
theorem cpN_in : Cond.native arraycopyName ∈ lw_g := gd 303 (by decide +kernel) (by decide +kernel)
theorem cpS_in : Cond.static arraycopyName ∈ lw_g := gd 302 (by decide +kernel) (by decide +kernel)
theorem cpI_in : Cond.initialized "java/lang/System" ∈ lw_g := gd 10 (by decide +kernel) (by decide +kernel)
theorem ai_in : Cond.arrayClass .int ∈ lw_g := gd 47 (by decide +kernel) (by decide +kernel)
theorem az_in : Cond.arrayClass .boolean ∈ lw_g := gd 46 (by decide +kernel) (by decide +kernel)
/-! THE HEAP AS NUMBERS: a shape sk, and what the int slots hold, g -/
abbrev SK : Type := (Nat × List (Option Value)) ⊕ (FieldType × Nat × Option (Nat → Option Nat))
def slotV (gi : Nat → Int32) : Nat → List (Option Value) → List Value
  | _, [] => []
  | k, none :: t => .int (gi k) :: slotV gi (k + 1) t
  | k, some v :: t => v :: slotV gi (k + 1) t
def cellOf (s : SK) (gi : Nat → Int32) : SC := match s with
  | .inl o => .inl (o.1, slotV gi 0 o.2)
  | .inr (ty, n, none) => .inr (ty, n, .inl gi)
  | .inr (ty, n, some f) => .inr (ty, n, .inr (.inr (.inr (.inr f))))
def HP (sk : Nat → SK) (g : Nat → Nat → Int32) (n : Nat) : SH := (fun i => cellOf (sk i) (g i), n)
def gset (g : Nat → Nat → Int32) (i k : Nat) (v : Int32) : Nat → Nat → Int32 := va_up g i (upd (g i) k v)
theorem slotV_get (gi : Nat → Int32) : ∀ (L : List (Option Value)) (k j : Nat), (slotV gi k L)[j]? = (L[j]?).map (fun o => o.getD (.int (gi (k + j))))
  | [], k, j => by simp [slotV]
  | none :: t, k, 0 => by simp [slotV]
  | some v :: t, k, 0 => by simp [slotV]
  | none :: t, k, j + 1 => by
    show (slotV gi (k + 1) t)[j]? = _
    rw [slotV_get gi t (k + 1) j, show k + 1 + j = k + (j + 1) by omega]
    simp
  | some v :: t, k, j + 1 => by
    show (slotV gi (k + 1) t)[j]? = _
    rw [slotV_get gi t (k + 1) j, show k + 1 + j = k + (j + 1) by omega]
    simp
theorem slotV_len (gi : Nat → Int32) : ∀ (L : List (Option Value)) (k : Nat), (slotV gi k L).length = L.length
  | [], _ => rfl
  | none :: t, k => by simp [slotV, slotV_len gi t]
  | some v :: t, k => by simp [slotV, slotV_len gi t]
theorem slotV_setI {gi : Nat → Int32} {L : List (Option Value)} {k : Nat} {v : Int32} (h : L[k]? = some none) : (slotV gi 0 L).set k (.int v) = slotV (upd gi k v) 0 L := by
  apply List.ext_getElem?
  intro j
  rw [List.getElem?_set, slotV_get, slotV_get, slotV_len]
  by_cases e : k = j
  · subst e
    have hl := (List.getElem?_eq_some_iff.mp h).1
    simp [hl, h, upd]
    have h3 : L[k] = none := by
      have := List.getElem?_eq_getElem hl
      rw [h] at this
      exact (Option.some.inj this).symm
    rw [h3]
    rfl
  · have e2 : ¬ j = k := fun q => e q.symm
    simp [e, upd, e2]
theorem slotV_setV {gi : Nat → Int32} {L : List (Option Value)} {k : Nat} {v : Value} (h : k < L.length) : (slotV gi 0 L).set k v = slotV gi 0 (L.set k (some v)) := by
  apply List.ext_getElem?
  intro j
  rw [List.getElem?_set, slotV_get, slotV_get, slotV_len, List.getElem?_set]
  by_cases e : k = j
  · subst e
    simp [h]
  · simp [e]
theorem HP_set {sk : Nat → SK} {g : Nat → Nat → Int32} {n i : Nat} {c : SC} {s2 : SK} {gi : Nat → Int32} (h : c = cellOf s2 gi) : hset (HP sk g n) i c = HP (va_up sk i s2) (va_up g i gi) n := by
  subst h
  refine Prod.ext (funext fun j => ?_) rfl
  show va_up (fun a => cellOf (sk a) (g a)) i (cellOf s2 gi) j = cellOf (va_up sk i s2 j) (va_up g i gi j)
  by_cases e : j = i
  · simp [va_up, e]
  · simp [va_up, e]
theorem HP_setg {sk : Nat → SK} {g : Nat → Nat → Int32} {n i : Nat} {c : SC} {gi : Nat → Int32} (h : c = cellOf (sk i) gi) : hset (HP sk g n) i c = HP sk (va_up g i gi) n := by
  rw [HP_set h]
  congr 1
  funext j
  by_cases e : j = i
  · simp [va_up, e]
  · simp [va_up, e]
theorem HP_sets {sk : Nat → SK} {g : Nat → Nat → Int32} {n i : Nat} {c : SC} {s2 : SK} (h : c = cellOf s2 (g i)) : hset (HP sk g n) i c = HP (va_up sk i s2) g n := by
  rw [HP_set h]
  congr 1
  funext j
  by_cases e : j = i
  · simp [va_up, e]
  · simp [va_up, e]
theorem HP_new {sk : Nat → SK} {g : Nat → Nat → Int32} {n : Nat} {c : SC} {s2 : SK} {gi : Nat → Int32} (h : c = cellOf s2 gi) : hnew (HP sk g n) c = HP (va_up sk (n + 4) s2) (va_up g (n + 4) gi) (n + 1) := by
  subst h
  refine Prod.ext (funext fun j => ?_) rfl
  show va_up (fun a => cellOf (sk a) (g a)) (n + 4) (cellOf s2 gi) j = cellOf (va_up sk (n + 4) s2 j) (va_up g (n + 4) gi j)
  by_cases e : j = n + 4
  · simp [va_up, e]
  · simp [va_up, e]
def isO (sk : Nat → SK) (n i ci : Nat) (L : List (Option Value)) : Prop := 4 ≤ i ∧ i < n + 4 ∧ sk i = .inl (ci, L)
def isA (sk : Nat → SK) (n i : Nat) (ty : FieldType) (len : Nat) : Prop := 4 ≤ i ∧ i < n + 4 ∧ sk i = .inr (ty, len, none)
def isR (sk : Nat → SK) (n i : Nat) (ty : FieldType) (len : Nat) (f : Nat → Option Nat) : Prop := 4 ≤ i ∧ i < n + 4 ∧ sk i = .inr (ty, len, some f)
def isX (sk : Nat → SK) (i len : Nat) : Prop := i < 4 ∧ sk i = .inr (.int, len, none)
theorem isO.h {sk : Nat → SK} {n i ci : Nat} {L : List (Option Value)} (o : isO sk n i ci L) (g : Nat → Nat → Int32) : hob (HP sk g n) i ci (slotV (g i) 0 L) := ⟨o.1, o.2.1, by show cellOf (sk i) (g i) = _; rw [o.2.2]; rfl⟩
theorem isA.h {sk : Nat → SK} {n i len : Nat} {ty : FieldType} (o : isA sk n i ty len) (g : Nat → Nat → Int32) : har (HP sk g n) i ty (len, .inl (g i)) := ⟨o.1, o.2.1, by show cellOf (sk i) (g i) = _; rw [o.2.2]; rfl⟩
theorem isR.h {sk : Nat → SK} {n i len : Nat} {ty : FieldType} {f : Nat → Option Nat} (o : isR sk n i ty len f) (g : Nat → Nat → Int32) : har (HP sk g n) i ty (len, .inr (.inr (.inr (.inr f)))) := ⟨o.1, o.2.1, by show cellOf (sk i) (g i) = _; rw [o.2.2]; rfl⟩
theorem isX.h {sk : Nat → SK} {i len : Nat} (o : isX sk i len) (g : Nat → Nat → Int32) (n : Nat) : hxa (HP sk g n) i len (g i) := ⟨o.1, by show cellOf (sk i) (g i) = _; rw [o.2]; rfl⟩
theorem nIc {k : Nat} (h : k < 2 ^ 31) : (nI k).toNatClampNeg = k := nI_clamp h
section GRows
variable {M : MI} {d kc ks pc pc2 : Nat} {ls : List (Nat × Value)} {st : List Value} {sk : Nat → SK} {g : Nat → Nat → Int32} {n : Nat} {Q : Option Value → SH → Prop}

theorem G_getI {idx ci kf i : Nat} {L : List (Option Value)} {v : Int32} (hf : decode M.2.1 pc = .ok (.getfield idx, 3)) (hl : FL M.1.cls idx ci kf) (ho : isO sk n i ci L) (hL : L[kf]? = some none) (hv : g i kf = v) (hp : pc + 3 = pc2) (k : T M d kc ks pc2 ls (.int v :: st) (HP sk g n) Q) : T M d kc ks pc ls (.ref i :: st) (HP sk g n) Q :=
  T_getfield hf hl (ho.h g) (by rw [slotV_get, hL]; show some (Value.int (g i (0 + kf))) = some (Value.int v); rw [Nat.zero_add, hv]) hp k
theorem G_getR {idx ci kf i : Nat} {L : List (Option Value)} {v : Value} (hf : decode M.2.1 pc = .ok (.getfield idx, 3)) (hl : FL M.1.cls idx ci kf) (ho : isO sk n i ci L) (hL : L[kf]? = some (some v)) (hp : pc + 3 = pc2) (k : T M d kc ks pc2 ls (v :: st) (HP sk g n) Q) : T M d kc ks pc ls (.ref i :: st) (HP sk g n) Q :=
  T_getfield hf hl (ho.h g) (by rw [slotV_get, hL]; rfl) hp k
theorem G_putI {idx ci kf i : Nat} {L : List (Option Value)} {v : Int32} (hf : decode M.2.1 pc = .ok (.putfield idx, 3)) (hl : FL M.1.cls idx ci kf) (ho : isO sk n i ci L) (hL : L[kf]? = some none) (hfin : (TT ci kf).2.2.2 = false) (hty : tyT ci kf = .int) (hp : pc + 3 = pc2) (k : T M d kc ks pc2 ls st (HP sk (gset g i kf v) n) Q) : T M d kc ks pc ls (.int v :: .ref i :: st) (HP sk g n) Q := by
  refine T_putfield hf hl (ho.h g) hfin (fun a => by rw [hty]; rfl) (fun a => by rw [hty]; rfl) (by rw [slotV_len]; exact (List.getElem?_eq_some_iff.mp hL).1) hp ?_
  rw [HP_setg (gi := upd (g i) kf v) (by rw [ho.2.2, slotV_setI hL]; rfl)]
  exact k
theorem G_putL {idx ci kf i : Nat} {L : List (Option Value)} {v : Int64} (hf : decode M.2.1 pc = .ok (.putfield idx, 3)) (hl : FL M.1.cls idx ci kf) (ho : isO sk n i ci L) (hL : kf < L.length) (hfin : (TT ci kf).2.2.2 = false) (hty : tyT ci kf = .long) (hp : pc + 3 = pc2) (k : T M d kc ks pc2 ls st (HP (va_up sk i (.inl (ci, L.set kf (some (.long v))))) g n) Q) : T M d kc ks pc ls (.long v :: .ref i :: st) (HP sk g n) Q := by
  refine T_putfield hf hl (ho.h g) hfin (fun a => by rw [hty]; rfl) (fun a => by rw [hty]; rfl) (by rw [slotV_len]; exact hL) hp ?_
  rw [HP_sets (s2 := .inl (ci, L.set kf (some (.long v)))) (by rw [slotV_setV hL]; rfl)]
  exact k
theorem G_putR {idx ci kf i q : Nat} {L : List (Option Value)} (hf : decode M.2.1 pc = .ok (.putfield idx, 3)) (hl : FL M.1.cls idx ci kf) (ho : isO sk n i ci L) (hL : kf < L.length) (hfin : (TT ci kf).2.2.2 = true) (hin2 : M.1.name = "<init>") (hdecl : (TT ci kf).1 = M.1.cls) (hty : (tyT ci kf).isReference = true) (hp : pc + 3 = pc2) (k : T M d kc ks pc2 ls st (HP (va_up sk i (.inl (ci, L.set kf (some (.ref q))))) g n) Q) : T M d kc ks pc ls (.ref q :: .ref i :: st) (HP sk g n) Q := by
  refine T_putfinal hf hl (ho.h g) hfin hin2 hdecl (fun a => by show narrow _ (Value.ref (a q)) = Value.ref (a q); cases hq : tyT ci kf <;> rw [hq] at hty <;> first | rfl | cases hty) (fun a => by show fits _ (Value.ref (a q)) = true; cases hq : tyT ci kf <;> rw [hq] at hty <;> first | rfl | cases hty) (by rw [slotV_len]; exact hL) hp ?_
  rw [HP_sets (s2 := .inl (ci, L.set kf (some (.ref q)))) (by rw [slotV_setV hL]; rfl)]
  exact k
theorem G_iald {i len k : Nat} {v : Int32} (hf : decode M.2.1 pc = .ok (.iaload, 1)) (ho : isA sk n i .int len) (hk : k < len) (hlen : len < 2 ^ 31) (hv : g i k = v) (hp : pc + 1 = pc2) (kk : T M d kc ks pc2 ls (.int v :: st) (HP sk g n) Q) : T M d kc ks pc ls (.int (nI k) :: .ref i :: st) (HP sk g n) Q :=
  T_iaload hf (ho.h g) (vp_in_nI hk hlen) hp (by rw [nIc (by omega), hv]; exact kk)
theorem G_bald {i len k : Nat} {v : Int32} (hf : decode M.2.1 pc = .ok (.baload, 1)) (ho : isA sk n i .boolean len) (hk : k < len) (hlen : len < 2 ^ 31) (hv : g i k = v) (hp : pc + 1 = pc2) (kk : T M d kc ks pc2 ls (.int v :: st) (HP sk g n) Q) : T M d kc ks pc ls (.int (nI k) :: .ref i :: st) (HP sk g n) Q :=
  T_baload hf (ho.h g) (vp_in_nI hk hlen) hp (by rw [nIc (by omega), hv]; exact kk)
theorem G_xald {i len k : Nat} {v : Int32} (hf : decode M.2.1 pc = .ok (.iaload, 1)) (ho : isX sk i len) (hk : k < len) (hlen : len < 2 ^ 31) (hv : g i k = v) (hp : pc + 1 = pc2) (kk : T M d kc ks pc2 ls (.int v :: st) (HP sk g n) Q) : T M d kc ks pc ls (.int (nI k) :: .ref i :: st) (HP sk g n) Q :=
  T_xaload hf (ho.h g n) (vp_in_nI hk hlen) hp (by rw [nIc (by omega), hv]; exact kk)
theorem G_aald {i len k : Nat} {ty : FieldType} {f : Nat → Option Nat} {r : Option Nat} (hf : decode M.2.1 pc = .ok (.aaload, 1)) (ho : isR sk n i ty len f) (hty : ty.isReference = true) (hk : k < len) (hlen : len < 2 ^ 31) (hv : f k = r) (hp : pc + 1 = pc2) (kk : T M d kc ks pc2 ls (va_rf r :: st) (HP sk g n) Q) : T M d kc ks pc ls (.int (nI k) :: .ref i :: st) (HP sk g n) Q :=
  T_aaload hf (ho.h g) hty (vp_in_nI hk hlen) hp (by rw [nIc (by omega), hv]; exact kk)
theorem G_iast {i len k : Nat} {v : Int32} (hf : decode M.2.1 pc = .ok (.iastore, 1)) (ho : isA sk n i .int len) (hk : k < len) (hlen : len < 2 ^ 31) (hp : pc + 1 = pc2) (kk : T M d kc ks pc2 ls st (HP sk (gset g i k v) n) Q) : T M d kc ks pc ls (.int v :: .int (nI k) :: .ref i :: st) (HP sk g n) Q := by
  refine T_iastore hf (ho.h g) (vp_in_nI hk hlen) hp ?_
  rw [nIc (by omega), HP_setg (gi := upd (g i) k v) (by rw [ho.2.2]; rfl)]
  exact kk
theorem G_bast {i len k : Nat} {v : Int32} (hf : decode M.2.1 pc = .ok (.bastore, 1)) (ho : isA sk n i .boolean len) (hk : k < len) (hlen : len < 2 ^ 31) (hn : vp_nar .boolean v = v) (hp : pc + 1 = pc2) (kk : T M d kc ks pc2 ls st (HP sk (gset g i k v) n) Q) : T M d kc ks pc ls (.int v :: .int (nI k) :: .ref i :: st) (HP sk g n) Q := by
  refine T_bastore hf (ho.h g) (vp_in_nI hk hlen) hp ?_
  rw [nIc (by omega), hn, HP_setg (gi := upd (g i) k v) (by rw [ho.2.2]; rfl)]
  exact kk
theorem G_aast {i len k q ci : Nat} {f : Nat → Option Nat} {L : List (Option Value)} (hf : decode M.2.1 pc = .ok (.aastore, 1)) (hci : ci < 9) (ho : isR sk n i (.object (RR ci)) len f) (hq : isO sk n q ci L) (hk : k < len) (hlen : len < 2 ^ 31) (hp : pc + 1 = pc2) (kk : T M d kc ks pc2 ls st (HP (va_up sk i (.inr (.object (RR ci), len, some (va_up f k (some q))))) g n) Q) : T M d kc ks pc ls (.ref q :: .int (nI k) :: .ref i :: st) (HP sk g n) Q := by
  refine T_aastore hf hci (ho.h g) (hq.h g) (vp_in_nI hk hlen) hp ?_
  rw [nIc (by omega)]
  show T M d kc ks pc2 ls st (hset (HP sk g n) i (cellOf (.inr (.object (RR ci), len, some (va_up f k (some q)))) (g i))) Q
  rw [HP_sets rfl]
  exact kk
theorem G_new {idx ci : Nat} {L : List (Option Value)} (hf : decode M.2.1 pc = .ok (.new idx, 3)) (hci : ci < 9) (hcl : Cond.classLink M.1.cls idx (RR ci) ∈ lw_g) (hins : Cond.instantiable (RR ci) (NN ci) ∈ lw_g) (hini : Cond.initialized (RR ci) ∈ lw_g) (hfs : ∀ a j, j < NN ci → defaultValue (tyT ci j) = vp_V ((slotV (fun _ => 0) 0 L).map (trV a)) j) (hp : pc + 3 = pc2) (k : T M d kc ks pc2 ls (.ref (n + 4) :: st) (HP (va_up sk (n + 4) (.inl (ci, L))) (va_up g (n + 4) (fun _ => 0)) (n + 1)) Q) : T M d (kc + 1) (ks + NN ci) pc ls st (HP sk g n) Q := by
  refine T_new (fs := slotV (fun _ => 0) 0 L) hf hci hcl hins hini hfs hp ?_
  show T M d kc ks pc2 ls (.ref (n + 4) :: st) (hnew (HP sk g n) (cellOf (.inl (ci, L)) (fun _ => 0))) Q
  rw [HP_new rfl]
  exact k
theorem G_newi {N : Nat} (hf : decode M.2.1 pc = .ok (.newarray .int, 2)) (harr : Cond.arrayClass .int ∈ lw_g) (hN : N < 1000000) (hp : pc + 2 = pc2) (k : T M d kc ks pc2 ls (.ref (n + 4) :: st) (HP (va_up sk (n + 4) (.inr (.int, N, none))) (va_up g (n + 4) (fun _ => 0)) (n + 1)) Q) : T M d (kc + 1) (ks + N) pc ls (.int (nI N) :: st) (HP sk g n) Q := by
  refine T_newarray (a0 := (N, .inl (fun _ => 0))) hf harr rfl (fun cA a => rfl) (nI_pos (by omega)) (nI_clamp (by omega)) (by show N * 4 ≤ _; omega) hp ?_
  show T M d kc ks pc2 ls (.ref (n + 4) :: st) (hnew (HP sk g n) (cellOf (.inr (.int, N, none)) (fun _ => 0))) Q
  rw [HP_new rfl]
  exact k
theorem G_newz {N : Nat} (hf : decode M.2.1 pc = .ok (.newarray .boolean, 2)) (harr : Cond.arrayClass .boolean ∈ lw_g) (hN : N < 1000000) (hp : pc + 2 = pc2) (k : T M d kc ks pc2 ls (.ref (n + 4) :: st) (HP (va_up sk (n + 4) (.inr (.boolean, N, none))) (va_up g (n + 4) (fun _ => 0)) (n + 1)) Q) : T M d (kc + 1) (ks + N) pc ls (.int (nI N) :: st) (HP sk g n) Q := by
  refine T_newarray (a0 := (N, .inl (fun _ => 0))) hf harr rfl (fun cA a => rfl) (nI_pos (by omega)) (nI_clamp (by omega)) (by show N * 1 ≤ _; omega) hp ?_
  show T M d kc ks pc2 ls (.ref (n + 4) :: st) (hnew (HP sk g n) (cellOf (.inr (.boolean, N, none)) (fun _ => 0))) Q
  rw [HP_new rfl]
  exact k
theorem G_newq {idx N : Nat} (hf : decode M.2.1 pc = .ok (.anewarray idx, 3)) (hcl : Cond.classLink M.1.cls idx RX2 ∈ lw_g) (hN : N < 1000000) (hp : pc + 3 = pc2) (k : T M d kc ks pc2 ls (.ref (n + 4) :: st) (HP (va_up sk (n + 4) (.inr (.object RX2, N, some (fun _ => none)))) (va_up g (n + 4) (fun _ => 0)) (n + 1)) Q) : T M d (kc + 1) (ks + N) pc ls (.int (nI N) :: st) (HP sk g n) Q := by
  refine T_anewarray hf hcl (nI_pos (by omega)) (nI_clamp (by omega)) (by omega) hp ?_
  show T M d kc ks pc2 ls (.ref (n + 4) :: st) (hnew (HP sk g n) (cellOf (.inr (.object RX2, N, some (fun _ => none))) (fun _ => 0))) Q
  rw [HP_new rfl]
  exact k
theorem G_copy {idx i0 i1 n0 n1 a b c : Nat} (hf : decode M.2.1 pc = .ok (.invokestatic idx, 3)) (hlk : Cond.methodLink M.1.cls idx arraycopyName ∈ lw_g) (ho0 : isA sk n i0 .int n0) (ho1 : isA sk n i1 .int n1) (h0 : n0 < 2 ^ 31) (h1 : n1 < 2 ^ 31) (h4 : a + c ≤ n0) (h5 : b + c ≤ n1) (hst : (st.map fun v => v.category).sum ≤ 8) (hp : pc + 3 = pc2)
    (k : T M d kc ks pc2 ls st (HP sk (va_up g i1 (va_cpy (g i0) (g i1) a b c)) n) Q) : T M d kc ks pc ls (.int (nI c) :: .int (nI b) :: .ref i1 :: .int (nI a) :: .ref i0 :: st) (HP sk g n) Q := by
  refine T_arraycopy hf hlk cpN_in cpS_in cpI_in (ho0.h g) (ho1.h g) (nI_pos (by omega)) (nI_pos (by omega)) (nI_pos (by omega)) (by rw [nIc (by omega), nIc (by omega)]; exact h4) (by rw [nIc (by omega), nIc (by omega)]; exact h5) hst hp ?_
  rw [nIc (by omega), nIc (by omega), nIc (by omega), HP_setg (gi := va_cpy (g i0) (g i1) a b c) (by rw [ho1.2.2]; rfl)]
  exact k
end GRows
section NRows
variable {M : MI} {d kc ks pc pc2 : Nat} {ls : List (Nat × Value)} {st : List Value} {h : SH} {Q : Option Value → SH → Prop}
theorem N_iadd {a b : Nat} (hf : decode M.2.1 pc = .ok (.iadd, 1)) (hp : pc + 1 = pc2) (k : T M d kc ks pc2 ls (.int (nI (a + b)) :: st) h Q) : T M d kc ks pc ls (.int (nI b) :: .int (nI a) :: st) h Q := T_iadd hf hp (by rw [nI_add]; exact k)
theorem N_imul {a b : Nat} (hf : decode M.2.1 pc = .ok (.imul, 1)) (hp : pc + 1 = pc2) (k : T M d kc ks pc2 ls (.int (nI (a * b)) :: st) h Q) : T M d kc ks pc ls (.int (nI b) :: .int (nI a) :: st) h Q := T_imul hf hp (by rw [pk_mul]; exact k)
theorem N_isub {a b : Nat} (hf : decode M.2.1 pc = .ok (.isub, 1)) (hab : b ≤ a) (hp : pc + 1 = pc2) (k : T M d kc ks pc2 ls (.int (nI (a - b)) :: st) h Q) : T M d kc ks pc ls (.int (nI b) :: .int (nI a) :: st) h Q := T_isub hf hp (by rw [pk_sub hab]; exact k)
theorem N_iinc {i a m : Nat} {n : Int} (hf : decode M.2.1 pc = .ok (.iinc i n, 3)) (hl : ls.lookup i = some (.int (nI a))) (hm : Int32.ofInt n = nI m) (hn : i < M.2.2.1) (hp : pc + 3 = pc2) (k : T M d kc ks pc2 (lset i (.int (nI (a + m))) ls) st h Q) : T M d kc ks pc ls st h Q := T_iinc hf hl (by rw [hm, nI_add]) hn hp k
theorem N_icmpeq {a b : Nat} {off : Int} {tgt : Nat} (hf : decode M.2.1 pc = .ok (.if_icmp .eq off, 3)) (ht : (pc : Int) + off = (tgt : Int)) (ha : a < 2 ^ 31) (hb : b < 2 ^ 31) (hp : pc + 3 = pc2) (kt : a = b → T M d kc ks tgt ls st h Q) (kf : ¬ a = b → T M d kc ks pc2 ls st h Q) : T M d kc ks pc ls (.int (nI b) :: .int (nI a) :: st) h Q := T_icmpeq hf ht hp (fun z => kt ((nI_eq ha hb).mp z)) (fun z => kf (fun w => z ((nI_eq ha hb).mpr w)))
theorem N_icmpne {a b : Nat} {off : Int} {tgt : Nat} (hf : decode M.2.1 pc = .ok (.if_icmp .ne off, 3)) (ht : (pc : Int) + off = (tgt : Int)) (ha : a < 2 ^ 31) (hb : b < 2 ^ 31) (hp : pc + 3 = pc2) (kt : ¬ a = b → T M d kc ks tgt ls st h Q) (kf : a = b → T M d kc ks pc2 ls st h Q) : T M d kc ks pc ls (.int (nI b) :: .int (nI a) :: st) h Q := T_icmpne hf ht hp (fun z => kt (fun w => z ((nI_eq ha hb).mpr w))) (fun z => kf ((nI_eq ha hb).mp z))
theorem N_icmplt {a b : Nat} {off : Int} {tgt : Nat} (hf : decode M.2.1 pc = .ok (.if_icmp .lt off, 3)) (ht : (pc : Int) + off = (tgt : Int)) (ha : a < 2 ^ 31) (hb : b < 2 ^ 31) (hp : pc + 3 = pc2) (kt : a < b → T M d kc ks tgt ls st h Q) (kf : ¬ a < b → T M d kc ks pc2 ls st h Q) : T M d kc ks pc ls (.int (nI b) :: .int (nI a) :: st) h Q := T_icmplt hf ht hp (fun z => kt ((nI_ltI ha hb).mp z)) (fun z => kf (fun w => z ((nI_ltI ha hb).mpr w)))
theorem N_icmpge {a b : Nat} {off : Int} {tgt : Nat} (hf : decode M.2.1 pc = .ok (.if_icmp .ge off, 3)) (ht : (pc : Int) + off = (tgt : Int)) (ha : a < 2 ^ 31) (hb : b < 2 ^ 31) (hp : pc + 3 = pc2) (kt : b ≤ a → T M d kc ks tgt ls st h Q) (kf : ¬ b ≤ a → T M d kc ks pc2 ls st h Q) : T M d kc ks pc ls (.int (nI b) :: .int (nI a) :: st) h Q := T_icmpge hf ht hp (fun z => kt ((nI_leI hb ha).mp z)) (fun z => kf (fun w => z ((nI_leI hb ha).mpr w)))
theorem N_icmpgt {a b : Nat} {off : Int} {tgt : Nat} (hf : decode M.2.1 pc = .ok (.if_icmp .gt off, 3)) (ht : (pc : Int) + off = (tgt : Int)) (ha : a < 2 ^ 31) (hb : b < 2 ^ 31) (hp : pc + 3 = pc2) (kt : b < a → T M d kc ks tgt ls st h Q) (kf : ¬ b < a → T M d kc ks pc2 ls st h Q) : T M d kc ks pc ls (.int (nI b) :: .int (nI a) :: st) h Q := T_icmpgt hf ht hp (fun z => kt ((nI_ltI hb ha).mp z)) (fun z => kf (fun w => z ((nI_ltI hb ha).mpr w)))
theorem N_icmple {a b : Nat} {off : Int} {tgt : Nat} (hf : decode M.2.1 pc = .ok (.if_icmp .le off, 3)) (ht : (pc : Int) + off = (tgt : Int)) (ha : a < 2 ^ 31) (hb : b < 2 ^ 31) (hp : pc + 3 = pc2) (kt : a ≤ b → T M d kc ks tgt ls st h Q) (kf : ¬ a ≤ b → T M d kc ks pc2 ls st h Q) : T M d kc ks pc ls (.int (nI b) :: .int (nI a) :: st) h Q := T_icmple hf ht hp (fun z => kt ((nI_leI ha hb).mp z)) (fun z => kf (fun w => z ((nI_leI ha hb).mpr w)))
end NRows
end
