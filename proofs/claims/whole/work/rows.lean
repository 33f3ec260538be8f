section
-- ===== PART A: goes FIRST, ahead of the names: the tables' words, and 'selects' of the private methods out of them =====
/-- a private method of a class that the tables say can be made, by its rows of tables_1 -/
def lw_okq (q : MethodName × Nat) : Prop := (q.1.cls ≠ "java/lang/invoke/MethodHandle" ∧ q.1.cls ≠ "java/lang/invoke/VarHandle") ∧ Cond.instantiable q.1.cls q.2 ∈ tables_1 ∧ Cond.privateMethod q.1 ∈ tables_1 ∧ Cond.instanceMethod q.1 ∈ tables_1
theorem lw_p0 : lw_okq (⟨"JarNotes", "found", "(I)I"⟩, 10) := ⟨⟨by decide +kernel, by decide +kernel⟩, List.mem_of_getElem? (i := 14) (by decide +kernel), List.mem_of_getElem? (i := 265) (by decide +kernel), List.mem_of_getElem? (i := 266) (by decide +kernel)⟩
theorem lw_p1 : lw_okq (⟨"JarNotes", "fine", "(I)I"⟩, 10) := ⟨⟨by decide +kernel, by decide +kernel⟩, List.mem_of_getElem? (i := 14) (by decide +kernel), List.mem_of_getElem? (i := 274) (by decide +kernel), List.mem_of_getElem? (i := 275) (by decide +kernel)⟩
theorem lw_p2 : lw_okq (⟨"JarNotes$Tape", "passes", "(I)Z"⟩, 5) := ⟨⟨by decide +kernel, by decide +kernel⟩, List.mem_of_getElem? (i := 49) (by decide +kernel), List.mem_of_getElem? (i := 330) (by decide +kernel), List.mem_of_getElem? (i := 331) (by decide +kernel)⟩
theorem lw_p3 : lw_okq (⟨"JarNotes$Tape", "fails", "(I)Z"⟩, 5) := ⟨⟨by decide +kernel, by decide +kernel⟩, List.mem_of_getElem? (i := 49) (by decide +kernel), List.mem_of_getElem? (i := 334) (by decide +kernel), List.mem_of_getElem? (i := 335) (by decide +kernel)⟩
theorem lw_p4 : lw_okq (⟨"JarNotes$Tape", "numbers", "(II)Z"⟩, 5) := ⟨⟨by decide +kernel, by decide +kernel⟩, List.mem_of_getElem? (i := 49) (by decide +kernel), List.mem_of_getElem? (i := 338) (by decide +kernel), List.mem_of_getElem? (i := 339) (by decide +kernel)⟩
theorem lw_p5 : lw_okq (⟨"JarNotes$Tape", "figures", "()I"⟩, 5) := ⟨⟨by decide +kernel, by decide +kernel⟩, List.mem_of_getElem? (i := 49) (by decide +kernel), List.mem_of_getElem? (i := 342) (by decide +kernel), List.mem_of_getElem? (i := 343) (by decide +kernel)⟩
theorem lw_p6 : lw_okq (⟨"JarNotes$Tape", "tellsJar", "(LJarNotes$Cellar;)Z"⟩, 5) := ⟨⟨by decide +kernel, by decide +kernel⟩, List.mem_of_getElem? (i := 49) (by decide +kernel), List.mem_of_getElem? (i := 347) (by decide +kernel), List.mem_of_getElem? (i := 348) (by decide +kernel)⟩
theorem lw_p7 : lw_okq (⟨"JarNotes", "noCellar", "()Z"⟩, 10) := ⟨⟨by decide +kernel, by decide +kernel⟩, List.mem_of_getElem? (i := 14) (by decide +kernel), List.mem_of_getElem? (i := 386) (by decide +kernel), List.mem_of_getElem? (i := 387) (by decide +kernel)⟩
theorem lw_p8 : lw_okq (⟨"JarNotes", "isSneeze", "(II)Z"⟩, 10) := ⟨⟨by decide +kernel, by decide +kernel⟩, List.mem_of_getElem? (i := 14) (by decide +kernel), List.mem_of_getElem? (i := 410) (by decide +kernel), List.mem_of_getElem? (i := 411) (by decide +kernel)⟩
theorem lw_p9 : lw_okq (⟨"JarNotes", "isPlace", "(I)Z"⟩, 10) := ⟨⟨by decide +kernel, by decide +kernel⟩, List.mem_of_getElem? (i := 14) (by decide +kernel), List.mem_of_getElem? (i := 417) (by decide +kernel), List.mem_of_getElem? (i := 418) (by decide +kernel)⟩
theorem lw_p10 : lw_okq (⟨"JarNotes$Echo", "struckFrom", "(II)I"⟩, 6) := ⟨⟨by decide +kernel, by decide +kernel⟩, List.mem_of_getElem? (i := 152) (by decide +kernel), List.mem_of_getElem? (i := 445) (by decide +kernel), List.mem_of_getElem? (i := 446) (by decide +kernel)⟩
theorem lw_p11 : lw_okq (⟨"JarNotes$Echo", "breakingBy", "(I)I"⟩, 6) := ⟨⟨by decide +kernel, by decide +kernel⟩, List.mem_of_getElem? (i := 152) (by decide +kernel), List.mem_of_getElem? (i := 455) (by decide +kernel), List.mem_of_getElem? (i := 456) (by decide +kernel)⟩
theorem lw_p12 : lw_okq (⟨"JarNotes", "isJar", "(I)Z"⟩, 10) := ⟨⟨by decide +kernel, by decide +kernel⟩, List.mem_of_getElem? (i := 14) (by decide +kernel), List.mem_of_getElem? (i := 471) (by decide +kernel), List.mem_of_getElem? (i := 472) (by decide +kernel)⟩
theorem lw_p13 : lw_okq (⟨"JarNotes$Foretold", "mostBroken", "(II)I"⟩, 7) := ⟨⟨by decide +kernel, by decide +kernel⟩, List.mem_of_getElem? (i := 146) (by decide +kernel), List.mem_of_getElem? (i := 514) (by decide +kernel), List.mem_of_getElem? (i := 515) (by decide +kernel)⟩
theorem lw_p14 : lw_okq (⟨"JarNotes$Foretold", "keepFewest", "(II)V"⟩, 7) := ⟨⟨by decide +kernel, by decide +kernel⟩, List.mem_of_getElem? (i := 146) (by decide +kernel), List.mem_of_getElem? (i := 564) (by decide +kernel), List.mem_of_getElem? (i := 565) (by decide +kernel)⟩
theorem lw_p15 : lw_okq (⟨"JarNotes$Foretold", "guessFits", "(I[III)Z"⟩, 7) := ⟨⟨by decide +kernel, by decide +kernel⟩, List.mem_of_getElem? (i := 146) (by decide +kernel), List.mem_of_getElem? (i := 613) (by decide +kernel), List.mem_of_getElem? (i := 614) (by decide +kernel)⟩
def lw_privs_1 : List (MethodName × Nat) := [(⟨"JarNotes", "found", "(I)I"⟩, 10), (⟨"JarNotes", "fine", "(I)I"⟩, 10), (⟨"JarNotes$Tape", "passes", "(I)Z"⟩, 5), (⟨"JarNotes$Tape", "fails", "(I)Z"⟩, 5), (⟨"JarNotes$Tape", "numbers", "(II)Z"⟩, 5), (⟨"JarNotes$Tape", "figures", "()I"⟩, 5), (⟨"JarNotes$Tape", "tellsJar", "(LJarNotes$Cellar;)Z"⟩, 5), (⟨"JarNotes", "noCellar", "()Z"⟩, 10), (⟨"JarNotes", "isSneeze", "(II)Z"⟩, 10), (⟨"JarNotes", "isPlace", "(I)Z"⟩, 10), (⟨"JarNotes$Echo", "struckFrom", "(II)I"⟩, 6), (⟨"JarNotes$Echo", "breakingBy", "(I)I"⟩, 6), (⟨"JarNotes", "isJar", "(I)Z"⟩, 10), (⟨"JarNotes$Foretold", "mostBroken", "(II)I"⟩, 7), (⟨"JarNotes$Foretold", "keepFewest", "(II)V"⟩, 7), (⟨"JarNotes$Foretold", "guessFits", "(I[III)Z"⟩, 7)]
theorem lw_r1 : ∀ q ∈ lw_privs_1, lw_okq q := List.forall_mem_cons.mpr ⟨lw_p0, List.forall_mem_cons.mpr ⟨lw_p1, List.forall_mem_cons.mpr ⟨lw_p2, List.forall_mem_cons.mpr ⟨lw_p3, List.forall_mem_cons.mpr ⟨lw_p4, List.forall_mem_cons.mpr ⟨lw_p5, List.forall_mem_cons.mpr ⟨lw_p6, List.forall_mem_cons.mpr ⟨lw_p7, List.forall_mem_cons.mpr ⟨lw_p8, List.forall_mem_cons.mpr ⟨lw_p9, List.forall_mem_cons.mpr ⟨lw_p10, List.forall_mem_cons.mpr ⟨lw_p11, List.forall_mem_cons.mpr ⟨lw_p12, List.forall_mem_cons.mpr ⟨lw_p13, List.forall_mem_cons.mpr ⟨lw_p14, List.forall_mem_cons.mpr ⟨lw_p15, fun _ h => absurd h List.not_mem_nil⟩⟩⟩⟩⟩⟩⟩⟩⟩⟩⟩⟩⟩⟩⟩⟩
theorem lw_p16 : lw_okq (⟨"JarNotes$Asks", "asked", "(LJarNotes$Cellar;III)I"⟩, 2) := ⟨⟨by decide +kernel, by decide +kernel⟩, List.mem_of_getElem? (i := 208) (by decide +kernel), List.mem_of_getElem? (i := 689) (by decide +kernel), List.mem_of_getElem? (i := 690) (by decide +kernel)⟩
theorem lw_p17 : lw_okq (⟨"JarNotes$Asks", "body", "(LJarNotes$Cellar;III)I"⟩, 2) := ⟨⟨by decide +kernel, by decide +kernel⟩, List.mem_of_getElem? (i := 208) (by decide +kernel), List.mem_of_getElem? (i := 702) (by decide +kernel), List.mem_of_getElem? (i := 703) (by decide +kernel)⟩
theorem lw_p18 : lw_okq (⟨"JarNotes$Asks", "leave", "(I)V"⟩, 2) := ⟨⟨by decide +kernel, by decide +kernel⟩, List.mem_of_getElem? (i := 208) (by decide +kernel), List.mem_of_getElem? (i := 706) (by decide +kernel), List.mem_of_getElem? (i := 707) (by decide +kernel)⟩
theorem lw_p19 : lw_okq (⟨"JarNotesModel", "finding", "(I)I"⟩, 28) := ⟨⟨by decide +kernel, by decide +kernel⟩, List.mem_of_getElem? (i := 727) (by decide +kernel), List.mem_of_getElem? (i := 831) (by decide +kernel), List.mem_of_getElem? (i := 832) (by decide +kernel)⟩
theorem lw_p20 : lw_okq (⟨"JarNotesModel", "begin", "()V"⟩, 28) := ⟨⟨by decide +kernel, by decide +kernel⟩, List.mem_of_getElem? (i := 727) (by decide +kernel), List.mem_of_getElem? (i := 862) (by decide +kernel), List.mem_of_getElem? (i := 863) (by decide +kernel)⟩
theorem lw_p21 : lw_okq (⟨"JarNotesModel", "nextToken", "()V"⟩, 28) := ⟨⟨by decide +kernel, by decide +kernel⟩, List.mem_of_getElem? (i := 727) (by decide +kernel), List.mem_of_getElem? (i := 866) (by decide +kernel), List.mem_of_getElem? (i := 867) (by decide +kernel)⟩
theorem lw_p22 : lw_okq (⟨"JarNotesModel", "isLetter", "(I)Z"⟩, 28) := ⟨⟨by decide +kernel, by decide +kernel⟩, List.mem_of_getElem? (i := 727) (by decide +kernel), List.mem_of_getElem? (i := 875) (by decide +kernel), List.mem_of_getElem? (i := 876) (by decide +kernel)⟩
theorem lw_p23 : lw_okq (⟨"JarNotesModel", "must", "(Z)V"⟩, 28) := ⟨⟨by decide +kernel, by decide +kernel⟩, List.mem_of_getElem? (i := 727) (by decide +kernel), List.mem_of_getElem? (i := 879) (by decide +kernel), List.mem_of_getElem? (i := 880) (by decide +kernel)⟩
theorem lw_p24 : lw_okq (⟨"JarNotesModel", "bad", "(I)V"⟩, 28) := ⟨⟨by decide +kernel, by decide +kernel⟩, List.mem_of_getElem? (i := 727) (by decide +kernel), List.mem_of_getElem? (i := 883) (by decide +kernel), List.mem_of_getElem? (i := 884) (by decide +kernel)⟩
theorem lw_p25 : lw_okq (⟨"JarNotesModel", "number", "(II)I"⟩, 28) := ⟨⟨by decide +kernel, by decide +kernel⟩, List.mem_of_getElem? (i := 727) (by decide +kernel), List.mem_of_getElem? (i := 887) (by decide +kernel), List.mem_of_getElem? (i := 888) (by decide +kernel)⟩
theorem lw_p26 : lw_okq (⟨"JarNotesModel", "mustSign", "(I)V"⟩, 28) := ⟨⟨by decide +kernel, by decide +kernel⟩, List.mem_of_getElem? (i := 727) (by decide +kernel), List.mem_of_getElem? (i := 891) (by decide +kernel), List.mem_of_getElem? (i := 892) (by decide +kernel)⟩
theorem lw_p27 : lw_okq (⟨"JarNotesModel", "isSort", "()Z"⟩, 28) := ⟨⟨by decide +kernel, by decide +kernel⟩, List.mem_of_getElem? (i := 727) (by decide +kernel), List.mem_of_getElem? (i := 895) (by decide +kernel), List.mem_of_getElem? (i := 896) (by decide +kernel)⟩
theorem lw_p28 : lw_okq (⟨"JarNotesModel", "readJar", "()V"⟩, 28) := ⟨⟨by decide +kernel, by decide +kernel⟩, List.mem_of_getElem? (i := 727) (by decide +kernel), List.mem_of_getElem? (i := 902) (by decide +kernel), List.mem_of_getElem? (i := 903) (by decide +kernel)⟩
theorem lw_p29 : lw_okq (⟨"JarNotesModel", "failed", "()Z"⟩, 28) := ⟨⟨by decide +kernel, by decide +kernel⟩, List.mem_of_getElem? (i := 727) (by decide +kernel), List.mem_of_getElem? (i := 906) (by decide +kernel), List.mem_of_getElem? (i := 907) (by decide +kernel)⟩
theorem lw_p30 : lw_okq (⟨"JarNotesModel", "isThere", "()Z"⟩, 28) := ⟨⟨by decide +kernel, by decide +kernel⟩, List.mem_of_getElem? (i := 727) (by decide +kernel), List.mem_of_getElem? (i := 915) (by decide +kernel), List.mem_of_getElem? (i := 916) (by decide +kernel)⟩
theorem lw_p31 : lw_okq (⟨"JarNotesModel", "keep", "()V"⟩, 28) := ⟨⟨by decide +kernel, by decide +kernel⟩, List.mem_of_getElem? (i := 727) (by decide +kernel), List.mem_of_getElem? (i := 921) (by decide +kernel), List.mem_of_getElem? (i := 922) (by decide +kernel)⟩
def lw_privs_2 : List (MethodName × Nat) := [(⟨"JarNotes$Asks", "asked", "(LJarNotes$Cellar;III)I"⟩, 2), (⟨"JarNotes$Asks", "body", "(LJarNotes$Cellar;III)I"⟩, 2), (⟨"JarNotes$Asks", "leave", "(I)V"⟩, 2), (⟨"JarNotesModel", "finding", "(I)I"⟩, 28), (⟨"JarNotesModel", "begin", "()V"⟩, 28), (⟨"JarNotesModel", "nextToken", "()V"⟩, 28), (⟨"JarNotesModel", "isLetter", "(I)Z"⟩, 28), (⟨"JarNotesModel", "must", "(Z)V"⟩, 28), (⟨"JarNotesModel", "bad", "(I)V"⟩, 28), (⟨"JarNotesModel", "number", "(II)I"⟩, 28), (⟨"JarNotesModel", "mustSign", "(I)V"⟩, 28), (⟨"JarNotesModel", "isSort", "()Z"⟩, 28), (⟨"JarNotesModel", "readJar", "()V"⟩, 28), (⟨"JarNotesModel", "failed", "()Z"⟩, 28), (⟨"JarNotesModel", "isThere", "()Z"⟩, 28), (⟨"JarNotesModel", "keep", "()V"⟩, 28)]
theorem lw_r2 : ∀ q ∈ lw_privs_2, lw_okq q := List.forall_mem_cons.mpr ⟨lw_p16, List.forall_mem_cons.mpr ⟨lw_p17, List.forall_mem_cons.mpr ⟨lw_p18, List.forall_mem_cons.mpr ⟨lw_p19, List.forall_mem_cons.mpr ⟨lw_p20, List.forall_mem_cons.mpr ⟨lw_p21, List.forall_mem_cons.mpr ⟨lw_p22, List.forall_mem_cons.mpr ⟨lw_p23, List.forall_mem_cons.mpr ⟨lw_p24, List.forall_mem_cons.mpr ⟨lw_p25, List.forall_mem_cons.mpr ⟨lw_p26, List.forall_mem_cons.mpr ⟨lw_p27, List.forall_mem_cons.mpr ⟨lw_p28, List.forall_mem_cons.mpr ⟨lw_p29, List.forall_mem_cons.mpr ⟨lw_p30, List.forall_mem_cons.mpr ⟨lw_p31, fun _ h => absurd h List.not_mem_nil⟩⟩⟩⟩⟩⟩⟩⟩⟩⟩⟩⟩⟩⟩⟩⟩
theorem lw_p32 : lw_okq (⟨"JarNotesModel", "isJar", "(I)Z"⟩, 28) := ⟨⟨by decide +kernel, by decide +kernel⟩, List.mem_of_getElem? (i := 727) (by decide +kernel), List.mem_of_getElem? (i := 945) (by decide +kernel), List.mem_of_getElem? (i := 946) (by decide +kernel)⟩
theorem lw_p33 : lw_okq (⟨"JarNotesModel", "sneezes", "([III)V"⟩, 28) := ⟨⟨by decide +kernel, by decide +kernel⟩, List.mem_of_getElem? (i := 727) (by decide +kernel), List.mem_of_getElem? (i := 949) (by decide +kernel), List.mem_of_getElem? (i := 950) (by decide +kernel)⟩
theorem lw_p34 : lw_okq (⟨"JarNotesModel", "chainOf", "([IIII)I"⟩, 28) := ⟨⟨by decide +kernel, by decide +kernel⟩, List.mem_of_getElem? (i := 727) (by decide +kernel), List.mem_of_getElem? (i := 953) (by decide +kernel), List.mem_of_getElem? (i := 954) (by decide +kernel)⟩
theorem lw_p35 : lw_okq (⟨"JarNotesModel", "setsOff", "([II)Z"⟩, 28) := ⟨⟨by decide +kernel, by decide +kernel⟩, List.mem_of_getElem? (i := 727) (by decide +kernel), List.mem_of_getElem? (i := 960) (by decide +kernel), List.mem_of_getElem? (i := 961) (by decide +kernel)⟩
theorem lw_p36 : lw_okq (⟨"JarNotesModel", "worstOf", "([I)I"⟩, 28) := ⟨⟨by decide +kernel, by decide +kernel⟩, List.mem_of_getElem? (i := 727) (by decide +kernel), List.mem_of_getElem? (i := 1012) (by decide +kernel), List.mem_of_getElem? (i := 1013) (by decide +kernel)⟩
theorem lw_p37 : lw_okq (⟨"JarNotesModel", "layThen", "()V"⟩, 28) := ⟨⟨by decide +kernel, by decide +kernel⟩, List.mem_of_getElem? (i := 727) (by decide +kernel), List.mem_of_getElem? (i := 1027) (by decide +kernel), List.mem_of_getElem? (i := 1028) (by decide +kernel)⟩
theorem lw_p38 : lw_okq (⟨"JarNotesModel", "breaksBy", "(II)Z"⟩, 28) := ⟨⟨by decide +kernel, by decide +kernel⟩, List.mem_of_getElem? (i := 727) (by decide +kernel), List.mem_of_getElem? (i := 1051) (by decide +kernel), List.mem_of_getElem? (i := 1052) (by decide +kernel)⟩
theorem lw_p39 : lw_okq (⟨"JarNotesModel", "rowFound", "(III)I"⟩, 28) := ⟨⟨by decide +kernel, by decide +kernel⟩, List.mem_of_getElem? (i := 727) (by decide +kernel), List.mem_of_getElem? (i := 1063) (by decide +kernel), List.mem_of_getElem? (i := 1064) (by decide +kernel)⟩
theorem lw_p40 : lw_okq (⟨"JarNotesModel", "isSo", "(III)Z"⟩, 28) := ⟨⟨by decide +kernel, by decide +kernel⟩, List.mem_of_getElem? (i := 727) (by decide +kernel), List.mem_of_getElem? (i := 1071) (by decide +kernel), List.mem_of_getElem? (i := 1072) (by decide +kernel)⟩
theorem lw_p41 : lw_okq (⟨"JarNotesModel", "sizeOf", "(I)I"⟩, 28) := ⟨⟨by decide +kernel, by decide +kernel⟩, List.mem_of_getElem? (i := 727) (by decide +kernel), List.mem_of_getElem? (i := 1116) (by decide +kernel), List.mem_of_getElem? (i := 1117) (by decide +kernel)⟩
theorem lw_p42 : lw_okq (⟨"JarNotesModel", "stoneSize", "(I)I"⟩, 28) := ⟨⟨by decide +kernel, by decide +kernel⟩, List.mem_of_getElem? (i := 727) (by decide +kernel), List.mem_of_getElem? (i := 1120) (by decide +kernel), List.mem_of_getElem? (i := 1121) (by decide +kernel)⟩
theorem lw_p43 : lw_okq (⟨"JarNotesModel", "began", "(I)V"⟩, 28) := ⟨⟨by decide +kernel, by decide +kernel⟩, List.mem_of_getElem? (i := 727) (by decide +kernel), List.mem_of_getElem? (i := 1124) (by decide +kernel), List.mem_of_getElem? (i := 1125) (by decide +kernel)⟩
theorem lw_p44 : lw_okq (⟨"JarNotesModel", "plainSize", "(I)I"⟩, 28) := ⟨⟨by decide +kernel, by decide +kernel⟩, List.mem_of_getElem? (i := 727) (by decide +kernel), List.mem_of_getElem? (i := 1128) (by decide +kernel), List.mem_of_getElem? (i := 1129) (by decide +kernel)⟩
theorem lw_p45 : lw_okq (⟨"JarNotesModel", "markOf", "(I)I"⟩, 28) := ⟨⟨by decide +kernel, by decide +kernel⟩, List.mem_of_getElem? (i := 727) (by decide +kernel), List.mem_of_getElem? (i := 1132) (by decide +kernel), List.mem_of_getElem? (i := 1133) (by decide +kernel)⟩
def lw_privs_3 : List (MethodName × Nat) := [(⟨"JarNotesModel", "isJar", "(I)Z"⟩, 28), (⟨"JarNotesModel", "sneezes", "([III)V"⟩, 28), (⟨"JarNotesModel", "chainOf", "([IIII)I"⟩, 28), (⟨"JarNotesModel", "setsOff", "([II)Z"⟩, 28), (⟨"JarNotesModel", "worstOf", "([I)I"⟩, 28), (⟨"JarNotesModel", "layThen", "()V"⟩, 28), (⟨"JarNotesModel", "breaksBy", "(II)Z"⟩, 28), (⟨"JarNotesModel", "rowFound", "(III)I"⟩, 28), (⟨"JarNotesModel", "isSo", "(III)Z"⟩, 28), (⟨"JarNotesModel", "sizeOf", "(I)I"⟩, 28), (⟨"JarNotesModel", "stoneSize", "(I)I"⟩, 28), (⟨"JarNotesModel", "began", "(I)V"⟩, 28), (⟨"JarNotesModel", "plainSize", "(I)I"⟩, 28), (⟨"JarNotesModel", "markOf", "(I)I"⟩, 28)]
theorem lw_r3 : ∀ q ∈ lw_privs_3, lw_okq q := List.forall_mem_cons.mpr ⟨lw_p32, List.forall_mem_cons.mpr ⟨lw_p33, List.forall_mem_cons.mpr ⟨lw_p34, List.forall_mem_cons.mpr ⟨lw_p35, List.forall_mem_cons.mpr ⟨lw_p36, List.forall_mem_cons.mpr ⟨lw_p37, List.forall_mem_cons.mpr ⟨lw_p38, List.forall_mem_cons.mpr ⟨lw_p39, List.forall_mem_cons.mpr ⟨lw_p40, List.forall_mem_cons.mpr ⟨lw_p41, List.forall_mem_cons.mpr ⟨lw_p42, List.forall_mem_cons.mpr ⟨lw_p43, List.forall_mem_cons.mpr ⟨lw_p44, List.forall_mem_cons.mpr ⟨lw_p45, fun _ h => absurd h List.not_mem_nil⟩⟩⟩⟩⟩⟩⟩⟩⟩⟩⟩⟩⟩⟩
def lw_privs : List (MethodName × Nat) := lw_privs_1 ++ (lw_privs_2 ++ (lw_privs_3))
def lw_tbl : List Cond := k2_sels lw_privs ++ tables_1
theorem lw_privs_ok : ∀ q ∈ lw_privs, lw_okq q := by
  show ∀ q ∈ lw_privs_1 ++ (lw_privs_2 ++ (lw_privs_3)), lw_okq q
  exact List.forall_mem_append.mpr ⟨lw_r1, List.forall_mem_append.mpr ⟨lw_r2, lw_r3⟩⟩
end
section
def RX0 : String := "JarNotes$Acts"
def TX0 : u_T := fun k => match k with
  | 0 => ("JarNotes$Acts", "befores", "[LJarNotes$Cellar;", true)
  | 1 => ("JarNotes$Acts", "next", "I", false)
  | _ => ("JarNotes$Acts", "size", "I", false)
def tyX0 : Nat → FieldType := fun k => match k with
  | 0 => .array (.object "JarNotes$Cellar")
  | 1 => .int
  | _ => .int
theorem nmX0 : ∀ a, a < 3 → ∀ b, b < 3 → a ≠ b → (TX0 a).2.1 ≠ (TX0 b).2.1 := by decide +kernel
theorem tyX0_ok : ∀ k, k < 3 → parseFieldDescriptor (TX0 k).2.2.1 = some (tyX0 k) := by decide +kernel
abbrev cX0_init : ByteArray := prog_2_method_1_code
def yX0_init : MethodName := ⟨RX0, "<init>", "()V"⟩
abbrev cX0_keep : ByteArray := prog_2_method_2_code
def yX0_keep : MethodName := ⟨RX0, "keep", "(LJarNotes$Cellar;)V"⟩
abbrev cX0_takeBack : ByteArray := prog_2_method_3_code
def yX0_takeBack : MethodName := ⟨RX0, "takeBack", "(LJarNotes$Cellar;)Z"⟩
abbrev cX0_forget : ByteArray := prog_2_method_4_code
def yX0_forget : MethodName := ⟨RX0, "forget", "()V"⟩
def RX1 : String := "JarNotes$Asks"
def TX1 : u_T := fun k => match k with
  | 0 => ("JarNotes$Asks", "traced", "[I", true)
  | _ => ("JarNotes$Asks", "size", "I", false)
def tyX1 : Nat → FieldType := fun k => match k with
  | 0 => .array .int
  | _ => .int
theorem nmX1 : ∀ a, a < 2 → ∀ b, b < 2 → a ≠ b → (TX1 a).2.1 ≠ (TX1 b).2.1 := by decide +kernel
theorem tyX1_ok : ∀ k, k < 2 → parseFieldDescriptor (TX1 k).2.2.1 = some (tyX1 k) := by decide +kernel
abbrev cX1_init : ByteArray := prog_3_method_1_code
def yX1_init : MethodName := ⟨RX1, "<init>", "()V"⟩
abbrev cX1_answer : ByteArray := prog_3_method_2_code
def yX1_answer : MethodName := ⟨RX1, "answer", "(LJarNotes$Cellar;II)I"⟩
abbrev cX1_asked : ByteArray := prog_3_method_3_code
def yX1_asked : MethodName := ⟨RX1, "asked", "(LJarNotes$Cellar;III)I"⟩
abbrev cX1_bodyFor : ByteArray := prog_3_method_4_code
def yX1_bodyFor : MethodName := ⟨RX1, "bodyFor", "(II)I"⟩
abbrev cX1_body : ByteArray := prog_3_method_5_code
def yX1_body : MethodName := ⟨RX1, "body", "(LJarNotes$Cellar;III)I"⟩
abbrev cX1_leave : ByteArray := prog_3_method_6_code
def yX1_leave : MethodName := ⟨RX1, "leave", "(I)V"⟩
def RX2 : String := "JarNotes$Cellar"
def TX2 : u_T := fun k => match k with
  | 0 => ("JarNotes$Cellar", "jars", "I", false)
  | 1 => ("JarNotes$Cellar", "year", "I", false)
  | 2 => ("JarNotes$Cellar", "reach", "I", false)
  | 3 => ("JarNotes$Cellar", "kinds", "[I", true)
  | 4 => ("JarNotes$Cellar", "notes", "[I", true)
  | 5 => ("JarNotes$Cellar", "keeps", "[I", true)
  | 6 => ("JarNotes$Cellar", "places", "[I", true)
  | _ => ("JarNotes$Cellar", "hows", "[I", true)
def tyX2 : Nat → FieldType := fun k => match k with
  | 0 => .int
  | 1 => .int
  | 2 => .int
  | 3 => .array .int
  | 4 => .array .int
  | 5 => .array .int
  | 6 => .array .int
  | _ => .array .int
theorem nmX2 : ∀ a, a < 8 → ∀ b, b < 8 → a ≠ b → (TX2 a).2.1 ≠ (TX2 b).2.1 := by decide +kernel
theorem tyX2_ok : ∀ k, k < 8 → parseFieldDescriptor (TX2 k).2.2.1 = some (tyX2 k) := by decide +kernel
abbrev cX2_init : ByteArray := prog_4_method_1_code
def yX2_init : MethodName := ⟨RX2, "<init>", "()V"⟩
abbrev cX2_clear : ByteArray := prog_4_method_2_code
def yX2_clear : MethodName := ⟨RX2, "clear", "()V"⟩
abbrev cX2_add : ByteArray := prog_4_method_3_code
def yX2_add : MethodName := ⟨RX2, "add", "(III)V"⟩
abbrev cX2_become : ByteArray := prog_4_method_4_code
def yX2_become : MethodName := ⟨RX2, "become", "(LJarNotes$Cellar;)V"⟩
abbrev cX2_age : ByteArray := prog_4_method_5_code
def yX2_age : MethodName := ⟨RX2, "age", "()V"⟩
abbrev cX2_smash : ByteArray := prog_4_method_6_code
def yX2_smash : MethodName := ⟨RX2, "smash", "(I)V"⟩
abbrev cX2_swapPlaces : ByteArray := prog_4_method_7_code
def yX2_swapPlaces : MethodName := ⟨RX2, "swapPlaces", "(II)V"⟩
abbrev cX2_those : ByteArray := prog_4_method_8_code
def yX2_those : MethodName := ⟨RX2, "those", "(I)I"⟩
abbrev cX2_wholeBehind : ByteArray := prog_4_method_9_code
def yX2_wholeBehind : MethodName := ⟨RX2, "wholeBehind", "(I)I"⟩
def RX3 : String := "JarNotes$Echo"
def TX3 : u_T := fun k => match k with
  | 0 => ("JarNotes$Echo", "answering", "[I", true)
  | 1 => ("JarNotes$Echo", "near", "[I", true)
  | 2 => ("JarNotes$Echo", "struckBy", "[I", true)
  | 3 => ("JarNotes$Echo", "thick", "I", false)
  | 4 => ("JarNotes$Echo", "jars", "I", false)
  | _ => ("JarNotes$Echo", "rounds", "I", false)
def tyX3 : Nat → FieldType := fun k => match k with
  | 0 => .array .int
  | 1 => .array .int
  | 2 => .array .int
  | 3 => .int
  | 4 => .int
  | _ => .int
theorem nmX3 : ∀ a, a < 6 → ∀ b, b < 6 → a ≠ b → (TX3 a).2.1 ≠ (TX3 b).2.1 := by decide +kernel
theorem tyX3_ok : ∀ k, k < 6 → parseFieldDescriptor (TX3 k).2.2.1 = some (tyX3 k) := by decide +kernel
abbrev cX3_init : ByteArray := prog_5_method_1_code
def yX3_init : MethodName := ⟨RX3, "<init>", "()V"⟩
abbrev cX3_tune : ByteArray := prog_5_method_2_code
def yX3_tune : MethodName := ⟨RX3, "tune", "(LJarNotes$Cellar;)V"⟩
abbrev cX3_answeringTo : ByteArray := prog_5_method_3_code
def yX3_answeringTo : MethodName := ⟨RX3, "answeringTo", "(LJarNotes$Cellar;I)I"⟩
abbrev cX3_nearTo : ByteArray := prog_5_method_4_code
def yX3_nearTo : MethodName := ⟨RX3, "nearTo", "(LJarNotes$Cellar;I)I"⟩
abbrev cX3_apart : ByteArray := prog_5_method_5_code
def yX3_apart : MethodName := ⟨RX3, "apart", "(II)I"⟩
abbrev cX3_answers : ByteArray := prog_5_method_6_code
def yX3_answers : MethodName := ⟨RX3, "answers", "(II)Z"⟩
abbrev cX3_struckFrom : ByteArray := prog_5_method_7_code
def yX3_struckFrom : MethodName := ⟨RX3, "struckFrom", "(II)I"⟩
abbrev cX3_broken : ByteArray := prog_5_method_8_code
def yX3_broken : MethodName := ⟨RX3, "broken", "(III)I"⟩
abbrev cX3_breakingBy : ByteArray := prog_5_method_9_code
def yX3_breakingBy : MethodName := ⟨RX3, "breakingBy", "(I)I"⟩
abbrev cX3_eachStrikesOther : ByteArray := prog_5_method_10_code
def yX3_eachStrikesOther : MethodName := ⟨RX3, "eachStrikesOther", "(II)Z"⟩
def RX4 : String := "JarNotes$Foretold"
def TX4 : u_T := fun k => match k with
  | 0 => ("JarNotes$Foretold", "echo", "LJarNotes$Echo;", true)
  | 1 => ("JarNotes$Foretold", "guess", "LJarNotes$Cellar;", true)
  | 2 => ("JarNotes$Foretold", "which", "I", false)
  | 3 => ("JarNotes$Foretold", "howMany", "I", false)
  | 4 => ("JarNotes$Foretold", "above", "J", false)
  | 5 => ("JarNotes$Foretold", "below", "J", false)
  | _ => ("JarNotes$Foretold", "loudest", "I", false)
def tyX4 : Nat → FieldType := fun k => match k with
  | 0 => .object "JarNotes$Echo"
  | 1 => .object "JarNotes$Cellar"
  | 2 => .int
  | 3 => .int
  | 4 => .long
  | 5 => .long
  | _ => .int
theorem nmX4 : ∀ a, a < 7 → ∀ b, b < 7 → a ≠ b → (TX4 a).2.1 ≠ (TX4 b).2.1 := by decide +kernel
theorem tyX4_ok : ∀ k, k < 7 → parseFieldDescriptor (TX4 k).2.2.1 = some (tyX4 k) := by decide +kernel
abbrev cX4_init : ByteArray := prog_6_method_1_code
def yX4_init : MethodName := ⟨RX4, "<init>", "()V"⟩
abbrev cX4_brokenBy : ByteArray := prog_6_method_2_code
def yX4_brokenBy : MethodName := ⟨RX4, "brokenBy", "(LJarNotes$Cellar;II)I"⟩
abbrev cX4_findWorst : ByteArray := prog_6_method_3_code
def yX4_findWorst : MethodName := ⟨RX4, "findWorst", "(LJarNotes$Cellar;)V"⟩
abbrev cX4_mostBroken : ByteArray := prog_6_method_4_code
def yX4_mostBroken : MethodName := ⟨RX4, "mostBroken", "(II)I"⟩
abbrev cX4_findGuard : ByteArray := prog_6_method_5_code
def yX4_findGuard : MethodName := ⟨RX4, "findGuard", "(LJarNotes$Cellar;III)V"⟩
abbrev cX4_findChange : ByteArray := prog_6_method_6_code
def yX4_findChange : MethodName := ⟨RX4, "findChange", "(LJarNotes$Cellar;)V"⟩
abbrev cX4_findTuned : ByteArray := prog_6_method_7_code
def yX4_findTuned : MethodName := ⟨RX4, "findTuned", "(LJarNotes$Cellar;I)V"⟩
abbrev cX4_findSpared : ByteArray := prog_6_method_8_code
def yX4_findSpared : MethodName := ⟨RX4, "findSpared", "(LJarNotes$Cellar;)V"⟩
abbrev cX4_keepFewest : ByteArray := prog_6_method_9_code
def yX4_keepFewest : MethodName := ⟨RX4, "keepFewest", "(II)V"⟩
abbrev cX4_findAlike : ByteArray := prog_6_method_10_code
def yX4_findAlike : MethodName := ⟨RX4, "findAlike", "(LJarNotes$Cellar;)V"⟩
abbrev cX4_findSong : ByteArray := prog_6_method_11_code
def yX4_findSong : MethodName := ⟨RX4, "findSong", "(LJarNotes$Cellar;[III)V"⟩
abbrev cX4_leastOf : ByteArray := prog_6_method_12_code
def yX4_leastOf : MethodName := ⟨RX4, "leastOf", "(LJarNotes$Cellar;II)I"⟩
abbrev cX4_fittingKinds : ByteArray := prog_6_method_13_code
def yX4_fittingKinds : MethodName := ⟨RX4, "fittingKinds", "(LJarNotes$Cellar;II[III)I"⟩
abbrev cX4_fittingNotes : ByteArray := prog_6_method_14_code
def yX4_fittingNotes : MethodName := ⟨RX4, "fittingNotes", "(LJarNotes$Cellar;II[III)I"⟩
abbrev cX4_fittingReaches : ByteArray := prog_6_method_15_code
def yX4_fittingReaches : MethodName := ⟨RX4, "fittingReaches", "(LJarNotes$Cellar;I[III)I"⟩
abbrev cX4_guessFits : ByteArray := prog_6_method_16_code
def yX4_guessFits : MethodName := ⟨RX4, "guessFits", "(I[III)Z"⟩
abbrev cX4_findMould : ByteArray := prog_6_method_17_code
def yX4_findMould : MethodName := ⟨RX4, "findMould", "(LJarNotes$Cellar;IIII)V"⟩
abbrev cX4_power : ByteArray := prog_6_method_18_code
def yX4_power : MethodName := ⟨RX4, "power", "(JI)J"⟩
abbrev cX4_sharedDivisor : ByteArray := prog_6_method_19_code
def yX4_sharedDivisor : MethodName := ⟨RX4, "sharedDivisor", "(JJ)J"⟩
abbrev cX4_findVintage : ByteArray := prog_6_method_20_code
def yX4_findVintage : MethodName := ⟨RX4, "findVintage", "(LJarNotes$Cellar;II)V"⟩
def RX5 : String := "JarNotes$Rows"
def TX5 : u_T := fun k => match k with
  | 0 => ("JarNotes$Rows", "there", "[Z", true)
  | 1 => ("JarNotes$Rows", "lanes", "[I", true)
  | 2 => ("JarNotes$Rows", "sizes", "[I", true)
  | _ => ("JarNotes$Rows", "items", "[[I", true)
def tyX5 : Nat → FieldType := fun k => match k with
  | 0 => .array .boolean
  | 1 => .array .int
  | 2 => .array .int
  | _ => .array (.array .int)
theorem nmX5 : ∀ a, a < 4 → ∀ b, b < 4 → a ≠ b → (TX5 a).2.1 ≠ (TX5 b).2.1 := by decide +kernel
theorem tyX5_ok : ∀ k, k < 4 → parseFieldDescriptor (TX5 k).2.2.1 = some (tyX5 k) := by decide +kernel
abbrev cX5_init : ByteArray := prog_7_method_1_code
def yX5_init : MethodName := ⟨RX5, "<init>", "()V"⟩
abbrev cX5_lay : ByteArray := prog_7_method_2_code
def yX5_lay : MethodName := ⟨RX5, "lay", "(III)V"⟩
abbrev cX5_put : ByteArray := prog_7_method_3_code
def yX5_put : MethodName := ⟨RX5, "put", "(III)I"⟩
abbrev cX5_narrowed : ByteArray := prog_7_method_4_code
def yX5_narrowed : MethodName := ⟨RX5, "narrowed", "(II)I"⟩
abbrev cX5_holds : ByteArray := prog_7_method_5_code
def yX5_holds : MethodName := ⟨RX5, "holds", "(III)Z"⟩
abbrev cX5_lacking : ByteArray := prog_7_method_6_code
def yX5_lacking : MethodName := ⟨RX5, "lacking", "(III)I"⟩
abbrev cX5_tellsNotes : ByteArray := prog_7_method_7_code
def yX5_tellsNotes : MethodName := ⟨RX5, "tellsNotes", "(III)Z"⟩
abbrev cX5_howMany : ByteArray := prog_7_method_8_code
def yX5_howMany : MethodName := ⟨RX5, "howMany", "()I"⟩
def RX6 : String := "JarNotes$Tape"
def TX6 : u_T := fun k => match k with
  | 0 => ("JarNotes$Tape", "bytes", "[I", true)
  | 1 => ("JarNotes$Tape", "size", "I", false)
  | 2 => ("JarNotes$Tape", "at", "I", false)
  | 3 => ("JarNotes$Tape", "fault", "I", false)
  | _ => ("JarNotes$Tape", "value", "I", false)
def tyX6 : Nat → FieldType := fun k => match k with
  | 0 => .array .int
  | 1 => .int
  | 2 => .int
  | 3 => .int
  | _ => .int
theorem nmX6 : ∀ a, a < 5 → ∀ b, b < 5 → a ≠ b → (TX6 a).2.1 ≠ (TX6 b).2.1 := by decide +kernel
theorem tyX6_ok : ∀ k, k < 5 → parseFieldDescriptor (TX6 k).2.2.1 = some (tyX6 k) := by decide +kernel
abbrev cX6_init : ByteArray := prog_8_method_1_code
def yX6_init : MethodName := ⟨RX6, "<init>", "()V"⟩
abbrev cX6_takes : ByteArray := prog_8_method_2_code
def yX6_takes : MethodName := ⟨RX6, "takes", "(I)Z"⟩
abbrev cX6_tells : ByteArray := prog_8_method_3_code
def yX6_tells : MethodName := ⟨RX6, "tells", "(LJarNotes$Cellar;)Z"⟩
abbrev cX6_tellsJar : ByteArray := prog_8_method_4_code
def yX6_tellsJar : MethodName := ⟨RX6, "tellsJar", "(LJarNotes$Cellar;)Z"⟩
abbrev cX6_kindOf : ByteArray := prog_8_method_5_code
def yX6_kindOf : MethodName := ⟨RX6, "kindOf", "(I)I"⟩
abbrev cX6_passes : ByteArray := prog_8_method_6_code
def yX6_passes : MethodName := ⟨RX6, "passes", "(I)Z"⟩
abbrev cX6_numbers : ByteArray := prog_8_method_7_code
def yX6_numbers : MethodName := ⟨RX6, "numbers", "(II)Z"⟩
abbrev cX6_figures : ByteArray := prog_8_method_8_code
def yX6_figures : MethodName := ⟨RX6, "figures", "()I"⟩
abbrev cX6_fails : ByteArray := prog_8_method_9_code
def yX6_fails : MethodName := ⟨RX6, "fails", "(I)Z"⟩
def RX7 : String := "JarNotes"
def TX7 : u_T := fun k => match k with
  | 0 => ("JarNotes", "rows", "LJarNotes$Rows;", true)
  | 1 => ("JarNotes", "tape", "LJarNotes$Tape;", true)
  | 2 => ("JarNotes", "cellar", "LJarNotes$Cellar;", true)
  | 3 => ("JarNotes", "draft", "LJarNotes$Cellar;", true)
  | 4 => ("JarNotes", "acts", "LJarNotes$Acts;", true)
  | 5 => ("JarNotes", "foretold", "LJarNotes$Foretold;", true)
  | 6 => ("JarNotes", "asks", "LJarNotes$Asks;", true)
  | 7 => ("JarNotes", "images", "[LJarNotes$Cellar;", true)
  | 8 => ("JarNotes", "latestFault", "I", false)
  | _ => ("JarNotes", "finding", "I", false)
def tyX7 : Nat → FieldType := fun k => match k with
  | 0 => .object "JarNotes$Rows"
  | 1 => .object "JarNotes$Tape"
  | 2 => .object "JarNotes$Cellar"
  | 3 => .object "JarNotes$Cellar"
  | 4 => .object "JarNotes$Acts"
  | 5 => .object "JarNotes$Foretold"
  | 6 => .object "JarNotes$Asks"
  | 7 => .array (.object "JarNotes$Cellar")
  | 8 => .int
  | _ => .int
theorem nmX7 : ∀ a, a < 10 → ∀ b, b < 10 → a ≠ b → (TX7 a).2.1 ≠ (TX7 b).2.1 := by decide +kernel
theorem tyX7_ok : ∀ k, k < 10 → parseFieldDescriptor (TX7 k).2.2.1 = some (tyX7 k) := by decide +kernel
abbrev cX7_init : ByteArray := prog_1_method_1_code
def yX7_init : MethodName := ⟨RX7, "<init>", "()V"⟩
abbrev cX7_row : ByteArray := prog_1_method_2_code
def yX7_row : MethodName := ⟨RX7, "row", "(III)I"⟩
abbrev cX7_set : ByteArray := prog_1_method_3_code
def yX7_set : MethodName := ⟨RX7, "set", "(III)I"⟩
abbrev cX7_copy : ByteArray := prog_1_method_4_code
def yX7_copy : MethodName := ⟨RX7, "copy", "(IIIII)I"⟩
abbrev cX7_drop : ByteArray := prog_1_method_5_code
def yX7_drop : MethodName := ⟨RX7, "drop", "(I)I"⟩
abbrev cX7_feed : ByteArray := prog_1_method_6_code
def yX7_feed : MethodName := ⟨RX7, "feed", "(I)I"⟩
abbrev cX7_cellar : ByteArray := prog_1_method_7_code
def yX7_cellar : MethodName := ⟨RX7, "cellar", "()I"⟩
abbrev cX7_fault : ByteArray := prog_1_method_8_code
def yX7_fault : MethodName := ⟨RX7, "fault", "()I"⟩
abbrev cX7_undo : ByteArray := prog_1_method_9_code
def yX7_undo : MethodName := ⟨RX7, "undo", "()I"⟩
abbrev cX7_years : ByteArray := prog_1_method_10_code
def yX7_years : MethodName := ⟨RX7, "years", "(I)I"⟩
abbrev cX7_sneeze : ByteArray := prog_1_method_11_code
def yX7_sneeze : MethodName := ⟨RX7, "sneeze", "(II)I"⟩
abbrev cX7_open : ByteArray := prog_1_method_12_code
def yX7_open : MethodName := ⟨RX7, "open", "(I)I"⟩
abbrev cX7_change : ByteArray := prog_1_method_13_code
def yX7_change : MethodName := ⟨RX7, "change", "(II)I"⟩
abbrev cX7_seal : ByteArray := prog_1_method_14_code
def yX7_seal : MethodName := ⟨RX7, "seal", "(III)I"⟩
abbrev cX7_reach : ByteArray := prog_1_method_15_code
def yX7_reach : MethodName := ⟨RX7, "reach", "(I)I"⟩
abbrev cX7_jar : ByteArray := prog_1_method_16_code
def yX7_jar : MethodName := ⟨RX7, "jar", "(II)I"⟩
abbrev cX7_stand : ByteArray := prog_1_method_17_code
def yX7_stand : MethodName := ⟨RX7, "stand", "(I)I"⟩
abbrev cX7_chain : ByteArray := prog_1_method_18_code
def yX7_chain : MethodName := ⟨RX7, "chain", "(III)I"⟩
abbrev cX7_worst : ByteArray := prog_1_method_19_code
def yX7_worst : MethodName := ⟨RX7, "worst", "(I)I"⟩
abbrev cX7_when : ByteArray := prog_1_method_20_code
def yX7_when : MethodName := ⟨RX7, "when", "(I)I"⟩
abbrev cX7_kept : ByteArray := prog_1_method_21_code
def yX7_kept : MethodName := ⟨RX7, "kept", "(I)I"⟩
abbrev cX7_guard : ByteArray := prog_1_method_22_code
def yX7_guard : MethodName := ⟨RX7, "guard", "(IIII)I"⟩
abbrev cX7_changes : ByteArray := prog_1_method_23_code
def yX7_changes : MethodName := ⟨RX7, "changes", "(I)I"⟩
abbrev cX7_tuned : ByteArray := prog_1_method_24_code
def yX7_tuned : MethodName := ⟨RX7, "tuned", "(II)I"⟩
abbrev cX7_spared : ByteArray := prog_1_method_25_code
def yX7_spared : MethodName := ⟨RX7, "spared", "(I)I"⟩
abbrev cX7_alike : ByteArray := prog_1_method_26_code
def yX7_alike : MethodName := ⟨RX7, "alike", "(I)I"⟩
abbrev cX7_song : ByteArray := prog_1_method_27_code
def yX7_song : MethodName := ⟨RX7, "song", "(IIII)I"⟩
abbrev cX7_who : ByteArray := prog_1_method_28_code
def yX7_who : MethodName := ⟨RX7, "who", "(IIIIII)I"⟩
abbrev cX7_reaches : ByteArray := prog_1_method_29_code
def yX7_reaches : MethodName := ⟨RX7, "reaches", "(IIII)I"⟩
abbrev cX7_mould : ByteArray := prog_1_method_30_code
def yX7_mould : MethodName := ⟨RX7, "mould", "(IIIII)J"⟩
abbrev cX7_drawn : ByteArray := prog_1_method_31_code
def yX7_drawn : MethodName := ⟨RX7, "drawn", "(III)I"⟩
abbrev cX7_image : ByteArray := prog_1_method_32_code
def yX7_image : MethodName := ⟨RX7, "image", "(I)I"⟩
abbrev cX7_restore : ByteArray := prog_1_method_33_code
def yX7_restore : MethodName := ⟨RX7, "restore", "(I)I"⟩
abbrev cX7_kind : ByteArray := prog_1_method_34_code
def yX7_kind : MethodName := ⟨RX7, "kind", "(I)I"⟩
abbrev cX7_as : ByteArray := prog_1_method_35_code
def yX7_as : MethodName := ⟨RX7, "as", "(II)I"⟩
abbrev cX7_ask : ByteArray := prog_1_method_36_code
def yX7_ask : MethodName := ⟨RX7, "ask", "(II)I"⟩
abbrev cX7_trace : ByteArray := prog_1_method_37_code
def yX7_trace : MethodName := ⟨RX7, "trace", "(I)I"⟩
abbrev cX7_count : ByteArray := prog_1_method_38_code
def yX7_count : MethodName := ⟨RX7, "count", "(I)I"⟩
abbrev cX7_status : ByteArray := prog_1_method_39_code
def yX7_status : MethodName := ⟨RX7, "status", "()I"⟩
abbrev cX7_found : ByteArray := prog_1_method_40_code
def yX7_found : MethodName := ⟨RX7, "found", "(I)I"⟩
abbrev cX7_fine : ByteArray := prog_1_method_41_code
def yX7_fine : MethodName := ⟨RX7, "fine", "(I)I"⟩
abbrev cX7_noCellar : ByteArray := prog_1_method_42_code
def yX7_noCellar : MethodName := ⟨RX7, "noCellar", "()Z"⟩
abbrev cX7_isJar : ByteArray := prog_1_method_43_code
def yX7_isJar : MethodName := ⟨RX7, "isJar", "(I)Z"⟩
abbrev cX7_isPlace : ByteArray := prog_1_method_44_code
def yX7_isPlace : MethodName := ⟨RX7, "isPlace", "(I)Z"⟩
abbrev cX7_isSneeze : ByteArray := prog_1_method_45_code
def yX7_isSneeze : MethodName := ⟨RX7, "isSneeze", "(II)Z"⟩
abbrev cX7_isNote : ByteArray := prog_1_method_46_code
def yX7_isNote : MethodName := ⟨RX7, "isNote", "(I)Z"⟩
abbrev cX7_isRow : ByteArray := prog_1_method_47_code
def yX7_isRow : MethodName := ⟨RX7, "isRow", "(I)Z"⟩
abbrev cX7_isHalf : ByteArray := prog_1_method_48_code
def yX7_isHalf : MethodName := ⟨RX7, "isHalf", "(I)Z"⟩
abbrev cX7_within : ByteArray := prog_1_method_49_code
def yX7_within : MethodName := ⟨RX7, "within", "(III)Z"⟩
abbrev cX7_has : ByteArray := prog_1_method_50_code
def yX7_has : MethodName := ⟨RX7, "has", "(II)Z"⟩
abbrev cX7_isA : ByteArray := prog_1_method_51_code
def yX7_isA : MethodName := ⟨RX7, "isA", "(II)Z"⟩
def RX8 : String := "JarNotesModel"
def TX8 : u_T := fun k => match k with
  | 0 => ("JarNotesModel", "thrown", "I", false)
  | 1 => ("JarNotesModel", "status", "I", false)
  | 2 => ("JarNotesModel", "lane", "[I", true)
  | 3 => ("JarNotesModel", "many", "[I", true)
  | 4 => ("JarNotesModel", "item", "[I", true)
  | 5 => ("JarNotesModel", "cellar", "[I", true)
  | 6 => ("JarNotesModel", "fresh", "[I", true)
  | 7 => ("JarNotesModel", "then", "[I", true)
  | 8 => ("JarNotesModel", "was", "[I", true)
  | 9 => ("JarNotesModel", "acts", "I", false)
  | 10 => ("JarNotesModel", "tape", "[I", true)
  | 11 => ("JarNotesModel", "taped", "I", false)
  | 12 => ("JarNotesModel", "cursor", "I", false)
  | 13 => ("JarNotesModel", "start", "I", false)
  | 14 => ("JarNotesModel", "token", "I", false)
  | 15 => ("JarNotesModel", "value", "I", false)
  | 16 => ("JarNotesModel", "fault", "I", false)
  | 17 => ("JarNotesModel", "faultAt", "I", false)
  | 18 => ("JarNotesModel", "latest", "I", false)
  | 19 => ("JarNotesModel", "sounds", "[I", true)
  | 20 => ("JarNotesModel", "next", "[I", true)
  | 21 => ("JarNotesModel", "rounds", "I", false)
  | 22 => ("JarNotesModel", "worstNote", "I", false)
  | 23 => ("JarNotesModel", "worstPlace", "I", false)
  | 24 => ("JarNotesModel", "isImage", "[Z", true)
  | 25 => ("JarNotesModel", "images", "[I", true)
  | 26 => ("JarNotesModel", "trace", "[I", true)
  | _ => ("JarNotesModel", "traced", "I", false)
def tyX8 : Nat → FieldType := fun k => match k with
  | 0 => .int
  | 1 => .int
  | 2 => .array .int
  | 3 => .array .int
  | 4 => .array .int
  | 5 => .array .int
  | 6 => .array .int
  | 7 => .array .int
  | 8 => .array .int
  | 9 => .int
  | 10 => .array .int
  | 11 => .int
  | 12 => .int
  | 13 => .int
  | 14 => .int
  | 15 => .int
  | 16 => .int
  | 17 => .int
  | 18 => .int
  | 19 => .array .int
  | 20 => .array .int
  | 21 => .int
  | 22 => .int
  | 23 => .int
  | 24 => .array .boolean
  | 25 => .array .int
  | 26 => .array .int
  | _ => .int
theorem nmX8 : ∀ a, a < 28 → ∀ b, b < 28 → a ≠ b → (TX8 a).2.1 ≠ (TX8 b).2.1 := by decide +kernel
theorem tyX8_ok : ∀ k, k < 28 → parseFieldDescriptor (TX8 k).2.2.1 = some (tyX8 k) := by decide +kernel
abbrev cX8_init : ByteArray := prog_10_method_1_code
def yX8_init : MethodName := ⟨RX8, "<init>", "()V"⟩
abbrev cX8_in : ByteArray := prog_10_method_3_code
def yX8_in : MethodName := ⟨RX8, "in", "(JJJ)Z"⟩
abbrev cX8_finding : ByteArray := prog_10_method_4_code
def yX8_finding : MethodName := ⟨RX8, "finding", "(I)I"⟩
abbrev cX8_isRow : ByteArray := prog_10_method_5_code
def yX8_isRow : MethodName := ⟨RX8, "isRow", "(I)Z"⟩
abbrev cX8_row : ByteArray := prog_10_method_6_code
def yX8_row : MethodName := ⟨RX8, "row", "(III)I"⟩
abbrev cX8_set : ByteArray := prog_10_method_7_code
def yX8_set : MethodName := ⟨RX8, "set", "(III)I"⟩
abbrev cX8_copy : ByteArray := prog_10_method_8_code
def yX8_copy : MethodName := ⟨RX8, "copy", "(IIIII)I"⟩
abbrev cX8_drop : ByteArray := prog_10_method_9_code
def yX8_drop : MethodName := ⟨RX8, "drop", "(I)I"⟩
abbrev cX8_feed : ByteArray := prog_10_method_10_code
def yX8_feed : MethodName := ⟨RX8, "feed", "(I)I"⟩
abbrev cX8_bad : ByteArray := prog_10_method_11_code
def yX8_bad : MethodName := ⟨RX8, "bad", "(I)V"⟩
abbrev cX8_nextToken : ByteArray := prog_10_method_12_code
def yX8_nextToken : MethodName := ⟨RX8, "nextToken", "()V"⟩
abbrev cX8_must : ByteArray := prog_10_method_13_code
def yX8_must : MethodName := ⟨RX8, "must", "(Z)V"⟩
abbrev cX8_isLetter : ByteArray := prog_10_method_14_code
def yX8_isLetter : MethodName := ⟨RX8, "isLetter", "(I)Z"⟩
abbrev cX8_number : ByteArray := prog_10_method_15_code
def yX8_number : MethodName := ⟨RX8, "number", "(II)I"⟩
abbrev cX8_mustSign : ByteArray := prog_10_method_16_code
def yX8_mustSign : MethodName := ⟨RX8, "mustSign", "(I)V"⟩
abbrev cX8_begin : ByteArray := prog_10_method_17_code
def yX8_begin : MethodName := ⟨RX8, "begin", "()V"⟩
abbrev cX8_failed : ByteArray := prog_10_method_18_code
def yX8_failed : MethodName := ⟨RX8, "failed", "()Z"⟩
abbrev cX8_fault : ByteArray := prog_10_method_19_code
def yX8_fault : MethodName := ⟨RX8, "fault", "()I"⟩
abbrev cX8_kindBy : ByteArray := prog_10_method_20_code
def yX8_kindBy : MethodName := ⟨RX8, "kindBy", "(I)I"⟩
abbrev cX8_isSort : ByteArray := prog_10_method_21_code
def yX8_isSort : MethodName := ⟨RX8, "isSort", "()Z"⟩
abbrev cX8_readJar : ByteArray := prog_10_method_22_code
def yX8_readJar : MethodName := ⟨RX8, "readJar", "()V"⟩
abbrev cX8_cellar : ByteArray := prog_10_method_23_code
def yX8_cellar : MethodName := ⟨RX8, "cellar", "()I"⟩
abbrev cX8_isThere : ByteArray := prog_10_method_24_code
def yX8_isThere : MethodName := ⟨RX8, "isThere", "()Z"⟩
abbrev cX8_isJar : ByteArray := prog_10_method_25_code
def yX8_isJar : MethodName := ⟨RX8, "isJar", "(I)Z"⟩
abbrev cX8_isNote : ByteArray := prog_10_method_26_code
def yX8_isNote : MethodName := ⟨RX8, "isNote", "(J)Z"⟩
abbrev cX8_bits : ByteArray := prog_10_method_27_code
def yX8_bits : MethodName := ⟨RX8, "bits", "(I)I"⟩
abbrev cX8_has : ByteArray := prog_10_method_28_code
def yX8_has : MethodName := ⟨RX8, "has", "(II)Z"⟩
abbrev cX8_of : ByteArray := prog_10_method_29_code
def yX8_of : MethodName := ⟨RX8, "of", "([III)I"⟩
abbrev cX8_be : ByteArray := prog_10_method_30_code
def yX8_be : MethodName := ⟨RX8, "be", "([IIII)V"⟩
abbrev cX8_those : ByteArray := prog_10_method_31_code
def yX8_those : MethodName := ⟨RX8, "those", "([II)I"⟩
abbrev cX8_apart : ByteArray := prog_10_method_32_code
def yX8_apart : MethodName := ⟨RX8, "apart", "(II)I"⟩
abbrev cX8_gap : ByteArray := prog_10_method_33_code
def yX8_gap : MethodName := ⟨RX8, "gap", "(II)I"⟩
abbrev cX8_setsOff : ByteArray := prog_10_method_34_code
def yX8_setsOff : MethodName := ⟨RX8, "setsOff", "([II)Z"⟩
abbrev cX8_chainOf : ByteArray := prog_10_method_35_code
def yX8_chainOf : MethodName := ⟨RX8, "chainOf", "([IIII)I"⟩
abbrev cX8_worstOf : ByteArray := prog_10_method_36_code
def yX8_worstOf : MethodName := ⟨RX8, "worstOf", "([I)I"⟩
abbrev cX8_sneezes : ByteArray := prog_10_method_37_code
def yX8_sneezes : MethodName := ⟨RX8, "sneezes", "([III)V"⟩
abbrev cX8_yearOf : ByteArray := prog_10_method_38_code
def yX8_yearOf : MethodName := ⟨RX8, "yearOf", "([I)V"⟩
abbrev cX8_changePlaces : ByteArray := prog_10_method_39_code
def yX8_changePlaces : MethodName := ⟨RX8, "changePlaces", "([III)V"⟩
abbrev cX8_layThen : ByteArray := prog_10_method_40_code
def yX8_layThen : MethodName := ⟨RX8, "layThen", "()V"⟩
abbrev cX8_keep : ByteArray := prog_10_method_41_code
def yX8_keep : MethodName := ⟨RX8, "keep", "()V"⟩
abbrev cX8_years : ByteArray := prog_10_method_42_code
def yX8_years : MethodName := ⟨RX8, "years", "(I)I"⟩
abbrev cX8_sneeze : ByteArray := prog_10_method_43_code
def yX8_sneeze : MethodName := ⟨RX8, "sneeze", "(II)I"⟩
abbrev cX8_open : ByteArray := prog_10_method_44_code
def yX8_open : MethodName := ⟨RX8, "open", "(I)I"⟩
abbrev cX8_change : ByteArray := prog_10_method_45_code
def yX8_change : MethodName := ⟨RX8, "change", "(II)I"⟩
abbrev cX8_seal : ByteArray := prog_10_method_46_code
def yX8_seal : MethodName := ⟨RX8, "seal", "(III)I"⟩
abbrev cX8_reach : ByteArray := prog_10_method_47_code
def yX8_reach : MethodName := ⟨RX8, "reach", "(I)I"⟩
abbrev cX8_undo : ByteArray := prog_10_method_48_code
def yX8_undo : MethodName := ⟨RX8, "undo", "()I"⟩
abbrev cX8_jar : ByteArray := prog_10_method_49_code
def yX8_jar : MethodName := ⟨RX8, "jar", "(II)I"⟩
abbrev cX8_stand : ByteArray := prog_10_method_50_code
def yX8_stand : MethodName := ⟨RX8, "stand", "(I)I"⟩
abbrev cX8_chain : ByteArray := prog_10_method_51_code
def yX8_chain : MethodName := ⟨RX8, "chain", "(III)I"⟩
abbrev cX8_worst : ByteArray := prog_10_method_52_code
def yX8_worst : MethodName := ⟨RX8, "worst", "(I)I"⟩
abbrev cX8_when : ByteArray := prog_10_method_53_code
def yX8_when : MethodName := ⟨RX8, "when", "(I)I"⟩
abbrev cX8_kept : ByteArray := prog_10_method_54_code
def yX8_kept : MethodName := ⟨RX8, "kept", "(I)I"⟩
abbrev cX8_guard : ByteArray := prog_10_method_55_code
def yX8_guard : MethodName := ⟨RX8, "guard", "(IIII)I"⟩
abbrev cX8_changes : ByteArray := prog_10_method_56_code
def yX8_changes : MethodName := ⟨RX8, "changes", "(I)I"⟩
abbrev cX8_tuned : ByteArray := prog_10_method_57_code
def yX8_tuned : MethodName := ⟨RX8, "tuned", "(II)I"⟩
abbrev cX8_spared : ByteArray := prog_10_method_58_code
def yX8_spared : MethodName := ⟨RX8, "spared", "(I)I"⟩
abbrev cX8_breaksBy : ByteArray := prog_10_method_59_code
def yX8_breaksBy : MethodName := ⟨RX8, "breaksBy", "(II)Z"⟩
abbrev cX8_alike : ByteArray := prog_10_method_60_code
def yX8_alike : MethodName := ⟨RX8, "alike", "(I)I"⟩
abbrev cX8_rowFound : ByteArray := prog_10_method_61_code
def yX8_rowFound : MethodName := ⟨RX8, "rowFound", "(III)I"⟩
abbrev cX8_isMany : ByteArray := prog_10_method_62_code
def yX8_isMany : MethodName := ⟨RX8, "isMany", "(II)Z"⟩
abbrev cX8_song : ByteArray := prog_10_method_63_code
def yX8_song : MethodName := ⟨RX8, "song", "(IIII)I"⟩
abbrev cX8_isSo : ByteArray := prog_10_method_64_code
def yX8_isSo : MethodName := ⟨RX8, "isSo", "(III)Z"⟩
abbrev cX8_who : ByteArray := prog_10_method_65_code
def yX8_who : MethodName := ⟨RX8, "who", "(IIIIII)I"⟩
abbrev cX8_reaches : ByteArray := prog_10_method_66_code
def yX8_reaches : MethodName := ⟨RX8, "reaches", "(IIII)I"⟩
abbrev cX8_mould : ByteArray := prog_10_method_67_code
def yX8_mould : MethodName := ⟨RX8, "mould", "(IIIII)J"⟩
abbrev cX8_drawn : ByteArray := prog_10_method_68_code
def yX8_drawn : MethodName := ⟨RX8, "drawn", "(III)I"⟩
abbrev cX8_image : ByteArray := prog_10_method_69_code
def yX8_image : MethodName := ⟨RX8, "image", "(I)I"⟩
abbrev cX8_restore : ByteArray := prog_10_method_70_code
def yX8_restore : MethodName := ⟨RX8, "restore", "(I)I"⟩
abbrev cX8_isOf : ByteArray := prog_10_method_71_code
def yX8_isOf : MethodName := ⟨RX8, "isOf", "(II)Z"⟩
abbrev cX8_kind : ByteArray := prog_10_method_72_code
def yX8_kind : MethodName := ⟨RX8, "kind", "(I)I"⟩
abbrev cX8_as : ByteArray := prog_10_method_73_code
def yX8_as : MethodName := ⟨RX8, "as", "(II)I"⟩
abbrev cX8_began : ByteArray := prog_10_method_74_code
def yX8_began : MethodName := ⟨RX8, "began", "(I)V"⟩
abbrev cX8_plainSize : ByteArray := prog_10_method_75_code
def yX8_plainSize : MethodName := ⟨RX8, "plainSize", "(I)I"⟩
abbrev cX8_stoneSize : ByteArray := prog_10_method_76_code
def yX8_stoneSize : MethodName := ⟨RX8, "stoneSize", "(I)I"⟩
abbrev cX8_markOf : ByteArray := prog_10_method_77_code
def yX8_markOf : MethodName := ⟨RX8, "markOf", "(I)I"⟩
abbrev cX8_sizeOf : ByteArray := prog_10_method_78_code
def yX8_sizeOf : MethodName := ⟨RX8, "sizeOf", "(I)I"⟩
abbrev cX8_ask : ByteArray := prog_10_method_79_code
def yX8_ask : MethodName := ⟨RX8, "ask", "(II)I"⟩
abbrev cX8_trace : ByteArray := prog_10_method_80_code
def yX8_trace : MethodName := ⟨RX8, "trace", "(I)I"⟩
abbrev cX8_count : ByteArray := prog_10_method_81_code
def yX8_count : MethodName := ⟨RX8, "count", "(I)I"⟩
abbrev cX8_status : ByteArray := prog_10_method_82_code
def yX8_status : MethodName := ⟨RX8, "status", "()I"⟩
def RJ6 : String := "java/lang/Integer"
def TJ6 : u_T := fun k => match k with
  | _ => ("", "", "", false)
def tyJ6 : Nat → FieldType := fun k => match k with
  | _ => .int
theorem nmJ6 : ∀ a, a < 0 → ∀ b, b < 0 → a ≠ b → (TJ6 a).2.1 ≠ (TJ6 b).2.1 := by decide +kernel
theorem tyJ6_ok : ∀ k, k < 0 → parseFieldDescriptor (TJ6 k).2.2.1 = some (tyJ6 k) := by decide +kernel
abbrev cJ6_bitCount_0f7a4 : ByteArray := prog_11_method_49_code
def yJ6_bitCount_0f7a4 : MethodName := ⟨RJ6, "bitCount", "(I)I"⟩
def RJ9 : String := "java/lang/Math"
def TJ9 : u_T := fun k => match k with
  | _ => ("", "", "", false)
def tyJ9 : Nat → FieldType := fun k => match k with
  | _ => .int
theorem nmJ9 : ∀ a, a < 0 → ∀ b, b < 0 → a ≠ b → (TJ9 a).2.1 ≠ (TJ9 b).2.1 := by decide +kernel
theorem tyJ9_ok : ∀ k, k < 0 → parseFieldDescriptor (TJ9 k).2.2.1 = some (tyJ9 k) := by decide +kernel
abbrev cJ9_abs_0f7a4 : ByteArray := prog_12_method_59_code
def yJ9_abs_0f7a4 : MethodName := ⟨RJ9, "abs", "(I)I"⟩
abbrev cJ9_min_7cf53 : ByteArray := prog_12_method_69_code
def yJ9_min_7cf53 : MethodName := ⟨RJ9, "min", "(II)I"⟩
def RJ10 : String := "java/lang/System"
def TJ10 : u_T := fun k => match k with
  | _ => ("", "", "", false)
def tyJ10 : Nat → FieldType := fun k => match k with
  | _ => .int
theorem nmJ10 : ∀ a, a < 0 → ∀ b, b < 0 → a ≠ b → (TJ10 a).2.1 ≠ (TJ10 b).2.1 := by decide +kernel
theorem tyJ10_ok : ∀ k, k < 0 → parseFieldDescriptor (TJ10 k).2.2.1 = some (tyJ10 k) := by decide +kernel
def RL : String := "JarNotesLaw"
abbrev cL_law : ByteArray := code
def yL_law : MethodName := ⟨RL, "law", "([I)Z"⟩
end
section

/-! THE LOGIC: a small machine over numbered cells, with its rows out of the kit's rows -/
abbrev MI : Type := MethodName × ByteArray × Nat × Option FieldType
abbrev SC : Type := (Nat × List Value) ⊕ (FieldType × vp_A)
abbrev SH : Type := (Nat → SC) × Nat
abbrev vwCl : List vw_C := [(RX0, TX0, 3), (RX1, TX1, 2), (RX2, TX2, 8), (RX3, TX3, 6), (RX4, TX4, 7), (RX5, TX5, 4), (RX6, TX6, 5), (RX7, TX7, 10), (RX8, TX8, 28)]
def TT : Nat → u_T := fun ci => match ci with
  | 0 => TX0 | 1 => TX1 | 2 => TX2 | 3 => TX3 | 4 => TX4 | 5 => TX5 | 6 => TX6 | 7 => TX7 | _ => TX8
def RR : Nat → String := fun ci => match ci with
  | 0 => RX0 | 1 => RX1 | 2 => RX2 | 3 => RX3 | 4 => RX4 | 5 => RX5 | 6 => RX6 | 7 => RX7 | _ => RX8
def NN : Nat → Nat := fun ci => match ci with
  | 0 => 3 | 1 => 2 | 2 => 8 | 3 => 6 | 4 => 7 | 5 => 4 | 6 => 5 | 7 => 10 | _ => 28
def tyT : Nat → Nat → FieldType := fun ci => match ci with
  | 0 => tyX0 | 1 => tyX1 | 2 => tyX2 | 3 => tyX3 | 4 => tyX4 | 5 => tyX5 | 6 => tyX6 | 7 => tyX7 | _ => tyX8
def lw_g : List Cond := lw_tbl.filter goodWord
def isNest : Cond → Bool
  | .methodLinkNest .. => true
  | .fieldLinkNest .. => true
  | _ => false
def nestW : List Cond := lw_tbl.filter isNest
theorem lw_g_good : ∀ w ∈ lw_g, goodWord w = true := fun w h => (List.mem_filter.mp h).2
theorem lw_g_in : ∀ w ∈ lw_g, w ∈ lw_tbl := fun w h => (List.mem_filter.mp h).1
theorem gd {w : Cond} (i : Nat) (h : tables_1[i]? = some w) (hg : goodWord w = true) : w ∈ lw_g := List.mem_filter.mpr ⟨List.mem_append_right _ (List.mem_of_getElem? h), hg⟩
theorem gdp {w : Cond} (i : Nat) (h : (k2_sels lw_privs)[i]? = some w) (hg : goodWord w = true) : w ∈ lw_g := List.mem_filter.mpr ⟨List.mem_append_left _ (List.mem_of_getElem? h), hg⟩
theorem gdn {w : Cond} (i : Nat) (h : tables_1[i]? = some w) (hg : isNest w = true) : w ∈ nestW := List.mem_filter.mpr ⟨List.mem_append_right _ (List.mem_of_getElem? h), hg⟩
def aoA (U : State) : Prop := (Cond.arrayOver (.array .int)).before #[] U = true
def Nws (U : State) : Prop := (∀ w ∈ nestW, va_Nw w U) ∧ va_AO RX2 U ∧ aoA U
theorem aoA.moved {u U : State} (hvm : u.vm.Alike U.vm) (h : aoA u) : aoA U := by
  have hv : ∀ V : State, aoA V ↔ ((V.vm.findClass (FieldType.array .int).toString).bind fun comp => (V.vm.classes.findIdx? fun (x : Class) => match x.kind with | .array component _ => component == comp | _ => false).bind fun c => (V.vm.classes[c]?).map fun (k : Class) => match k.kind with | .array _ ty => decide (ty = FieldType.array .int) && decide (V.vm.findClass ("[" ++ (FieldType.array .int).toString) = some c) | _ => false) = some true := by
    intro V
    unfold aoA Cond.before Cond.holds
    simp only [Cond.value, beq_iff_eq]
    exact Iff.rfl
  rw [hv] at h ⊢
  rw [hvm.findClass]
  cases hc : u.vm.findClass (FieldType.array .int).toString with
  | none => rw [hc] at h; cases h
  | some comp =>
    rw [hc] at h
    simp only [Option.bind_some] at h ⊢
    have hi : (U.vm.classes.findIdx? fun (x : Class) => match x.kind with | .array component _ => component == comp | _ => false) = (u.vm.classes.findIdx? fun (x : Class) => match x.kind with | .array component _ => component == comp | _ => false) := by
      have a1 := va_idx_bare U.vm comp
      have a2 := va_idx_bare u.vm comp
      first | rw [hvm.bare_eq] at a1 | rw [← hvm.bare_eq] at a1
      exact a1.symm.trans a2
    rw [hi]
    cases hx : (u.vm.classes.findIdx? fun (x : Class) => match x.kind with | .array component _ => component == comp | _ => false) with
    | none => rw [hx] at h; cases h
    | some c =>
      rw [hx] at h
      simp only [Option.bind_some] at h ⊢
      cases hk : u.vm.classes[c]? with
      | none => rw [hk] at h; cases h
      | some k =>
        obtain ⟨k', hk', he⟩ := hvm.2.2 _ _ hk
        rw [hk] at h
        rw [hk']
        simp only [Option.map_some] at h ⊢
        have hkk : k'.kind = k.kind := by rw [he]
        rw [hkk, hvm.findClass]
        exact h
theorem Nws.warm {s U : State} (hW : s.WarmedH U.vm) (h : Nws s) : Nws U := by
  refine ⟨fun w hw => ?_, h.2.1.moved hW.alike, h.2.2.moved hW.alike⟩
  have h1 := h.1 w hw
  have h2 := (List.mem_filter.mp hw).2
  cases w <;> first | (exact va_Nw.warmM hW h1) | (exact va_Nw.warmF hW h1) | (cases h2)
theorem nine {P : Nat → Prop} (h0 : P 0) (h1 : P 1) (h2 : P 2) (h3 : P 3) (h4 : P 4) (h5 : P 5) (h6 : P 6) (h7 : P 7) (h8 : P 8) : ∀ ci, ci < 9 → P ci := by
  intro ci h
  match ci, h with
  | 0, _ => exact h0
  | 1, _ => exact h1
  | 2, _ => exact h2
  | 3, _ => exact h3
  | 4, _ => exact h4
  | 5, _ => exact h5
  | 6, _ => exact h6
  | 7, _ => exact h7
  | 8, _ => exact h8
  | k + 9, h => omega
theorem vwCl_get : ∀ ci, ci < 9 → vwCl[ci]? = some (RR ci, TT ci, NN ci) := nine rfl rfl rfl rfl rfl rfl rfl rfl rfl
theorem tyT_ok : ∀ ci, ci < 9 → ∀ k, k < NN ci → parseFieldDescriptor (TT ci k).2.2.1 = some (tyT ci k) := nine tyX0_ok tyX1_ok tyX2_ok tyX3_ok tyX4_ok tyX5_ok tyX6_ok tyX7_ok tyX8_ok
theorem nm_ok : ∀ ci, ci < 9 → ∀ a, a < NN ci → ∀ b, b < NN ci → a ≠ b → (TT ci a).2.1 ≠ (TT ci b).2.1 := nine nmX0 nmX1 nmX2 nmX3 nmX4 nmX5 nmX6 nmX7 nmX8
theorem in_ok0 : ∀ w ∈ u_ws RX0 TX0 3, w ∈ lw_g := by decide +kernel
theorem in_ok1 : ∀ w ∈ u_ws RX1 TX1 2, w ∈ lw_g := by decide +kernel
theorem in_ok2 : ∀ w ∈ u_ws RX2 TX2 8, w ∈ lw_g := by decide +kernel
theorem in_ok3 : ∀ w ∈ u_ws RX3 TX3 6, w ∈ lw_g := by decide +kernel
theorem in_ok4 : ∀ w ∈ u_ws RX4 TX4 7, w ∈ lw_g := by decide +kernel
theorem in_ok5 : ∀ w ∈ u_ws RX5 TX5 4, w ∈ lw_g := by decide +kernel
theorem in_ok6 : ∀ w ∈ u_ws RX6 TX6 5, w ∈ lw_g := by decide +kernel
theorem in_ok7 : ∀ w ∈ u_ws RX7 TX7 10, w ∈ lw_g := by decide +kernel
theorem in_ok8 : ∀ w ∈ u_ws RX8 TX8 28, w ∈ lw_g := by decide +kernel
theorem in_ok : ∀ ci, ci < 9 → ∀ w ∈ u_ws (RR ci) (TT ci) (NN ci), w ∈ lw_g := nine in_ok0 in_ok1 in_ok2 in_ok3 in_ok4 in_ok5 in_ok6 in_ok7 in_ok8

def adr (base : Nat) (x : Nat → Nat) (i : Nat) : Nat := if i < 4 then x i else base + (i - 4)
theorem adr_ge {base : Nat} {x : Nat → Nat} {i : Nat} (h : 4 ≤ i) : adr base x i = base + (i - 4) := if_neg (Nat.not_lt.mpr h)
theorem adr_lt {base : Nat} {x : Nat → Nat} {i : Nat} (h : i < 4) : adr base x i = x i := if_pos h
def trV (a : Nat → Nat) : Value → Value
  | .ref i => .ref (a i)
  | v => v
theorem trV_cat (a : Nat → Nat) (v : Value) : (trV a v).category = v.category := by cases v <;> rfl
def trA (a : Nat → Nat) : vp_A → vp_A
  | (n, .inr (.inr (.inr (.inr f)))) => (n, .inr (.inr (.inr (.inr (fun j => (f j).map a)))))
  | b => b
def trC (a : Nat → Nat) (ca : ClassId) : SC → va_E
  | .inl o => .inr (o.1, o.2.map (trV a))
  | .inr b => .inl (ca, trA a b.2)
def wd (base : Nat) (x : Nat → Nat) (ca : Nat → ClassId) (h : SH) : va_W := (List.range h.2).map (fun i => (base + i, trC (adr base x) (ca i) (h.1 (i + 4))))
theorem wd_get (base : Nat) (x : Nat → Nat) (ca : Nat → ClassId) (h : SH) {i : Nat} (hi : i < h.2) : (wd base x ca h)[i]? = some (base + i, trC (adr base x) (ca i) (h.1 (i + 4))) := by
  unfold wd
  rw [List.getElem?_map, List.getElem?_range hi]
  rfl
theorem wd_at {base : Nat} {x : Nat → Nat} {ca : Nat → ClassId} {h : SH} {i : Nat} {c : SC} (h4 : 4 ≤ i) (hi : i < h.2 + 4) (hc : h.1 i = c) : (wd base x ca h)[i - 4]? = some (adr base x i, trC (adr base x) (ca (i - 4)) c) := by
  rw [wd_get base x ca h (by omega), show i - 4 + 4 = i by omega, hc, adr_ge h4]
theorem wd_some {base : Nat} {x : Nat → Nat} {ca : Nat → ClassId} {h : SH} {k : Nat} {q : Nat × va_E} (hq : (wd base x ca h)[k]? = some q) : k < h.2 ∧ q.1 = base + k := by
  have hl : k < h.2 := by
    have := (List.getElem?_eq_some_iff.mp hq).1
    simpa [wd] using this
  rw [wd_get base x ca h hl] at hq
  cases hq
  exact ⟨hl, rfl⟩
theorem wd_D (base : Nat) (x : Nat → Nat) (ca : Nat → ClassId) (h : SH) : va_D (fun q => base ≤ q) (wd base x ca h) := by
  refine ⟨fun i j p q hi hj e => ?_, fun k q hk => ?_⟩
  · have := (wd_some hi).2
    have := (wd_some hj).2
    omega
  · have := (wd_some hk).2
    show base ≤ q.1
    omega
def hset (h : SH) (i : Nat) (c : SC) : SH := (va_up h.1 i c, h.2)
def hnew (h : SH) (c : SC) : SH := (va_up h.1 (h.2 + 4) c, h.2 + 1)
theorem wd_set {base : Nat} {x : Nat → Nat} {ca : Nat → ClassId} {h : SH} {i : Nat} {c : SC} (h4 : 4 ≤ i) : wd base x ca (hset h i c) = (wd base x ca h).set (i - 4) (adr base x i, trC (adr base x) (ca (i - 4)) c) := by
  apply List.ext_getElem?
  intro k
  by_cases hk : k < h.2
  · rw [wd_get base x ca (hset h i c) hk, List.getElem?_set]
    by_cases e : i - 4 = k
    · subst e
      rw [if_pos rfl, if_pos (by simpa [wd] using hk)]
      show some (base + (i - 4), trC (adr base x) (ca (i - 4)) (va_up h.1 i c (i - 4 + 4))) = _
      rw [show i - 4 + 4 = i by omega, adr_ge h4]
      simp [va_up]
    · rw [if_neg e, wd_get base x ca h hk]
      show some (base + k, trC (adr base x) (ca k) (va_up h.1 i c (k + 4))) = _
      have : k + 4 ≠ i := by omega
      simp [va_up, this]
  · have l1 : (wd base x ca (hset h i c)).length = h.2 := by simp [wd, hset]
    have l2 : ((wd base x ca h).set (i - 4) (adr base x i, trC (adr base x) (ca (i - 4)) c)).length = h.2 := by simp [wd]
    rw [List.getElem?_eq_none (by omega), List.getElem?_eq_none (by omega)]
theorem wd_new {base : Nat} {x : Nat → Nat} {ca : Nat → ClassId} {h : SH} {c : SC} {cA : ClassId} : wd base x (va_up ca h.2 cA) (hnew h c) = wd base x ca h ++ [(base + h.2, trC (adr base x) cA c)] := by
  apply List.ext_getElem?
  intro k
  have hlen : (wd base x ca h).length = h.2 := by simp [wd]
  rcases Nat.lt_trichotomy k h.2 with hk | hk | hk
  · rw [List.getElem?_append_left (by omega), wd_get base x ca h hk, wd_get base x _ (hnew h c) (by show k < h.2 + 1; omega)]
    show some (base + k, trC (adr base x) (va_up ca h.2 cA k) (va_up h.1 (h.2 + 4) c (k + 4))) = _
    have e1 : k ≠ h.2 := by omega
    have e2 : k + 4 ≠ h.2 + 4 := by omega
    simp [va_up, e1]
  · subst hk
    rw [List.getElem?_append_right (by omega), hlen, Nat.sub_self, wd_get base x _ (hnew h c) (by show h.2 < h.2 + 1; omega)]
    show some (base + h.2, trC (adr base x) (va_up ca h.2 cA h.2) (va_up h.1 (h.2 + 4) c (h.2 + 4))) = _
    simp [va_up]
  · have l1 : (wd base x (va_up ca h.2 cA) (hnew h c)).length = h.2 + 1 := by simp [wd, hnew]
    rw [List.getElem?_eq_none (by omega), List.getElem?_eq_none (by simp [hlen]; omega)]
def Tys (tys : List (ClassId × FieldType)) (ca : Nat → ClassId) (h : SH) : Prop := ∀ i, i < h.2 → ∀ ty a, h.1 (i + 4) = .inr (ty, a) → ∃ t0 : Nat, tys[t0]? = some (ca i, ty)
def Xt (x : Nat → Nat) (base : Nat) (E : Nat → SC) (s : State) : Prop := (∀ i, i < 4 → ∃ (n : Nat) (f : Nat → Int32), E i = .inr (.int, n, .inl f) ∧ va_T .int (x i) n (fun j => .int (f j)) (fun q => base ≤ q) s s.heap) ∧
  va_Z RX7 "KIND_ABOVE" "[I" (.ref (x 1)) (fun q => base ≤ q) s s.heap ∧ va_Z RX1 "SIZE_BODIES" "[I" (.ref (x 2)) (fun q => base ≤ q) s s.heap ∧ va_Z RX1 "MARK_BODIES" "[I" (.ref (x 3)) (fun q => base ≤ q) s s.heap ∧ Nws s
def Dy (R : Room) (s : State) (D : va_G) (base : Nat) (x : Nat → Nat) (E : Nat → SC) (H : Heap) (locs : List Loc) (cells slots : Nat) (ca : Nat → ClassId) (tys : List (ClassId × FieldType)) (h : SH) : Prop :=
  va_K D vwCl tys s ∧ va_P D vwCl (wd base x ca h) H ∧ va_S (fun q => base ≤ q) s.heap H locs ∧ H.size = base + h.2 ∧ Tys tys ca h ∧ (∀ i, i < 4 → h.1 i = E i) ∧ cells ≤ R.cells ∧ slots ≤ R.slots
def RetAt (M : MI) (pc : Nat) (r : Option Value) : Prop :=
  (r = none ∧ M.2.2.2 = none ∧ decode M.2.1 pc = .ok (.return_, 1)) ∨ (∃ (v : Int32) (ty : FieldType), r = some (.int v) ∧ M.2.2.2 = some ty ∧ narrow ty (.int v) = .int v ∧ decode M.2.1 pc = .ok (.ireturn, 1)) ∨ (∃ v : Int64, r = some (.long v) ∧ M.2.2.2 = some .long ∧ decode M.2.1 pc = .ok (.lreturn, 1))
def Fx (M : MI) (d : Nat) (p : Program) (l : Launch) (e : Env) (R : Room) (s : State) (m : MethodId) (args : Array Value) (below : List Frame) (meth : Method) (c : Code) (Z : State → Prop) (D : va_G) (base : Nat) (x : Nat → Nat) (E : Nat → SC) (Q : Option Value → SH → Prop) : Prop :=
  p.tables.exec = Jvm.exec ∧ c.code = M.2.1 ∧ c.maxLocals = M.2.2.1 ∧ s.vm.findClass M.1.cls = some m.cls ∧ (∀ w ∈ lw_g, w.before args s = true) ∧ base ≤ s.heap.size ∧ (d + 1 ≤ R.frames ∧ 64 * (d + 1) ≤ R.locals) ∧ Xt x base E s ∧ meth.name = M.1.name ∧
  ∀ (pc : Nat) (r : Option Value) (h' : SH) (H' : Heap) (locs' : List Loc) (cells' slots' : Nat) (ca' : Nat → ClassId) (tys' : List (ClassId × FieldType)) (lsA' : Array Slot), RetAt M pc r → Dy R s D base x E H' locs' cells' slots' ca' tys' h' → Q r h' → W p l e R s m args below meth c H' locs' cells' slots' Z (F0 m pc lsA' (r.toList.map (trV (adr base x))))
abbrev trL (a : Nat → Nat) (q : Nat × Value) : Nat × Value := (q.1, trV a q.2)
def T (M : MI) (d kc ks pc : Nat) (ls : List (Nat × Value)) (st : List Value) (h : SH) (Q : Option Value → SH → Prop) : Prop :=
  ∀ (p : Program) (l : Launch) (e : Env) (R : Room) (s : State) (m : MethodId) (args : Array Value) (below : List Frame) (meth : Method) (c : Code) (Z : State → Prop) (D : va_G) (base : Nat) (x : Nat → Nat) (E : Nat → SC) (H : Heap) (locs : List Loc) (cells slots : Nat) (ca : Nat → ClassId) (tys : List (ClassId × FieldType)) (lsA : Array Slot),
    Fx M d p l e R s m args below meth c Z D base x E Q → Dy R s D base x E H locs (cells + kc) (slots + ks) ca tys h → lv_has lsA M.2.2.1 (ls.map (trL (adr base x))) →
    W p l e R s m args below meth c H locs cells slots Z (F0 m pc lsA (st.map (trV (adr base x))))
def lset (i : Nat) (v : Value) (ls : List (Nat × Value)) : List (Nat × Value) := (i, v) :: ls.filter (fun q => !(q.1 == i) && !(q.1 + 1 == i && q.2.category == 2))
def lsetL (i : Nat) (v : Value) (ls : List (Nat × Value)) : List (Nat × Value) := (i, v) :: ls.filter (fun q => !(q.1 == i) && (!(q.1 == i + 1) && !(q.1 + 1 == i && q.2.category == 2)))
theorem lset_tr (a : Nat → Nat) (i : Nat) (v : Value) (ls : List (Nat × Value)) : (i, trV a v) :: (ls.map (trL a)).filter (fun q => !(q.1 == i) && !(q.1 + 1 == i && q.2.category == 2)) = (lset i v ls).map (trL a) := by
  unfold lset
  rw [List.map_cons, List.filter_map]
  congr 2
  apply List.filter_congr
  intro q _
  simp [trV_cat]
theorem lsetL_tr (a : Nat → Nat) (i : Nat) (v : Value) (ls : List (Nat × Value)) : (i, trV a v) :: (ls.map (trL a)).filter (fun q => !(q.1 == i) && (!(q.1 == i + 1) && !(q.1 + 1 == i && q.2.category == 2))) = (lsetL i v ls).map (trL a) := by
  unfold lsetL
  rw [List.map_cons, List.filter_map]
  congr 2
  apply List.filter_congr
  intro q _
  simp [trV_cat]
theorem lk_mem {ls : List (Nat × Value)} {i : Nat} {v : Value} (h : ls.lookup i = some v) : (i, v) ∈ ls := by
  induction ls with
  | nil => cases h
  | cons q t ih =>
    obtain ⟨k, w⟩ := q
    rw [List.lookup_cons] at h
    by_cases e : i == k
    · rw [e] at h
      cases h
      rw [eq_of_beq e]
      exact List.mem_cons_self
    · rw [show (i == k) = false by simpa using e] at h
      exact List.mem_cons_of_mem _ (ih h)
theorem lk_at {a : Nat → Nat} {lsA : Array Slot} {n : Nat} {ls : List (Nat × Value)} {i : Nat} {v : Value} (L : lv_has lsA n (ls.map (trL a))) (h : ls.lookup i = some v) : lsA[i]? = some (.val (trV a v)) :=
  L.2.2 (i, trV a v) (List.mem_map.mpr ⟨(i, v), lk_mem h, rfl⟩)
def hob (h : SH) (i ci : Nat) (fs : List Value) : Prop := 4 ≤ i ∧ i < h.2 + 4 ∧ h.1 i = .inl (ci, fs)
def har (h : SH) (i : Nat) (ty : FieldType) (a : vp_A) : Prop := 4 ≤ i ∧ i < h.2 + 4 ∧ h.1 i = .inr (ty, a)
def hxa (h : SH) (i n : Nat) (f : Nat → Int32) : Prop := i < 4 ∧ h.1 i = .inr (.int, n, .inl f)
def FL (own : String) (idx ci k : Nat) : Prop := Cond.fieldLink own idx (TT ci k).1 (TT ci k).2.1 (TT ci k).2.2.1 ∈ lw_g ∧ ci < 9 ∧ k < NN ci
end
section
section TRows
variable {M : MI} {d kc ks pc pc2 : Nat} {ls : List (Nat × Value)} {st : List Value} {h : SH} {Q : Option Value → SH → Prop}
theorem T_iconst {n : Int} {v : Int32} (hf : decode M.2.1 pc = .ok (.iconst n, 1)) (hv : Int32.ofInt n = v) (hp : pc + 1 = pc2) (k : T M d kc ks pc2 ls (.int v :: st) h Q) : T M d kc ks pc ls (st) h Q := by
  subst hp
  intro p l e R s m args below meth c Z D base x E H locs cells slots ca tys lsA F Y L
  exact lv_iconst F.1 F.2.1 hf hv (k p l e R s m args below meth c Z D base x E H locs cells slots ca tys lsA F Y L)
theorem T_bipush {n : Int} {v : Int32} (hf : decode M.2.1 pc = .ok (.bipush n, 2)) (hv : (Int8.ofInt n).toInt32 = v) (hp : pc + 2 = pc2) (k : T M d kc ks pc2 ls (.int v :: st) h Q) : T M d kc ks pc ls (st) h Q := by
  subst hp
  intro p l e R s m args below meth c Z D base x E H locs cells slots ca tys lsA F Y L
  exact lv_bipush F.1 F.2.1 hf hv (k p l e R s m args below meth c Z D base x E H locs cells slots ca tys lsA F Y L)
theorem T_sipush {n : Int} {v : Int32} (hf : decode M.2.1 pc = .ok (.sipush n, 3)) (hv : (Int16.ofInt n).toInt32 = v) (hp : pc + 3 = pc2) (k : T M d kc ks pc2 ls (.int v :: st) h Q) : T M d kc ks pc ls (st) h Q := by
  subst hp
  intro p l e R s m args below meth c Z D base x E H locs cells slots ca tys lsA F Y L
  exact lv_sipush F.1 F.2.1 hf hv (k p l e R s m args below meth c Z D base x E H locs cells slots ca tys lsA F Y L)
theorem T_lconst {n : Fin 2} {v : Int64} (hf : decode M.2.1 pc = .ok (.lconst n, 1)) (hv : Int64.ofNat (n : Nat) = v) (hp : pc + 1 = pc2) (k : T M d kc ks pc2 ls (.long v :: st) h Q) : T M d kc ks pc ls (st) h Q := by
  subst hp
  intro p l e R s m args below meth c Z D base x E H locs cells slots ca tys lsA F Y L
  exact lv_lconst F.1 F.2.1 hf hv (k p l e R s m args below meth c Z D base x E H locs cells slots ca tys lsA F Y L)
theorem T_iadd {a b : Int32} (hf : decode M.2.1 pc = .ok (.iadd, 1)) (hp : pc + 1 = pc2) (k : T M d kc ks pc2 ls (.int (a + b) :: st) h Q) : T M d kc ks pc ls (.int b :: .int a :: st) h Q := by
  subst hp
  intro p l e R s m args below meth c Z D base x E H locs cells slots ca tys lsA F Y L
  exact lv_iadd F.1 F.2.1 hf (k p l e R s m args below meth c Z D base x E H locs cells slots ca tys lsA F Y L)
theorem T_isub {a b : Int32} (hf : decode M.2.1 pc = .ok (.isub, 1)) (hp : pc + 1 = pc2) (k : T M d kc ks pc2 ls (.int (a - b) :: st) h Q) : T M d kc ks pc ls (.int b :: .int a :: st) h Q := by
  subst hp
  intro p l e R s m args below meth c Z D base x E H locs cells slots ca tys lsA F Y L
  exact lv_isub F.1 F.2.1 hf (k p l e R s m args below meth c Z D base x E H locs cells slots ca tys lsA F Y L)
theorem T_imul {a b : Int32} (hf : decode M.2.1 pc = .ok (.imul, 1)) (hp : pc + 1 = pc2) (k : T M d kc ks pc2 ls (.int (a * b) :: st) h Q) : T M d kc ks pc ls (.int b :: .int a :: st) h Q := by
  subst hp
  intro p l e R s m args below meth c Z D base x E H locs cells slots ca tys lsA F Y L
  exact lv_imul F.1 F.2.1 hf (k p l e R s m args below meth c Z D base x E H locs cells slots ca tys lsA F Y L)
theorem T_iand {a b : Int32} (hf : decode M.2.1 pc = .ok (.iand, 1)) (hp : pc + 1 = pc2) (k : T M d kc ks pc2 ls (.int (a &&& b) :: st) h Q) : T M d kc ks pc ls (.int b :: .int a :: st) h Q := by
  subst hp
  intro p l e R s m args below meth c Z D base x E H locs cells slots ca tys lsA F Y L
  exact lv_iand F.1 F.2.1 hf (k p l e R s m args below meth c Z D base x E H locs cells slots ca tys lsA F Y L)
theorem T_ior {a b : Int32} (hf : decode M.2.1 pc = .ok (.ior, 1)) (hp : pc + 1 = pc2) (k : T M d kc ks pc2 ls (.int (a ||| b) :: st) h Q) : T M d kc ks pc ls (.int b :: .int a :: st) h Q := by
  subst hp
  intro p l e R s m args below meth c Z D base x E H locs cells slots ca tys lsA F Y L
  exact lv_ior F.1 F.2.1 hf (k p l e R s m args below meth c Z D base x E H locs cells slots ca tys lsA F Y L)
theorem T_ixor {a b : Int32} (hf : decode M.2.1 pc = .ok (.ixor, 1)) (hp : pc + 1 = pc2) (k : T M d kc ks pc2 ls (.int (a ^^^ b) :: st) h Q) : T M d kc ks pc ls (.int b :: .int a :: st) h Q := by
  subst hp
  intro p l e R s m args below meth c Z D base x E H locs cells slots ca tys lsA F Y L
  exact lv_ixor F.1 F.2.1 hf (k p l e R s m args below meth c Z D base x E H locs cells slots ca tys lsA F Y L)
theorem T_ishl {a b : Int32} (hf : decode M.2.1 pc = .ok (.ishl, 1)) (hp : pc + 1 = pc2) (k : T M d kc ks pc2 ls (.int (a <<< (b &&& 31)) :: st) h Q) : T M d kc ks pc ls (.int b :: .int a :: st) h Q := by
  subst hp
  intro p l e R s m args below meth c Z D base x E H locs cells slots ca tys lsA F Y L
  exact lv_ishl F.1 F.2.1 hf (k p l e R s m args below meth c Z D base x E H locs cells slots ca tys lsA F Y L)
theorem T_ishr {a b : Int32} (hf : decode M.2.1 pc = .ok (.ishr, 1)) (hp : pc + 1 = pc2) (k : T M d kc ks pc2 ls (.int (a >>> (b &&& 31)) :: st) h Q) : T M d kc ks pc ls (.int b :: .int a :: st) h Q := by
  subst hp
  intro p l e R s m args below meth c Z D base x E H locs cells slots ca tys lsA F Y L
  exact lv_ishr F.1 F.2.1 hf (k p l e R s m args below meth c Z D base x E H locs cells slots ca tys lsA F Y L)
theorem T_iushr {a b : Int32} (hf : decode M.2.1 pc = .ok (.iushr, 1)) (hp : pc + 1 = pc2) (k : T M d kc ks pc2 ls (.int ((a.toUInt32 >>> (b.toUInt32 &&& Int32.toUInt32 31)).toInt32) :: st) h Q) : T M d kc ks pc ls (.int b :: .int a :: st) h Q := by
  subst hp
  intro p l e R s m args below meth c Z D base x E H locs cells slots ca tys lsA F Y L
  exact lv_iushr F.1 F.2.1 hf rfl (k p l e R s m args below meth c Z D base x E H locs cells slots ca tys lsA F Y L)
theorem T_ladd {a b : Int64} (hf : decode M.2.1 pc = .ok (.ladd, 1)) (hp : pc + 1 = pc2) (k : T M d kc ks pc2 ls (.long (a + b) :: st) h Q) : T M d kc ks pc ls (.long b :: .long a :: st) h Q := by
  subst hp
  intro p l e R s m args below meth c Z D base x E H locs cells slots ca tys lsA F Y L
  exact lv_ladd F.1 F.2.1 hf (k p l e R s m args below meth c Z D base x E H locs cells slots ca tys lsA F Y L)
theorem T_lsub {a b : Int64} (hf : decode M.2.1 pc = .ok (.lsub, 1)) (hp : pc + 1 = pc2) (k : T M d kc ks pc2 ls (.long (a - b) :: st) h Q) : T M d kc ks pc ls (.long b :: .long a :: st) h Q := by
  subst hp
  intro p l e R s m args below meth c Z D base x E H locs cells slots ca tys lsA F Y L
  exact lv_lsub F.1 F.2.1 hf (k p l e R s m args below meth c Z D base x E H locs cells slots ca tys lsA F Y L)
theorem T_lmul {a b : Int64} (hf : decode M.2.1 pc = .ok (.lmul, 1)) (hp : pc + 1 = pc2) (k : T M d kc ks pc2 ls (.long (a * b) :: st) h Q) : T M d kc ks pc ls (.long b :: .long a :: st) h Q := by
  subst hp
  intro p l e R s m args below meth c Z D base x E H locs cells slots ca tys lsA F Y L
  exact lv_lmul F.1 F.2.1 hf (k p l e R s m args below meth c Z D base x E H locs cells slots ca tys lsA F Y L)
theorem T_irem {a b : Int32} (hf : decode M.2.1 pc = .ok (.irem, 1)) (hne : ¬ b = 0) (hp : pc + 1 = pc2) (k : T M d kc ks pc2 ls (.int (a - a / b * b) :: st) h Q) : T M d kc ks pc ls (.int b :: .int a :: st) h Q := by
  subst hp
  intro p l e R s m args below meth c Z D base x E H locs cells slots ca tys lsA F Y L
  exact lv_irem F.1 F.2.1 hf hne (k p l e R s m args below meth c Z D base x E H locs cells slots ca tys lsA F Y L)
theorem T_ldiv {a b : Int64} (hf : decode M.2.1 pc = .ok (.ldiv, 1)) (hne : ¬ b = 0) (hp : pc + 1 = pc2) (k : T M d kc ks pc2 ls (.long (a / b) :: st) h Q) : T M d kc ks pc ls (.long b :: .long a :: st) h Q := by
  subst hp
  intro p l e R s m args below meth c Z D base x E H locs cells slots ca tys lsA F Y L
  exact lv_ldiv F.1 F.2.1 hf hne (k p l e R s m args below meth c Z D base x E H locs cells slots ca tys lsA F Y L)
theorem T_lrem {a b : Int64} (hf : decode M.2.1 pc = .ok (.lrem, 1)) (hne : ¬ b = 0) (hp : pc + 1 = pc2) (k : T M d kc ks pc2 ls (.long (a - a / b * b) :: st) h Q) : T M d kc ks pc ls (.long b :: .long a :: st) h Q := by
  subst hp
  intro p l e R s m args below meth c Z D base x E H locs cells slots ca tys lsA F Y L
  exact lv_lrem F.1 F.2.1 hf hne (k p l e R s m args below meth c Z D base x E H locs cells slots ca tys lsA F Y L)
theorem T_lcmp {a b : Int64} (hf : decode M.2.1 pc = .ok (.lcmp, 1)) (hp : pc + 1 = pc2) (k : T M d kc ks pc2 ls (.int (lg_cmp a b) :: st) h Q) : T M d kc ks pc ls (.long b :: .long a :: st) h Q := by
  subst hp
  intro p l e R s m args below meth c Z D base x E H locs cells slots ca tys lsA F Y L
  exact W.lcmp F.1 F.2.1 hf (k p l e R s m args below meth c Z D base x E H locs cells slots ca tys lsA F Y L)
theorem T_ineg {a : Int32} (hf : decode M.2.1 pc = .ok (.ineg, 1)) (hp : pc + 1 = pc2) (k : T M d kc ks pc2 ls (.int (-a) :: st) h Q) : T M d kc ks pc ls (.int a :: st) h Q := by
  subst hp
  intro p l e R s m args below meth c Z D base x E H locs cells slots ca tys lsA F Y L
  exact lv_ineg F.1 F.2.1 hf (k p l e R s m args below meth c Z D base x E H locs cells slots ca tys lsA F Y L)
theorem T_i2l {a : Int32} (hf : decode M.2.1 pc = .ok (.i2l, 1)) (hp : pc + 1 = pc2) (k : T M d kc ks pc2 ls (.long a.toInt64 :: st) h Q) : T M d kc ks pc ls (.int a :: st) h Q := by
  subst hp
  intro p l e R s m args below meth c Z D base x E H locs cells slots ca tys lsA F Y L
  exact lv_i2l F.1 F.2.1 hf rfl (k p l e R s m args below meth c Z D base x E H locs cells slots ca tys lsA F Y L)
theorem T_l2i {a : Int64} (hf : decode M.2.1 pc = .ok (.l2i, 1)) (hp : pc + 1 = pc2) (k : T M d kc ks pc2 ls (.int a.toInt32 :: st) h Q) : T M d kc ks pc ls (.long a :: st) h Q := by
  subst hp
  intro p l e R s m args below meth c Z D base x E H locs cells slots ca tys lsA F Y L
  exact lv_l2i F.1 F.2.1 hf rfl (k p l e R s m args below meth c Z D base x E H locs cells slots ca tys lsA F Y L)
theorem T_i2b {a : Int32} (hf : decode M.2.1 pc = .ok (.i2b, 1)) (hp : pc + 1 = pc2) (k : T M d kc ks pc2 ls (.int a.toInt8.toInt32 :: st) h Q) : T M d kc ks pc ls (.int a :: st) h Q := by
  subst hp
  intro p l e R s m args below meth c Z D base x E H locs cells slots ca tys lsA F Y L
  exact lv_i2b F.1 F.2.1 hf rfl (k p l e R s m args below meth c Z D base x E H locs cells slots ca tys lsA F Y L)
theorem T_i2s {a : Int32} (hf : decode M.2.1 pc = .ok (.i2s, 1)) (hp : pc + 1 = pc2) (k : T M d kc ks pc2 ls (.int a.toInt16.toInt32 :: st) h Q) : T M d kc ks pc ls (.int a :: st) h Q := by
  subst hp
  intro p l e R s m args below meth c Z D base x E H locs cells slots ca tys lsA F Y L
  exact lv_i2s F.1 F.2.1 hf rfl (k p l e R s m args below meth c Z D base x E H locs cells slots ca tys lsA F Y L)
theorem T_dup {v : Value} (hf : decode M.2.1 pc = .ok (.dup, 1)) (hv : v.category = 1) (hp : pc + 1 = pc2) (k : T M d kc ks pc2 ls (v :: v :: st) h Q) : T M d kc ks pc ls (v :: st) h Q := by
  subst hp
  intro p l e R s m args below meth c Z D base x E H locs cells slots ca tys lsA F Y L
  exact lv_dup F.1 F.2.1 hf (by rw [trV_cat]; exact hv) (k p l e R s m args below meth c Z D base x E H locs cells slots ca tys lsA F Y L)
theorem T_pop {v : Value} (hf : decode M.2.1 pc = .ok (.pop, 1)) (hv : v.category = 1) (hp : pc + 1 = pc2) (k : T M d kc ks pc2 ls (st) h Q) : T M d kc ks pc ls (v :: st) h Q := by
  subst hp
  intro p l e R s m args below meth c Z D base x E H locs cells slots ca tys lsA F Y L
  exact lv_pop F.1 F.2.1 hf (by rw [trV_cat]; exact hv) (k p l e R s m args below meth c Z D base x E H locs cells slots ca tys lsA F Y L)
theorem T_dup2 {v w : Value} (hf : decode M.2.1 pc = .ok (.dup2, 1)) (hv : v.category = 1) (hw : w.category = 1) (hp : pc + 1 = pc2) (k : T M d kc ks pc2 ls (v :: w :: v :: w :: st) h Q) : T M d kc ks pc ls (v :: w :: st) h Q := by
  subst hp
  intro p l e R s m args below meth c Z D base x E H locs cells slots ca tys lsA F Y L
  exact lv_dup2_11 F.1 F.2.1 hf (by rw [trV_cat]; exact hv) (by rw [trV_cat]; exact hw) (k p l e R s m args below meth c Z D base x E H locs cells slots ca tys lsA F Y L)
theorem T_iload_n {i : Fin 4} {v : Int32} (hf : decode M.2.1 pc = .ok (.iload_n i, 1)) (hl : ls.lookup (i : Nat) = some (.int v)) (hp : pc + 1 = pc2) (k : T M d kc ks pc2 ls (.int v :: st) h Q) : T M d kc ks pc ls st h Q := by
  subst hp
  intro p l e R s m args below meth c Z D base x E H locs cells slots ca tys lsA F Y L
  exact lv_iload_n F.1 F.2.1 hf rfl (lk_at L hl) (k p l e R s m args below meth c Z D base x E H locs cells slots ca tys lsA F Y L)
theorem T_iload {i : Nat} {v : Int32} (hf : decode M.2.1 pc = .ok (.iload i, 2)) (hl : ls.lookup i = some (.int v)) (hp : pc + 2 = pc2) (k : T M d kc ks pc2 ls (.int v :: st) h Q) : T M d kc ks pc ls st h Q := by
  subst hp
  intro p l e R s m args below meth c Z D base x E H locs cells slots ca tys lsA F Y L
  exact lv_iload F.1 F.2.1 hf (lk_at L hl) (k p l e R s m args below meth c Z D base x E H locs cells slots ca tys lsA F Y L)
theorem T_lload_n {i : Fin 4} {v : Int64} (hf : decode M.2.1 pc = .ok (.lload_n i, 1)) (hl : ls.lookup (i : Nat) = some (.long v)) (hp : pc + 1 = pc2) (k : T M d kc ks pc2 ls (.long v :: st) h Q) : T M d kc ks pc ls st h Q := by
  subst hp
  intro p l e R s m args below meth c Z D base x E H locs cells slots ca tys lsA F Y L
  exact lv_lload_n F.1 F.2.1 hf rfl (lk_at L hl) (k p l e R s m args below meth c Z D base x E H locs cells slots ca tys lsA F Y L)
theorem T_lload {i : Nat} {v : Int64} (hf : decode M.2.1 pc = .ok (.lload i, 2)) (hl : ls.lookup i = some (.long v)) (hp : pc + 2 = pc2) (k : T M d kc ks pc2 ls (.long v :: st) h Q) : T M d kc ks pc ls st h Q := by
  subst hp
  intro p l e R s m args below meth c Z D base x E H locs cells slots ca tys lsA F Y L
  exact lv_lload F.1 F.2.1 hf (lk_at L hl) (k p l e R s m args below meth c Z D base x E H locs cells slots ca tys lsA F Y L)
theorem T_aload_n {i : Fin 4} {v : Nat} (hf : decode M.2.1 pc = .ok (.aload_n i, 1)) (hl : ls.lookup (i : Nat) = some (.ref v)) (hp : pc + 1 = pc2) (k : T M d kc ks pc2 ls (.ref v :: st) h Q) : T M d kc ks pc ls st h Q := by
  subst hp
  intro p l e R s m args below meth c Z D base x E H locs cells slots ca tys lsA F Y L
  exact lv_aload_n F.1 F.2.1 hf rfl (lk_at L hl) (k p l e R s m args below meth c Z D base x E H locs cells slots ca tys lsA F Y L)
theorem T_aload {i : Nat} {v : Nat} (hf : decode M.2.1 pc = .ok (.aload i, 2)) (hl : ls.lookup i = some (.ref v)) (hp : pc + 2 = pc2) (k : T M d kc ks pc2 ls (.ref v :: st) h Q) : T M d kc ks pc ls st h Q := by
  subst hp
  intro p l e R s m args below meth c Z D base x E H locs cells slots ca tys lsA F Y L
  exact lv_aload F.1 F.2.1 hf (lk_at L hl) (k p l e R s m args below meth c Z D base x E H locs cells slots ca tys lsA F Y L)
theorem T_istore_n {i : Fin 4} {v : Int32} (hf : decode M.2.1 pc = .ok (.istore_n i, 1)) (hn : (i : Nat) < M.2.2.1) (hp : pc + 1 = pc2) (k : T M d kc ks pc2 (lset (i : Nat) (.int v) ls) st h Q) : T M d kc ks pc ls (.int v :: st) h Q := by
  subst hp
  intro p l e R s m args below meth c Z D base x E H locs cells slots ca tys lsA F Y L
  exact lv_istore_n F.1 F.2.1 hf rfl L hn (lset_tr (adr base x) (i : Nat) (.int v) ls) (fun lsB L2 => k p l e R s m args below meth c Z D base x E H locs cells slots ca tys lsB F Y L2)
theorem T_istore {i : Nat} {v : Int32} (hf : decode M.2.1 pc = .ok (.istore i, 2)) (hn : i < M.2.2.1) (hp : pc + 2 = pc2) (k : T M d kc ks pc2 (lset i (.int v) ls) st h Q) : T M d kc ks pc ls (.int v :: st) h Q := by
  subst hp
  intro p l e R s m args below meth c Z D base x E H locs cells slots ca tys lsA F Y L
  exact lv_istore F.1 F.2.1 hf L hn (lset_tr (adr base x) i (.int v) ls) (fun lsB L2 => k p l e R s m args below meth c Z D base x E H locs cells slots ca tys lsB F Y L2)
theorem T_lstore_n {i : Fin 4} {v : Int64} (hf : decode M.2.1 pc = .ok (.lstore_n i, 1)) (hn : (i : Nat) + 1 < M.2.2.1) (hp : pc + 1 = pc2) (k : T M d kc ks pc2 (lsetL (i : Nat) (.long v) ls) st h Q) : T M d kc ks pc ls (.long v :: st) h Q := by
  subst hp
  intro p l e R s m args below meth c Z D base x E H locs cells slots ca tys lsA F Y L
  exact lv_lstore_n F.1 F.2.1 hf rfl L hn (lsetL_tr (adr base x) (i : Nat) (.long v) ls) (fun lsB L2 => k p l e R s m args below meth c Z D base x E H locs cells slots ca tys lsB F Y L2)
theorem T_lstore {i : Nat} {v : Int64} (hf : decode M.2.1 pc = .ok (.lstore i, 2)) (hn : i + 1 < M.2.2.1) (hp : pc + 2 = pc2) (k : T M d kc ks pc2 (lsetL i (.long v) ls) st h Q) : T M d kc ks pc ls (.long v :: st) h Q := by
  subst hp
  intro p l e R s m args below meth c Z D base x E H locs cells slots ca tys lsA F Y L
  exact lv_lstore F.1 F.2.1 hf L hn (lsetL_tr (adr base x) i (.long v) ls) (fun lsB L2 => k p l e R s m args below meth c Z D base x E H locs cells slots ca tys lsB F Y L2)
theorem T_astore_n {i : Fin 4} {v : Nat} (hf : decode M.2.1 pc = .ok (.astore_n i, 1)) (hn : (i : Nat) < M.2.2.1) (hp : pc + 1 = pc2) (k : T M d kc ks pc2 (lset (i : Nat) (.ref v) ls) st h Q) : T M d kc ks pc ls (.ref v :: st) h Q := by
  subst hp
  intro p l e R s m args below meth c Z D base x E H locs cells slots ca tys lsA F Y L
  exact lv_astore_n F.1 F.2.1 hf rfl L hn (lset_tr (adr base x) (i : Nat) (.ref v) ls) (fun lsB L2 => k p l e R s m args below meth c Z D base x E H locs cells slots ca tys lsB F Y L2)
theorem T_astore {i : Nat} {v : Nat} (hf : decode M.2.1 pc = .ok (.astore i, 2)) (hn : i < M.2.2.1) (hp : pc + 2 = pc2) (k : T M d kc ks pc2 (lset i (.ref v) ls) st h Q) : T M d kc ks pc ls (.ref v :: st) h Q := by
  subst hp
  intro p l e R s m args below meth c Z D base x E H locs cells slots ca tys lsA F Y L
  exact lv_astore F.1 F.2.1 hf L hn (lset_tr (adr base x) i (.ref v) ls) (fun lsB L2 => k p l e R s m args below meth c Z D base x E H locs cells slots ca tys lsB F Y L2)
theorem T_iinc {i : Nat} {n : Int} {v w : Int32} (hf : decode M.2.1 pc = .ok (.iinc i n, 3)) (hl : ls.lookup i = some (.int v)) (hw : v + Int32.ofInt n = w) (hn : i < M.2.2.1) (hp : pc + 3 = pc2) (k : T M d kc ks pc2 (lset i (.int w) ls) st h Q) : T M d kc ks pc ls st h Q := by
  subst hp
  intro p l e R s m args below meth c Z D base x E H locs cells slots ca tys lsA F Y L
  obtain ⟨j, hj⟩ := List.getElem?_of_mem (List.mem_map.mpr ⟨(i, Value.int v), lk_mem hl, rfl⟩ : (i, Value.int v) ∈ ls.map (trL (adr base x)))
  exact lv_iinc F.1 F.2.1 hf L hj hw hn (lset_tr (adr base x) i (.int w) ls) (fun lsB L2 => k p l e R s m args below meth c Z D base x E H locs cells slots ca tys lsB F Y L2)
theorem T_ifeq {a : Int32} {off : Int} {tgt : Nat} (hf : decode M.2.1 pc = .ok (.ifCond .eq off, 3)) (ht : (pc : Int) + off = (tgt : Int)) (hp : pc + 3 = pc2) (kt : a = 0 → T M d kc ks tgt ls st h Q) (kf : ¬ a = 0 → T M d kc ks pc2 ls st h Q) : T M d kc ks pc ls (.int a :: st) h Q := by
  subst hp
  intro p l e R s m args below meth c Z D base x E H locs cells slots ca tys lsA F Y L
  exact lv_if_eq F.1 F.2.1 hf ht (fun z => kt z p l e R s m args below meth c Z D base x E H locs cells slots ca tys lsA F Y L) (fun z => kf z p l e R s m args below meth c Z D base x E H locs cells slots ca tys lsA F Y L)
theorem T_ifne {a : Int32} {off : Int} {tgt : Nat} (hf : decode M.2.1 pc = .ok (.ifCond .ne off, 3)) (ht : (pc : Int) + off = (tgt : Int)) (hp : pc + 3 = pc2) (kt : ¬ a = 0 → T M d kc ks tgt ls st h Q) (kf : a = 0 → T M d kc ks pc2 ls st h Q) : T M d kc ks pc ls (.int a :: st) h Q := by
  subst hp
  intro p l e R s m args below meth c Z D base x E H locs cells slots ca tys lsA F Y L
  exact lv_if_ne F.1 F.2.1 hf ht (fun z => kt z p l e R s m args below meth c Z D base x E H locs cells slots ca tys lsA F Y L) (fun z => kf z p l e R s m args below meth c Z D base x E H locs cells slots ca tys lsA F Y L)
theorem T_iflt {a : Int32} {off : Int} {tgt : Nat} (hf : decode M.2.1 pc = .ok (.ifCond .lt off, 3)) (ht : (pc : Int) + off = (tgt : Int)) (hp : pc + 3 = pc2) (kt : a < 0 → T M d kc ks tgt ls st h Q) (kf : ¬ a < 0 → T M d kc ks pc2 ls st h Q) : T M d kc ks pc ls (.int a :: st) h Q := by
  subst hp
  intro p l e R s m args below meth c Z D base x E H locs cells slots ca tys lsA F Y L
  exact lv_if_lt F.1 F.2.1 hf ht (fun z => kt z p l e R s m args below meth c Z D base x E H locs cells slots ca tys lsA F Y L) (fun z => kf z p l e R s m args below meth c Z D base x E H locs cells slots ca tys lsA F Y L)
theorem T_ifge {a : Int32} {off : Int} {tgt : Nat} (hf : decode M.2.1 pc = .ok (.ifCond .ge off, 3)) (ht : (pc : Int) + off = (tgt : Int)) (hp : pc + 3 = pc2) (kt : 0 ≤ a → T M d kc ks tgt ls st h Q) (kf : ¬ 0 ≤ a → T M d kc ks pc2 ls st h Q) : T M d kc ks pc ls (.int a :: st) h Q := by
  subst hp
  intro p l e R s m args below meth c Z D base x E H locs cells slots ca tys lsA F Y L
  exact lv_if_ge F.1 F.2.1 hf ht (fun z => kt z p l e R s m args below meth c Z D base x E H locs cells slots ca tys lsA F Y L) (fun z => kf z p l e R s m args below meth c Z D base x E H locs cells slots ca tys lsA F Y L)
theorem T_ifgt {a : Int32} {off : Int} {tgt : Nat} (hf : decode M.2.1 pc = .ok (.ifCond .gt off, 3)) (ht : (pc : Int) + off = (tgt : Int)) (hp : pc + 3 = pc2) (kt : 0 < a → T M d kc ks tgt ls st h Q) (kf : ¬ 0 < a → T M d kc ks pc2 ls st h Q) : T M d kc ks pc ls (.int a :: st) h Q := by
  subst hp
  intro p l e R s m args below meth c Z D base x E H locs cells slots ca tys lsA F Y L
  exact lv_if_gt F.1 F.2.1 hf ht (fun z => kt z p l e R s m args below meth c Z D base x E H locs cells slots ca tys lsA F Y L) (fun z => kf z p l e R s m args below meth c Z D base x E H locs cells slots ca tys lsA F Y L)
theorem T_ifle {a : Int32} {off : Int} {tgt : Nat} (hf : decode M.2.1 pc = .ok (.ifCond .le off, 3)) (ht : (pc : Int) + off = (tgt : Int)) (hp : pc + 3 = pc2) (kt : a ≤ 0 → T M d kc ks tgt ls st h Q) (kf : ¬ a ≤ 0 → T M d kc ks pc2 ls st h Q) : T M d kc ks pc ls (.int a :: st) h Q := by
  subst hp
  intro p l e R s m args below meth c Z D base x E H locs cells slots ca tys lsA F Y L
  exact lv_if_le F.1 F.2.1 hf ht (fun z => kt z p l e R s m args below meth c Z D base x E H locs cells slots ca tys lsA F Y L) (fun z => kf z p l e R s m args below meth c Z D base x E H locs cells slots ca tys lsA F Y L)
theorem T_icmpeq {a b : Int32} {off : Int} {tgt : Nat} (hf : decode M.2.1 pc = .ok (.if_icmp .eq off, 3)) (ht : (pc : Int) + off = (tgt : Int)) (hp : pc + 3 = pc2) (kt : a = b → T M d kc ks tgt ls st h Q) (kf : ¬ a = b → T M d kc ks pc2 ls st h Q) : T M d kc ks pc ls (.int b :: .int a :: st) h Q := by
  subst hp
  intro p l e R s m args below meth c Z D base x E H locs cells slots ca tys lsA F Y L
  exact lv_icmp_eq F.1 F.2.1 hf ht (fun z => kt z p l e R s m args below meth c Z D base x E H locs cells slots ca tys lsA F Y L) (fun z => kf z p l e R s m args below meth c Z D base x E H locs cells slots ca tys lsA F Y L)
theorem T_icmpne {a b : Int32} {off : Int} {tgt : Nat} (hf : decode M.2.1 pc = .ok (.if_icmp .ne off, 3)) (ht : (pc : Int) + off = (tgt : Int)) (hp : pc + 3 = pc2) (kt : ¬ a = b → T M d kc ks tgt ls st h Q) (kf : a = b → T M d kc ks pc2 ls st h Q) : T M d kc ks pc ls (.int b :: .int a :: st) h Q := by
  subst hp
  intro p l e R s m args below meth c Z D base x E H locs cells slots ca tys lsA F Y L
  exact lv_icmp_ne F.1 F.2.1 hf ht (fun z => kt z p l e R s m args below meth c Z D base x E H locs cells slots ca tys lsA F Y L) (fun z => kf z p l e R s m args below meth c Z D base x E H locs cells slots ca tys lsA F Y L)
theorem T_icmplt {a b : Int32} {off : Int} {tgt : Nat} (hf : decode M.2.1 pc = .ok (.if_icmp .lt off, 3)) (ht : (pc : Int) + off = (tgt : Int)) (hp : pc + 3 = pc2) (kt : a < b → T M d kc ks tgt ls st h Q) (kf : ¬ a < b → T M d kc ks pc2 ls st h Q) : T M d kc ks pc ls (.int b :: .int a :: st) h Q := by
  subst hp
  intro p l e R s m args below meth c Z D base x E H locs cells slots ca tys lsA F Y L
  exact lv_icmp_lt F.1 F.2.1 hf ht (fun z => kt z p l e R s m args below meth c Z D base x E H locs cells slots ca tys lsA F Y L) (fun z => kf z p l e R s m args below meth c Z D base x E H locs cells slots ca tys lsA F Y L)
theorem T_icmpge {a b : Int32} {off : Int} {tgt : Nat} (hf : decode M.2.1 pc = .ok (.if_icmp .ge off, 3)) (ht : (pc : Int) + off = (tgt : Int)) (hp : pc + 3 = pc2) (kt : b ≤ a → T M d kc ks tgt ls st h Q) (kf : ¬ b ≤ a → T M d kc ks pc2 ls st h Q) : T M d kc ks pc ls (.int b :: .int a :: st) h Q := by
  subst hp
  intro p l e R s m args below meth c Z D base x E H locs cells slots ca tys lsA F Y L
  exact lv_icmp_ge F.1 F.2.1 hf ht (fun z => kt z p l e R s m args below meth c Z D base x E H locs cells slots ca tys lsA F Y L) (fun z => kf z p l e R s m args below meth c Z D base x E H locs cells slots ca tys lsA F Y L)
theorem T_icmpgt {a b : Int32} {off : Int} {tgt : Nat} (hf : decode M.2.1 pc = .ok (.if_icmp .gt off, 3)) (ht : (pc : Int) + off = (tgt : Int)) (hp : pc + 3 = pc2) (kt : b < a → T M d kc ks tgt ls st h Q) (kf : ¬ b < a → T M d kc ks pc2 ls st h Q) : T M d kc ks pc ls (.int b :: .int a :: st) h Q := by
  subst hp
  intro p l e R s m args below meth c Z D base x E H locs cells slots ca tys lsA F Y L
  exact lv_icmp_gt F.1 F.2.1 hf ht (fun z => kt z p l e R s m args below meth c Z D base x E H locs cells slots ca tys lsA F Y L) (fun z => kf z p l e R s m args below meth c Z D base x E H locs cells slots ca tys lsA F Y L)
theorem T_icmple {a b : Int32} {off : Int} {tgt : Nat} (hf : decode M.2.1 pc = .ok (.if_icmp .le off, 3)) (ht : (pc : Int) + off = (tgt : Int)) (hp : pc + 3 = pc2) (kt : a ≤ b → T M d kc ks tgt ls st h Q) (kf : ¬ a ≤ b → T M d kc ks pc2 ls st h Q) : T M d kc ks pc ls (.int b :: .int a :: st) h Q := by
  subst hp
  intro p l e R s m args below meth c Z D base x E H locs cells slots ca tys lsA F Y L
  exact lv_icmp_le F.1 F.2.1 hf ht (fun z => kt z p l e R s m args below meth c Z D base x E H locs cells slots ca tys lsA F Y L) (fun z => kf z p l e R s m args below meth c Z D base x E H locs cells slots ca tys lsA F Y L)
theorem T_goto {off : Int} {tgt : Nat} (hf : decode M.2.1 pc = .ok (.goto off, 3)) (ht : (pc : Int) + off = (tgt : Int)) (k : T M d kc ks tgt ls st h Q) : T M d kc ks pc ls st h Q := by
  intro p l e R s m args below meth c Z D base x E H locs cells slots ca tys lsA F Y L
  exact lv_goto F.1 F.2.1 hf ht (k p l e R s m args below meth c Z D base x E H locs cells slots ca tys lsA F Y L)
theorem T_tableIn {a : Int32} {dflt lo hi : Int} {offs : Array Int} {len : Nat} {off : Int} {tgt : Nat} (hf : decode M.2.1 pc = .ok (.tableswitch dflt lo hi offs, len)) (h1 : ¬ a.toInt < lo) (h2 : ¬ hi < a.toInt) (ho : offs[(a.toInt - lo).toNat]? = some off) (ht : (pc : Int) + off = (tgt : Int)) (k : T M d kc ks tgt ls st h Q) : T M d kc ks pc ls (.int a :: st) h Q := by
  intro p l e R s m args below meth c Z D base x E H locs cells slots ca tys lsA F Y L
  exact lv_tableIn F.1 F.2.1 hf h1 h2 ho ht (k p l e R s m args below meth c Z D base x E H locs cells slots ca tys lsA F Y L)
theorem T_tableOut {a : Int32} {dflt lo hi : Int} {offs : Array Int} {len : Nat} {tgt : Nat} (hf : decode M.2.1 pc = .ok (.tableswitch dflt lo hi offs, len)) (h1 : a.toInt < lo ∨ hi < a.toInt) (ht : (pc : Int) + dflt = (tgt : Int)) (k : T M d kc ks tgt ls st h Q) : T M d kc ks pc ls (.int a :: st) h Q := by
  intro p l e R s m args below meth c Z D base x E H locs cells slots ca tys lsA F Y L
  exact lv_tableOut F.1 F.2.1 hf h1 ht (k p l e R s m args below meth c Z D base x E H locs cells slots ca tys lsA F Y L)
theorem T_lookup {a : Int32} {dflt : Int} {ps : Array (Int × Int)} {len : Nat} {off : Int} {tgt : Nat} (hf : decode M.2.1 pc = .ok (.lookupswitch dflt ps, len)) (h1 : (ps.toList.zip (ps.toList.drop 1)).all (fun (a, next) => a.1 < next.1) = true) (ho : Op.lookupswitch.offset ps.toList dflt a.toInt = off) (ht : (pc : Int) + off = (tgt : Int)) (k : T M d kc ks tgt ls st h Q) : T M d kc ks pc ls (.int a :: st) h Q := by
  intro p l e R s m args below meth c Z D base x E H locs cells slots ca tys lsA F Y L
  exact lv_lookup F.1 F.2.1 hf h1 ho ht (k p l e R s m args below meth c Z D base x E H locs cells slots ca tys lsA F Y L)
theorem T_ifnonnull {r : Option Nat} {off : Int} {tgt : Nat} (hf : decode M.2.1 pc = .ok (.ifnonnull off, 3)) (ht : (pc : Int) + off = (tgt : Int)) (hp : pc + 3 = pc2) (kt : ∀ i, r = some i → T M d kc ks tgt ls st h Q) (kf : r = none → T M d kc ks pc2 ls st h Q) : T M d kc ks pc ls (va_rf r :: st) h Q := by
  subst hp
  intro p l e R s m args below meth c Z D base x E H locs cells slots ca tys lsA F Y L
  cases r with
  | none => exact lv_ifnonnullN F.1 F.2.1 hf (kf rfl p l e R s m args below meth c Z D base x E H locs cells slots ca tys lsA F Y L)
  | some i => exact lv_ifnonnull F.1 F.2.1 hf ht (kt i rfl p l e R s m args below meth c Z D base x E H locs cells slots ca tys lsA F Y L)
theorem T_ldc {index : Nat} {v : Int32} (hf : decode M.2.1 pc = .ok (.ldc index, 2)) (hc : Cond.constant M.1.cls index v ∈ lw_g) (hp : pc + 2 = pc2) (k : T M d kc ks pc2 ls (.int v :: st) h Q) : T M d kc ks pc ls st h Q := by
  subst hp
  intro p l e R s m args below meth c Z D base x E H locs cells slots ca tys lsA F Y L
  obtain ⟨hx, hb, hml, hown, hts, hbs, hR, hXt, hnm, hret⟩ := id F
  exact lv_ldc hx hb hown (hts _ hc) hf (k p l e R s m args below meth c Z D base x E H locs cells slots ca tys lsA F Y L)
theorem T_ldcw {index : Nat} {v : Int32} (hf : decode M.2.1 pc = .ok (.ldc_w index, 3)) (hc : Cond.constant M.1.cls index v ∈ lw_g) (hp : pc + 3 = pc2) (k : T M d kc ks pc2 ls (.int v :: st) h Q) : T M d kc ks pc ls st h Q := by
  subst hp
  intro p l e R s m args below meth c Z D base x E H locs cells slots ca tys lsA F Y L
  obtain ⟨hx, hb, hml, hown, hts, hbs, hR, hXt, hnm, hret⟩ := id F
  exact lv_ldcw hx hb hown (hts _ hc) hf (k p l e R s m args below meth c Z D base x E H locs cells slots ca tys lsA F Y L)
theorem T_ldc2 {index : Nat} {v : Int64} (hf : decode M.2.1 pc = .ok (.ldc2_w index, 3)) (hc : Cond.constantLong M.1.cls index v ∈ lw_g) (hp : pc + 3 = pc2) (k : T M d kc ks pc2 ls (.long v :: st) h Q) : T M d kc ks pc ls st h Q := by
  subst hp
  intro p l e R s m args below meth c Z D base x E H locs cells slots ca tys lsA F Y L
  obtain ⟨hx, hb, hml, hown, hts, hbs, hR, hXt, hnm, hret⟩ := id F
  exact lv_ldc2 hx hb hown (hts _ hc) hf (k p l e R s m args below meth c Z D base x E H locs cells slots ca tys lsA F Y L)
theorem T_getfield {idx ci kf i : Nat} {fs : List Value} {v : Value} (hf : decode M.2.1 pc = .ok (.getfield idx, 3)) (hl : FL M.1.cls idx ci kf) (ho : hob h i ci fs) (hv : fs[kf]? = some v) (hp : pc + 3 = pc2) (k : T M d kc ks pc2 ls (v :: st) h Q) : T M d kc ks pc ls (.ref i :: st) h Q := by
  subst hp
  intro p l e R s m args below meth c Z D base x E H locs cells slots ca tys lsA F Y L
  obtain ⟨hx, hb, hml, hown, hts, hbs, hR, hXt, hnm, hret⟩ := id F
  exact va_get (C := RR ci) (T := TT ci) (N := NN ci) (ci := ci) hx hb hts (in_ok ci hl.2.1) hown Y.1 Y.2.1 (i - 4) (wd_at ho.1 ho.2.1 ho.2.2) (vwCl_get ci hl.2.1) kf hl.2.2 (hts _ hl.1) (fun _ h9 => h9) (by rw [List.getElem?_map, hv]; rfl) hf (k p l e R s m args below meth c Z D base x E H locs cells slots ca tys lsA F Y L)
theorem T_iaload {i n : Nat} {f : Nat → Int32} {j : Int32} (hf : decode M.2.1 pc = .ok (.iaload, 1)) (ho : har h i .int (n, .inl f)) (hj : vp_in j n) (hp : pc + 1 = pc2) (k : T M d kc ks pc2 ls (.int (f j.toNatClampNeg) :: st) h Q) : T M d kc ks pc ls (.int j :: .ref i :: st) h Q := by
  subst hp
  intro p l e R s m args below meth c Z D base x E H locs cells slots ca tys lsA F Y L
  obtain ⟨hx, hb, hml, hown, hts, hbs, hR, hXt, hnm, hret⟩ := id F
  obtain ⟨t0, ht0⟩ := Y.2.2.2.2.1 (i - 4) (by have := ho.1; have := ho.2.1; omega) .int (n, .inl f) (by rw [show i - 4 + 4 = i by have := ho.1; omega]; exact ho.2.2)
  exact va_iald hx hb Y.1 Y.2.1 (i - 4) t0 (wd_at ho.1 ho.2.1 ho.2.2) ht0 hj hf (k p l e R s m args below meth c Z D base x E H locs cells slots ca tys lsA F Y L)
theorem T_baload {i n : Nat} {f : Nat → Int32} {j : Int32} (hf : decode M.2.1 pc = .ok (.baload, 1)) (ho : har h i .boolean (n, .inl f)) (hj : vp_in j n) (hp : pc + 1 = pc2) (k : T M d kc ks pc2 ls (.int (f j.toNatClampNeg) :: st) h Q) : T M d kc ks pc ls (.int j :: .ref i :: st) h Q := by
  subst hp
  intro p l e R s m args below meth c Z D base x E H locs cells slots ca tys lsA F Y L
  obtain ⟨hx, hb, hml, hown, hts, hbs, hR, hXt, hnm, hret⟩ := id F
  obtain ⟨t0, ht0⟩ := Y.2.2.2.2.1 (i - 4) (by have := ho.1; have := ho.2.1; omega) .boolean (n, .inl f) (by rw [show i - 4 + 4 = i by have := ho.1; omega]; exact ho.2.2)
  exact va_zald hx hb Y.1 Y.2.1 (i - 4) t0 (wd_at ho.1 ho.2.1 ho.2.2) ht0 hj hf (k p l e R s m args below meth c Z D base x E H locs cells slots ca tys lsA F Y L)
theorem T_xaload {i n : Nat} {f : Nat → Int32} {j : Int32} (hf : decode M.2.1 pc = .ok (.iaload, 1)) (ho : hxa h i n f) (hj : vp_in j n) (hp : pc + 1 = pc2) (k : T M d kc ks pc2 ls (.int (f j.toNatClampNeg) :: st) h Q) : T M d kc ks pc ls (.int j :: .ref i :: st) h Q := by
  subst hp
  intro p l e R s m args below meth c Z D base x E H locs cells slots ca tys lsA F Y L
  obtain ⟨hx, hb, hml, hown, hts, hbs, hR, hXt, hnm, hret⟩ := id F
  obtain ⟨n2, f2, e2, hT⟩ := hXt.1 i ho.1
  have e3 := (Y.2.2.2.2.2.1 i ho.1).symm.trans ho.2
  rw [e2] at e3
  cases e3
  show W p l e R s m args below meth c H locs cells slots Z (F0 m pc lsA (.int j :: .ref (adr base x i) :: st.map (trV (adr base x))))
  rw [adr_lt ho.1]
  exact va_ti hx hb hT Y.2.2.1 hj rfl hf (k p l e R s m args below meth c Z D base x E H locs cells slots ca tys lsA F Y L)
theorem T_xlen {i n : Nat} {f : Nat → Int32} {v : Int32} (hf : decode M.2.1 pc = .ok (.arraylength, 1)) (ho : hxa h i n f) (hv : Int32.ofNat n = v) (hp : pc + 1 = pc2) (k : T M d kc ks pc2 ls (.int v :: st) h Q) : T M d kc ks pc ls (.ref i :: st) h Q := by
  subst hp
  intro p l e R s m args below meth c Z D base x E H locs cells slots ca tys lsA F Y L
  obtain ⟨hx, hb, hml, hown, hts, hbs, hR, hXt, hnm, hret⟩ := id F
  obtain ⟨n2, f2, e2, hT⟩ := hXt.1 i ho.1
  have e3 := (Y.2.2.2.2.2.1 i ho.1).symm.trans ho.2
  rw [e2] at e3
  cases e3
  show W p l e R s m args below meth c H locs cells slots Z (F0 m pc lsA (.ref (adr base x i) :: st.map (trV (adr base x))))
  rw [adr_lt ho.1]
  exact va_tlen hx hb hT Y.2.2.1 hv hf (k p l e R s m args below meth c Z D base x E H locs cells slots ca tys lsA F Y L)
theorem trV_rf (a : Nat → Nat) (r : Option Nat) : trV a (va_rf r) = va_rf (r.map a) := by cases r <;> rfl
theorem T_aaload {i n : Nat} {ty : FieldType} {f : Nat → Option Nat} {j : Int32} (hf : decode M.2.1 pc = .ok (.aaload, 1)) (ho : har h i ty (n, .inr (.inr (.inr (.inr f))))) (hty : ty.isReference = true) (hj : vp_in j n) (hp : pc + 1 = pc2) (k : T M d kc ks pc2 ls (va_rf (f j.toNatClampNeg) :: st) h Q) : T M d kc ks pc ls (.int j :: .ref i :: st) h Q := by
  subst hp
  intro p l e R s m args below meth c Z D base x E H locs cells slots ca tys lsA F Y L
  obtain ⟨hx, hb, hml, hown, hts, hbs, hR, hXt, hnm, hret⟩ := id F
  obtain ⟨t0, ht0⟩ := Y.2.2.2.2.1 (i - 4) (by have := ho.1; have := ho.2.1; omega) ty _ (by rw [show i - 4 + 4 = i by have := ho.1; omega]; exact ho.2.2)
  have hlt : j.toNatClampNeg < n := Nat.not_le.mp fun q => hj (Or.inr q)
  have hk := (k p l e R s m args below meth c Z D base x E H locs cells slots ca tys lsA F Y L)
  rw [List.map_cons, trV_rf] at hk
  have hc : H[adr base x i]? = some (arrV (ca (i - 4)) n (fun q => va_rf ((f q).map (adr base x)))) := Y.2.1 _ _ (wd_at (base := base) (x := x) (ca := ca) ho.1 ho.2.1 ho.2.2)
  exact W.aald (v := va_rf ((f j.toNatClampNeg).map (adr base x))) (ty := ty) hx hb hc ((Y.1.2 t0 _ ht0).1 n (fun q => va_rf ((f q).map (adr base x)))) hty (fun q => by cases q) (by rw [arrV_size]; exact hj) (by rw [arrV_read _ _ hlt]) rfl rfl hf hk
end TRows
end
section
section TStores
variable {M : MI} {d kc ks pc pc2 : Nat} {ls : List (Nat × Value)} {st : List Value} {h : SH} {Q : Option Value → SH → Prop}
theorem Tys.set {tys : List (ClassId × FieldType)} {ca : Nat → ClassId} {h : SH} {i : Nat} {c : SC} (h0 : Tys tys ca h) (hc : ∀ ty a, c = .inr (ty, a) → ∃ b, h.1 i = .inr (ty, b)) : Tys tys ca (hset h i c) := by
  intro j hj ty a e
  by_cases q : j + 4 = i
  · subst q
    have e2 : c = .inr (ty, a) := by
      have : va_up h.1 (j + 4) c (j + 4) = .inr (ty, a) := e
      simpa [va_up] using this
    obtain ⟨b, hb⟩ := hc ty a e2
    exact h0 j hj ty b hb
  · have : va_up h.1 i c (j + 4) = .inr (ty, a) := e
    simp only [va_up, if_neg q] at this
    exact h0 j hj ty a this
/-- what is left of a store: the world with one cell set -/
theorem Dy.set {R : Room} {s : State} {D : va_G} {base : Nat} {x : Nat → Nat} {E : Nat → SC} {H H1 : Heap} {locs : List Loc} {cells slots : Nat} {ca : Nat → ClassId} {tys : List (ClassId × FieldType)} {i : Nat} {c : SC} {j : Nat}
    (Y : Dy R s D base x E H locs cells slots ca tys h) (h4 : 4 ≤ i) (hi : i < h.2 + 4) (hc : ∀ ty a, c = .inr (ty, a) → ∃ b, h.1 i = .inr (ty, b)) (he : va_at D vwCl (adr base x i, trC (adr base x) (ca (i - 4)) c) H1) (z : H1.size = H.size) (oq : ∀ q : Nat, q ≠ adr base x i → H1[q]? = H[q]?) :
    Dy R s D base x E H1 (locs ++ [⟨adr base x i, j⟩]) cells slots ca tys (hset h i c) := by
  refine ⟨Y.1, ?_, Y.2.2.1.put z oq (by show base ≤ adr base x i; rw [adr_ge h4]; omega), by rw [z]; exact Y.2.2.2.1, Y.2.2.2.2.1.set hc, fun q hq => ?_, Y.2.2.2.2.2.2⟩
  · rw [wd_set h4]
    exact Y.2.1.set (wd_D base x ca h) (wd_at h4 hi rfl) he oq
  · have : q ≠ i := by omega
    show va_up h.1 i c q = E q
    simp only [va_up, if_neg this]
    exact Y.2.2.2.2.2.1 q hq
theorem T_putfield {idx ci kf i : Nat} {fs : List Value} {v : Value} (hf : decode M.2.1 pc = .ok (.putfield idx, 3)) (hl : FL M.1.cls idx ci kf) (ho : hob h i ci fs) (hfin : (TT ci kf).2.2.2 = false) (hn : ∀ a, narrow (tyT ci kf) (trV a v) = trV a v) (hfit : ∀ a, fits (tyT ci kf) (trV a v) = true) (hlen : kf < fs.length) (hp : pc + 3 = pc2) (k : T M d kc ks pc2 ls st (hset h i (.inl (ci, fs.set kf v))) Q) : T M d kc ks pc ls (v :: .ref i :: st) h Q := by
  subst hp
  intro p l e R s m args below meth c Z D base x E H locs cells slots ca tys lsA F Y L
  obtain ⟨hx, hb, hml, hown, hts, hbs, hR, hXt, hnm, hret⟩ := id F
  have hci := hl.2.1
  have hap := va_apart (D := D) (cl := vwCl) (own := M.1.cls) hts (in_ok ci hci) (tyT ci) (tyT_ok ci hci) (nm_ok ci hci) Y.1 (vwCl_get ci hci)
  obtain ⟨r, h1, cell, q1, q2, q3, q4⟩ := Y.2.1 _ _ (wd_at (base := base) (x := x) (ca := ca) ho.1 ho.2.1 ho.2.2)
  have hr : r = (RR ci, TT ci, NN ci) := Option.some.inj (h1.symm.trans (vwCl_get ci hci))
  subst hr
  obtain ⟨hS, hfc, kC, hkC, hkind⟩ := Y.1.1 ci _ (vwCl_get ci hci)
  obtain ⟨cf, kq, fi, f, hi, hsl⟩ := hS kf hl.2.2
  have hlay := hts _ (in_ok ci hci _ (u_in_lay hl.2.2))
  unfold u_lay at hlay
  rw [if_neg (by rw [hfin]; decide)] at hlay
  have hst := (u_facts hfc hkC (u_lays hts (in_ok ci hci) hl.2.2) hi).1
  have h6 := u_store hfc hkC hkind hlay hi (tyT_ok ci hci kf hl.2.2) (hn (adr base x)) (hfit (adr base x))
  refine W.putK hx hb (f := f) ⟨hown, hts _ hl.1, ⟨_, _, _, hi⟩, hst⟩ (by rw [q2]; exact h6) q1 q3 (by rw [hsl]; exact k2_hasslot (q4 kf hl.2.2)) rfl rfl hf fun H' e1 e2 e3 => ?_
  rw [hsl] at e1 ⊢
  refine k p l e R s m args below meth c Z D base x E H' _ cells slots ca tys lsA F (Y.set ho.1 ho.2.1 (fun ty a q => by cases q) ?_ e2 e3) L
  refine ⟨_, vwCl_get ci hci, t_OB.to (V := updV (vp_V (fs.map (trV (adr base x)))) kf (trV (adr base x) v)) ⟨_, e1, q2, q3, t_set q4 hap hl.2.2 _⟩ (fun j _ => ?_)⟩
  rw [vp_updV_set (by rw [List.length_map]; exact hlen)]
  show _ = vp_V ((fs.set kf v).map (trV (adr base x))) j
  rw [List.map_set]
theorem T_putfinal {idx ci kf i : Nat} {fs : List Value} {v : Value} (hf : decode M.2.1 pc = .ok (.putfield idx, 3)) (hl : FL M.1.cls idx ci kf) (ho : hob h i ci fs) (hfin : (TT ci kf).2.2.2 = true) (hin2 : M.1.name = "<init>") (hdecl : (TT ci kf).1 = M.1.cls) (hn : ∀ a, narrow (tyT ci kf) (trV a v) = trV a v) (hfit : ∀ a, fits (tyT ci kf) (trV a v) = true) (hlen : kf < fs.length) (hp : pc + 3 = pc2) (k : T M d kc ks pc2 ls st (hset h i (.inl (ci, fs.set kf v))) Q) : T M d kc ks pc ls (v :: .ref i :: st) h Q := by
  subst hp
  intro p l e R s m args below meth c Z D base x E H locs cells slots ca tys lsA F Y L
  obtain ⟨hx, hb, hml, hown, hts, hbs, hR, hXt, hnm, hret⟩ := id F
  have hci := hl.2.1
  have hap := va_apart (D := D) (cl := vwCl) (own := M.1.cls) hts (in_ok ci hci) (tyT ci) (tyT_ok ci hci) (nm_ok ci hci) Y.1 (vwCl_get ci hci)
  obtain ⟨r, h1, cell, q1, q2, q3, q4⟩ := Y.2.1 _ _ (wd_at (base := base) (x := x) (ca := ca) ho.1 ho.2.1 ho.2.2)
  have hr : r = (RR ci, TT ci, NN ci) := Option.some.inj (h1.symm.trans (vwCl_get ci hci))
  subst hr
  obtain ⟨hS, hfc, kC, hkC, hkind⟩ := Y.1.1 ci _ (vwCl_get ci hci)
  obtain ⟨cf, kq, fi, f, hi, hsl⟩ := hS kf hl.2.2
  have hlay := hts _ (in_ok ci hci _ (u_in_lay hl.2.2))
  unfold u_lay at hlay
  rw [if_pos hfin] at hlay
  have hst := (u_facts hfc hkC (u_lays hts (in_ok ci hci) hl.2.2) hi).1
  have hcf : m.cls = cf := by
    obtain ⟨_, _, c', _, _, _, -, -, hf', -, -, -, hown2, -⟩ := Cond.laysFinal_spec hlay
    have e1 : c' = cf := by have := hi.symm.trans hf'; simp at this; exact this.1.symm
    rw [hdecl] at hown2
    rw [← e1]; exact Option.some.inj (hown.symm.trans hown2)
  have h6 := u_fits hfc hkC hkind (Or.inr hlay) hi (tyT_ok ci hci kf hl.2.2) (hn (adr base x)) (hfit (adr base x))
  refine W.putFinK hx hb hown (hts _ hl.1) hi hst hcf (hnm.trans hin2) (by rw [q2]; exact h6) q1 q3 (by rw [hsl]; exact k2_hasslot (q4 kf hl.2.2)) rfl rfl hf fun H' e1 e2 e3 => ?_
  rw [hsl] at e1 ⊢
  refine k p l e R s m args below meth c Z D base x E H' _ cells slots ca tys lsA F (Y.set ho.1 ho.2.1 (fun ty a q => by cases q) ?_ e2 e3) L
  refine ⟨_, vwCl_get ci hci, t_OB.to (V := updV (vp_V (fs.map (trV (adr base x)))) kf (trV (adr base x) v)) ⟨_, e1, q2, q3, t_set q4 hap hl.2.2 _⟩ (fun j _ => ?_)⟩
  rw [vp_updV_set (by rw [List.length_map]; exact hlen)]
  show _ = vp_V ((fs.set kf v).map (trV (adr base x))) j
  rw [List.map_set]
theorem T_iastore {i n : Nat} {f : Nat → Int32} {j v : Int32} (hf : decode M.2.1 pc = .ok (.iastore, 1)) (ho : har h i .int (n, .inl f)) (hj : vp_in j n) (hp : pc + 1 = pc2) (k : T M d kc ks pc2 ls st (hset h i (.inr (.int, n, .inl (upd f j.toNatClampNeg v)))) Q) : T M d kc ks pc ls (.int v :: .int j :: .ref i :: st) h Q := by
  subst hp
  intro p l e R s m args below meth c Z D base x E H locs cells slots ca tys lsA F Y L
  obtain ⟨hx, hb, hml, hown, hts, hbs, hR, hXt, hnm, hret⟩ := id F
  obtain ⟨t0, ht0⟩ := Y.2.2.2.2.1 (i - 4) (by have := ho.1; have := ho.2.1; omega) .int (n, .inl f) (by rw [show i - 4 + 4 = i by have := ho.1; omega]; exact ho.2.2)
  have hc : H[adr base x i]? = some (arrV (ca (i - 4)) n (fun q => .int (f q))) := Y.2.1 _ _ (wd_at (base := base) (x := x) (ca := ca) ho.1 ho.2.1 ho.2.2)
  refine W.iast hx hb hc ((Y.1.2 t0 _ ht0).1 n (fun q => .int (f q))) (fun q => by cases q) (by rw [arrV_size]; exact hj) rfl rfl hf fun H1 e1 z oq => ?_
  refine k p l e R s m args below meth c Z D base x E H1 _ cells slots ca tys lsA F (Y.set ho.1 ho.2.1 (fun ty a q => by cases q; exact ⟨_, ho.2.2⟩) ?_ z oq) L
  show H1[adr base x i]? = some (arrV (ca (i - 4)) n (fun q => .int (upd f j.toNatClampNeg v q)))
  rw [e1, arrV_store]
  congr 2
  funext q
  by_cases hq : q = j.toNatClampNeg
  · subst hq
    simp [updV, upd, vp_nar]
    try rfl
  · simp [updV, upd, hq]
theorem T_bastore {i n : Nat} {f : Nat → Int32} {j v : Int32} (hf : decode M.2.1 pc = .ok (.bastore, 1)) (ho : har h i .boolean (n, .inl f)) (hj : vp_in j n) (hp : pc + 1 = pc2) (k : T M d kc ks pc2 ls st (hset h i (.inr (.boolean, n, .inl (upd f j.toNatClampNeg (vp_nar .boolean v))))) Q) : T M d kc ks pc ls (.int v :: .int j :: .ref i :: st) h Q := by
  subst hp
  intro p l e R s m args below meth c Z D base x E H locs cells slots ca tys lsA F Y L
  obtain ⟨hx, hb, hml, hown, hts, hbs, hR, hXt, hnm, hret⟩ := id F
  obtain ⟨t0, ht0⟩ := Y.2.2.2.2.1 (i - 4) (by have := ho.1; have := ho.2.1; omega) .boolean (n, .inl f) (by rw [show i - 4 + 4 = i by have := ho.1; omega]; exact ho.2.2)
  have hc : H[adr base x i]? = some (arrV (ca (i - 4)) n (fun q => .int (f q))) := Y.2.1 _ _ (wd_at (base := base) (x := x) (ca := ca) ho.1 ho.2.1 ho.2.2)
  refine W.zast hx hb hc ((Y.1.2 t0 _ ht0).1 n (fun q => .int (f q))) (fun q => by cases q) (by rw [arrV_size]; exact hj) rfl rfl hf fun H1 e1 z oq => ?_
  refine k p l e R s m args below meth c Z D base x E H1 _ cells slots ca tys lsA F (Y.set ho.1 ho.2.1 (fun ty a q => by cases q; exact ⟨_, ho.2.2⟩) ?_ z oq) L
  show H1[adr base x i]? = some (arrV (ca (i - 4)) n (fun q => .int (upd f j.toNatClampNeg (vp_nar .boolean v) q)))
  rw [e1, arrV_store]
  congr 2
  funext q
  by_cases hq : q = j.toNatClampNeg
  · subst hq
    simp [updV, upd, vp_nar]
    try rfl
  · simp [updV, upd, hq]
theorem T_aastore {i n ci q : Nat} {fs : List Value} {f : Nat → Option Nat} {j : Int32} (hf : decode M.2.1 pc = .ok (.aastore, 1)) (hci : ci < 9) (ho : har h i (.object (RR ci)) (n, .inr (.inr (.inr (.inr f))))) (hq : hob h q ci fs) (hj : vp_in j n) (hp : pc + 1 = pc2) (k : T M d kc ks pc2 ls st (hset h i (.inr (.object (RR ci), n, .inr (.inr (.inr (.inr (va_up f j.toNatClampNeg (some q)))))))) Q) : T M d kc ks pc ls (.ref q :: .int j :: .ref i :: st) h Q := by
  subst hp
  intro p l e R s m args below meth c Z D base x E H locs cells slots ca tys lsA F Y L
  obtain ⟨hx, hb, hml, hown, hts, hbs, hR, hXt, hnm, hret⟩ := id F
  obtain ⟨t0, ht0⟩ := Y.2.2.2.2.1 (i - 4) (by have := ho.1; have := ho.2.1; omega) _ _ (by rw [show i - 4 + 4 = i by have := ho.1; omega]; exact ho.2.2)
  have hc : H[adr base x i]? = some (arrV (ca (i - 4)) n (fun q => va_rf ((f q).map (adr base x)))) := Y.2.1 _ _ (wd_at (base := base) (x := x) (ca := ca) ho.1 ho.2.1 ho.2.2)
  have hlt : j.toNatClampNeg < n := Nat.not_le.mp fun q => hj (Or.inr q)
  have h0 : ¬ j < 0 := fun q => hj (Or.inl q)
  obtain ⟨r', hr', cellV, g1, g2, g3, -⟩ := Y.2.1 _ _ (wd_at (base := base) (x := x) (ca := ca) hq.1 hq.2.1 hq.2.2)
  have hcls := (Y.1.1 ci _ (vwCl_get ci hci)).2
  obtain ⟨kA, comp, k1, k2, k3, -⟩ := (Y.1.2 t0 _ ht0).2
  have hcomp : comp = D.1 ci := Option.some.inj (k3.symm.trans hcls.1)
  subst hcomp
  obtain ⟨kC, hkC, -⟩ := hcls.2
  refine W.aast hx hb hc (fun q h => by cases h) (fun h => by cases h) k1 k2 rfl hkC ⟨h0, by rw [arrV_size]; exact hlt⟩ g1 (fun q h => by rw [g3] at h; cases h) (by rw [g2]; exact hkC) (by rw [g2]; exact va_assign hcls) rfl rfl hf fun H1 e1 z oq => ?_
  refine k p l e R s m args below meth c Z D base x E H1 _ cells slots ca tys lsA F (Y.set ho.1 ho.2.1 (fun ty a q => by cases q; exact ⟨_, ho.2.2⟩) ?_ z oq) L
  show H1[adr base x i]? = some (arrV (ca (i - 4)) n (fun z => va_rf ((va_up f j.toNatClampNeg (some q) z).map (adr base x))))
  rw [e1, arrV_store]
  congr 2
  funext y
  by_cases hy : y = j.toNatClampNeg
  · subst hy
    simp [updV, va_up, va_rf]
  · simp [updV, va_up, hy]
/-- a cell more -/
theorem Dy.new {R : Room} {s : State} {D : va_G} {base : Nat} {x : Nat → Nat} {E : Nat → SC} {H H1 : Heap} {locs : List Loc} {cells slots : Nat} {ca : Nat → ClassId} {tys tys2 : List (ClassId × FieldType)} {c : SC} {cA : ClassId}
    (Y : Dy R s D base x E H locs cells slots ca tys h) (hK : va_K D vwCl (tys ++ tys2) s) (hc : ∀ ty a, c = .inr (ty, a) → ∃ t0 : Nat, (tys ++ tys2)[t0]? = some (cA, ty)) (he : va_at D vwCl (H.size, trC (adr base x) cA c) H1) (z : H1.size = H.size + 1) (oq : ∀ q : Nat, q < H.size → H1[q]? = H[q]?) :
    Dy R s D base x E H1 locs cells slots (va_up ca h.2 cA) (tys ++ tys2) (hnew h c) := by
  have hk : ∀ (k : Nat) (q : Nat × va_E), (wd base x ca h)[k]? = some q → H1[q.1]? = H[q.1]? := fun k q hq => oq q.1 ((Y.2.1 k q hq).lt)
  refine ⟨hK, ?_, ⟨Nat.le_trans Y.2.2.1.1 (by omega), fun q h1 h2 => (oq q (Nat.lt_of_lt_of_le h1 Y.2.2.1.1)).trans (Y.2.2.1.2.1 q h1 h2), Y.2.2.1.2.2⟩, ?_, ?_, fun q hq => ?_, Y.2.2.2.2.2.2⟩
  · rw [wd_new]
    refine (Y.2.1.kept hk).app (fun k q hq => ?_)
    have h0 : k < 1 := (List.getElem?_eq_some_iff.mp hq).1
    rw [show k = 0 by omega] at hq
    cases hq
    rw [← Y.2.2.2.1]
    exact he
  · show H1.size = base + (h.2 + 1)
    rw [z, Y.2.2.2.1]
    omega
  · intro j hj ty a ea
    have hj : j < h.2 + 1 := hj
    have ea : va_up h.1 (h.2 + 4) c (j + 4) = .inr (ty, a) := ea
    by_cases q : j = h.2
    · subst q
      simp only [va_up, if_pos] at ea
      obtain ⟨t0, ht⟩ := hc ty a ea
      exact ⟨t0, by simpa [va_up] using ht⟩
    · have q2 : ¬ j + 4 = h.2 + 4 := by omega
      simp only [va_up, if_neg q2] at ea
      obtain ⟨t0, ht⟩ := Y.2.2.2.2.1 j (by omega) ty a ea
      refine ⟨t0, ?_⟩
      rw [List.getElem?_append_left (List.getElem?_eq_some_iff.mp ht).1, ht]
      simp [va_up, q]
  · have : q ≠ h.2 + 4 := by omega
    show va_up h.1 (h.2 + 4) c q = E q
    simp only [va_up, if_neg this]
    exact Y.2.2.2.2.2.1 q hq
theorem Dy.budget {R : Room} {s : State} {D : va_G} {base : Nat} {x : Nat → Nat} {E : Nat → SC} {H : Heap} {locs : List Loc} {cells slots cells2 slots2 : Nat} {ca : Nat → ClassId} {tys : List (ClassId × FieldType)}
    (Y : Dy R s D base x E H locs cells slots ca tys h) (h1 : cells2 ≤ cells) (h2 : slots2 ≤ slots) : Dy R s D base x E H locs cells2 slots2 ca tys h :=
  ⟨Y.1, Y.2.1, Y.2.2.1, Y.2.2.2.1, Y.2.2.2.2.1, Y.2.2.2.2.2.1, Nat.le_trans h1 Y.2.2.2.2.2.2.1, Nat.le_trans h2 Y.2.2.2.2.2.2.2⟩
theorem T_new {idx ci : Nat} {fs : List Value} (hf : decode M.2.1 pc = .ok (.new idx, 3)) (hci : ci < 9) (hcl : Cond.classLink M.1.cls idx (RR ci) ∈ lw_g) (hins : Cond.instantiable (RR ci) (NN ci) ∈ lw_g) (hini : Cond.initialized (RR ci) ∈ lw_g) (hfs : ∀ a j, j < NN ci → defaultValue (tyT ci j) = vp_V (fs.map (trV a)) j) (hp : pc + 3 = pc2) (k : T M d kc ks pc2 ls (.ref (h.2 + 4) :: st) (hnew h (.inl (ci, fs))) Q) : T M d (kc + 1) (ks + NN ci) pc ls st h Q := by
  subst hp
  intro p l e R s m args below meth c Z D base x E H locs cells slots ca tys lsA F Y L
  obtain ⟨hx, hb, hml, hown, hts, hbs, hR, hXt, hnm, hret⟩ := id F
  have hKn := Y.1.1 ci _ (vwCl_get ci hci)
  have hb1 := Y.2.2.2.2.2.2.1
  have hb2 := Y.2.2.2.2.2.2.2
  refine W.newcK hx hb hown (hts _ hcl) (hts _ hins) (hts _ hini) rfl hf (by omega) (by omega) hKn.2.1 rfl fun H1 kC hkC e1 z1 o1 => ?_
  have Y2 := (Y.new (tys2 := []) (c := .inl (ci, fs)) (cA := 0) (by rw [List.append_nil]; exact Y.1) (fun ty a q => by cases q) ⟨_, vwCl_get ci hci, (u_born (tyT ci) hts (in_ok ci hci) hKn hkC e1 (tyT_ok ci hci)).to (hfs (adr base x))⟩ z1 o1).budget (cells2 := cells + 1 + kc) (slots2 := slots + NN ci + ks) (by omega) (by omega)
  have hk := k p l e R s m args below meth c Z D base x E H1 locs (cells + 1) (slots + NN ci) _ _ lsA F Y2 L
  have ea : adr base x (h.2 + 4) = H.size := by rw [adr_ge (by omega), Y.2.2.2.1]; omega
  rw [List.map_cons, show trV (adr base x) (.ref (h.2 + 4)) = .ref H.size by rw [← ea]; rfl] at hk
  exact hk
theorem T_newarray {at2 : ArrayType} {ty : FieldType} {n : Int32} {N : Nat} {a0 : vp_A} (hf : decode M.2.1 pc = .ok (.newarray at2, 2)) (harr : Cond.arrayClass (newarray.typeOf at2) ∈ lw_g) (hty : newarray.typeOf at2 = ty) (ha : ∀ (cA : ClassId) (a : Nat → Nat), vp_cell cA (trA a a0) = arrV cA N (fun _ => defaultValue ty)) (hn : ¬ n < 0) (hN : n.toNatClampNeg = N) (hbytes : N * componentBytes ty ≤ 536870912) (hp : pc + 2 = pc2) (k : T M d kc ks pc2 ls (.ref (h.2 + 4) :: st) (hnew h (.inr (ty, a0))) Q) : T M d (kc + 1) (ks + N) pc ls (.int n :: st) h Q := by
  subst hp
  intro p l e R s m args below meth c Z D base x E H locs cells slots ca tys lsA F Y L
  obtain ⟨hx, hb, hml, hown, hts, hbs, hR, hXt, hnm, hret⟩ := id F
  subst hty
  have hb1 := Y.2.2.2.2.2.2.1
  have hb2 := Y.2.2.2.2.2.2.2
  refine va_newaK hx hb (hts _ harr) rfl hf rfl hn hN hbytes (by omega) (by omega) rfl fun H1 cA e1 z1 o1 hAr hNm => ?_
  have hK2 : va_K D vwCl (tys ++ [(cA, newarray.typeOf at2)]) s := by
    refine ⟨Y.1.1, fun j q hq => ?_⟩
    by_cases hl : j < tys.length
    · rw [List.getElem?_append_left hl] at hq
      exact Y.1.2 j q hq
    · rw [List.getElem?_append_right (by omega)] at hq
      have hz : j - tys.length < 1 := (List.getElem?_eq_some_iff.mp hq).1
      rw [show j - tys.length = 0 by omega] at hq
      cases hq
      exact ⟨hAr, by cases at2 <;> exact hNm⟩
  have Y2 := (Y.new (tys2 := [(cA, newarray.typeOf at2)]) (c := .inr (newarray.typeOf at2, a0)) (cA := cA) hK2 (fun ty a q => by cases q; exact ⟨tys.length, by simp⟩) (show H1[H.size]? = some (vp_cell cA (trA (adr base x) a0)) by rw [ha]; exact e1) z1 o1).budget (cells2 := cells + 1 + kc) (slots2 := slots + N + ks) (by omega) (by omega)
  have hk := k p l e R s m args below meth c Z D base x E H1 locs (cells + 1) (slots + N) _ _ lsA F Y2 L
  have ea : adr base x (h.2 + 4) = H.size := by rw [adr_ge (by omega), Y.2.2.2.1]; omega
  rw [List.map_cons, show trV (adr base x) (.ref (h.2 + 4)) = .ref H.size by rw [← ea]; rfl] at hk
  exact hk
theorem T_anewarray {idx N : Nat} {n : Int32} (hf : decode M.2.1 pc = .ok (.anewarray idx, 3)) (hcl : Cond.classLink M.1.cls idx RX2 ∈ lw_g) (hn : ¬ n < 0) (hN : n.toNatClampNeg = N) (hbytes : N * 4 ≤ 536870912) (hp : pc + 3 = pc2) (k : T M d kc ks pc2 ls (.ref (h.2 + 4) :: st) (hnew h (.inr (.object RX2, N, .inr (.inr (.inr (.inr (fun _ => none))))))) Q) : T M d (kc + 1) (ks + N) pc ls (.int n :: st) h Q := by
  subst hp
  intro p l e R s m args below meth c Z D base x E H locs cells slots ca tys lsA F Y L
  obtain ⟨hx, hb, hml, hown, hts, hbs, hR, hXt, hnm, hret⟩ := id F
  subst hN
  have hb1 := Y.2.2.2.2.2.2.1
  have hb2 := Y.2.2.2.2.2.2.2
  refine W.anew hx hb hown (hts _ hcl) (va_AO.use hXt.2.2.2.2.2.1) rfl hf rfl hn hbytes (by omega) (by omega) fun cA kA comp f1 f2 f3 f4 => ?_
  generalize hH1 : H.push ({ cls := cA, slots := Array.replicate n.toNatClampNeg .null, vm := .none } : Cell) = H1
  have z1 : H1.size = H.size + 1 := by rw [← hH1, Array.size_push]
  have e1 : H1[H.size]? = some (arrV cA n.toNatClampNeg (fun _ => .null)) := by rw [← hH1, Array.getElem?_push_size, ← arrV_new]
  have o1 : ∀ q : Nat, q < H.size → H1[q]? = H[q]? := fun q hq => by rw [← hH1, Array.getElem?_push, if_neg (Nat.ne_of_lt hq)]
  have hAr : ArrOfT s cA (.object RX2) := fun N z => ⟨(fun k h => by cases h), kA, f2, comp, f3⟩
  have hK2 : va_K D vwCl (tys ++ [(cA, .object RX2)]) s := by
    refine ⟨Y.1.1, fun j q hq => ?_⟩
    by_cases hl : j < tys.length
    · rw [List.getElem?_append_left hl] at hq
      exact Y.1.2 j q hq
    · rw [List.getElem?_append_right (by omega)] at hq
      have hz : j - tys.length < 1 := (List.getElem?_eq_some_iff.mp hq).1
      rw [show j - tys.length = 0 by omega] at hq
      cases hq
      exact ⟨hAr, kA, comp, f2, f3, f4, f1⟩
  have Y2 := (Y.new (tys2 := [(cA, .object RX2)]) (c := .inr (.object RX2, n.toNatClampNeg, .inr (.inr (.inr (.inr (fun _ => none)))))) (cA := cA) hK2 (fun ty a q => by cases q; exact ⟨tys.length, by simp⟩) (show H1[H.size]? = some (vp_cell cA _) from e1) z1 o1).budget (cells2 := cells + 1 + kc) (slots2 := slots + n.toNatClampNeg + ks) (by omega) (by omega)
  have hk := k p l e R s m args below meth c Z D base x E H1 locs (cells + 1) (slots + n.toNatClampNeg) _ _ lsA F Y2 L
  have ea : adr base x (h.2 + 4) = H.size := by rw [adr_ge (by omega), Y.2.2.2.1]; omega
  rw [List.map_cons, show trV (adr base x) (.ref (h.2 + 4)) = .ref H.size by rw [← ea]; rfl] at hk
  exact hk
end TStores
end
section
theorem objI_in : Cond.instanceMethod Lib.objectInit ∈ lw_g := gd 19 (by decide +kernel) (by decide +kernel)
theorem objC_in : Cond.code Lib.objectInit ⟨#[0xb1]⟩ 1 none ∈ lw_g := gd 20 (by decide +kernel) (by decide +kernel)
section TCalls
variable {M : MI} {d kc ks pc pc2 : Nat} {ls : List (Nat × Value)} {st : List Value} {h : SH} {Q : Option Value → SH → Prop}
theorem trV_catsum (a : Nat → Nat) (st : List Value) : ((st.map (trV a)).map fun v => v.category).sum = (st.map fun v => v.category).sum := by
  rw [List.map_map]
  congr 1
  apply List.map_congr_left
  intro v _
  exact trV_cat a v
/-- arraycopy over two int arrays -/
theorem T_arraycopy {idx i0 i1 n0 n1 : Nat} {f g : Nat → Int32} {sp dp n : Int32} (hf : decode M.2.1 pc = .ok (.invokestatic idx, 3)) (hlk : Cond.methodLink M.1.cls idx arraycopyName ∈ lw_g) (hnat : Cond.native arraycopyName ∈ lw_g) (hstat : Cond.static arraycopyName ∈ lw_g) (hini : Cond.initialized "java/lang/System" ∈ lw_g)
    (ho0 : har h i0 .int (n0, .inl f)) (ho1 : har h i1 .int (n1, .inl g)) (h1 : ¬ sp < 0) (h2 : ¬ dp < 0) (h3 : ¬ n < 0) (h4 : sp.toNatClampNeg + n.toNatClampNeg ≤ n0) (h5 : dp.toNatClampNeg + n.toNatClampNeg ≤ n1) (hst : (st.map fun v => v.category).sum ≤ 8) (hp : pc + 3 = pc2)
    (k : T M d kc ks pc2 ls st (hset h i1 (.inr (.int, n1, .inl (va_cpy f g sp.toNatClampNeg dp.toNatClampNeg n.toNatClampNeg)))) Q) : T M d kc ks pc ls (.int n :: .int dp :: .ref i1 :: .int sp :: .ref i0 :: st) h Q := by
  subst hp
  intro p l e R s m args below meth c Z D base x E H locs cells slots ca tys lsA F Y L
  obtain ⟨hx, hb, hml, hown, hts, hbs, hR, hXt, hnm, hret⟩ := id F
  have nn : ∀ z : Int32, ¬ z < 0 → z.toInt = (z.toNatClampNeg : Int) := by
    intro z hz
    have hz0 : (0 : Int) ≤ z.toInt := by
      have := Int32.not_lt.mp hz
      simpa using Int32.le_iff_toInt_le.mp this
    show z.toInt = ((z.toInt.toNat : Nat) : Int)
    omega
  obtain ⟨t0, ht0⟩ := Y.2.2.2.2.1 (i0 - 4) (by have := ho0.1; have := ho0.2.1; omega) _ _ (by rw [show i0 - 4 + 4 = i0 by have := ho0.1; omega]; exact ho0.2.2)
  obtain ⟨t1, ht1⟩ := Y.2.2.2.2.1 (i1 - 4) (by have := ho1.1; have := ho1.2.1; omega) _ _ (by rw [show i1 - 4 + 4 = i1 by have := ho1.1; omega]; exact ho1.2.2)
  have hc0 : H[adr base x i0]? = some (arrV (ca (i0 - 4)) n0 (fun q => .int (f q))) := Y.2.1 _ _ (wd_at (base := base) (x := x) (ca := ca) ho0.1 ho0.2.1 ho0.2.2)
  have hc1 : H[adr base x i1]? = some (arrV (ca (i1 - 4)) n1 (fun q => .int (g q))) := Y.2.1 _ _ (wd_at (base := base) (x := x) (ca := ca) ho1.1 ho1.2.1 ho1.2.2)
  obtain ⟨-, k0, hk0, cm0, hkk0⟩ := (Y.1.2 t0 _ ht0).1 n0 (fun j => .int (f j))
  obtain ⟨-, k1, hk1, cm1, hkk1⟩ := (Y.1.2 t1 _ ht1).1 n1 (fun j => .int (g j))
  intro T hT X
  obtain ⟨vm', X', step⟩ := X.arraycopy hx hown (hts _ hlk) (hts _ hnat) (hts _ hstat) (hts _ hini) (src := adr base x i0) (dst := adr base x i1) (srcPos := sp) (destPos := dp) (n := n) (by rw [hT]; exact hc0) (by rw [hT]; exact hc1)
    (fun _ h => by cases h) (fun _ h => by cases h) (fun h => by cases h) (fun h => by cases h) hk0 hk1 hkk0 hkk1 (by show ((refKind FieldType.int != refKind FieldType.int) || (!refKind FieldType.int && FieldType.int != FieldType.int)) = false; decide) h1 h2 h3
    (by rw [nn sp h1, nn n h3, arrV_size]; omega)
    (by rw [nn dp h2, nn n h3, arrV_size]; omega)
    (fun vm₁ _ i hi => by
      have e : (arrV (ca (i0 - 4)) n0 (fun q => .int (f q))).slots.getD (sp.toNatClampNeg + i) .null = .int (f (sp.toNatClampNeg + i)) := by
        rw [Array.getD_eq_getD_getElem?, arrV_read _ _ (by omega)]
        rfl
      refine ⟨?_, ?_⟩
      · rw [e]
        rfl
      · rw [e]
        exact trivial)
    (g := F0 m pc lsA ((.int n :: .int dp :: .ref i1 :: .int sp :: .ref i0 :: st).map (trV (adr base x)))) rfl (by rw [hml]; exact L.1) (rest := st.map (trV (adr base x))) rfl (by rw [hb]; exact hf) (by omega) (by
      show 2 * 0 + ((st.map (trV (adr base x))).map fun v => v.category).sum + (nativeFrameWords "java/lang/System" "arraycopy" 5 + 11) ≤ R.locals
      rw [trV_catsum, show nativeFrameWords "java/lang/System" "arraycopy" 5 = 7 by decide]
      omega)
  have e1 : copied (arrV (ca (i0 - 4)) n0 (fun q => .int (f q))) (arrV (ca (i1 - 4)) n1 (fun q => .int (g q))) sp dp n = arrV (ca (i1 - 4)) n1 (fun q => .int (va_cpy f g sp.toNatClampNeg dp.toNatClampNeg n.toNatClampNeg q)) := va_copied (fun z => .int z) _ _ f g h4
  rw [e1] at X' step
  have hl : adr base x i1 < H.size := (Array.getElem?_eq_some_iff.mp hc1).1
  generalize hcl : arrV (ca (i1 - 4)) n1 (fun q => .int (va_cpy f g sp.toNatClampNeg dp.toNatClampNeg n.toNatClampNeg q)) = cl at X' step
  have hheap : ((T.setVm vm').setCell (adr base x i1) cl).heap = H.setIfInBounds (adr base x i1) cl := by rw [← hT]; rfl
  have oq : ∀ q : Nat, q ≠ adr base x i1 → (H.setIfInBounds (adr base x i1) cl)[q]? = H[q]? := fun q hq => by simp [Array.getElem?_setIfInBounds, Ne.symm hq]
  have Y2 := Y.set (j := 0) (H1 := H.setIfInBounds (adr base x i1) cl) (c := .inr (.int, n1, .inl (va_cpy f g sp.toNatClampNeg dp.toNatClampNeg n.toNatClampNeg))) ho1.1 ho1.2.1 (fun ty a q => by cases q; exact ⟨_, ho1.2.2⟩) (show (H.setIfInBounds (adr base x i1) cl)[adr base x i1]? = some (arrV (ca (i1 - 4)) n1 (fun q => .int (va_cpy f g sp.toNatClampNeg dp.toNatClampNeg n.toNatClampNeg q))) by rw [hcl]; simp [Array.getElem?_setIfInBounds, hl]) (by simp) oq
  have Y3 : Dy R s D base x E (H.setIfInBounds (adr base x i1) cl) (locs ++ ((arrV (ca (i0 - 4)) n0 (fun q => .int (f q))).stretch sp.toNatClampNeg n.toNatClampNeg).zipIdx.map fun q => ⟨adr base x i1, dp.toNatClampNeg + q.2⟩) (cells + kc) (slots + ks) ca tys (hset h i1 (.inr (.int, n1, .inl (va_cpy f g sp.toNatClampNeg dp.toNatClampNeg n.toNatClampNeg)))) :=
    ⟨Y2.1, Y2.2.1, ⟨Y2.2.2.1.1, Y2.2.2.1.2.1, fun q hq => by
      rcases List.mem_append.mp hq with h | h
      · exact Y.2.2.1.2.2 q h
      · obtain ⟨z, -, hz⟩ := List.mem_map.mp h
        rw [← hz]
        show base ≤ adr base x i1
        rw [adr_ge ho1.1]
        omega⟩, Y2.2.2.2⟩
  obtain ⟨t, a1, b1⟩ := k p l e R s m args below meth c Z D base x E _ _ cells slots ca tys lsA F Y3 L _ hheap X'
  exact ⟨t, step t a1, b1⟩
theorem T_gets {idx i : Nat} {C n : String} (hf : decode M.2.1 pc = .ok (.getstatic idx, 3)) (hi : (i = 1 ∧ C = RX7 ∧ n = "KIND_ABOVE") ∨ (i = 2 ∧ C = RX1 ∧ n = "SIZE_BODIES") ∨ (i = 3 ∧ C = RX1 ∧ n = "MARK_BODIES")) (hlk : Cond.fieldLink M.1.cls idx C n "[I" ∈ lw_g) (hp : pc + 3 = pc2) (k : T M d kc ks pc2 ls (.ref i :: st) h Q) : T M d kc ks pc ls st h Q := by
  subst hp
  intro p l e R s m args below meth c Z D base x E H locs cells slots ca tys lsA F Y L
  obtain ⟨hx, hb, hml, hown, hts, hbs, hR, hXt, hnm, hret⟩ := id F
  have hZ : va_Z C n "[I" (.ref (x i)) (fun q => base ≤ q) s s.heap := by
    rcases hi with ⟨rfl, rfl, rfl⟩ | ⟨rfl, rfl, rfl⟩ | ⟨rfl, rfl, rfl⟩
    · exact hXt.2.1
    · exact hXt.2.2.1
    · exact hXt.2.2.2.1
  have hk := (k p l e R s m args below meth c Z D base x E H locs cells slots ca tys lsA F Y L)
  rw [List.map_cons, show trV (adr base x) (.ref i) = .ref (x i) by show Value.ref (adr base x i) = _; rw [adr_lt (by omega)]] at hk
  exact va_gets hx hb hZ Y.2.2.1 hown (hts _ hlk) (fun _ h9 => h9) hf hk
theorem T_getsN {idx i : Nat} {C n host : String} (hf : decode M.2.1 pc = .ok (.getstatic idx, 3)) (hi : (i = 1 ∧ C = RX7 ∧ n = "KIND_ABOVE") ∨ (i = 2 ∧ C = RX1 ∧ n = "SIZE_BODIES") ∨ (i = 3 ∧ C = RX1 ∧ n = "MARK_BODIES")) (hlk : Cond.fieldLinkNest M.1.cls idx C n "[I" host ∈ nestW) (hp : pc + 3 = pc2) (k : T M d kc ks pc2 ls (.ref i :: st) h Q) : T M d kc ks pc ls st h Q := by
  subst hp
  intro p l e R s m args below meth c Z D base x E H locs cells slots ca tys lsA F Y L
  obtain ⟨hx, hb, hml, hown, hts, hbs, hR, hXt, hnm, hret⟩ := id F
  have hZ : va_Z C n "[I" (.ref (x i)) (fun q => base ≤ q) s s.heap := by
    rcases hi with ⟨rfl, rfl, rfl⟩ | ⟨rfl, rfl, rfl⟩ | ⟨rfl, rfl, rfl⟩
    · exact hXt.2.1
    · exact hXt.2.2.1
    · exact hXt.2.2.2.1
  have hk := (k p l e R s m args below meth c Z D base x E H locs cells slots ca tys lsA F Y L)
  rw [List.map_cons, show trV (adr base x) (.ref i) = .ref (x i) by show Value.ref (adr base x i) = _; rw [adr_lt (by omega)]] at hk
  exact va_getsN hx hb hZ Y.2.2.1 hown (va_Nw.use rfl (hXt.2.2.2.2.1 _ hlk)) (fun _ h9 => h9) hf hk
theorem T_objinit {idx i : Nat} (hf : decode M.2.1 pc = .ok (.invokespecial idx, 3)) (hlk : Cond.methodLink M.1.cls idx Lib.objectInit ∈ lw_g) (hst : (st.map fun v => v.category).sum ≤ 8) (hp : pc + 3 = pc2) (k : T M d kc ks pc2 ls st h Q) : T M d kc ks pc ls (.ref i :: st) h Q := by
  subst hp
  intro p l e R s m args below meth c Z D base x E H locs cells slots ca tys lsA F Y L
  obtain ⟨hx, hb, hml, hown, hts, hbs, hR, hXt, hnm, hret⟩ := id F
  exact W.objInit hx hb hown (hts _ hlk) (hts _ objI_in) (hts _ objC_in) rfl (by rw [hml]; exact L.1) rfl hf (by omega) (by
      show 2 * 0 + ((st.map (trV (adr base x))).map fun v => v.category).sum + 12 ≤ R.locals
      rw [trV_catsum]
      omega) (k p l e R s m args below meth c Z D base x E H locs cells slots ca tys lsA F Y L)
theorem T_ret (hf : decode M.2.1 pc = .ok (.return_, 1)) (hr : M.2.2.2 = none) (k : Q none h) : T M d kc ks pc ls [] h Q := by
  intro p l e R s m args below meth c Z D base x E H locs cells slots ca tys lsA F Y L
  obtain ⟨hx, hb, hml, hown, hts, hbs, hR, hXt, hnm, hret⟩ := id F
  exact hret pc none h H locs cells slots ca tys lsA (Or.inl ⟨rfl, hr, hf⟩) (Y.budget (by omega) (by omega)) k
theorem T_iret {v : Int32} {ty : FieldType} (hf : decode M.2.1 pc = .ok (.ireturn, 1)) (hr : M.2.2.2 = some ty) (hn : narrow ty (.int v) = .int v) (k : Q (some (.int v)) h) : T M d kc ks pc ls [.int v] h Q := by
  intro p l e R s m args below meth c Z D base x E H locs cells slots ca tys lsA F Y L
  obtain ⟨hx, hb, hml, hown, hts, hbs, hR, hXt, hnm, hret⟩ := id F
  exact hret pc (some (.int v)) h H locs cells slots ca tys lsA (Or.inr (Or.inl ⟨v, ty, rfl, hr, hn, hf⟩)) (Y.budget (by omega) (by omega)) k
theorem T_lret {v : Int64} (hf : decode M.2.1 pc = .ok (.lreturn, 1)) (hr : M.2.2.2 = some .long) (k : Q (some (.long v)) h) : T M d kc ks pc ls [.long v] h Q := by
  intro p l e R s m args below meth c Z D base x E H locs cells slots ca tys lsA F Y L
  obtain ⟨hx, hb, hml, hown, hts, hbs, hR, hXt, hnm, hret⟩ := id F
  exact hret pc (some (.long v)) h H locs cells slots ca tys lsA (Or.inr (Or.inr ⟨v, rfl, hr, hf⟩)) (Y.budget (by omega) (by omega)) k
/-! calls -/
def wsm (M : MI) : List Cond := .code M.1 M.2.1 M.2.2.1 M.2.2.2 :: lw_g
def PcB (D : va_G) (base : Nat) (x : Nat → Nat) (ca : Nat → ClassId) (tys : List (ClassId × FieldType)) (E : Nat → SC) (h : SH) (U : State) : Prop :=
  va_K D vwCl tys U ∧ va_P D vwCl (wd base x ca h) U.heap ∧ U.heap.size = base + h.2 ∧ Tys tys ca h ∧ (∀ i, i < 4 → h.1 i = E i) ∧ Xt x base E U
def QcB (D : va_G) (base : Nat) (x : Nat → Nat) (E : Nat → SC) (Q : Option Value → SH → Prop) : Array Value → State → Outcome → State → Prop := fun _ st o t =>
  (∃ (r : Option Value) (h' : SH) (ca' : Nat → ClassId) (tys' : List (ClassId × FieldType)), o = .returned (r.map (trV (adr base x))) ∧ Q r h' ∧ va_K D vwCl tys' t ∧ va_P D vwCl (wd base x ca' h') t.heap ∧ t.heap.size = base + h'.2 ∧ Tys tys' ca' h' ∧ ∀ i, i < 4 → h'.1 i = E i) ∧ va_F (fun q => base ≤ q) st t
def Calls (M : MI) (d mc ms : Nat) (av : List Value) (h : SH) (Q : Option Value → SH → Prop) : Prop :=
  ∀ (l : Launch) (D : va_G) (base : Nat) (x : Nat → Nat) (ca : Nat → ClassId) (tys : List (ClassId × FieldType)) (E : Nat → SC),
    Met l M.1 (wsm M) { frames := d + 1, cells := mc, slots := ms, locals := 64 * (d + 1) } (va_Pc (av.map (trV (adr base x))) (PcB D base x ca tys E h)) (QcB D base x E Q) mc ms (fun q => base ≤ q)
theorem lv_args_tr (a : Nat → Nat) : ∀ (av : List Value) (i : Nat), lv_args i (av.map (trV a)) = (lv_args i av).map (trL a)
  | [], _ => rfl
  | v :: vs, i => by
    show (i, trV a v) :: lv_args (if (trV a v).category = 2 then i + 2 else i + 1) (vs.map (trV a)) = _
    rw [lv_args_tr a vs, trV_cat]
    rfl
theorem lg_sl_tr (a : Nat → Nat) (av : List Value) : (lg_sl (av.map (trV a))).length = (lg_sl av).length := by
  induction av with
  | nil => rfl
  | cons v vs ih =>
    unfold lg_sl at ih ⊢
    simp only [List.map_cons, List.flatMap_cons, List.length_append, trV_cat]
    rw [ih]
    split <;> rfl
theorem Calls.of {mc ms : Nat} {av : List Value} (hpl : plainName M.1.cls = true) (hlen : (lg_sl av).length ≤ M.2.2.1) (k : T M d mc ms 0 (lv_args 0 av) [] h Q) : Calls M d mc ms av h Q := by
  intro l D base x ca tys E
  refine Met.ofW (cc := M.2.1) (maxL := M.2.2.1) (ret := M.2.2.2) hpl rfl ?_
  intro p e s m args below meth c s₁ B hml hv
  obtain ⟨rfl, hK, hP, hz, hT, hE, hX⟩ := hv
  have hts := atoms_spec (ws := wsm M) B.pre
  have hown : s.vm.findClass M.1.cls = some m.cls := findClass_of_methodNamed B.named
  have hlocks := B.notSynchronized
  rw [lg_entry_eq]
  have L := lv_entry (av.map (trV (adr base x))) (n := M.2.2.1) (by rw [lg_sl_tr]; exact hlen)
  rw [lv_args_tr] at L
  refine k p l e _ s m _ below meth c _ D base x E s.heap [] 0 0 ca tys _ ⟨B.exec, B.bytes, hml, hown, fun w hw => hts w (List.mem_cons_of_mem _ hw), by rw [hz]; omega, ⟨Nat.le_refl _, Nat.le_refl _⟩, hX, (name_of_methodNamed B.named B.method).1, ?_⟩ ⟨hK, hP, va_S.rf, hz, hT, hE, by simp [headSpec], by simp [headSpec]⟩ L
  intro pc r h' H' locs' cells' slots' ca' tys' lsA' hra Y hQ
  have hb1 : cells' ≤ mc := Y.2.2.2.2.2.2.1
  have hb2 : slots' ≤ ms := Y.2.2.2.2.2.2.2
  have hend : ∀ t : State, t.heap = H' → s.WarmedH t.vm → QcB D base x E Q (av.map (trV (adr base x))).toArray s (.returned (r.map (trV (adr base x)))) t := fun t ht hW =>
    ⟨⟨r, h', ca', tys', rfl, hQ, va_K.moved hW.alike Y.1, by rw [ht]; exact Y.2.1, by rw [ht]; exact Y.2.2.2.1, Y.2.2.2.2.1, Y.2.2.2.2.2.1⟩, Y.2.2.1.F ht⟩
  refine W.widen (k := mc) (n := ms) hb1 hb2 ?_
  rcases hra with ⟨rfl, hr, hd⟩ | ⟨v, ty, rfl, hr, hn, hd⟩ | ⟨v, rfl, hr, hd⟩
  · exact W.vret B.exec B.bytes (B.returns.trans hr) hend Y.2.2.1.2.2 hd
  · exact W.zret B.exec B.bytes (B.returns.trans hr) hn hend Y.2.2.1.2.2 hd
  · exact W.lret B.exec B.bytes (B.returns.trans hr) hend Y.2.2.1.2.2 hd
theorem Xt.same {x : Nat → Nat} {base : Nat} {E : Nat → SC} {u U : State} (hX : Xt x base E u) (hv : u.vm.Alike U.vm) (hN : Nws U) (hh : ∀ a : Nat, a < u.heap.size → ¬ base ≤ a → U.heap[a]? = u.heap[a]?) : Xt x base E U := by
  refine ⟨fun i hi => ?_, (hX.2.1.kept hh).moved hv, (hX.2.2.1.kept hh).moved hv, (hX.2.2.2.1.kept hh).moved hv, hN⟩
  obtain ⟨n, f, e1, h1⟩ := hX.1 i hi
  exact ⟨n, f, e1, (h1.kept hh).moved hv⟩
theorem Nws.same {u U : State} (h : Nws u) (e : u.vm = U.vm) : Nws U := by
  have ha : u.vm.Alike U.vm := by rw [e]; exact Vm.Alike.refl _
  refine ⟨fun w hw => ?_, h.2.1.moved ha, h.2.2.moved ha⟩
  have h1 := h.1 w hw
  have h2 := (List.mem_filter.mp hw).2
  cases w <;> first | (exact va_Nw.same rfl e h1) | (cases h2)
theorem PcB.blind {D : va_G} {base : Nat} {x : Nat → Nat} {ca : Nat → ClassId} {tys : List (ClassId × FieldType)} {E : Nat → SC} {av : List Value} : FrameBlind (va_Pc av (PcB D base x ca tys E h)) := by
  intro a U g mk q
  obtain ⟨q0, hK, hP, hz, hT, hE, hX⟩ := q
  exact ⟨q0, va_K.moved (u := U) (U := U.calling g mk a) (Vm.Alike.refl U.vm) hK, hP, hz, hT, hE, hX.same (U := U.calling g mk a) (Vm.Alike.refl U.vm) (hX.2.2.2.2.same (U := U.calling g mk a) rfl) (fun _ _ _ => rfl)⟩
theorem PcB.pre {R : Room} {s : State} {D : va_G} {base : Nat} {x : Nat → Nat} {E : Nat → SC} {H : Heap} {locs : List Loc} {cells slots : Nat} {ca : Nat → ClassId} {tys : List (ClassId × FieldType)} (Y : Dy R s D base x E H locs cells slots ca tys h) (hX : Xt x base E s) (av : List Value) : ∀ U : State, U.heap = H → s.WarmedH U.vm → va_Pc (av.map (trV (adr base x))) (PcB D base x ca tys E h) (av.map (trV (adr base x))).toArray U := by
  intro U hU hW
  refine ⟨rfl, va_K.moved hW.alike Y.1, by rw [hU]; exact Y.2.1, by rw [hU]; exact Y.2.2.2.1, Y.2.2.2.2.1, Y.2.2.2.2.2.1, hX.same hW.alike (hX.2.2.2.2.warm hW) (fun a h1 h2 => ?_)⟩
  rw [hU]
  exact Y.2.2.1.2.1 a h1 h2
theorem run_W {p : Program} {l : Launch} {e : Env} {R : Room} {s : State} {m : MethodId} {args : Array Value} {below : List Frame} {meth : Method} {c : Code} {Z : State → Prop} {D : va_G} {base : Nat} {x : Nat → Nat} {E : Nat → SC} {H : Heap} {locs : List Loc} {cells slots mc ms : Nat} {ca : Nat → ClassId} {tys : List (ClassId × FieldType)} {lsA : Array Slot} {st0 rest : List Value} {a : Array Value} {Q1 : Option Value → SH → Prop}
    (hrun : va_Run p l e R s m args below meth c H locs cells slots mc ms (F0 m pc lsA st0) rest (QcB D base x E Q1 a) (fun q => base ≤ q)) (Y : Dy R s D base x E H locs (cells + (kc + mc)) (slots + (ks + ms)) ca tys h)
    (kk : ∀ (r : Option Value) (h' : SH) (H1 : Heap) (locs1 : List Loc) (ca' : Nat → ClassId) (tys' : List (ClassId × FieldType)), Q1 r h' → Dy R s D base x E H1 locs1 (cells + mc + kc) (slots + ms + ks) ca' tys' h' → W p l e R s m args below meth c H1 locs1 (cells + mc) (slots + ms) Z (F0 m (pc + 3) lsA ((r.map (trV (adr base x))).toList ++ rest))) :
    W p l e R s m args below meth c H locs cells slots Z (F0 m pc lsA st0) := by
  intro T hT X
  obtain ⟨v, st₀, t, T', L, h0, X', hL, e1, e2, ⟨⟨r, h', ca', tys', hv, hq, hK, hP, hz, hTy, hE⟩, hz2, hk⟩, st⟩ := hrun T hT X
  cases hv
  rw [h0] at hz2 hk
  have hal : t.vm.Alike s.vm := by rw [← e2]; exact X'.warmed.alike.symm
  have hS := Y.2.2.1
  obtain ⟨t2, a1, b1⟩ := kk r h' T'.heap (locs ++ L) ca' tys' hq ⟨va_K.moved hal hK, by rw [e1]; exact hP, ⟨Nat.le_trans hS.1 (by rw [e1]; exact hz2), fun q h1 h2 => by rw [e1, hk q (Nat.lt_of_lt_of_le h1 hS.1) h2]; exact hS.2.1 q h1 h2, fun q hq => by
      rcases List.mem_append.mp hq with h | h
      · exact hS.2.2 q h
      · exact hL q h⟩, by rw [e1]; exact hz, hTy, hE, by have := Y.2.2.2.2.2.2.1; omega, by have := Y.2.2.2.2.2.2.2; omega⟩ T' rfl X'
  exact ⟨t2, st t2 a1, b1⟩
/-- what is known of a method that is called: n parameters -/
def CM (M : MI) (n : Nat) : Prop := Cond.code M.1 M.2.1 M.2.2.1 M.2.2.2 ∈ lw_g ∧ M.2.2.1 ≤ 40 ∧ Cond.initialized M.1.cls ∈ lw_g ∧ (M.1.cls ≠ "java/lang/invoke/MethodHandle" ∧ M.1.cls ≠ "java/lang/invoke/VarHandle" ∧ (parseMethodDescriptor M.1.desc).map (fun d => d.parameters.length) = some n)
theorem gi {M : MI} {n : Nat} (h : CM M n) : GoodIn lw_g (wsm M) := by
  intro w hw
  rcases List.mem_cons.mp hw with rfl | hw
  · exact ⟨h.1, good_of_word (lw_g_good _ h.1)⟩
  · exact ⟨hw, good_of_word (lw_g_good _ hw)⟩
theorem gi_app {ws : List Cond} {M : MI} {n : Nat} (h : CM M n) (hw : ∀ w ∈ ws, w ∈ lw_g) : GoodIn lw_g (ws ++ wsm M) := by
  intro w hq
  rcases List.mem_append.mp hq with hq | hq
  · exact ⟨hw _ hq, good_of_word (lw_g_good _ (hw _ hq))⟩
  · exact gi h w hq
def CV (M : MI) (ci n : Nat) : Prop := CM M n ∧ ci < 9 ∧ M.1.cls = RR ci ∧ Cond.instanceMethod M.1 ∈ lw_g ∧ Cond.selects (RR ci) M.1 M.1 ∈ lw_g
def CSt (M : MI) (n : Nat) : Prop := CM M n ∧ Cond.static M.1 ∈ lw_g
def CI (M : MI) (n : Nat) : Prop := CM M n ∧ M.1.name = "<init>" ∧ M.2.2.2 = none ∧ Cond.instanceMethod M.1 ∈ lw_g
theorem T_callV {M2 : MI} {idx i ci n mc ms : Nat} {fs As : List Value} (hf : decode M.2.1 pc = .ok (.invokevirtual idx, 3)) (hc : CV M2 ci n) (hlk : Cond.methodLink M.1.cls idx M2.1 ∈ lw_g) (ho : hob h i ci fs) (hn : As.length = n) (hst : (st.map fun v => v.category).sum ≤ 8) (hp : pc + 3 = pc2)
    (k : Calls M2 d mc ms (.ref i :: As) h (fun r h' => T M (d + 1) kc ks pc2 ls (r.toList ++ st) h' Q)) : T M (d + 1) (kc + mc) (ks + ms) pc ls (As.reverse ++ .ref i :: st) h Q := by
  subst hp
  intro p l e R s m args below meth c Z D base x E H locs cells slots ca tys lsA F Y L
  obtain ⟨hx, hb, hml, hown, hts, hbs, hR, hXt, hnm, hret⟩ := id F
  have hrun := va_runV (l := l) (p := p) (e := e) (below := below) (meth := meth) (locs := locs) (cells := cells) (slots := slots) (nL := M.2.2.1) (own := M.1.cls) (C := RR ci) (index := idx) (bytes := M2.2.1) (maxL := M2.2.2.1) (ret := M2.2.2.2) (n := n) (b := adr base x i) (As := As.map (trV (adr base x))) (rest := st.map (trV (adr base x))) (g := F0 m pc lsA ((As.reverse ++ .ref i :: st).map (trV (adr base x)))) (Ts := lw_g) ⟨hx, hb, hml, hown, hts⟩ (k l D base x ca tys E)
    (cwV n hts (gi_app hc.1 (fun w hw => by
      simp only [List.mem_cons, List.not_mem_nil, or_false] at hw
      rcases hw with rfl | rfl | rfl | rfl
      · exact hlk
      · exact hc.2.2.2.1
      · exact hc.2.2.2.2
      · exact hc.2.2.1 ▸ hc.1.2.2.1)) rfl rfl rfl ⟨hc.2.2.1, hc.1.2.2.2⟩ ⟨by show d + 1 + 1 ≤ R.frames; omega, by show 8 + (M2.2.2.1 + 11) + 64 * (d + 1) ≤ R.locals; have := hc.1.2.1; omega⟩)
    ⟨PcB.blind, va_recv Y.1 Y.2.1 (vwCl_get ci hc.2.1) (wd_at ho.1 ho.2.1 ho.2.2), PcB.pre Y hXt (.ref i :: As)⟩ rfl (by rw [List.length_map]; exact hn) L.1 (by simp [trV]) (by show 2 * 0 + _ ≤ 8; rw [trV_catsum]; omega) hf ⟨by have := Y.2.2.2.2.2.2.1; omega, by have := Y.2.2.2.2.2.2.2; omega⟩
  refine run_W hrun Y ?_
  intro r h' H1 locs1 ca' tys' hq Y2
  have hk := hq p l e R s m args below meth c Z D base x E H1 locs1 (cells + mc) (slots + ms) ca' tys' lsA (by exact F) Y2 L
  rw [List.map_append] at hk
  have er : (r.map (trV (adr base x))).toList = r.toList.map (trV (adr base x)) := by cases r <;> rfl
  rw [er]
  exact hk
theorem T_callS {M2 : MI} {idx n mc ms : Nat} {As : List Value} (hf : decode M.2.1 pc = .ok (.invokestatic idx, 3)) (hc : CSt M2 n) (hlk : Cond.methodLink M.1.cls idx M2.1 ∈ lw_g) (hn : As.length = n) (hst : (st.map fun v => v.category).sum ≤ 8) (hp : pc + 3 = pc2)
    (k : Calls M2 d mc ms As h (fun r h' => T M (d + 1) kc ks pc2 ls (r.toList ++ st) h' Q)) : T M (d + 1) (kc + mc) (ks + ms) pc ls (As.reverse ++ st) h Q := by
  subst hp
  intro p l e R s m args below meth c Z D base x E H locs cells slots ca tys lsA F Y L
  obtain ⟨hx, hb, hml, hown, hts, hbs, hR, hXt, hnm, hret⟩ := id F
  have hrun := va_runS (l := l) (p := p) (e := e) (below := below) (meth := meth) (locs := locs) (cells := cells) (slots := slots) (nL := M.2.2.1) (own := M.1.cls) (index := idx) (bytes := M2.2.1) (maxL := M2.2.2.1) (ret := M2.2.2.2) (n := n) (As := As.map (trV (adr base x))) (rest := st.map (trV (adr base x))) (g := F0 m pc lsA ((As.reverse ++ st).map (trV (adr base x)))) (Ts := lw_g) ⟨hx, hb, hml, hown, hts⟩ (k l D base x ca tys E)
    (va_cwS n hts (gi_app hc.1 (fun w hw => by
      simp only [List.mem_cons, List.not_mem_nil, or_false] at hw
      rcases hw with rfl | rfl | rfl
      · exact hlk
      · exact hc.2
      · exact hc.1.2.2.1)) rfl rfl rfl hc.1.2.2.2 ⟨by show d + 1 + 1 ≤ R.frames; omega, by show 8 + (M2.2.2.1 + 11) + 64 * (d + 1) ≤ R.locals; have := hc.1.2.1; omega⟩)
    ⟨PcB.blind, PcB.pre Y hXt As⟩ rfl (by rw [List.length_map]; exact hn) L.1 (by simp) (by show 2 * 0 + _ ≤ 8; rw [trV_catsum]; omega) hf ⟨by have := Y.2.2.2.2.2.2.1; omega, by have := Y.2.2.2.2.2.2.2; omega⟩
  refine run_W hrun Y ?_
  intro r h' H1 locs1 ca' tys' hq Y2
  have hk := hq p l e R s m args below meth c Z D base x E H1 locs1 (cells + mc) (slots + ms) ca' tys' lsA (by exact F) Y2 L
  rw [List.map_append] at hk
  have er : (r.map (trV (adr base x))).toList = r.toList.map (trV (adr base x)) := by cases r <;> rfl
  rw [er]
  exact hk
theorem T_callSN {M2 : MI} {idx n mc ms : Nat} {host : String} {As : List Value} (hf : decode M.2.1 pc = .ok (.invokestatic idx, 3)) (hc : CSt M2 n) (hlk : Cond.methodLinkNest M.1.cls idx M2.1 host ∈ nestW) (hn : As.length = n) (hst : (st.map fun v => v.category).sum ≤ 8) (hp : pc + 3 = pc2)
    (k : Calls M2 d mc ms As h (fun r h' => T M (d + 1) kc ks pc2 ls (r.toList ++ st) h' Q)) : T M (d + 1) (kc + mc) (ks + ms) pc ls (As.reverse ++ st) h Q := by
  subst hp
  intro p l e R s m args below meth c Z D base x E H locs cells slots ca tys lsA F Y L
  obtain ⟨hx, hb, hml, hown, hts, hbs, hR, hXt, hnm, hret⟩ := id F
  have hrun := va_runSN (l := l) (p := p) (e := e) (below := below) (meth := meth) (locs := locs) (cells := cells) (slots := slots) (nL := M.2.2.1) (own := M.1.cls) (host := host) (index := idx) (bytes := M2.2.1) (maxL := M2.2.2.1) (ret := M2.2.2.2) (n := n) (As := As.map (trV (adr base x))) (rest := st.map (trV (adr base x))) (g := F0 m pc lsA ((As.reverse ++ st).map (trV (adr base x)))) (Ts := lw_g) ⟨hx, hb, hml, hown, hts⟩ (k l D base x ca tys E)
    ⟨va_cnB n hts (gi hc.1) rfl rfl rfl (hXt.2.2.2.2.1 _ hlk) (hts _ hc.1.2.2.1) hc.1.2.2.2 ⟨by show d + 1 + 1 ≤ R.frames; omega, by show 8 + (M2.2.2.1 + 11) + 64 * (d + 1) ≤ R.locals; have := hc.1.2.1; omega⟩, hts _ hc.2, trivial⟩
    ⟨PcB.blind, PcB.pre Y hXt As⟩ rfl (by rw [List.length_map]; exact hn) L.1 (by simp) (by show 2 * 0 + _ ≤ 8; rw [trV_catsum]; omega) hf ⟨by have := Y.2.2.2.2.2.2.1; omega, by have := Y.2.2.2.2.2.2.2; omega⟩
  refine run_W hrun Y ?_
  intro r h' H1 locs1 ca' tys' hq Y2
  have hk := hq p l e R s m args below meth c Z D base x E H1 locs1 (cells + mc) (slots + ms) ca' tys' lsA (by exact F) Y2 L
  rw [List.map_append] at hk
  have er : (r.map (trV (adr base x))).toList = r.toList.map (trV (adr base x)) := by cases r <;> rfl
  rw [er]
  exact hk
theorem T_callI {M2 : MI} {idx i n mc ms : Nat} {As : List Value} (hf : decode M.2.1 pc = .ok (.invokespecial idx, 3)) (hc : CI M2 n) (hlk : Cond.methodLink M.1.cls idx M2.1 ∈ lw_g) (hn : As.length = n) (hst : (st.map fun v => v.category).sum ≤ 8) (hp : pc + 3 = pc2)
    (k : Calls M2 d mc ms (.ref i :: As) h (fun r h' => T M (d + 1) kc ks pc2 ls (r.toList ++ st) h' Q)) : T M (d + 1) (kc + mc) (ks + ms) pc ls (As.reverse ++ .ref i :: st) h Q := by
  subst hp
  intro p l e R s m args below meth c Z D base x E H locs cells slots ca tys lsA F Y L
  obtain ⟨hx, hb, hml, hown, hts, hbs, hR, hXt, hnm, hret⟩ := id F
  have hrun := va_runI (l := l) (p := p) (e := e) (below := below) (meth := meth) (locs := locs) (cells := cells) (slots := slots) (nL := M.2.2.1) (own := M.1.cls) (index := idx) (bytes := M2.2.1) (maxL := M2.2.2.1) (n := n) (b := adr base x i) (As := As.map (trV (adr base x))) (rest := st.map (trV (adr base x))) (g := F0 m pc lsA ((As.reverse ++ .ref i :: st).map (trV (adr base x)))) (Ts := lw_g) ⟨hx, hb, hml, hown, hts⟩ (k l D base x ca tys E)
    (cwI n hts (gi hc.1) (show wsm M2 = Cond.code M2.1 M2.2.1 M2.2.2.1 none :: lw_g by rw [← hc.2.2.1]; rfl) rfl rfl (hts _ hc.1.2.2.1) (hts _ hlk) (hts _ hc.2.2.2) hc.2.1 hc.1.2.2.2 ⟨by show d + 1 + 1 ≤ R.frames; omega, by show 8 + (M2.2.2.1 + 11) + 64 * (d + 1) ≤ R.locals; have := hc.1.2.1; omega⟩)
    ⟨PcB.blind, PcB.pre Y hXt (.ref i :: As)⟩ rfl (by rw [List.length_map]; exact hn) L.1 (by simp [trV]) (by show 2 * 0 + _ ≤ 8; rw [trV_catsum]; omega) hf ⟨by have := Y.2.2.2.2.2.2.1; omega, by have := Y.2.2.2.2.2.2.2; omega⟩
  refine run_W hrun Y ?_
  intro r h' H1 locs1 ca' tys' hq Y2
  have hk := hq p l e R s m args below meth c Z D base x E H1 locs1 (cells + mc) (slots + ms) ca' tys' lsA (by exact F) Y2 L
  rw [List.map_append] at hk
  have er : (r.map (trV (adr base x))).toList = r.toList.map (trV (adr base x)) := by cases r <;> rfl
  rw [er]
  exact hk
theorem T_callIN {M2 : MI} {idx i n mc ms : Nat} {host : String} {As : List Value} (hf : decode M.2.1 pc = .ok (.invokespecial idx, 3)) (hc : CI M2 n) (hlk : Cond.methodLinkNest M.1.cls idx M2.1 host ∈ nestW) (hn : As.length = n) (hst : (st.map fun v => v.category).sum ≤ 8) (hp : pc + 3 = pc2)
    (k : Calls M2 d mc ms (.ref i :: As) h (fun r h' => T M (d + 1) kc ks pc2 ls (r.toList ++ st) h' Q)) : T M (d + 1) (kc + mc) (ks + ms) pc ls (As.reverse ++ .ref i :: st) h Q := by
  subst hp
  intro p l e R s m args below meth c Z D base x E H locs cells slots ca tys lsA F Y L
  obtain ⟨hx, hb, hml, hown, hts, hbs, hR, hXt, hnm, hret⟩ := id F
  have hrun := va_runIN (l := l) (p := p) (e := e) (below := below) (meth := meth) (locs := locs) (cells := cells) (slots := slots) (nL := M.2.2.1) (own := M.1.cls) (host := host) (index := idx) (bytes := M2.2.1) (maxL := M2.2.2.1) (n := n) (b := adr base x i) (As := As.map (trV (adr base x))) (rest := st.map (trV (adr base x))) (g := F0 m pc lsA ((As.reverse ++ .ref i :: st).map (trV (adr base x)))) (Ts := lw_g) ⟨hx, hb, hml, hown, hts⟩ (k l D base x ca tys E)
    ⟨va_cnB n hts (gi hc.1) (show wsm M2 = Cond.code M2.1 M2.2.1 M2.2.2.1 none :: lw_g by rw [← hc.2.2.1]; rfl) rfl rfl (hXt.2.2.2.2.1 _ hlk) (hts _ hc.1.2.2.1) hc.1.2.2.2 ⟨by show d + 1 + 1 ≤ R.frames; omega, by show 8 + (M2.2.2.1 + 11) + 64 * (d + 1) ≤ R.locals; have := hc.1.2.1; omega⟩, hc.2.1, hts _ hc.2.2.2⟩
    ⟨PcB.blind, PcB.pre Y hXt (.ref i :: As)⟩ rfl (by rw [List.length_map]; exact hn) L.1 (by simp [trV]) (by show 2 * 0 + _ ≤ 8; rw [trV_catsum]; omega) hf ⟨by have := Y.2.2.2.2.2.2.1; omega, by have := Y.2.2.2.2.2.2.2; omega⟩
  refine run_W hrun Y ?_
  intro r h' H1 locs1 ca' tys' hq Y2
  have hk := hq p l e R s m args below meth c Z D base x E H1 locs1 (cells + mc) (slots + ms) ca' tys' lsA (by exact F) Y2 L
  rw [List.map_append] at hk
  have er : (r.map (trV (adr base x))).toList = r.toList.map (trV (adr base x)) := by cases r <;> rfl
  rw [er]
  exact hk
end TCalls
end
section
theorem cpN_in : Cond.native arraycopyName ∈ lw_g := gd 303 (by decide +kernel) (by decide +kernel)
theorem cpS_in : Cond.static arraycopyName ∈ lw_g := gd 302 (by decide +kernel) (by decide +kernel)
theorem cpI_in : Cond.initialized "java/lang/System" ∈ lw_g := gd 10 (by decide +kernel) (by decide +kernel)
theorem ai_in : Cond.arrayClass .int ∈ lw_g := gd 47 (by decide +kernel) (by decide +kernel)
theorem az_in : Cond.arrayClass .boolean ∈ lw_g := gd 46 (by decide +kernel) (by decide +kernel)
/-! THE HEAP AS NUMBERS: a shape sk, and what the int slots hold, g -/
abbrev SK : Type := (Nat × List (Option Value)) ⊕ (FieldType × Nat × Option (Nat → Option Nat))
def slotV (gi : Nat → Int32) : Nat → List (Option Value) → List Value
  | _, [] => []
  | k, none :: t => .int (gi k) :: slotV gi (k + 1) t
  | k, some v :: t => v :: slotV gi (k + 1) t
def cellOf (s : SK) (gi : Nat → Int32) : SC := match s with
  | .inl o => .inl (o.1, slotV gi 0 o.2)
  | .inr (ty, n, none) => .inr (ty, n, .inl gi)
  | .inr (ty, n, some f) => .inr (ty, n, .inr (.inr (.inr (.inr f))))
def HP (sk : Nat → SK) (g : Nat → Nat → Int32) (n : Nat) : SH := (fun i => cellOf (sk i) (g i), n)
def gset (g : Nat → Nat → Int32) (i k : Nat) (v : Int32) : Nat → Nat → Int32 := va_up g i (upd (g i) k v)
theorem slotV_get (gi : Nat → Int32) : ∀ (L : List (Option Value)) (k j : Nat), (slotV gi k L)[j]? = (L[j]?).map (fun o => o.getD (.int (gi (k + j))))
  | [], k, j => by simp [slotV]
  | none :: t, k, 0 => by simp [slotV]
  | some v :: t, k, 0 => by simp [slotV]
  | none :: t, k, j + 1 => by
    show (slotV gi (k + 1) t)[j]? = _
    rw [slotV_get gi t (k + 1) j, show k + 1 + j = k + (j + 1) by omega]
    simp
  | some v :: t, k, j + 1 => by
    show (slotV gi (k + 1) t)[j]? = _
    rw [slotV_get gi t (k + 1) j, show k + 1 + j = k + (j + 1) by omega]
    simp
theorem slotV_len (gi : Nat → Int32) : ∀ (L : List (Option Value)) (k : Nat), (slotV gi k L).length = L.length
  | [], _ => rfl
  | none :: t, k => by simp [slotV, slotV_len gi t]
  | some v :: t, k => by simp [slotV, slotV_len gi t]
theorem slotV_setI {gi : Nat → Int32} {L : List (Option Value)} {k : Nat} {v : Int32} (h : L[k]? = some none) : (slotV gi 0 L).set k (.int v) = slotV (upd gi k v) 0 L := by
  apply List.ext_getElem?
  intro j
  rw [List.getElem?_set, slotV_get, slotV_get, slotV_len]
  by_cases e : k = j
  · subst e
    have hl := (List.getElem?_eq_some_iff.mp h).1
    simp [hl, h, upd]
    have h3 : L[k] = none := by
      have := List.getElem?_eq_getElem hl
      rw [h] at this
      exact (Option.some.inj this).symm
    rw [h3]
    rfl
  · have e2 : ¬ j = k := fun q => e q.symm
    simp [e, upd, e2]
theorem slotV_setV {gi : Nat → Int32} {L : List (Option Value)} {k : Nat} {v : Value} (h : k < L.length) : (slotV gi 0 L).set k v = slotV gi 0 (L.set k (some v)) := by
  apply List.ext_getElem?
  intro j
  rw [List.getElem?_set, slotV_get, slotV_get, slotV_len, List.getElem?_set]
  by_cases e : k = j
  · subst e
    simp [h]
  · simp [e]
theorem HP_set {sk : Nat → SK} {g : Nat → Nat → Int32} {n i : Nat} {c : SC} {s2 : SK} {gi : Nat → Int32} (h : c = cellOf s2 gi) : hset (HP sk g n) i c = HP (va_up sk i s2) (va_up g i gi) n := by
  subst h
  refine Prod.ext (funext fun j => ?_) rfl
  show va_up (fun a => cellOf (sk a) (g a)) i (cellOf s2 gi) j = cellOf (va_up sk i s2 j) (va_up g i gi j)
  by_cases e : j = i
  · simp [va_up, e]
  · simp [va_up, e]
theorem HP_setg {sk : Nat → SK} {g : Nat → Nat → Int32} {n i : Nat} {c : SC} {gi : Nat → Int32} (h : c = cellOf (sk i) gi) : hset (HP sk g n) i c = HP sk (va_up g i gi) n := by
  rw [HP_set h]
  congr 1
  funext j
  by_cases e : j = i
  · simp [va_up, e]
  · simp [va_up, e]
theorem HP_sets {sk : Nat → SK} {g : Nat → Nat → Int32} {n i : Nat} {c : SC} {s2 : SK} (h : c = cellOf s2 (g i)) : hset (HP sk g n) i c = HP (va_up sk i s2) g n := by
  rw [HP_set h]
  congr 1
  funext j
  by_cases e : j = i
  · simp [va_up, e]
  · simp [va_up, e]
theorem HP_new {sk : Nat → SK} {g : Nat → Nat → Int32} {n : Nat} {c : SC} {s2 : SK} {gi : Nat → Int32} (h : c = cellOf s2 gi) : hnew (HP sk g n) c = HP (va_up sk (n + 4) s2) (va_up g (n + 4) gi) (n + 1) := by
  subst h
  refine Prod.ext (funext fun j => ?_) rfl
  show va_up (fun a => cellOf (sk a) (g a)) (n + 4) (cellOf s2 gi) j = cellOf (va_up sk (n + 4) s2 j) (va_up g (n + 4) gi j)
  by_cases e : j = n + 4
  · simp [va_up, e]
  · simp [va_up, e]
def isO (sk : Nat → SK) (n i ci : Nat) (L : List (Option Value)) : Prop := 4 ≤ i ∧ i < n + 4 ∧ sk i = .inl (ci, L)
def isA (sk : Nat → SK) (n i : Nat) (ty : FieldType) (len : Nat) : Prop := 4 ≤ i ∧ i < n + 4 ∧ sk i = .inr (ty, len, none)
def isR (sk : Nat → SK) (n i : Nat) (ty : FieldType) (len : Nat) (f : Nat → Option Nat) : Prop := 4 ≤ i ∧ i < n + 4 ∧ sk i = .inr (ty, len, some f)
def isX (sk : Nat → SK) (i len : Nat) : Prop := i < 4 ∧ sk i = .inr (.int, len, none)
theorem isO.h {sk : Nat → SK} {n i ci : Nat} {L : List (Option Value)} (o : isO sk n i ci L) (g : Nat → Nat → Int32) : hob (HP sk g n) i ci (slotV (g i) 0 L) := ⟨o.1, o.2.1, by show cellOf (sk i) (g i) = _; rw [o.2.2]; rfl⟩
theorem isA.h {sk : Nat → SK} {n i len : Nat} {ty : FieldType} (o : isA sk n i ty len) (g : Nat → Nat → Int32) : har (HP sk g n) i ty (len, .inl (g i)) := ⟨o.1, o.2.1, by show cellOf (sk i) (g i) = _; rw [o.2.2]; rfl⟩
theorem isR.h {sk : Nat → SK} {n i len : Nat} {ty : FieldType} {f : Nat → Option Nat} (o : isR sk n i ty len f) (g : Nat → Nat → Int32) : har (HP sk g n) i ty (len, .inr (.inr (.inr (.inr f)))) := ⟨o.1, o.2.1, by show cellOf (sk i) (g i) = _; rw [o.2.2]; rfl⟩
theorem isX.h {sk : Nat → SK} {i len : Nat} (o : isX sk i len) (g : Nat → Nat → Int32) (n : Nat) : hxa (HP sk g n) i len (g i) := ⟨o.1, by show cellOf (sk i) (g i) = _; rw [o.2]; rfl⟩
theorem nIc {k : Nat} (h : k < 2 ^ 31) : (nI k).toNatClampNeg = k := nI_clamp h
section GRows
variable {M : MI} {d kc ks pc pc2 : Nat} {ls : List (Nat × Value)} {st : List Value} {sk : Nat → SK} {g : Nat → Nat → Int32} {n : Nat} {Q : Option Value → SH → Prop}

theorem G_getI {idx ci kf i : Nat} {L : List (Option Value)} {v : Int32} (hf : decode M.2.1 pc = .ok (.getfield idx, 3)) (hl : FL M.1.cls idx ci kf) (ho : isO sk n i ci L) (hL : L[kf]? = some none) (hv : g i kf = v) (hp : pc + 3 = pc2) (k : T M d kc ks pc2 ls (.int v :: st) (HP sk g n) Q) : T M d kc ks pc ls (.ref i :: st) (HP sk g n) Q :=
  T_getfield hf hl (ho.h g) (by rw [slotV_get, hL]; show some (Value.int (g i (0 + kf))) = some (Value.int v); rw [Nat.zero_add, hv]) hp k
theorem G_getR {idx ci kf i : Nat} {L : List (Option Value)} {v : Value} (hf : decode M.2.1 pc = .ok (.getfield idx, 3)) (hl : FL M.1.cls idx ci kf) (ho : isO sk n i ci L) (hL : L[kf]? = some (some v)) (hp : pc + 3 = pc2) (k : T M d kc ks pc2 ls (v :: st) (HP sk g n) Q) : T M d kc ks pc ls (.ref i :: st) (HP sk g n) Q :=
  T_getfield hf hl (ho.h g) (by rw [slotV_get, hL]; rfl) hp k
theorem G_putI {idx ci kf i : Nat} {L : List (Option Value)} {v : Int32} (hf : decode M.2.1 pc = .ok (.putfield idx, 3)) (hl : FL M.1.cls idx ci kf) (ho : isO sk n i ci L) (hL : L[kf]? = some none) (hfin : (TT ci kf).2.2.2 = false) (hty : tyT ci kf = .int) (hp : pc + 3 = pc2) (k : T M d kc ks pc2 ls st (HP sk (gset g i kf v) n) Q) : T M d kc ks pc ls (.int v :: .ref i :: st) (HP sk g n) Q := by
  refine T_putfield hf hl (ho.h g) hfin (fun a => by rw [hty]; rfl) (fun a => by rw [hty]; rfl) (by rw [slotV_len]; exact (List.getElem?_eq_some_iff.mp hL).1) hp ?_
  rw [HP_setg (gi := upd (g i) kf v) (by rw [ho.2.2, slotV_setI hL]; rfl)]
  exact k
theorem G_putL {idx ci kf i : Nat} {L : List (Option Value)} {v : Int64} (hf : decode M.2.1 pc = .ok (.putfield idx, 3)) (hl : FL M.1.cls idx ci kf) (ho : isO sk n i ci L) (hL : kf < L.length) (hfin : (TT ci kf).2.2.2 = false) (hty : tyT ci kf = .long) (hp : pc + 3 = pc2) (k : T M d kc ks pc2 ls st (HP (va_up sk i (.inl (ci, L.set kf (some (.long v))))) g n) Q) : T M d kc ks pc ls (.long v :: .ref i :: st) (HP sk g n) Q := by
  refine T_putfield hf hl (ho.h g) hfin (fun a => by rw [hty]; rfl) (fun a => by rw [hty]; rfl) (by rw [slotV_len]; exact hL) hp ?_
  rw [HP_sets (s2 := .inl (ci, L.set kf (some (.long v)))) (by rw [slotV_setV hL]; rfl)]
  exact k
theorem G_putR {idx ci kf i q : Nat} {L : List (Option Value)} (hf : decode M.2.1 pc = .ok (.putfield idx, 3)) (hl : FL M.1.cls idx ci kf) (ho : isO sk n i ci L) (hL : kf < L.length) (hfin : (TT ci kf).2.2.2 = true) (hin2 : M.1.name = "<init>") (hdecl : (TT ci kf).1 = M.1.cls) (hty : (tyT ci kf).isReference = true) (hp : pc + 3 = pc2) (k : T M d kc ks pc2 ls st (HP (va_up sk i (.inl (ci, L.set kf (some (.ref q))))) g n) Q) : T M d kc ks pc ls (.ref q :: .ref i :: st) (HP sk g n) Q := by
  refine T_putfinal hf hl (ho.h g) hfin hin2 hdecl (fun a => by show narrow _ (Value.ref (a q)) = Value.ref (a q); cases hq : tyT ci kf <;> rw [hq] at hty <;> first | rfl | cases hty) (fun a => by show fits _ (Value.ref (a q)) = true; cases hq : tyT ci kf <;> rw [hq] at hty <;> first | rfl | cases hty) (by rw [slotV_len]; exact hL) hp ?_
  rw [HP_sets (s2 := .inl (ci, L.set kf (some (.ref q)))) (by rw [slotV_setV hL]; rfl)]
  exact k
theorem G_iald {i len k : Nat} {v : Int32} (hf : decode M.2.1 pc = .ok (.iaload, 1)) (ho : isA sk n i .int len) (hk : k < len) (hlen : len < 2 ^ 31) (hv : g i k = v) (hp : pc + 1 = pc2) (kk : T M d kc ks pc2 ls (.int v :: st) (HP sk g n) Q) : T M d kc ks pc ls (.int (nI k) :: .ref i :: st) (HP sk g n) Q :=
  T_iaload hf (ho.h g) (vp_in_nI hk hlen) hp (by rw [nIc (by omega), hv]; exact kk)
theorem G_bald {i len k : Nat} {v : Int32} (hf : decode M.2.1 pc = .ok (.baload, 1)) (ho : isA sk n i .boolean len) (hk : k < len) (hlen : len < 2 ^ 31) (hv : g i k = v) (hp : pc + 1 = pc2) (kk : T M d kc ks pc2 ls (.int v :: st) (HP sk g n) Q) : T M d kc ks pc ls (.int (nI k) :: .ref i :: st) (HP sk g n) Q :=
  T_baload hf (ho.h g) (vp_in_nI hk hlen) hp (by rw [nIc (by omega), hv]; exact kk)
theorem G_xald {i len k : Nat} {v : Int32} (hf : decode M.2.1 pc = .ok (.iaload, 1)) (ho : isX sk i len) (hk : k < len) (hlen : len < 2 ^ 31) (hv : g i k = v) (hp : pc + 1 = pc2) (kk : T M d kc ks pc2 ls (.int v :: st) (HP sk g n) Q) : T M d kc ks pc ls (.int (nI k) :: .ref i :: st) (HP sk g n) Q :=
  T_xaload hf (ho.h g n) (vp_in_nI hk hlen) hp (by rw [nIc (by omega), hv]; exact kk)
theorem G_aald {i len k : Nat} {ty : FieldType} {f : Nat → Option Nat} {r : Option Nat} (hf : decode M.2.1 pc = .ok (.aaload, 1)) (ho : isR sk n i ty len f) (hty : ty.isReference = true) (hk : k < len) (hlen : len < 2 ^ 31) (hv : f k = r) (hp : pc + 1 = pc2) (kk : T M d kc ks pc2 ls (va_rf r :: st) (HP sk g n) Q) : T M d kc ks pc ls (.int (nI k) :: .ref i :: st) (HP sk g n) Q :=
  T_aaload hf (ho.h g) hty (vp_in_nI hk hlen) hp (by rw [nIc (by omega), hv]; exact kk)
theorem G_iast {i len k : Nat} {v : Int32} (hf : decode M.2.1 pc = .ok (.iastore, 1)) (ho : isA sk n i .int len) (hk : k < len) (hlen : len < 2 ^ 31) (hp : pc + 1 = pc2) (kk : T M d kc ks pc2 ls st (HP sk (gset g i k v) n) Q) : T M d kc ks pc ls (.int v :: .int (nI k) :: .ref i :: st) (HP sk g n) Q := by
  refine T_iastore hf (ho.h g) (vp_in_nI hk hlen) hp ?_
  rw [nIc (by omega), HP_setg (gi := upd (g i) k v) (by rw [ho.2.2]; rfl)]
  exact kk
theorem G_bast {i len k : Nat} {v : Int32} (hf : decode M.2.1 pc = .ok (.bastore, 1)) (ho : isA sk n i .boolean len) (hk : k < len) (hlen : len < 2 ^ 31) (hn : vp_nar .boolean v = v) (hp : pc + 1 = pc2) (kk : T M d kc ks pc2 ls st (HP sk (gset g i k v) n) Q) : T M d kc ks pc ls (.int v :: .int (nI k) :: .ref i :: st) (HP sk g n) Q := by
  refine T_bastore hf (ho.h g) (vp_in_nI hk hlen) hp ?_
  rw [nIc (by omega), hn, HP_setg (gi := upd (g i) k v) (by rw [ho.2.2]; rfl)]
  exact kk
theorem G_aast {i len k q ci : Nat} {f : Nat → Option Nat} {L : List (Option Value)} (hf : decode M.2.1 pc = .ok (.aastore, 1)) (hci : ci < 9) (ho : isR sk n i (.object (RR ci)) len f) (hq : isO sk n q ci L) (hk : k < len) (hlen : len < 2 ^ 31) (hp : pc + 1 = pc2) (kk : T M d kc ks pc2 ls st (HP (va_up sk i (.inr (.object (RR ci), len, some (va_up f k (some q))))) g n) Q) : T M d kc ks pc ls (.ref q :: .int (nI k) :: .ref i :: st) (HP sk g n) Q := by
  refine T_aastore hf hci (ho.h g) (hq.h g) (vp_in_nI hk hlen) hp ?_
  rw [nIc (by omega)]
  show T M d kc ks pc2 ls st (hset (HP sk g n) i (cellOf (.inr (.object (RR ci), len, some (va_up f k (some q)))) (g i))) Q
  rw [HP_sets rfl]
  exact kk
theorem G_new {idx ci : Nat} {L : List (Option Value)} (hf : decode M.2.1 pc = .ok (.new idx, 3)) (hci : ci < 9) (hcl : Cond.classLink M.1.cls idx (RR ci) ∈ lw_g) (hins : Cond.instantiable (RR ci) (NN ci) ∈ lw_g) (hini : Cond.initialized (RR ci) ∈ lw_g) (hfs : ∀ a j, j < NN ci → defaultValue (tyT ci j) = vp_V ((slotV (fun _ => 0) 0 L).map (trV a)) j) (hp : pc + 3 = pc2) (k : T M d kc ks pc2 ls (.ref (n + 4) :: st) (HP (va_up sk (n + 4) (.inl (ci, L))) (va_up g (n + 4) (fun _ => 0)) (n + 1)) Q) : T M d (kc + 1) (ks + NN ci) pc ls st (HP sk g n) Q := by
  refine T_new (fs := slotV (fun _ => 0) 0 L) hf hci hcl hins hini hfs hp ?_
  show T M d kc ks pc2 ls (.ref (n + 4) :: st) (hnew (HP sk g n) (cellOf (.inl (ci, L)) (fun _ => 0))) Q
  rw [HP_new rfl]
  exact k
theorem G_newi {N : Nat} (hf : decode M.2.1 pc = .ok (.newarray .int, 2)) (harr : Cond.arrayClass .int ∈ lw_g) (hN : N < 1000000) (hp : pc + 2 = pc2) (k : T M d kc ks pc2 ls (.ref (n + 4) :: st) (HP (va_up sk (n + 4) (.inr (.int, N, none))) (va_up g (n + 4) (fun _ => 0)) (n + 1)) Q) : T M d (kc + 1) (ks + N) pc ls (.int (nI N) :: st) (HP sk g n) Q := by
  refine T_newarray (a0 := (N, .inl (fun _ => 0))) hf harr rfl (fun cA a => rfl) (nI_pos (by omega)) (nI_clamp (by omega)) (by show N * 4 ≤ _; omega) hp ?_
  show T M d kc ks pc2 ls (.ref (n + 4) :: st) (hnew (HP sk g n) (cellOf (.inr (.int, N, none)) (fun _ => 0))) Q
  rw [HP_new rfl]
  exact k
theorem G_newz {N : Nat} (hf : decode M.2.1 pc = .ok (.newarray .boolean, 2)) (harr : Cond.arrayClass .boolean ∈ lw_g) (hN : N < 1000000) (hp : pc + 2 = pc2) (k : T M d kc ks pc2 ls (.ref (n + 4) :: st) (HP (va_up sk (n + 4) (.inr (.boolean, N, none))) (va_up g (n + 4) (fun _ => 0)) (n + 1)) Q) : T M d (kc + 1) (ks + N) pc ls (.int (nI N) :: st) (HP sk g n) Q := by
  refine T_newarray (a0 := (N, .inl (fun _ => 0))) hf harr rfl (fun cA a => rfl) (nI_pos (by omega)) (nI_clamp (by omega)) (by show N * 1 ≤ _; omega) hp ?_
  show T M d kc ks pc2 ls (.ref (n + 4) :: st) (hnew (HP sk g n) (cellOf (.inr (.boolean, N, none)) (fun _ => 0))) Q
  rw [HP_new rfl]
  exact k
theorem G_newq {idx N : Nat} (hf : decode M.2.1 pc = .ok (.anewarray idx, 3)) (hcl : Cond.classLink M.1.cls idx RX2 ∈ lw_g) (hN : N < 1000000) (hp : pc + 3 = pc2) (k : T M d kc ks pc2 ls (.ref (n + 4) :: st) (HP (va_up sk (n + 4) (.inr (.object RX2, N, some (fun _ => none)))) (va_up g (n + 4) (fun _ => 0)) (n + 1)) Q) : T M d (kc + 1) (ks + N) pc ls (.int (nI N) :: st) (HP sk g n) Q := by
  refine T_anewarray hf hcl (nI_pos (by omega)) (nI_clamp (by omega)) (by omega) hp ?_
  show T M d kc ks pc2 ls (.ref (n + 4) :: st) (hnew (HP sk g n) (cellOf (.inr (.object RX2, N, some (fun _ => none))) (fun _ => 0))) Q
  rw [HP_new rfl]
  exact k
theorem G_copy {idx i0 i1 n0 n1 a b c : Nat} (hf : decode M.2.1 pc = .ok (.invokestatic idx, 3)) (hlk : Cond.methodLink M.1.cls idx arraycopyName ∈ lw_g) (ho0 : isA sk n i0 .int n0) (ho1 : isA sk n i1 .int n1) (h0 : n0 < 2 ^ 31) (h1 : n1 < 2 ^ 31) (h4 : a + c ≤ n0) (h5 : b + c ≤ n1) (hst : (st.map fun v => v.category).sum ≤ 8) (hp : pc + 3 = pc2)
    (k : T M d kc ks pc2 ls st (HP sk (va_up g i1 (va_cpy (g i0) (g i1) a b c)) n) Q) : T M d kc ks pc ls (.int (nI c) :: .int (nI b) :: .ref i1 :: .int (nI a) :: .ref i0 :: st) (HP sk g n) Q := by
  refine T_arraycopy hf hlk cpN_in cpS_in cpI_in (ho0.h g) (ho1.h g) (nI_pos (by omega)) (nI_pos (by omega)) (nI_pos (by omega)) (by rw [nIc (by omega), nIc (by omega)]; exact h4) (by rw [nIc (by omega), nIc (by omega)]; exact h5) hst hp ?_
  rw [nIc (by omega), nIc (by omega), nIc (by omega), HP_setg (gi := va_cpy (g i0) (g i1) a b c) (by rw [ho1.2.2]; rfl)]
  exact k
end GRows
section NRows
variable {M : MI} {d kc ks pc pc2 : Nat} {ls : List (Nat × Value)} {st : List Value} {h : SH} {Q : Option Value → SH → Prop}
theorem N_iadd {a b : Nat} (hf : decode M.2.1 pc = .ok (.iadd, 1)) (hp : pc + 1 = pc2) (k : T M d kc ks pc2 ls (.int (nI (a + b)) :: st) h Q) : T M d kc ks pc ls (.int (nI b) :: .int (nI a) :: st) h Q := T_iadd hf hp (by rw [nI_add]; exact k)
theorem N_imul {a b : Nat} (hf : decode M.2.1 pc = .ok (.imul, 1)) (hp : pc + 1 = pc2) (k : T M d kc ks pc2 ls (.int (nI (a * b)) :: st) h Q) : T M d kc ks pc ls (.int (nI b) :: .int (nI a) :: st) h Q := T_imul hf hp (by rw [pk_mul]; exact k)
theorem N_isub {a b : Nat} (hf : decode M.2.1 pc = .ok (.isub, 1)) (hab : b ≤ a) (hp : pc + 1 = pc2) (k : T M d kc ks pc2 ls (.int (nI (a - b)) :: st) h Q) : T M d kc ks pc ls (.int (nI b) :: .int (nI a) :: st) h Q := T_isub hf hp (by rw [pk_sub hab]; exact k)
theorem N_iinc {i a m : Nat} {n : Int} (hf : decode M.2.1 pc = .ok (.iinc i n, 3)) (hl : ls.lookup i = some (.int (nI a))) (hm : Int32.ofInt n = nI m) (hn : i < M.2.2.1) (hp : pc + 3 = pc2) (k : T M d kc ks pc2 (lset i (.int (nI (a + m))) ls) st h Q) : T M d kc ks pc ls st h Q := T_iinc hf hl (by rw [hm, nI_add]) hn hp k
theorem N_icmpeq {a b : Nat} {off : Int} {tgt : Nat} (hf : decode M.2.1 pc = .ok (.if_icmp .eq off, 3)) (ht : (pc : Int) + off = (tgt : Int)) (ha : a < 2 ^ 31) (hb : b < 2 ^ 31) (hp : pc + 3 = pc2) (kt : a = b → T M d kc ks tgt ls st h Q) (kf : ¬ a = b → T M d kc ks pc2 ls st h Q) : T M d kc ks pc ls (.int (nI b) :: .int (nI a) :: st) h Q := T_icmpeq hf ht hp (fun z => kt ((nI_eq ha hb).mp z)) (fun z => kf (fun w => z ((nI_eq ha hb).mpr w)))
theorem N_icmpne {a b : Nat} {off : Int} {tgt : Nat} (hf : decode M.2.1 pc = .ok (.if_icmp .ne off, 3)) (ht : (pc : Int) + off = (tgt : Int)) (ha : a < 2 ^ 31) (hb : b < 2 ^ 31) (hp : pc + 3 = pc2) (kt : ¬ a = b → T M d kc ks tgt ls st h Q) (kf : a = b → T M d kc ks pc2 ls st h Q) : T M d kc ks pc ls (.int (nI b) :: .int (nI a) :: st) h Q := T_icmpne hf ht hp (fun z => kt (fun w => z ((nI_eq ha hb).mpr w))) (fun z => kf ((nI_eq ha hb).mp z))
theorem N_icmplt {a b : Nat} {off : Int} {tgt : Nat} (hf : decode M.2.1 pc = .ok (.if_icmp .lt off, 3)) (ht : (pc : Int) + off = (tgt : Int)) (ha : a < 2 ^ 31) (hb : b < 2 ^ 31) (hp : pc + 3 = pc2) (kt : a < b → T M d kc ks tgt ls st h Q) (kf : ¬ a < b → T M d kc ks pc2 ls st h Q) : T M d kc ks pc ls (.int (nI b) :: .int (nI a) :: st) h Q := T_icmplt hf ht hp (fun z => kt ((nI_ltI ha hb).mp z)) (fun z => kf (fun w => z ((nI_ltI ha hb).mpr w)))
theorem N_icmpge {a b : Nat} {off : Int} {tgt : Nat} (hf : decode M.2.1 pc = .ok (.if_icmp .ge off, 3)) (ht : (pc : Int) + off = (tgt : Int)) (ha : a < 2 ^ 31) (hb : b < 2 ^ 31) (hp : pc + 3 = pc2) (kt : b ≤ a → T M d kc ks tgt ls st h Q) (kf : ¬ b ≤ a → T M d kc ks pc2 ls st h Q) : T M d kc ks pc ls (.int (nI b) :: .int (nI a) :: st) h Q := T_icmpge hf ht hp (fun z => kt ((nI_leI hb ha).mp z)) (fun z => kf (fun w => z ((nI_leI hb ha).mpr w)))
theorem N_icmpgt {a b : Nat} {off : Int} {tgt : Nat} (hf : decode M.2.1 pc = .ok (.if_icmp .gt off, 3)) (ht : (pc : Int) + off = (tgt : Int)) (ha : a < 2 ^ 31) (hb : b < 2 ^ 31) (hp : pc + 3 = pc2) (kt : b < a → T M d kc ks tgt ls st h Q) (kf : ¬ b < a → T M d kc ks pc2 ls st h Q) : T M d kc ks pc ls (.int (nI b) :: .int (nI a) :: st) h Q := T_icmpgt hf ht hp (fun z => kt ((nI_ltI hb ha).mp z)) (fun z => kf (fun w => z ((nI_ltI hb ha).mpr w)))
theorem N_icmple {a b : Nat} {off : Int} {tgt : Nat} (hf : decode M.2.1 pc = .ok (.if_icmp .le off, 3)) (ht : (pc : Int) + off = (tgt : Int)) (ha : a < 2 ^ 31) (hb : b < 2 ^ 31) (hp : pc + 3 = pc2) (kt : a ≤ b → T M d kc ks tgt ls st h Q) (kf : ¬ a ≤ b → T M d kc ks pc2 ls st h Q) : T M d kc ks pc ls (.int (nI b) :: .int (nI a) :: st) h Q := T_icmple hf ht hp (fun z => kt ((nI_leI ha hb).mp z)) (fun z => kf (fun w => z ((nI_leI ha hb).mpr w)))
end NRows
end
section
theorem iniL : Cond.initialized RL ∈ lw_g := gd 0 (by decide +kernel) (by decide +kernel)
theorem iniX7 : Cond.initialized RX7 ∈ lw_g := gd 1 (by decide +kernel) (by decide +kernel)
theorem iniX5 : Cond.initialized RX5 ∈ lw_g := gd 2 (by decide +kernel) (by decide +kernel)
theorem iniX6 : Cond.initialized RX6 ∈ lw_g := gd 3 (by decide +kernel) (by decide +kernel)
theorem iniX2 : Cond.initialized RX2 ∈ lw_g := gd 4 (by decide +kernel) (by decide +kernel)
theorem iniX0 : Cond.initialized RX0 ∈ lw_g := gd 5 (by decide +kernel) (by decide +kernel)
theorem iniX4 : Cond.initialized RX4 ∈ lw_g := gd 6 (by decide +kernel) (by decide +kernel)
theorem iniX3 : Cond.initialized RX3 ∈ lw_g := gd 7 (by decide +kernel) (by decide +kernel)
theorem iniX1 : Cond.initialized RX1 ∈ lw_g := gd 8 (by decide +kernel) (by decide +kernel)
theorem iniX8 : Cond.initialized RX8 ∈ lw_g := gd 9 (by decide +kernel) (by decide +kernel)
theorem iniJ10 : Cond.initialized RJ10 ∈ lw_g := gd 10 (by decide +kernel) (by decide +kernel)
theorem iniJ9 : Cond.initialized RJ9 ∈ lw_g := gd 11 (by decide +kernel) (by decide +kernel)
theorem iniJ6 : Cond.initialized RJ6 ∈ lw_g := gd 12 (by decide +kernel) (by decide +kernel)
theorem insX7 : Cond.instantiable RX7 10 ∈ lw_g := gd 14 (by decide +kernel) (by decide +kernel)
theorem insX5 : Cond.instantiable RX5 4 ∈ lw_g := gd 22 (by decide +kernel) (by decide +kernel)
theorem insX6 : Cond.instantiable RX6 5 ∈ lw_g := gd 49 (by decide +kernel) (by decide +kernel)
theorem insX2 : Cond.instantiable RX2 8 ∈ lw_g := gd 74 (by decide +kernel) (by decide +kernel)
theorem insX0 : Cond.instantiable RX0 3 ∈ lw_g := gd 127 (by decide +kernel) (by decide +kernel)
theorem insX4 : Cond.instantiable RX4 7 ∈ lw_g := gd 146 (by decide +kernel) (by decide +kernel)
theorem insX3 : Cond.instantiable RX3 6 ∈ lw_g := gd 152 (by decide +kernel) (by decide +kernel)
theorem insX1 : Cond.instantiable RX1 2 ∈ lw_g := gd 208 (by decide +kernel) (by decide +kernel)
theorem insX8 : Cond.instantiable RX8 28 ∈ lw_g := gd 727 (by decide +kernel) (by decide +kernel)
abbrev MX7_init : MI := (yX7_init, cX7_init, 1, none)
theorem cmX7_init : CM MX7_init 0 := ⟨gd 17 (by decide +kernel) (by decide +kernel), by decide, iniX7, ⟨by decide, by decide, by decide +kernel⟩⟩
theorem ciX7_init : CI MX7_init 0 := ⟨cmX7_init, rfl, rfl, gd 16 (by decide +kernel) (by decide +kernel)⟩
abbrev MX5_init : MI := (yX5_init, cX5_init, 1, none)
theorem cmX5_init : CM MX5_init 0 := ⟨gd 25 (by decide +kernel) (by decide +kernel), by decide, iniX5, ⟨by decide, by decide, by decide +kernel⟩⟩
theorem ciX5_init : CI MX5_init 0 := ⟨cmX5_init, rfl, rfl, gd 24 (by decide +kernel) (by decide +kernel)⟩
abbrev MX6_init : MI := (yX6_init, cX6_init, 1, none)
theorem cmX6_init : CM MX6_init 0 := ⟨gd 52 (by decide +kernel) (by decide +kernel), by decide, iniX6, ⟨by decide, by decide, by decide +kernel⟩⟩
theorem ciX6_init : CI MX6_init 0 := ⟨cmX6_init, rfl, rfl, gd 51 (by decide +kernel) (by decide +kernel)⟩
abbrev MX2_init : MI := (yX2_init, cX2_init, 1, none)
theorem cmX2_init : CM MX2_init 0 := ⟨gd 77 (by decide +kernel) (by decide +kernel), by decide, iniX2, ⟨by decide, by decide, by decide +kernel⟩⟩
theorem ciX2_init : CI MX2_init 0 := ⟨cmX2_init, rfl, rfl, gd 76 (by decide +kernel) (by decide +kernel)⟩
abbrev MX0_init : MI := (yX0_init, cX0_init, 1, none)
theorem cmX0_init : CM MX0_init 0 := ⟨gd 130 (by decide +kernel) (by decide +kernel), by decide, iniX0, ⟨by decide, by decide, by decide +kernel⟩⟩
theorem ciX0_init : CI MX0_init 0 := ⟨cmX0_init, rfl, rfl, gd 129 (by decide +kernel) (by decide +kernel)⟩
abbrev MX4_init : MI := (yX4_init, cX4_init, 1, none)
theorem cmX4_init : CM MX4_init 0 := ⟨gd 149 (by decide +kernel) (by decide +kernel), by decide, iniX4, ⟨by decide, by decide, by decide +kernel⟩⟩
theorem ciX4_init : CI MX4_init 0 := ⟨cmX4_init, rfl, rfl, gd 148 (by decide +kernel) (by decide +kernel)⟩
abbrev MX3_init : MI := (yX3_init, cX3_init, 1, none)
theorem cmX3_init : CM MX3_init 0 := ⟨gd 155 (by decide +kernel) (by decide +kernel), by decide, iniX3, ⟨by decide, by decide, by decide +kernel⟩⟩
theorem ciX3_init : CI MX3_init 0 := ⟨cmX3_init, rfl, rfl, gd 154 (by decide +kernel) (by decide +kernel)⟩
abbrev MX1_init : MI := (yX1_init, cX1_init, 1, none)
theorem cmX1_init : CM MX1_init 0 := ⟨gd 211 (by decide +kernel) (by decide +kernel), by decide, iniX1, ⟨by decide, by decide, by decide +kernel⟩⟩
theorem ciX1_init : CI MX1_init 0 := ⟨cmX1_init, rfl, rfl, gd 210 (by decide +kernel) (by decide +kernel)⟩
abbrev MX7_row : MI := (yX7_row, cX7_row, 4, (some .int))
theorem cmX7_row : CM MX7_row 3 := ⟨gd 256 (by decide +kernel) (by decide +kernel), by decide, iniX7, ⟨by decide, by decide, by decide +kernel⟩⟩
theorem cvX7_row : CV MX7_row 7 3 := ⟨cmX7_row, by decide, rfl, gd 254 (by decide +kernel) (by decide +kernel), gd 255 (by decide +kernel) (by decide +kernel)⟩
abbrev MX7_isRow : MI := (yX7_isRow, cX7_isRow, 1, (some .boolean))
theorem cmX7_isRow : CM MX7_isRow 1 := ⟨gd 259 (by decide +kernel) (by decide +kernel), by decide, iniX7, ⟨by decide, by decide, by decide +kernel⟩⟩
theorem csX7_isRow : CSt MX7_isRow 1 := ⟨cmX7_isRow, gd 258 (by decide +kernel) (by decide +kernel)⟩
abbrev MX7_within : MI := (yX7_within, cX7_within, 3, (some .boolean))
theorem cmX7_within : CM MX7_within 3 := ⟨gd 262 (by decide +kernel) (by decide +kernel), by decide, iniX7, ⟨by decide, by decide, by decide +kernel⟩⟩
theorem csX7_within : CSt MX7_within 3 := ⟨cmX7_within, gd 261 (by decide +kernel) (by decide +kernel)⟩
abbrev MX7_found : MI := (yX7_found, cX7_found, 2, (some .int))
theorem cmX7_found : CM MX7_found 1 := ⟨gd 267 (by decide +kernel) (by decide +kernel), by decide, iniX7, ⟨by decide, by decide, by decide +kernel⟩⟩
theorem cvX7_found : CV MX7_found 7 1 := ⟨cmX7_found, by decide, rfl, gd 266 (by decide +kernel) (by decide +kernel), gdp 0 (by decide +kernel) (by decide +kernel)⟩
abbrev MX5_lay : MI := (yX5_lay, cX5_lay, 5, none)
theorem cmX5_lay : CM MX5_lay 3 := ⟨gd 272 (by decide +kernel) (by decide +kernel), by decide, iniX5, ⟨by decide, by decide, by decide +kernel⟩⟩
theorem cvX5_lay : CV MX5_lay 5 3 := ⟨cmX5_lay, by decide, rfl, gd 270 (by decide +kernel) (by decide +kernel), gd 271 (by decide +kernel) (by decide +kernel)⟩
abbrev MX7_fine : MI := (yX7_fine, cX7_fine, 2, (some .int))
theorem cmX7_fine : CM MX7_fine 1 := ⟨gd 276 (by decide +kernel) (by decide +kernel), by decide, iniX7, ⟨by decide, by decide, by decide +kernel⟩⟩
theorem cvX7_fine : CV MX7_fine 7 1 := ⟨cmX7_fine, by decide, rfl, gd 275 (by decide +kernel) (by decide +kernel), gdp 1 (by decide +kernel) (by decide +kernel)⟩
abbrev MX7_set : MI := (yX7_set, cX7_set, 5, (some .int))
theorem cmX7_set : CM MX7_set 3 := ⟨gd 280 (by decide +kernel) (by decide +kernel), by decide, iniX7, ⟨by decide, by decide, by decide +kernel⟩⟩
theorem cvX7_set : CV MX7_set 7 3 := ⟨cmX7_set, by decide, rfl, gd 278 (by decide +kernel) (by decide +kernel), gd 279 (by decide +kernel) (by decide +kernel)⟩
abbrev MX5_lacking : MI := (yX5_lacking, cX5_lacking, 4, (some .int))
theorem cmX5_lacking : CM MX5_lacking 3 := ⟨gd 284 (by decide +kernel) (by decide +kernel), by decide, iniX5, ⟨by decide, by decide, by decide +kernel⟩⟩
theorem cvX5_lacking : CV MX5_lacking 5 3 := ⟨cmX5_lacking, by decide, rfl, gd 282 (by decide +kernel) (by decide +kernel), gd 283 (by decide +kernel) (by decide +kernel)⟩
abbrev MX5_holds : MI := (yX5_holds, cX5_holds, 4, (some .boolean))
theorem cmX5_holds : CM MX5_holds 3 := ⟨gd 288 (by decide +kernel) (by decide +kernel), by decide, iniX5, ⟨by decide, by decide, by decide +kernel⟩⟩
theorem cvX5_holds : CV MX5_holds 5 3 := ⟨cmX5_holds, by decide, rfl, gd 286 (by decide +kernel) (by decide +kernel), gd 287 (by decide +kernel) (by decide +kernel)⟩
abbrev MX5_put : MI := (yX5_put, cX5_put, 4, (some .int))
theorem cmX5_put : CM MX5_put 3 := ⟨gd 292 (by decide +kernel) (by decide +kernel), by decide, iniX5, ⟨by decide, by decide, by decide +kernel⟩⟩
theorem cvX5_put : CV MX5_put 5 3 := ⟨cmX5_put, by decide, rfl, gd 290 (by decide +kernel) (by decide +kernel), gd 291 (by decide +kernel) (by decide +kernel)⟩
abbrev MX5_narrowed : MI := (yX5_narrowed, cX5_narrowed, 2, (some .int))
theorem cmX5_narrowed : CM MX5_narrowed 2 := ⟨gd 295 (by decide +kernel) (by decide +kernel), by decide, iniX5, ⟨by decide, by decide, by decide +kernel⟩⟩
theorem csX5_narrowed : CSt MX5_narrowed 2 := ⟨cmX5_narrowed, gd 294 (by decide +kernel) (by decide +kernel)⟩
abbrev MX7_copy : MI := (yX7_copy, cX7_copy, 6, (some .int))
theorem cmX7_copy : CM MX7_copy 5 := ⟨gd 299 (by decide +kernel) (by decide +kernel), by decide, iniX7, ⟨by decide, by decide, by decide +kernel⟩⟩
theorem cvX7_copy : CV MX7_copy 7 5 := ⟨cmX7_copy, by decide, rfl, gd 297 (by decide +kernel) (by decide +kernel), gd 298 (by decide +kernel) (by decide +kernel)⟩
abbrev MX7_drop : MI := (yX7_drop, cX7_drop, 2, (some .int))
theorem cmX7_drop : CM MX7_drop 1 := ⟨gd 307 (by decide +kernel) (by decide +kernel), by decide, iniX7, ⟨by decide, by decide, by decide +kernel⟩⟩
theorem cvX7_drop : CV MX7_drop 7 1 := ⟨cmX7_drop, by decide, rfl, gd 305 (by decide +kernel) (by decide +kernel), gd 306 (by decide +kernel) (by decide +kernel)⟩
abbrev MX7_feed : MI := (yX7_feed, cX7_feed, 2, (some .int))
theorem cmX7_feed : CM MX7_feed 1 := ⟨gd 311 (by decide +kernel) (by decide +kernel), by decide, iniX7, ⟨by decide, by decide, by decide +kernel⟩⟩
theorem cvX7_feed : CV MX7_feed 7 1 := ⟨cmX7_feed, by decide, rfl, gd 309 (by decide +kernel) (by decide +kernel), gd 310 (by decide +kernel) (by decide +kernel)⟩
abbrev MX6_takes : MI := (yX6_takes, cX6_takes, 2, (some .boolean))
theorem cmX6_takes : CM MX6_takes 1 := ⟨gd 315 (by decide +kernel) (by decide +kernel), by decide, iniX6, ⟨by decide, by decide, by decide +kernel⟩⟩
theorem cvX6_takes : CV MX6_takes 6 1 := ⟨cmX6_takes, by decide, rfl, gd 313 (by decide +kernel) (by decide +kernel), gd 314 (by decide +kernel) (by decide +kernel)⟩
abbrev MX7_cellar : MI := (yX7_cellar, cX7_cellar, 2, (some .int))
theorem cmX7_cellar : CM MX7_cellar 0 := ⟨gd 320 (by decide +kernel) (by decide +kernel), by decide, iniX7, ⟨by decide, by decide, by decide +kernel⟩⟩
theorem cvX7_cellar : CV MX7_cellar 7 0 := ⟨cmX7_cellar, by decide, rfl, gd 318 (by decide +kernel) (by decide +kernel), gd 319 (by decide +kernel) (by decide +kernel)⟩
abbrev MX6_tells : MI := (yX6_tells, cX6_tells, 3, (some .boolean))
theorem cmX6_tells : CM MX6_tells 1 := ⟨gd 324 (by decide +kernel) (by decide +kernel), by decide, iniX6, ⟨by decide, by decide, by decide +kernel⟩⟩
theorem cvX6_tells : CV MX6_tells 6 1 := ⟨cmX6_tells, by decide, rfl, gd 322 (by decide +kernel) (by decide +kernel), gd 323 (by decide +kernel) (by decide +kernel)⟩
abbrev MX2_clear : MI := (yX2_clear, cX2_clear, 1, none)
theorem cmX2_clear : CM MX2_clear 0 := ⟨gd 328 (by decide +kernel) (by decide +kernel), by decide, iniX2, ⟨by decide, by decide, by decide +kernel⟩⟩
theorem cvX2_clear : CV MX2_clear 2 0 := ⟨cmX2_clear, by decide, rfl, gd 326 (by decide +kernel) (by decide +kernel), gd 327 (by decide +kernel) (by decide +kernel)⟩
abbrev MX6_passes : MI := (yX6_passes, cX6_passes, 2, (some .boolean))
theorem cmX6_passes : CM MX6_passes 1 := ⟨gd 332 (by decide +kernel) (by decide +kernel), by decide, iniX6, ⟨by decide, by decide, by decide +kernel⟩⟩
theorem cvX6_passes : CV MX6_passes 6 1 := ⟨cmX6_passes, by decide, rfl, gd 331 (by decide +kernel) (by decide +kernel), gdp 2 (by decide +kernel) (by decide +kernel)⟩
abbrev MX6_fails : MI := (yX6_fails, cX6_fails, 2, (some .boolean))
theorem cmX6_fails : CM MX6_fails 1 := ⟨gd 336 (by decide +kernel) (by decide +kernel), by decide, iniX6, ⟨by decide, by decide, by decide +kernel⟩⟩
theorem cvX6_fails : CV MX6_fails 6 1 := ⟨cmX6_fails, by decide, rfl, gd 335 (by decide +kernel) (by decide +kernel), gdp 3 (by decide +kernel) (by decide +kernel)⟩
abbrev MX6_numbers : MI := (yX6_numbers, cX6_numbers, 5, (some .boolean))
theorem cmX6_numbers : CM MX6_numbers 2 := ⟨gd 340 (by decide +kernel) (by decide +kernel), by decide, iniX6, ⟨by decide, by decide, by decide +kernel⟩⟩
theorem cvX6_numbers : CV MX6_numbers 6 2 := ⟨cmX6_numbers, by decide, rfl, gd 339 (by decide +kernel) (by decide +kernel), gdp 4 (by decide +kernel) (by decide +kernel)⟩
abbrev MX6_figures : MI := (yX6_figures, cX6_figures, 2, (some .int))
theorem cmX6_figures : CM MX6_figures 0 := ⟨gd 344 (by decide +kernel) (by decide +kernel), by decide, iniX6, ⟨by decide, by decide, by decide +kernel⟩⟩
theorem cvX6_figures : CV MX6_figures 6 0 := ⟨cmX6_figures, by decide, rfl, gd 343 (by decide +kernel) (by decide +kernel), gdp 5 (by decide +kernel) (by decide +kernel)⟩
abbrev MX6_tellsJar : MI := (yX6_tellsJar, cX6_tellsJar, 5, (some .boolean))
theorem cmX6_tellsJar : CM MX6_tellsJar 1 := ⟨gd 349 (by decide +kernel) (by decide +kernel), by decide, iniX6, ⟨by decide, by decide, by decide +kernel⟩⟩
theorem cvX6_tellsJar : CV MX6_tellsJar 6 1 := ⟨cmX6_tellsJar, by decide, rfl, gd 348 (by decide +kernel) (by decide +kernel), gdp 6 (by decide +kernel) (by decide +kernel)⟩
abbrev MX6_kindOf : MI := (yX6_kindOf, cX6_kindOf, 1, (some .int))
theorem cmX6_kindOf : CM MX6_kindOf 1 := ⟨gd 352 (by decide +kernel) (by decide +kernel), by decide, iniX6, ⟨by decide, by decide, by decide +kernel⟩⟩
theorem csX6_kindOf : CSt MX6_kindOf 1 := ⟨cmX6_kindOf, gd 351 (by decide +kernel) (by decide +kernel)⟩
abbrev MX2_add : MI := (yX2_add, cX2_add, 4, none)
theorem cmX2_add : CM MX2_add 3 := ⟨gd 356 (by decide +kernel) (by decide +kernel), by decide, iniX2, ⟨by decide, by decide, by decide +kernel⟩⟩
theorem cvX2_add : CV MX2_add 2 3 := ⟨cmX2_add, by decide, rfl, gd 354 (by decide +kernel) (by decide +kernel), gd 355 (by decide +kernel) (by decide +kernel)⟩
abbrev MX2_become : MI := (yX2_become, cX2_become, 2, none)
theorem cmX2_become : CM MX2_become 1 := ⟨gd 361 (by decide +kernel) (by decide +kernel), by decide, iniX2, ⟨by decide, by decide, by decide +kernel⟩⟩
theorem cvX2_become : CV MX2_become 2 1 := ⟨cmX2_become, by decide, rfl, gd 359 (by decide +kernel) (by decide +kernel), gd 360 (by decide +kernel) (by decide +kernel)⟩
abbrev MX0_forget : MI := (yX0_forget, cX0_forget, 1, none)
theorem cmX0_forget : CM MX0_forget 0 := ⟨gd 366 (by decide +kernel) (by decide +kernel), by decide, iniX0, ⟨by decide, by decide, by decide +kernel⟩⟩
theorem cvX0_forget : CV MX0_forget 0 0 := ⟨cmX0_forget, by decide, rfl, gd 364 (by decide +kernel) (by decide +kernel), gd 365 (by decide +kernel) (by decide +kernel)⟩
abbrev MX7_fault : MI := (yX7_fault, cX7_fault, 1, (some .int))
theorem cmX7_fault : CM MX7_fault 0 := ⟨gd 370 (by decide +kernel) (by decide +kernel), by decide, iniX7, ⟨by decide, by decide, by decide +kernel⟩⟩
theorem cvX7_fault : CV MX7_fault 7 0 := ⟨cmX7_fault, by decide, rfl, gd 368 (by decide +kernel) (by decide +kernel), gd 369 (by decide +kernel) (by decide +kernel)⟩
abbrev MX7_undo : MI := (yX7_undo, cX7_undo, 1, (some .int))
theorem cmX7_undo : CM MX7_undo 0 := ⟨gd 374 (by decide +kernel) (by decide +kernel), by decide, iniX7, ⟨by decide, by decide, by decide +kernel⟩⟩
theorem cvX7_undo : CV MX7_undo 7 0 := ⟨cmX7_undo, by decide, rfl, gd 372 (by decide +kernel) (by decide +kernel), gd 373 (by decide +kernel) (by decide +kernel)⟩
abbrev MX0_takeBack : MI := (yX0_takeBack, cX0_takeBack, 3, (some .boolean))
theorem cmX0_takeBack : CM MX0_takeBack 1 := ⟨gd 378 (by decide +kernel) (by decide +kernel), by decide, iniX0, ⟨by decide, by decide, by decide +kernel⟩⟩
theorem cvX0_takeBack : CV MX0_takeBack 0 1 := ⟨cmX0_takeBack, by decide, rfl, gd 376 (by decide +kernel) (by decide +kernel), gd 377 (by decide +kernel) (by decide +kernel)⟩
abbrev MX7_years : MI := (yX7_years, cX7_years, 3, (some .int))
theorem cmX7_years : CM MX7_years 1 := ⟨gd 384 (by decide +kernel) (by decide +kernel), by decide, iniX7, ⟨by decide, by decide, by decide +kernel⟩⟩
theorem cvX7_years : CV MX7_years 7 1 := ⟨cmX7_years, by decide, rfl, gd 382 (by decide +kernel) (by decide +kernel), gd 383 (by decide +kernel) (by decide +kernel)⟩
abbrev MX7_noCellar : MI := (yX7_noCellar, cX7_noCellar, 1, (some .boolean))
theorem cmX7_noCellar : CM MX7_noCellar 0 := ⟨gd 388 (by decide +kernel) (by decide +kernel), by decide, iniX7, ⟨by decide, by decide, by decide +kernel⟩⟩
theorem cvX7_noCellar : CV MX7_noCellar 7 0 := ⟨cmX7_noCellar, by decide, rfl, gd 387 (by decide +kernel) (by decide +kernel), gdp 7 (by decide +kernel) (by decide +kernel)⟩
abbrev MX0_keep : MI := (yX0_keep, cX0_keep, 2, none)
theorem cmX0_keep : CM MX0_keep 1 := ⟨gd 392 (by decide +kernel) (by decide +kernel), by decide, iniX0, ⟨by decide, by decide, by decide +kernel⟩⟩
theorem cvX0_keep : CV MX0_keep 0 1 := ⟨cmX0_keep, by decide, rfl, gd 390 (by decide +kernel) (by decide +kernel), gd 391 (by decide +kernel) (by decide +kernel)⟩
abbrev MJ9_min_7cf53 : MI := (yJ9_min_7cf53, cJ9_min_7cf53, 2, (some .int))
theorem cmJ9_min_7cf53 : CM MJ9_min_7cf53 2 := ⟨gd 396 (by decide +kernel) (by decide +kernel), by decide, iniJ9, ⟨by decide, by decide, by decide +kernel⟩⟩
theorem csJ9_min_7cf53 : CSt MJ9_min_7cf53 2 := ⟨cmJ9_min_7cf53, gd 395 (by decide +kernel) (by decide +kernel)⟩
abbrev MX2_age : MI := (yX2_age, cX2_age, 2, none)
theorem cmX2_age : CM MX2_age 0 := ⟨gd 400 (by decide +kernel) (by decide +kernel), by decide, iniX2, ⟨by decide, by decide, by decide +kernel⟩⟩
theorem cvX2_age : CV MX2_age 2 0 := ⟨cmX2_age, by decide, rfl, gd 398 (by decide +kernel) (by decide +kernel), gd 399 (by decide +kernel) (by decide +kernel)⟩
abbrev MX2_those : MI := (yX2_those, cX2_those, 4, (some .int))
theorem cmX2_those : CM MX2_those 1 := ⟨gd 404 (by decide +kernel) (by decide +kernel), by decide, iniX2, ⟨by decide, by decide, by decide +kernel⟩⟩
theorem cvX2_those : CV MX2_those 2 1 := ⟨cmX2_those, by decide, rfl, gd 402 (by decide +kernel) (by decide +kernel), gd 403 (by decide +kernel) (by decide +kernel)⟩
abbrev MX7_sneeze : MI := (yX7_sneeze, cX7_sneeze, 4, (some .int))
theorem cmX7_sneeze : CM MX7_sneeze 2 := ⟨gd 408 (by decide +kernel) (by decide +kernel), by decide, iniX7, ⟨by decide, by decide, by decide +kernel⟩⟩
theorem cvX7_sneeze : CV MX7_sneeze 7 2 := ⟨cmX7_sneeze, by decide, rfl, gd 406 (by decide +kernel) (by decide +kernel), gd 407 (by decide +kernel) (by decide +kernel)⟩
abbrev MX7_isSneeze : MI := (yX7_isSneeze, cX7_isSneeze, 3, (some .boolean))
theorem cmX7_isSneeze : CM MX7_isSneeze 2 := ⟨gd 412 (by decide +kernel) (by decide +kernel), by decide, iniX7, ⟨by decide, by decide, by decide +kernel⟩⟩
theorem cvX7_isSneeze : CV MX7_isSneeze 7 2 := ⟨cmX7_isSneeze, by decide, rfl, gd 411 (by decide +kernel) (by decide +kernel), gdp 8 (by decide +kernel) (by decide +kernel)⟩
abbrev MX7_isNote : MI := (yX7_isNote, cX7_isNote, 1, (some .boolean))
theorem cmX7_isNote : CM MX7_isNote 1 := ⟨gd 415 (by decide +kernel) (by decide +kernel), by decide, iniX7, ⟨by decide, by decide, by decide +kernel⟩⟩
theorem csX7_isNote : CSt MX7_isNote 1 := ⟨cmX7_isNote, gd 414 (by decide +kernel) (by decide +kernel)⟩
abbrev MX7_isPlace : MI := (yX7_isPlace, cX7_isPlace, 2, (some .boolean))
theorem cmX7_isPlace : CM MX7_isPlace 1 := ⟨gd 419 (by decide +kernel) (by decide +kernel), by decide, iniX7, ⟨by decide, by decide, by decide +kernel⟩⟩
theorem cvX7_isPlace : CV MX7_isPlace 7 1 := ⟨cmX7_isPlace, by decide, rfl, gd 418 (by decide +kernel) (by decide +kernel), gdp 9 (by decide +kernel) (by decide +kernel)⟩
abbrev MX4_brokenBy : MI := (yX4_brokenBy, cX4_brokenBy, 4, (some .int))
theorem cmX4_brokenBy : CM MX4_brokenBy 3 := ⟨gd 423 (by decide +kernel) (by decide +kernel), by decide, iniX4, ⟨by decide, by decide, by decide +kernel⟩⟩
theorem cvX4_brokenBy : CV MX4_brokenBy 4 3 := ⟨cmX4_brokenBy, by decide, rfl, gd 421 (by decide +kernel) (by decide +kernel), gd 422 (by decide +kernel) (by decide +kernel)⟩
abbrev MX3_tune : MI := (yX3_tune, cX3_tune, 3, none)
theorem cmX3_tune : CM MX3_tune 1 := ⟨gd 427 (by decide +kernel) (by decide +kernel), by decide, iniX3, ⟨by decide, by decide, by decide +kernel⟩⟩
theorem cvX3_tune : CV MX3_tune 3 1 := ⟨cmX3_tune, by decide, rfl, gd 425 (by decide +kernel) (by decide +kernel), gd 426 (by decide +kernel) (by decide +kernel)⟩
abbrev MX3_answeringTo : MI := (yX3_answeringTo, cX3_answeringTo, 4, (some .int))
theorem cmX3_answeringTo : CM MX3_answeringTo 2 := ⟨gd 430 (by decide +kernel) (by decide +kernel), by decide, iniX3, ⟨by decide, by decide, by decide +kernel⟩⟩
theorem csX3_answeringTo : CSt MX3_answeringTo 2 := ⟨cmX3_answeringTo, gd 429 (by decide +kernel) (by decide +kernel)⟩
abbrev MX3_apart : MI := (yX3_apart, cX3_apart, 3, (some .int))
theorem cmX3_apart : CM MX3_apart 2 := ⟨gd 433 (by decide +kernel) (by decide +kernel), by decide, iniX3, ⟨by decide, by decide, by decide +kernel⟩⟩
theorem csX3_apart : CSt MX3_apart 2 := ⟨cmX3_apart, gd 432 (by decide +kernel) (by decide +kernel)⟩
abbrev MJ9_abs_0f7a4 : MI := (yJ9_abs_0f7a4, cJ9_abs_0f7a4, 1, (some .int))
theorem cmJ9_abs_0f7a4 : CM MJ9_abs_0f7a4 1 := ⟨gd 436 (by decide +kernel) (by decide +kernel), by decide, iniJ9, ⟨by decide, by decide, by decide +kernel⟩⟩
theorem csJ9_abs_0f7a4 : CSt MJ9_abs_0f7a4 1 := ⟨cmJ9_abs_0f7a4, gd 435 (by decide +kernel) (by decide +kernel)⟩
abbrev MX3_answers : MI := (yX3_answers, cX3_answers, 2, (some .boolean))
theorem cmX3_answers : CM MX3_answers 2 := ⟨gd 440 (by decide +kernel) (by decide +kernel), by decide, iniX3, ⟨by decide, by decide, by decide +kernel⟩⟩
theorem csX3_answers : CSt MX3_answers 2 := ⟨cmX3_answers, gd 439 (by decide +kernel) (by decide +kernel)⟩
abbrev MX3_nearTo : MI := (yX3_nearTo, cX3_nearTo, 4, (some .int))
theorem cmX3_nearTo : CM MX3_nearTo 2 := ⟨gd 443 (by decide +kernel) (by decide +kernel), by decide, iniX3, ⟨by decide, by decide, by decide +kernel⟩⟩
theorem csX3_nearTo : CSt MX3_nearTo 2 := ⟨cmX3_nearTo, gd 442 (by decide +kernel) (by decide +kernel)⟩
abbrev MX3_struckFrom : MI := (yX3_struckFrom, cX3_struckFrom, 4, (some .int))
theorem cmX3_struckFrom : CM MX3_struckFrom 2 := ⟨gd 447 (by decide +kernel) (by decide +kernel), by decide, iniX3, ⟨by decide, by decide, by decide +kernel⟩⟩
theorem cvX3_struckFrom : CV MX3_struckFrom 3 2 := ⟨cmX3_struckFrom, by decide, rfl, gd 446 (by decide +kernel) (by decide +kernel), gdp 10 (by decide +kernel) (by decide +kernel)⟩
abbrev MX3_broken : MI := (yX3_broken, cX3_broken, 6, (some .int))
theorem cmX3_broken : CM MX3_broken 3 := ⟨gd 453 (by decide +kernel) (by decide +kernel), by decide, iniX3, ⟨by decide, by decide, by decide +kernel⟩⟩
theorem cvX3_broken : CV MX3_broken 3 3 := ⟨cmX3_broken, by decide, rfl, gd 451 (by decide +kernel) (by decide +kernel), gd 452 (by decide +kernel) (by decide +kernel)⟩
abbrev MX3_breakingBy : MI := (yX3_breakingBy, cX3_breakingBy, 5, (some .int))
theorem cmX3_breakingBy : CM MX3_breakingBy 1 := ⟨gd 457 (by decide +kernel) (by decide +kernel), by decide, iniX3, ⟨by decide, by decide, by decide +kernel⟩⟩
theorem cvX3_breakingBy : CV MX3_breakingBy 3 1 := ⟨cmX3_breakingBy, by decide, rfl, gd 456 (by decide +kernel) (by decide +kernel), gdp 11 (by decide +kernel) (by decide +kernel)⟩
abbrev MX7_has : MI := (yX7_has, cX7_has, 2, (some .boolean))
theorem cmX7_has : CM MX7_has 2 := ⟨gd 460 (by decide +kernel) (by decide +kernel), by decide, iniX7, ⟨by decide, by decide, by decide +kernel⟩⟩
theorem csX7_has : CSt MX7_has 2 := ⟨cmX7_has, gd 459 (by decide +kernel) (by decide +kernel)⟩
abbrev MX2_smash : MI := (yX2_smash, cX2_smash, 3, none)
theorem cmX2_smash : CM MX2_smash 1 := ⟨gd 464 (by decide +kernel) (by decide +kernel), by decide, iniX2, ⟨by decide, by decide, by decide +kernel⟩⟩
theorem cvX2_smash : CV MX2_smash 2 1 := ⟨cmX2_smash, by decide, rfl, gd 462 (by decide +kernel) (by decide +kernel), gd 463 (by decide +kernel) (by decide +kernel)⟩
abbrev MX7_open : MI := (yX7_open, cX7_open, 2, (some .int))
theorem cmX7_open : CM MX7_open 1 := ⟨gd 469 (by decide +kernel) (by decide +kernel), by decide, iniX7, ⟨by decide, by decide, by decide +kernel⟩⟩
theorem cvX7_open : CV MX7_open 7 1 := ⟨cmX7_open, by decide, rfl, gd 467 (by decide +kernel) (by decide +kernel), gd 468 (by decide +kernel) (by decide +kernel)⟩
abbrev MX7_isJar : MI := (yX7_isJar, cX7_isJar, 2, (some .boolean))
theorem cmX7_isJar : CM MX7_isJar 1 := ⟨gd 473 (by decide +kernel) (by decide +kernel), by decide, iniX7, ⟨by decide, by decide, by decide +kernel⟩⟩
theorem cvX7_isJar : CV MX7_isJar 7 1 := ⟨cmX7_isJar, by decide, rfl, gd 472 (by decide +kernel) (by decide +kernel), gdp 12 (by decide +kernel) (by decide +kernel)⟩
abbrev MX7_change : MI := (yX7_change, cX7_change, 3, (some .int))
theorem cmX7_change : CM MX7_change 2 := ⟨gd 477 (by decide +kernel) (by decide +kernel), by decide, iniX7, ⟨by decide, by decide, by decide +kernel⟩⟩
theorem cvX7_change : CV MX7_change 7 2 := ⟨cmX7_change, by decide, rfl, gd 475 (by decide +kernel) (by decide +kernel), gd 476 (by decide +kernel) (by decide +kernel)⟩
abbrev MX2_swapPlaces : MI := (yX2_swapPlaces, cX2_swapPlaces, 4, none)
theorem cmX2_swapPlaces : CM MX2_swapPlaces 2 := ⟨gd 481 (by decide +kernel) (by decide +kernel), by decide, iniX2, ⟨by decide, by decide, by decide +kernel⟩⟩
theorem cvX2_swapPlaces : CV MX2_swapPlaces 2 2 := ⟨cmX2_swapPlaces, by decide, rfl, gd 479 (by decide +kernel) (by decide +kernel), gd 480 (by decide +kernel) (by decide +kernel)⟩
abbrev MX7_seal : MI := (yX7_seal, cX7_seal, 4, (some .int))
theorem cmX7_seal : CM MX7_seal 3 := ⟨gd 485 (by decide +kernel) (by decide +kernel), by decide, iniX7, ⟨by decide, by decide, by decide +kernel⟩⟩
theorem cvX7_seal : CV MX7_seal 7 3 := ⟨cmX7_seal, by decide, rfl, gd 483 (by decide +kernel) (by decide +kernel), gd 484 (by decide +kernel) (by decide +kernel)⟩
abbrev MX7_reach : MI := (yX7_reach, cX7_reach, 3, (some .int))
theorem cmX7_reach : CM MX7_reach 1 := ⟨gd 489 (by decide +kernel) (by decide +kernel), by decide, iniX7, ⟨by decide, by decide, by decide +kernel⟩⟩
theorem cvX7_reach : CV MX7_reach 7 1 := ⟨cmX7_reach, by decide, rfl, gd 487 (by decide +kernel) (by decide +kernel), gd 488 (by decide +kernel) (by decide +kernel)⟩
abbrev MX7_jar : MI := (yX7_jar, cX7_jar, 3, (some .int))
theorem cmX7_jar : CM MX7_jar 2 := ⟨gd 493 (by decide +kernel) (by decide +kernel), by decide, iniX7, ⟨by decide, by decide, by decide +kernel⟩⟩
theorem cvX7_jar : CV MX7_jar 7 2 := ⟨cmX7_jar, by decide, rfl, gd 491 (by decide +kernel) (by decide +kernel), gd 492 (by decide +kernel) (by decide +kernel)⟩
abbrev MX7_stand : MI := (yX7_stand, cX7_stand, 2, (some .int))
theorem cmX7_stand : CM MX7_stand 1 := ⟨gd 497 (by decide +kernel) (by decide +kernel), by decide, iniX7, ⟨by decide, by decide, by decide +kernel⟩⟩
theorem cvX7_stand : CV MX7_stand 7 1 := ⟨cmX7_stand, by decide, rfl, gd 495 (by decide +kernel) (by decide +kernel), gd 496 (by decide +kernel) (by decide +kernel)⟩
abbrev MX7_chain : MI := (yX7_chain, cX7_chain, 5, (some .int))
theorem cmX7_chain : CM MX7_chain 3 := ⟨gd 501 (by decide +kernel) (by decide +kernel), by decide, iniX7, ⟨by decide, by decide, by decide +kernel⟩⟩
theorem cvX7_chain : CV MX7_chain 7 3 := ⟨cmX7_chain, by decide, rfl, gd 499 (by decide +kernel) (by decide +kernel), gd 500 (by decide +kernel) (by decide +kernel)⟩
abbrev MX7_isHalf : MI := (yX7_isHalf, cX7_isHalf, 1, (some .boolean))
theorem cmX7_isHalf : CM MX7_isHalf 1 := ⟨gd 504 (by decide +kernel) (by decide +kernel), by decide, iniX7, ⟨by decide, by decide, by decide +kernel⟩⟩
theorem csX7_isHalf : CSt MX7_isHalf 1 := ⟨cmX7_isHalf, gd 503 (by decide +kernel) (by decide +kernel)⟩
abbrev MX7_worst : MI := (yX7_worst, cX7_worst, 2, (some .int))
theorem cmX7_worst : CM MX7_worst 1 := ⟨gd 508 (by decide +kernel) (by decide +kernel), by decide, iniX7, ⟨by decide, by decide, by decide +kernel⟩⟩
theorem cvX7_worst : CV MX7_worst 7 1 := ⟨cmX7_worst, by decide, rfl, gd 506 (by decide +kernel) (by decide +kernel), gd 507 (by decide +kernel) (by decide +kernel)⟩
abbrev MX4_findWorst : MI := (yX4_findWorst, cX4_findWorst, 2, none)
theorem cmX4_findWorst : CM MX4_findWorst 1 := ⟨gd 512 (by decide +kernel) (by decide +kernel), by decide, iniX4, ⟨by decide, by decide, by decide +kernel⟩⟩
theorem cvX4_findWorst : CV MX4_findWorst 4 1 := ⟨cmX4_findWorst, by decide, rfl, gd 510 (by decide +kernel) (by decide +kernel), gd 511 (by decide +kernel) (by decide +kernel)⟩
abbrev MX4_mostBroken : MI := (yX4_mostBroken, cX4_mostBroken, 7, (some .int))
theorem cmX4_mostBroken : CM MX4_mostBroken 2 := ⟨gd 516 (by decide +kernel) (by decide +kernel), by decide, iniX4, ⟨by decide, by decide, by decide +kernel⟩⟩
theorem cvX4_mostBroken : CV MX4_mostBroken 4 2 := ⟨cmX4_mostBroken, by decide, rfl, gd 515 (by decide +kernel) (by decide +kernel), gdp 13 (by decide +kernel) (by decide +kernel)⟩
abbrev MJ6_bitCount_0f7a4 : MI := (yJ6_bitCount_0f7a4, cJ6_bitCount_0f7a4, 1, (some .int))
theorem cmJ6_bitCount_0f7a4 : CM MJ6_bitCount_0f7a4 1 := ⟨gd 519 (by decide +kernel) (by decide +kernel), by decide, iniJ6, ⟨by decide, by decide, by decide +kernel⟩⟩
theorem csJ6_bitCount_0f7a4 : CSt MJ6_bitCount_0f7a4 1 := ⟨cmJ6_bitCount_0f7a4, gd 518 (by decide +kernel) (by decide +kernel)⟩
abbrev MX7_when : MI := (yX7_when, cX7_when, 2, (some .int))
theorem cmX7_when : CM MX7_when 1 := ⟨gd 526 (by decide +kernel) (by decide +kernel), by decide, iniX7, ⟨by decide, by decide, by decide +kernel⟩⟩
theorem cvX7_when : CV MX7_when 7 1 := ⟨cmX7_when, by decide, rfl, gd 524 (by decide +kernel) (by decide +kernel), gd 525 (by decide +kernel) (by decide +kernel)⟩
abbrev MX7_kept : MI := (yX7_kept, cX7_kept, 2, (some .int))
theorem cmX7_kept : CM MX7_kept 1 := ⟨gd 531 (by decide +kernel) (by decide +kernel), by decide, iniX7, ⟨by decide, by decide, by decide +kernel⟩⟩
theorem cvX7_kept : CV MX7_kept 7 1 := ⟨cmX7_kept, by decide, rfl, gd 529 (by decide +kernel) (by decide +kernel), gd 530 (by decide +kernel) (by decide +kernel)⟩
abbrev MX2_wholeBehind : MI := (yX2_wholeBehind, cX2_wholeBehind, 4, (some .int))
theorem cmX2_wholeBehind : CM MX2_wholeBehind 1 := ⟨gd 535 (by decide +kernel) (by decide +kernel), by decide, iniX2, ⟨by decide, by decide, by decide +kernel⟩⟩
theorem cvX2_wholeBehind : CV MX2_wholeBehind 2 1 := ⟨cmX2_wholeBehind, by decide, rfl, gd 533 (by decide +kernel) (by decide +kernel), gd 534 (by decide +kernel) (by decide +kernel)⟩
abbrev MX7_guard : MI := (yX7_guard, cX7_guard, 5, (some .int))
theorem cmX7_guard : CM MX7_guard 4 := ⟨gd 539 (by decide +kernel) (by decide +kernel), by decide, iniX7, ⟨by decide, by decide, by decide +kernel⟩⟩
theorem cvX7_guard : CV MX7_guard 7 4 := ⟨cmX7_guard, by decide, rfl, gd 537 (by decide +kernel) (by decide +kernel), gd 538 (by decide +kernel) (by decide +kernel)⟩
end
section
abbrev MX4_findGuard : MI := (yX4_findGuard, cX4_findGuard, 8, none)
theorem cmX4_findGuard : CM MX4_findGuard 4 := ⟨gd 543 (by decide +kernel) (by decide +kernel), by decide, iniX4, ⟨by decide, by decide, by decide +kernel⟩⟩
theorem cvX4_findGuard : CV MX4_findGuard 4 4 := ⟨cmX4_findGuard, by decide, rfl, gd 541 (by decide +kernel) (by decide +kernel), gd 542 (by decide +kernel) (by decide +kernel)⟩
abbrev MX7_changes : MI := (yX7_changes, cX7_changes, 2, (some .int))
theorem cmX7_changes : CM MX7_changes 1 := ⟨gd 547 (by decide +kernel) (by decide +kernel), by decide, iniX7, ⟨by decide, by decide, by decide +kernel⟩⟩
theorem cvX7_changes : CV MX7_changes 7 1 := ⟨cmX7_changes, by decide, rfl, gd 545 (by decide +kernel) (by decide +kernel), gd 546 (by decide +kernel) (by decide +kernel)⟩
abbrev MX4_findChange : MI := (yX4_findChange, cX4_findChange, 7, none)
theorem cmX4_findChange : CM MX4_findChange 1 := ⟨gd 551 (by decide +kernel) (by decide +kernel), by decide, iniX4, ⟨by decide, by decide, by decide +kernel⟩⟩
theorem cvX4_findChange : CV MX4_findChange 4 1 := ⟨cmX4_findChange, by decide, rfl, gd 549 (by decide +kernel) (by decide +kernel), gd 550 (by decide +kernel) (by decide +kernel)⟩
abbrev MX7_tuned : MI := (yX7_tuned, cX7_tuned, 3, (some .int))
theorem cmX7_tuned : CM MX7_tuned 2 := ⟨gd 558 (by decide +kernel) (by decide +kernel), by decide, iniX7, ⟨by decide, by decide, by decide +kernel⟩⟩
theorem cvX7_tuned : CV MX7_tuned 7 2 := ⟨cmX7_tuned, by decide, rfl, gd 556 (by decide +kernel) (by decide +kernel), gd 557 (by decide +kernel) (by decide +kernel)⟩
abbrev MX4_findTuned : MI := (yX4_findTuned, cX4_findTuned, 5, none)
theorem cmX4_findTuned : CM MX4_findTuned 2 := ⟨gd 562 (by decide +kernel) (by decide +kernel), by decide, iniX4, ⟨by decide, by decide, by decide +kernel⟩⟩
theorem cvX4_findTuned : CV MX4_findTuned 4 2 := ⟨cmX4_findTuned, by decide, rfl, gd 560 (by decide +kernel) (by decide +kernel), gd 561 (by decide +kernel) (by decide +kernel)⟩
abbrev MX4_keepFewest : MI := (yX4_keepFewest, cX4_keepFewest, 3, none)
theorem cmX4_keepFewest : CM MX4_keepFewest 2 := ⟨gd 566 (by decide +kernel) (by decide +kernel), by decide, iniX4, ⟨by decide, by decide, by decide +kernel⟩⟩
theorem cvX4_keepFewest : CV MX4_keepFewest 4 2 := ⟨cmX4_keepFewest, by decide, rfl, gd 565 (by decide +kernel) (by decide +kernel), gdp 14 (by decide +kernel) (by decide +kernel)⟩
abbrev MX7_spared : MI := (yX7_spared, cX7_spared, 2, (some .int))
theorem cmX7_spared : CM MX7_spared 1 := ⟨gd 570 (by decide +kernel) (by decide +kernel), by decide, iniX7, ⟨by decide, by decide, by decide +kernel⟩⟩
theorem cvX7_spared : CV MX7_spared 7 1 := ⟨cmX7_spared, by decide, rfl, gd 568 (by decide +kernel) (by decide +kernel), gd 569 (by decide +kernel) (by decide +kernel)⟩
abbrev MX4_findSpared : MI := (yX4_findSpared, cX4_findSpared, 4, none)
theorem cmX4_findSpared : CM MX4_findSpared 1 := ⟨gd 574 (by decide +kernel) (by decide +kernel), by decide, iniX4, ⟨by decide, by decide, by decide +kernel⟩⟩
theorem cvX4_findSpared : CV MX4_findSpared 4 1 := ⟨cmX4_findSpared, by decide, rfl, gd 572 (by decide +kernel) (by decide +kernel), gd 573 (by decide +kernel) (by decide +kernel)⟩
abbrev MX7_alike : MI := (yX7_alike, cX7_alike, 2, (some .int))
theorem cmX7_alike : CM MX7_alike 1 := ⟨gd 579 (by decide +kernel) (by decide +kernel), by decide, iniX7, ⟨by decide, by decide, by decide +kernel⟩⟩
theorem cvX7_alike : CV MX7_alike 7 1 := ⟨cmX7_alike, by decide, rfl, gd 577 (by decide +kernel) (by decide +kernel), gd 578 (by decide +kernel) (by decide +kernel)⟩
abbrev MX4_findAlike : MI := (yX4_findAlike, cX4_findAlike, 5, none)
theorem cmX4_findAlike : CM MX4_findAlike 1 := ⟨gd 583 (by decide +kernel) (by decide +kernel), by decide, iniX4, ⟨by decide, by decide, by decide +kernel⟩⟩
theorem cvX4_findAlike : CV MX4_findAlike 4 1 := ⟨cmX4_findAlike, by decide, rfl, gd 581 (by decide +kernel) (by decide +kernel), gd 582 (by decide +kernel) (by decide +kernel)⟩
abbrev MX3_eachStrikesOther : MI := (yX3_eachStrikesOther, cX3_eachStrikesOther, 3, (some .boolean))
theorem cmX3_eachStrikesOther : CM MX3_eachStrikesOther 2 := ⟨gd 587 (by decide +kernel) (by decide +kernel), by decide, iniX3, ⟨by decide, by decide, by decide +kernel⟩⟩
theorem cvX3_eachStrikesOther : CV MX3_eachStrikesOther 3 2 := ⟨cmX3_eachStrikesOther, by decide, rfl, gd 585 (by decide +kernel) (by decide +kernel), gd 586 (by decide +kernel) (by decide +kernel)⟩
abbrev MX7_song : MI := (yX7_song, cX7_song, 6, (some .int))
theorem cmX7_song : CM MX7_song 4 := ⟨gd 591 (by decide +kernel) (by decide +kernel), by decide, iniX7, ⟨by decide, by decide, by decide +kernel⟩⟩
theorem cvX7_song : CV MX7_song 7 4 := ⟨cmX7_song, by decide, rfl, gd 589 (by decide +kernel) (by decide +kernel), gd 590 (by decide +kernel) (by decide +kernel)⟩
abbrev MX5_tellsNotes : MI := (yX5_tellsNotes, cX5_tellsNotes, 5, (some .boolean))
theorem cmX5_tellsNotes : CM MX5_tellsNotes 3 := ⟨gd 595 (by decide +kernel) (by decide +kernel), by decide, iniX5, ⟨by decide, by decide, by decide +kernel⟩⟩
theorem cvX5_tellsNotes : CV MX5_tellsNotes 5 3 := ⟨cmX5_tellsNotes, by decide, rfl, gd 593 (by decide +kernel) (by decide +kernel), gd 594 (by decide +kernel) (by decide +kernel)⟩
abbrev MX4_findSong : MI := (yX4_findSong, cX4_findSong, 8, none)
theorem cmX4_findSong : CM MX4_findSong 4 := ⟨gd 600 (by decide +kernel) (by decide +kernel), by decide, iniX4, ⟨by decide, by decide, by decide +kernel⟩⟩
theorem cvX4_findSong : CV MX4_findSong 4 4 := ⟨cmX4_findSong, by decide, rfl, gd 598 (by decide +kernel) (by decide +kernel), gd 599 (by decide +kernel) (by decide +kernel)⟩
abbrev MX4_leastOf : MI := (yX4_leastOf, cX4_leastOf, 4, (some .int))
theorem cmX4_leastOf : CM MX4_leastOf 3 := ⟨gd 603 (by decide +kernel) (by decide +kernel), by decide, iniX4, ⟨by decide, by decide, by decide +kernel⟩⟩
theorem csX4_leastOf : CSt MX4_leastOf 3 := ⟨cmX4_leastOf, gd 602 (by decide +kernel) (by decide +kernel)⟩
abbrev MX7_who : MI := (yX7_who, cX7_who, 8, (some .int))
theorem cmX7_who : CM MX7_who 6 := ⟨gd 607 (by decide +kernel) (by decide +kernel), by decide, iniX7, ⟨by decide, by decide, by decide +kernel⟩⟩
theorem cvX7_who : CV MX7_who 7 6 := ⟨cmX7_who, by decide, rfl, gd 605 (by decide +kernel) (by decide +kernel), gd 606 (by decide +kernel) (by decide +kernel)⟩
abbrev MX4_fittingKinds : MI := (yX4_fittingKinds, cX4_fittingKinds, 9, (some .int))
theorem cmX4_fittingKinds : CM MX4_fittingKinds 6 := ⟨gd 611 (by decide +kernel) (by decide +kernel), by decide, iniX4, ⟨by decide, by decide, by decide +kernel⟩⟩
theorem cvX4_fittingKinds : CV MX4_fittingKinds 4 6 := ⟨cmX4_fittingKinds, by decide, rfl, gd 609 (by decide +kernel) (by decide +kernel), gd 610 (by decide +kernel) (by decide +kernel)⟩
abbrev MX4_guessFits : MI := (yX4_guessFits, cX4_guessFits, 7, (some .boolean))
theorem cmX4_guessFits : CM MX4_guessFits 4 := ⟨gd 615 (by decide +kernel) (by decide +kernel), by decide, iniX4, ⟨by decide, by decide, by decide +kernel⟩⟩
theorem cvX4_guessFits : CV MX4_guessFits 4 4 := ⟨cmX4_guessFits, by decide, rfl, gd 614 (by decide +kernel) (by decide +kernel), gdp 15 (by decide +kernel) (by decide +kernel)⟩
abbrev MX4_fittingNotes : MI := (yX4_fittingNotes, cX4_fittingNotes, 9, (some .int))
theorem cmX4_fittingNotes : CM MX4_fittingNotes 6 := ⟨gd 619 (by decide +kernel) (by decide +kernel), by decide, iniX4, ⟨by decide, by decide, by decide +kernel⟩⟩
theorem cvX4_fittingNotes : CV MX4_fittingNotes 4 6 := ⟨cmX4_fittingNotes, by decide, rfl, gd 617 (by decide +kernel) (by decide +kernel), gd 618 (by decide +kernel) (by decide +kernel)⟩
abbrev MX7_reaches : MI := (yX7_reaches, cX7_reaches, 6, (some .int))
theorem cmX7_reaches : CM MX7_reaches 4 := ⟨gd 623 (by decide +kernel) (by decide +kernel), by decide, iniX7, ⟨by decide, by decide, by decide +kernel⟩⟩
theorem cvX7_reaches : CV MX7_reaches 7 4 := ⟨cmX7_reaches, by decide, rfl, gd 621 (by decide +kernel) (by decide +kernel), gd 622 (by decide +kernel) (by decide +kernel)⟩
abbrev MX4_fittingReaches : MI := (yX4_fittingReaches, cX4_fittingReaches, 8, (some .int))
theorem cmX4_fittingReaches : CM MX4_fittingReaches 5 := ⟨gd 627 (by decide +kernel) (by decide +kernel), by decide, iniX4, ⟨by decide, by decide, by decide +kernel⟩⟩
theorem cvX4_fittingReaches : CV MX4_fittingReaches 4 5 := ⟨cmX4_fittingReaches, by decide, rfl, gd 625 (by decide +kernel) (by decide +kernel), gd 626 (by decide +kernel) (by decide +kernel)⟩
abbrev MX7_mould : MI := (yX7_mould, cX7_mould, 6, (some .long))
theorem cmX7_mould : CM MX7_mould 5 := ⟨gd 631 (by decide +kernel) (by decide +kernel), by decide, iniX7, ⟨by decide, by decide, by decide +kernel⟩⟩
theorem cvX7_mould : CV MX7_mould 7 5 := ⟨cmX7_mould, by decide, rfl, gd 629 (by decide +kernel) (by decide +kernel), gd 630 (by decide +kernel) (by decide +kernel)⟩
abbrev MX4_findMould : MI := (yX4_findMould, cX4_findMould, 9, none)
theorem cmX4_findMould : CM MX4_findMould 5 := ⟨gd 636 (by decide +kernel) (by decide +kernel), by decide, iniX4, ⟨by decide, by decide, by decide +kernel⟩⟩
theorem cvX4_findMould : CV MX4_findMould 4 5 := ⟨cmX4_findMould, by decide, rfl, gd 634 (by decide +kernel) (by decide +kernel), gd 635 (by decide +kernel) (by decide +kernel)⟩
abbrev MX4_power : MI := (yX4_power, cX4_power, 6, (some .long))
theorem cmX4_power : CM MX4_power 2 := ⟨gd 640 (by decide +kernel) (by decide +kernel), by decide, iniX4, ⟨by decide, by decide, by decide +kernel⟩⟩
theorem csX4_power : CSt MX4_power 2 := ⟨cmX4_power, gd 639 (by decide +kernel) (by decide +kernel)⟩
abbrev MX4_sharedDivisor : MI := (yX4_sharedDivisor, cX4_sharedDivisor, 11, (some .long))
theorem cmX4_sharedDivisor : CM MX4_sharedDivisor 2 := ⟨gd 643 (by decide +kernel) (by decide +kernel), by decide, iniX4, ⟨by decide, by decide, by decide +kernel⟩⟩
theorem csX4_sharedDivisor : CSt MX4_sharedDivisor 2 := ⟨cmX4_sharedDivisor, gd 642 (by decide +kernel) (by decide +kernel)⟩
abbrev MX7_drawn : MI := (yX7_drawn, cX7_drawn, 4, (some .int))
theorem cmX7_drawn : CM MX7_drawn 3 := ⟨gd 647 (by decide +kernel) (by decide +kernel), by decide, iniX7, ⟨by decide, by decide, by decide +kernel⟩⟩
theorem cvX7_drawn : CV MX7_drawn 7 3 := ⟨cmX7_drawn, by decide, rfl, gd 645 (by decide +kernel) (by decide +kernel), gd 646 (by decide +kernel) (by decide +kernel)⟩
abbrev MX4_findVintage : MI := (yX4_findVintage, cX4_findVintage, 8, none)
theorem cmX4_findVintage : CM MX4_findVintage 3 := ⟨gd 652 (by decide +kernel) (by decide +kernel), by decide, iniX4, ⟨by decide, by decide, by decide +kernel⟩⟩
theorem cvX4_findVintage : CV MX4_findVintage 4 3 := ⟨cmX4_findVintage, by decide, rfl, gd 650 (by decide +kernel) (by decide +kernel), gd 651 (by decide +kernel) (by decide +kernel)⟩
abbrev MX7_image : MI := (yX7_image, cX7_image, 2, (some .int))
theorem cmX7_image : CM MX7_image 1 := ⟨gd 662 (by decide +kernel) (by decide +kernel), by decide, iniX7, ⟨by decide, by decide, by decide +kernel⟩⟩
theorem cvX7_image : CV MX7_image 7 1 := ⟨cmX7_image, by decide, rfl, gd 660 (by decide +kernel) (by decide +kernel), gd 661 (by decide +kernel) (by decide +kernel)⟩
abbrev MX7_restore : MI := (yX7_restore, cX7_restore, 2, (some .int))
theorem cmX7_restore : CM MX7_restore 1 := ⟨gd 666 (by decide +kernel) (by decide +kernel), by decide, iniX7, ⟨by decide, by decide, by decide +kernel⟩⟩
theorem cvX7_restore : CV MX7_restore 7 1 := ⟨cmX7_restore, by decide, rfl, gd 664 (by decide +kernel) (by decide +kernel), gd 665 (by decide +kernel) (by decide +kernel)⟩
abbrev MX7_kind : MI := (yX7_kind, cX7_kind, 2, (some .int))
theorem cmX7_kind : CM MX7_kind 1 := ⟨gd 670 (by decide +kernel) (by decide +kernel), by decide, iniX7, ⟨by decide, by decide, by decide +kernel⟩⟩
theorem cvX7_kind : CV MX7_kind 7 1 := ⟨cmX7_kind, by decide, rfl, gd 668 (by decide +kernel) (by decide +kernel), gd 669 (by decide +kernel) (by decide +kernel)⟩
abbrev MX7_as : MI := (yX7_as, cX7_as, 3, (some .int))
theorem cmX7_as : CM MX7_as 2 := ⟨gd 674 (by decide +kernel) (by decide +kernel), by decide, iniX7, ⟨by decide, by decide, by decide +kernel⟩⟩
theorem cvX7_as : CV MX7_as 7 2 := ⟨cmX7_as, by decide, rfl, gd 672 (by decide +kernel) (by decide +kernel), gd 673 (by decide +kernel) (by decide +kernel)⟩
abbrev MX7_isA : MI := (yX7_isA, cX7_isA, 4, (some .boolean))
theorem cmX7_isA : CM MX7_isA 2 := ⟨gd 677 (by decide +kernel) (by decide +kernel), by decide, iniX7, ⟨by decide, by decide, by decide +kernel⟩⟩
theorem csX7_isA : CSt MX7_isA 2 := ⟨cmX7_isA, gd 676 (by decide +kernel) (by decide +kernel)⟩
abbrev MX7_ask : MI := (yX7_ask, cX7_ask, 3, (some .int))
theorem cmX7_ask : CM MX7_ask 2 := ⟨gd 683 (by decide +kernel) (by decide +kernel), by decide, iniX7, ⟨by decide, by decide, by decide +kernel⟩⟩
theorem cvX7_ask : CV MX7_ask 7 2 := ⟨cmX7_ask, by decide, rfl, gd 681 (by decide +kernel) (by decide +kernel), gd 682 (by decide +kernel) (by decide +kernel)⟩
abbrev MX1_answer : MI := (yX1_answer, cX1_answer, 4, (some .int))
theorem cmX1_answer : CM MX1_answer 3 := ⟨gd 687 (by decide +kernel) (by decide +kernel), by decide, iniX1, ⟨by decide, by decide, by decide +kernel⟩⟩
theorem cvX1_answer : CV MX1_answer 1 3 := ⟨cmX1_answer, by decide, rfl, gd 685 (by decide +kernel) (by decide +kernel), gd 686 (by decide +kernel) (by decide +kernel)⟩
abbrev MX1_asked : MI := (yX1_asked, cX1_asked, 5, (some .int))
theorem cmX1_asked : CM MX1_asked 4 := ⟨gd 691 (by decide +kernel) (by decide +kernel), by decide, iniX1, ⟨by decide, by decide, by decide +kernel⟩⟩
theorem cvX1_asked : CV MX1_asked 1 4 := ⟨cmX1_asked, by decide, rfl, gd 690 (by decide +kernel) (by decide +kernel), gdp 16 (by decide +kernel) (by decide +kernel)⟩
abbrev MX1_bodyFor : MI := (yX1_bodyFor, cX1_bodyFor, 5, (some .int))
theorem cmX1_bodyFor : CM MX1_bodyFor 2 := ⟨gd 694 (by decide +kernel) (by decide +kernel), by decide, iniX1, ⟨by decide, by decide, by decide +kernel⟩⟩
theorem csX1_bodyFor : CSt MX1_bodyFor 2 := ⟨cmX1_bodyFor, gd 693 (by decide +kernel) (by decide +kernel)⟩
abbrev MX1_body : MI := (yX1_body, cX1_body, 6, (some .int))
theorem cmX1_body : CM MX1_body 4 := ⟨gd 704 (by decide +kernel) (by decide +kernel), by decide, iniX1, ⟨by decide, by decide, by decide +kernel⟩⟩
theorem cvX1_body : CV MX1_body 1 4 := ⟨cmX1_body, by decide, rfl, gd 703 (by decide +kernel) (by decide +kernel), gdp 17 (by decide +kernel) (by decide +kernel)⟩
abbrev MX1_leave : MI := (yX1_leave, cX1_leave, 2, none)
theorem cmX1_leave : CM MX1_leave 1 := ⟨gd 708 (by decide +kernel) (by decide +kernel), by decide, iniX1, ⟨by decide, by decide, by decide +kernel⟩⟩
theorem cvX1_leave : CV MX1_leave 1 1 := ⟨cmX1_leave, by decide, rfl, gd 707 (by decide +kernel) (by decide +kernel), gdp 18 (by decide +kernel) (by decide +kernel)⟩
abbrev MX7_trace : MI := (yX7_trace, cX7_trace, 2, (some .int))
theorem cmX7_trace : CM MX7_trace 1 := ⟨gd 712 (by decide +kernel) (by decide +kernel), by decide, iniX7, ⟨by decide, by decide, by decide +kernel⟩⟩
theorem cvX7_trace : CV MX7_trace 7 1 := ⟨cmX7_trace, by decide, rfl, gd 710 (by decide +kernel) (by decide +kernel), gd 711 (by decide +kernel) (by decide +kernel)⟩
abbrev MX7_count : MI := (yX7_count, cX7_count, 2, (some .int))
theorem cmX7_count : CM MX7_count 1 := ⟨gd 716 (by decide +kernel) (by decide +kernel), by decide, iniX7, ⟨by decide, by decide, by decide +kernel⟩⟩
theorem cvX7_count : CV MX7_count 7 1 := ⟨cmX7_count, by decide, rfl, gd 714 (by decide +kernel) (by decide +kernel), gd 715 (by decide +kernel) (by decide +kernel)⟩
abbrev MX5_howMany : MI := (yX5_howMany, cX5_howMany, 3, (some .int))
theorem cmX5_howMany : CM MX5_howMany 0 := ⟨gd 720 (by decide +kernel) (by decide +kernel), by decide, iniX5, ⟨by decide, by decide, by decide +kernel⟩⟩
theorem cvX5_howMany : CV MX5_howMany 5 0 := ⟨cmX5_howMany, by decide, rfl, gd 718 (by decide +kernel) (by decide +kernel), gd 719 (by decide +kernel) (by decide +kernel)⟩
abbrev MX7_status : MI := (yX7_status, cX7_status, 1, (some .int))
theorem cmX7_status : CM MX7_status 0 := ⟨gd 725 (by decide +kernel) (by decide +kernel), by decide, iniX7, ⟨by decide, by decide, by decide +kernel⟩⟩
theorem cvX7_status : CV MX7_status 7 0 := ⟨cmX7_status, by decide, rfl, gd 723 (by decide +kernel) (by decide +kernel), gd 724 (by decide +kernel) (by decide +kernel)⟩
abbrev MX8_init : MI := (yX8_init, cX8_init, 1, none)
theorem cmX8_init : CM MX8_init 0 := ⟨gd 730 (by decide +kernel) (by decide +kernel), by decide, iniX8, ⟨by decide, by decide, by decide +kernel⟩⟩
theorem ciX8_init : CI MX8_init 0 := ⟨cmX8_init, rfl, rfl, gd 729 (by decide +kernel) (by decide +kernel)⟩
abbrev MX8_row : MI := (yX8_row, cX8_row, 5, (some .int))
theorem cmX8_row : CM MX8_row 3 := ⟨gd 820 (by decide +kernel) (by decide +kernel), by decide, iniX8, ⟨by decide, by decide, by decide +kernel⟩⟩
theorem cvX8_row : CV MX8_row 8 3 := ⟨cmX8_row, by decide, rfl, gd 818 (by decide +kernel) (by decide +kernel), gd 819 (by decide +kernel) (by decide +kernel)⟩
abbrev MX8_isRow : MI := (yX8_isRow, cX8_isRow, 1, (some .boolean))
theorem cmX8_isRow : CM MX8_isRow 1 := ⟨gd 823 (by decide +kernel) (by decide +kernel), by decide, iniX8, ⟨by decide, by decide, by decide +kernel⟩⟩
theorem csX8_isRow : CSt MX8_isRow 1 := ⟨cmX8_isRow, gd 822 (by decide +kernel) (by decide +kernel)⟩
abbrev MX8_in : MI := (yX8_in, cX8_in, 6, (some .boolean))
theorem cmX8_in : CM MX8_in 3 := ⟨gd 827 (by decide +kernel) (by decide +kernel), by decide, iniX8, ⟨by decide, by decide, by decide +kernel⟩⟩
theorem csX8_in : CSt MX8_in 3 := ⟨cmX8_in, gd 826 (by decide +kernel) (by decide +kernel)⟩
abbrev MX8_finding : MI := (yX8_finding, cX8_finding, 2, (some .int))
theorem cmX8_finding : CM MX8_finding 1 := ⟨gd 833 (by decide +kernel) (by decide +kernel), by decide, iniX8, ⟨by decide, by decide, by decide +kernel⟩⟩
theorem cvX8_finding : CV MX8_finding 8 1 := ⟨cmX8_finding, by decide, rfl, gd 832 (by decide +kernel) (by decide +kernel), gdp 19 (by decide +kernel) (by decide +kernel)⟩
abbrev MX8_set : MI := (yX8_set, cX8_set, 4, (some .int))
theorem cmX8_set : CM MX8_set 3 := ⟨gd 838 (by decide +kernel) (by decide +kernel), by decide, iniX8, ⟨by decide, by decide, by decide +kernel⟩⟩
theorem cvX8_set : CV MX8_set 8 3 := ⟨cmX8_set, by decide, rfl, gd 836 (by decide +kernel) (by decide +kernel), gd 837 (by decide +kernel) (by decide +kernel)⟩
abbrev MX8_copy : MI := (yX8_copy, cX8_copy, 9, (some .int))
theorem cmX8_copy : CM MX8_copy 5 := ⟨gd 842 (by decide +kernel) (by decide +kernel), by decide, iniX8, ⟨by decide, by decide, by decide +kernel⟩⟩
theorem cvX8_copy : CV MX8_copy 8 5 := ⟨cmX8_copy, by decide, rfl, gd 840 (by decide +kernel) (by decide +kernel), gd 841 (by decide +kernel) (by decide +kernel)⟩
abbrev MX8_drop : MI := (yX8_drop, cX8_drop, 2, (some .int))
theorem cmX8_drop : CM MX8_drop 1 := ⟨gd 846 (by decide +kernel) (by decide +kernel), by decide, iniX8, ⟨by decide, by decide, by decide +kernel⟩⟩
theorem cvX8_drop : CV MX8_drop 8 1 := ⟨cmX8_drop, by decide, rfl, gd 844 (by decide +kernel) (by decide +kernel), gd 845 (by decide +kernel) (by decide +kernel)⟩
abbrev MX8_feed : MI := (yX8_feed, cX8_feed, 2, (some .int))
theorem cmX8_feed : CM MX8_feed 1 := ⟨gd 850 (by decide +kernel) (by decide +kernel), by decide, iniX8, ⟨by decide, by decide, by decide +kernel⟩⟩
theorem cvX8_feed : CV MX8_feed 8 1 := ⟨cmX8_feed, by decide, rfl, gd 848 (by decide +kernel) (by decide +kernel), gd 849 (by decide +kernel) (by decide +kernel)⟩
abbrev MX8_fault : MI := (yX8_fault, cX8_fault, 1, (some .int))
theorem cmX8_fault : CM MX8_fault 0 := ⟨gd 856 (by decide +kernel) (by decide +kernel), by decide, iniX8, ⟨by decide, by decide, by decide +kernel⟩⟩
theorem cvX8_fault : CV MX8_fault 8 0 := ⟨cmX8_fault, by decide, rfl, gd 854 (by decide +kernel) (by decide +kernel), gd 855 (by decide +kernel) (by decide +kernel)⟩
abbrev MX8_cellar : MI := (yX8_cellar, cX8_cellar, 2, (some .int))
theorem cmX8_cellar : CM MX8_cellar 0 := ⟨gd 860 (by decide +kernel) (by decide +kernel), by decide, iniX8, ⟨by decide, by decide, by decide +kernel⟩⟩
theorem cvX8_cellar : CV MX8_cellar 8 0 := ⟨cmX8_cellar, by decide, rfl, gd 858 (by decide +kernel) (by decide +kernel), gd 859 (by decide +kernel) (by decide +kernel)⟩
abbrev MX8_begin : MI := (yX8_begin, cX8_begin, 1, none)
theorem cmX8_begin : CM MX8_begin 0 := ⟨gd 864 (by decide +kernel) (by decide +kernel), by decide, iniX8, ⟨by decide, by decide, by decide +kernel⟩⟩
theorem cvX8_begin : CV MX8_begin 8 0 := ⟨cmX8_begin, by decide, rfl, gd 863 (by decide +kernel) (by decide +kernel), gdp 20 (by decide +kernel) (by decide +kernel)⟩
abbrev MX8_nextToken : MI := (yX8_nextToken, cX8_nextToken, 1, none)
theorem cmX8_nextToken : CM MX8_nextToken 0 := ⟨gd 868 (by decide +kernel) (by decide +kernel), by decide, iniX8, ⟨by decide, by decide, by decide +kernel⟩⟩
theorem cvX8_nextToken : CV MX8_nextToken 8 0 := ⟨cmX8_nextToken, by decide, rfl, gd 867 (by decide +kernel) (by decide +kernel), gdp 21 (by decide +kernel) (by decide +kernel)⟩
abbrev MX8_isLetter : MI := (yX8_isLetter, cX8_isLetter, 2, (some .boolean))
theorem cmX8_isLetter : CM MX8_isLetter 1 := ⟨gd 877 (by decide +kernel) (by decide +kernel), by decide, iniX8, ⟨by decide, by decide, by decide +kernel⟩⟩
theorem cvX8_isLetter : CV MX8_isLetter 8 1 := ⟨cmX8_isLetter, by decide, rfl, gd 876 (by decide +kernel) (by decide +kernel), gdp 22 (by decide +kernel) (by decide +kernel)⟩
abbrev MX8_must : MI := (yX8_must, cX8_must, 2, none)
theorem cmX8_must : CM MX8_must 1 := ⟨gd 881 (by decide +kernel) (by decide +kernel), by decide, iniX8, ⟨by decide, by decide, by decide +kernel⟩⟩
theorem cvX8_must : CV MX8_must 8 1 := ⟨cmX8_must, by decide, rfl, gd 880 (by decide +kernel) (by decide +kernel), gdp 23 (by decide +kernel) (by decide +kernel)⟩
abbrev MX8_bad : MI := (yX8_bad, cX8_bad, 2, none)
theorem cmX8_bad : CM MX8_bad 1 := ⟨gd 885 (by decide +kernel) (by decide +kernel), by decide, iniX8, ⟨by decide, by decide, by decide +kernel⟩⟩
theorem cvX8_bad : CV MX8_bad 8 1 := ⟨cmX8_bad, by decide, rfl, gd 884 (by decide +kernel) (by decide +kernel), gdp 24 (by decide +kernel) (by decide +kernel)⟩
abbrev MX8_number : MI := (yX8_number, cX8_number, 4, (some .int))
theorem cmX8_number : CM MX8_number 2 := ⟨gd 889 (by decide +kernel) (by decide +kernel), by decide, iniX8, ⟨by decide, by decide, by decide +kernel⟩⟩
theorem cvX8_number : CV MX8_number 8 2 := ⟨cmX8_number, by decide, rfl, gd 888 (by decide +kernel) (by decide +kernel), gdp 25 (by decide +kernel) (by decide +kernel)⟩
abbrev MX8_mustSign : MI := (yX8_mustSign, cX8_mustSign, 2, none)
theorem cmX8_mustSign : CM MX8_mustSign 1 := ⟨gd 893 (by decide +kernel) (by decide +kernel), by decide, iniX8, ⟨by decide, by decide, by decide +kernel⟩⟩
theorem cvX8_mustSign : CV MX8_mustSign 8 1 := ⟨cmX8_mustSign, by decide, rfl, gd 892 (by decide +kernel) (by decide +kernel), gdp 26 (by decide +kernel) (by decide +kernel)⟩
abbrev MX8_isSort : MI := (yX8_isSort, cX8_isSort, 1, (some .boolean))
theorem cmX8_isSort : CM MX8_isSort 0 := ⟨gd 897 (by decide +kernel) (by decide +kernel), by decide, iniX8, ⟨by decide, by decide, by decide +kernel⟩⟩
theorem cvX8_isSort : CV MX8_isSort 8 0 := ⟨cmX8_isSort, by decide, rfl, gd 896 (by decide +kernel) (by decide +kernel), gdp 27 (by decide +kernel) (by decide +kernel)⟩
abbrev MX8_kindBy : MI := (yX8_kindBy, cX8_kindBy, 1, (some .int))
theorem cmX8_kindBy : CM MX8_kindBy 1 := ⟨gd 900 (by decide +kernel) (by decide +kernel), by decide, iniX8, ⟨by decide, by decide, by decide +kernel⟩⟩
theorem csX8_kindBy : CSt MX8_kindBy 1 := ⟨cmX8_kindBy, gd 899 (by decide +kernel) (by decide +kernel)⟩
abbrev MX8_readJar : MI := (yX8_readJar, cX8_readJar, 5, none)
theorem cmX8_readJar : CM MX8_readJar 0 := ⟨gd 904 (by decide +kernel) (by decide +kernel), by decide, iniX8, ⟨by decide, by decide, by decide +kernel⟩⟩
theorem cvX8_readJar : CV MX8_readJar 8 0 := ⟨cmX8_readJar, by decide, rfl, gd 903 (by decide +kernel) (by decide +kernel), gdp 28 (by decide +kernel) (by decide +kernel)⟩
abbrev MX8_failed : MI := (yX8_failed, cX8_failed, 1, (some .boolean))
theorem cmX8_failed : CM MX8_failed 0 := ⟨gd 908 (by decide +kernel) (by decide +kernel), by decide, iniX8, ⟨by decide, by decide, by decide +kernel⟩⟩
theorem cvX8_failed : CV MX8_failed 8 0 := ⟨cmX8_failed, by decide, rfl, gd 907 (by decide +kernel) (by decide +kernel), gdp 29 (by decide +kernel) (by decide +kernel)⟩
abbrev MX8_years : MI := (yX8_years, cX8_years, 3, (some .int))
theorem cmX8_years : CM MX8_years 1 := ⟨gd 913 (by decide +kernel) (by decide +kernel), by decide, iniX8, ⟨by decide, by decide, by decide +kernel⟩⟩
theorem cvX8_years : CV MX8_years 8 1 := ⟨cmX8_years, by decide, rfl, gd 911 (by decide +kernel) (by decide +kernel), gd 912 (by decide +kernel) (by decide +kernel)⟩
abbrev MX8_isThere : MI := (yX8_isThere, cX8_isThere, 1, (some .boolean))
theorem cmX8_isThere : CM MX8_isThere 0 := ⟨gd 917 (by decide +kernel) (by decide +kernel), by decide, iniX8, ⟨by decide, by decide, by decide +kernel⟩⟩
theorem cvX8_isThere : CV MX8_isThere 8 0 := ⟨cmX8_isThere, by decide, rfl, gd 916 (by decide +kernel) (by decide +kernel), gdp 30 (by decide +kernel) (by decide +kernel)⟩
abbrev MX8_keep : MI := (yX8_keep, cX8_keep, 2, none)
theorem cmX8_keep : CM MX8_keep 0 := ⟨gd 923 (by decide +kernel) (by decide +kernel), by decide, iniX8, ⟨by decide, by decide, by decide +kernel⟩⟩
theorem cvX8_keep : CV MX8_keep 8 0 := ⟨cmX8_keep, by decide, rfl, gd 922 (by decide +kernel) (by decide +kernel), gdp 31 (by decide +kernel) (by decide +kernel)⟩
abbrev MX8_yearOf : MI := (yX8_yearOf, cX8_yearOf, 2, none)
theorem cmX8_yearOf : CM MX8_yearOf 1 := ⟨gd 926 (by decide +kernel) (by decide +kernel), by decide, iniX8, ⟨by decide, by decide, by decide +kernel⟩⟩
theorem csX8_yearOf : CSt MX8_yearOf 1 := ⟨cmX8_yearOf, gd 925 (by decide +kernel) (by decide +kernel)⟩
abbrev MX8_of : MI := (yX8_of, cX8_of, 3, (some .int))
theorem cmX8_of : CM MX8_of 3 := ⟨gd 929 (by decide +kernel) (by decide +kernel), by decide, iniX8, ⟨by decide, by decide, by decide +kernel⟩⟩
theorem csX8_of : CSt MX8_of 3 := ⟨cmX8_of, gd 928 (by decide +kernel) (by decide +kernel)⟩
abbrev MX8_be : MI := (yX8_be, cX8_be, 4, none)
theorem cmX8_be : CM MX8_be 4 := ⟨gd 932 (by decide +kernel) (by decide +kernel), by decide, iniX8, ⟨by decide, by decide, by decide +kernel⟩⟩
theorem csX8_be : CSt MX8_be 4 := ⟨cmX8_be, gd 931 (by decide +kernel) (by decide +kernel)⟩
abbrev MX8_those : MI := (yX8_those, cX8_those, 4, (some .int))
theorem cmX8_those : CM MX8_those 2 := ⟨gd 935 (by decide +kernel) (by decide +kernel), by decide, iniX8, ⟨by decide, by decide, by decide +kernel⟩⟩
theorem csX8_those : CSt MX8_those 2 := ⟨cmX8_those, gd 934 (by decide +kernel) (by decide +kernel)⟩
abbrev MX8_sneeze : MI := (yX8_sneeze, cX8_sneeze, 4, (some .int))
theorem cmX8_sneeze : CM MX8_sneeze 2 := ⟨gd 939 (by decide +kernel) (by decide +kernel), by decide, iniX8, ⟨by decide, by decide, by decide +kernel⟩⟩
theorem cvX8_sneeze : CV MX8_sneeze 8 2 := ⟨cmX8_sneeze, by decide, rfl, gd 937 (by decide +kernel) (by decide +kernel), gd 938 (by decide +kernel) (by decide +kernel)⟩
abbrev MX8_isNote : MI := (yX8_isNote, cX8_isNote, 2, (some .boolean))
theorem cmX8_isNote : CM MX8_isNote 1 := ⟨gd 942 (by decide +kernel) (by decide +kernel), by decide, iniX8, ⟨by decide, by decide, by decide +kernel⟩⟩
theorem csX8_isNote : CSt MX8_isNote 1 := ⟨cmX8_isNote, gd 941 (by decide +kernel) (by decide +kernel)⟩
abbrev MX8_isJar : MI := (yX8_isJar, cX8_isJar, 2, (some .boolean))
theorem cmX8_isJar : CM MX8_isJar 1 := ⟨gd 947 (by decide +kernel) (by decide +kernel), by decide, iniX8, ⟨by decide, by decide, by decide +kernel⟩⟩
theorem cvX8_isJar : CV MX8_isJar 8 1 := ⟨cmX8_isJar, by decide, rfl, gd 946 (by decide +kernel) (by decide +kernel), gdp 32 (by decide +kernel) (by decide +kernel)⟩
abbrev MX8_sneezes : MI := (yX8_sneezes, cX8_sneezes, 6, none)
theorem cmX8_sneezes : CM MX8_sneezes 3 := ⟨gd 951 (by decide +kernel) (by decide +kernel), by decide, iniX8, ⟨by decide, by decide, by decide +kernel⟩⟩
theorem cvX8_sneezes : CV MX8_sneezes 8 3 := ⟨cmX8_sneezes, by decide, rfl, gd 950 (by decide +kernel) (by decide +kernel), gdp 33 (by decide +kernel) (by decide +kernel)⟩
abbrev MX8_chainOf : MI := (yX8_chainOf, cX8_chainOf, 9, (some .int))
theorem cmX8_chainOf : CM MX8_chainOf 4 := ⟨gd 955 (by decide +kernel) (by decide +kernel), by decide, iniX8, ⟨by decide, by decide, by decide +kernel⟩⟩
theorem cvX8_chainOf : CV MX8_chainOf 8 4 := ⟨cmX8_chainOf, by decide, rfl, gd 954 (by decide +kernel) (by decide +kernel), gdp 34 (by decide +kernel) (by decide +kernel)⟩
abbrev MX8_has : MI := (yX8_has, cX8_has, 2, (some .boolean))
theorem cmX8_has : CM MX8_has 2 := ⟨gd 958 (by decide +kernel) (by decide +kernel), by decide, iniX8, ⟨by decide, by decide, by decide +kernel⟩⟩
theorem csX8_has : CSt MX8_has 2 := ⟨cmX8_has, gd 957 (by decide +kernel) (by decide +kernel)⟩
abbrev MX8_setsOff : MI := (yX8_setsOff, cX8_setsOff, 9, (some .boolean))
theorem cmX8_setsOff : CM MX8_setsOff 2 := ⟨gd 962 (by decide +kernel) (by decide +kernel), by decide, iniX8, ⟨by decide, by decide, by decide +kernel⟩⟩
theorem cvX8_setsOff : CV MX8_setsOff 8 2 := ⟨cmX8_setsOff, by decide, rfl, gd 961 (by decide +kernel) (by decide +kernel), gdp 35 (by decide +kernel) (by decide +kernel)⟩
abbrev MX8_gap : MI := (yX8_gap, cX8_gap, 2, (some .int))
theorem cmX8_gap : CM MX8_gap 2 := ⟨gd 965 (by decide +kernel) (by decide +kernel), by decide, iniX8, ⟨by decide, by decide, by decide +kernel⟩⟩
theorem csX8_gap : CSt MX8_gap 2 := ⟨cmX8_gap, gd 964 (by decide +kernel) (by decide +kernel)⟩
abbrev MX8_apart : MI := (yX8_apart, cX8_apart, 3, (some .int))
theorem cmX8_apart : CM MX8_apart 2 := ⟨gd 968 (by decide +kernel) (by decide +kernel), by decide, iniX8, ⟨by decide, by decide, by decide +kernel⟩⟩
theorem csX8_apart : CSt MX8_apart 2 := ⟨cmX8_apart, gd 967 (by decide +kernel) (by decide +kernel)⟩
abbrev MX8_open : MI := (yX8_open, cX8_open, 2, (some .int))
theorem cmX8_open : CM MX8_open 1 := ⟨gd 972 (by decide +kernel) (by decide +kernel), by decide, iniX8, ⟨by decide, by decide, by decide +kernel⟩⟩
theorem cvX8_open : CV MX8_open 8 1 := ⟨cmX8_open, by decide, rfl, gd 970 (by decide +kernel) (by decide +kernel), gd 971 (by decide +kernel) (by decide +kernel)⟩
abbrev MX8_change : MI := (yX8_change, cX8_change, 3, (some .int))
theorem cmX8_change : CM MX8_change 2 := ⟨gd 976 (by decide +kernel) (by decide +kernel), by decide, iniX8, ⟨by decide, by decide, by decide +kernel⟩⟩
theorem cvX8_change : CV MX8_change 8 2 := ⟨cmX8_change, by decide, rfl, gd 974 (by decide +kernel) (by decide +kernel), gd 975 (by decide +kernel) (by decide +kernel)⟩
abbrev MX8_changePlaces : MI := (yX8_changePlaces, cX8_changePlaces, 4, none)
theorem cmX8_changePlaces : CM MX8_changePlaces 3 := ⟨gd 979 (by decide +kernel) (by decide +kernel), by decide, iniX8, ⟨by decide, by decide, by decide +kernel⟩⟩
theorem csX8_changePlaces : CSt MX8_changePlaces 3 := ⟨cmX8_changePlaces, gd 978 (by decide +kernel) (by decide +kernel)⟩
abbrev MX8_seal : MI := (yX8_seal, cX8_seal, 4, (some .int))
theorem cmX8_seal : CM MX8_seal 3 := ⟨gd 983 (by decide +kernel) (by decide +kernel), by decide, iniX8, ⟨by decide, by decide, by decide +kernel⟩⟩
theorem cvX8_seal : CV MX8_seal 8 3 := ⟨cmX8_seal, by decide, rfl, gd 981 (by decide +kernel) (by decide +kernel), gd 982 (by decide +kernel) (by decide +kernel)⟩
abbrev MX8_reach : MI := (yX8_reach, cX8_reach, 3, (some .int))
theorem cmX8_reach : CM MX8_reach 1 := ⟨gd 988 (by decide +kernel) (by decide +kernel), by decide, iniX8, ⟨by decide, by decide, by decide +kernel⟩⟩
theorem cvX8_reach : CV MX8_reach 8 1 := ⟨cmX8_reach, by decide, rfl, gd 986 (by decide +kernel) (by decide +kernel), gd 987 (by decide +kernel) (by decide +kernel)⟩
abbrev MX8_undo : MI := (yX8_undo, cX8_undo, 2, (some .int))
end
section
theorem cmX8_undo : CM MX8_undo 0 := ⟨gd 993 (by decide +kernel) (by decide +kernel), by decide, iniX8, ⟨by decide, by decide, by decide +kernel⟩⟩
theorem cvX8_undo : CV MX8_undo 8 0 := ⟨cmX8_undo, by decide, rfl, gd 991 (by decide +kernel) (by decide +kernel), gd 992 (by decide +kernel) (by decide +kernel)⟩
abbrev MX8_jar : MI := (yX8_jar, cX8_jar, 3, (some .int))
theorem cmX8_jar : CM MX8_jar 2 := ⟨gd 997 (by decide +kernel) (by decide +kernel), by decide, iniX8, ⟨by decide, by decide, by decide +kernel⟩⟩
theorem cvX8_jar : CV MX8_jar 8 2 := ⟨cmX8_jar, by decide, rfl, gd 995 (by decide +kernel) (by decide +kernel), gd 996 (by decide +kernel) (by decide +kernel)⟩
abbrev MX8_stand : MI := (yX8_stand, cX8_stand, 2, (some .int))
theorem cmX8_stand : CM MX8_stand 1 := ⟨gd 1002 (by decide +kernel) (by decide +kernel), by decide, iniX8, ⟨by decide, by decide, by decide +kernel⟩⟩
theorem cvX8_stand : CV MX8_stand 8 1 := ⟨cmX8_stand, by decide, rfl, gd 1000 (by decide +kernel) (by decide +kernel), gd 1001 (by decide +kernel) (by decide +kernel)⟩
abbrev MX8_chain : MI := (yX8_chain, cX8_chain, 5, (some .int))
theorem cmX8_chain : CM MX8_chain 3 := ⟨gd 1006 (by decide +kernel) (by decide +kernel), by decide, iniX8, ⟨by decide, by decide, by decide +kernel⟩⟩
theorem cvX8_chain : CV MX8_chain 8 3 := ⟨cmX8_chain, by decide, rfl, gd 1004 (by decide +kernel) (by decide +kernel), gd 1005 (by decide +kernel) (by decide +kernel)⟩
abbrev MX8_worst : MI := (yX8_worst, cX8_worst, 3, (some .int))
theorem cmX8_worst : CM MX8_worst 1 := ⟨gd 1010 (by decide +kernel) (by decide +kernel), by decide, iniX8, ⟨by decide, by decide, by decide +kernel⟩⟩
theorem cvX8_worst : CV MX8_worst 8 1 := ⟨cmX8_worst, by decide, rfl, gd 1008 (by decide +kernel) (by decide +kernel), gd 1009 (by decide +kernel) (by decide +kernel)⟩
abbrev MX8_worstOf : MI := (yX8_worstOf, cX8_worstOf, 7, (some .int))
theorem cmX8_worstOf : CM MX8_worstOf 1 := ⟨gd 1014 (by decide +kernel) (by decide +kernel), by decide, iniX8, ⟨by decide, by decide, by decide +kernel⟩⟩
theorem cvX8_worstOf : CV MX8_worstOf 8 1 := ⟨cmX8_worstOf, by decide, rfl, gd 1013 (by decide +kernel) (by decide +kernel), gdp 36 (by decide +kernel) (by decide +kernel)⟩
abbrev MX8_bits : MI := (yX8_bits, cX8_bits, 3, (some .int))
theorem cmX8_bits : CM MX8_bits 1 := ⟨gd 1017 (by decide +kernel) (by decide +kernel), by decide, iniX8, ⟨by decide, by decide, by decide +kernel⟩⟩
theorem csX8_bits : CSt MX8_bits 1 := ⟨cmX8_bits, gd 1016 (by decide +kernel) (by decide +kernel)⟩
abbrev MX8_when : MI := (yX8_when, cX8_when, 3, (some .int))
theorem cmX8_when : CM MX8_when 1 := ⟨gd 1021 (by decide +kernel) (by decide +kernel), by decide, iniX8, ⟨by decide, by decide, by decide +kernel⟩⟩
theorem cvX8_when : CV MX8_when 8 1 := ⟨cmX8_when, by decide, rfl, gd 1019 (by decide +kernel) (by decide +kernel), gd 1020 (by decide +kernel) (by decide +kernel)⟩
abbrev MX8_kept : MI := (yX8_kept, cX8_kept, 3, (some .int))
theorem cmX8_kept : CM MX8_kept 1 := ⟨gd 1025 (by decide +kernel) (by decide +kernel), by decide, iniX8, ⟨by decide, by decide, by decide +kernel⟩⟩
theorem cvX8_kept : CV MX8_kept 8 1 := ⟨cmX8_kept, by decide, rfl, gd 1023 (by decide +kernel) (by decide +kernel), gd 1024 (by decide +kernel) (by decide +kernel)⟩
abbrev MX8_layThen : MI := (yX8_layThen, cX8_layThen, 2, none)
theorem cmX8_layThen : CM MX8_layThen 0 := ⟨gd 1029 (by decide +kernel) (by decide +kernel), by decide, iniX8, ⟨by decide, by decide, by decide +kernel⟩⟩
theorem cvX8_layThen : CV MX8_layThen 8 0 := ⟨cmX8_layThen, by decide, rfl, gd 1028 (by decide +kernel) (by decide +kernel), gdp 37 (by decide +kernel) (by decide +kernel)⟩
abbrev MX8_guard : MI := (yX8_guard, cX8_guard, 9, (some .int))
theorem cmX8_guard : CM MX8_guard 4 := ⟨gd 1033 (by decide +kernel) (by decide +kernel), by decide, iniX8, ⟨by decide, by decide, by decide +kernel⟩⟩
theorem cvX8_guard : CV MX8_guard 8 4 := ⟨cmX8_guard, by decide, rfl, gd 1031 (by decide +kernel) (by decide +kernel), gd 1032 (by decide +kernel) (by decide +kernel)⟩
abbrev MX8_changes : MI := (yX8_changes, cX8_changes, 7, (some .int))
theorem cmX8_changes : CM MX8_changes 1 := ⟨gd 1037 (by decide +kernel) (by decide +kernel), by decide, iniX8, ⟨by decide, by decide, by decide +kernel⟩⟩
theorem cvX8_changes : CV MX8_changes 8 1 := ⟨cmX8_changes, by decide, rfl, gd 1035 (by decide +kernel) (by decide +kernel), gd 1036 (by decide +kernel) (by decide +kernel)⟩
abbrev MX8_tuned : MI := (yX8_tuned, cX8_tuned, 7, (some .int))
theorem cmX8_tuned : CM MX8_tuned 2 := ⟨gd 1041 (by decide +kernel) (by decide +kernel), by decide, iniX8, ⟨by decide, by decide, by decide +kernel⟩⟩
theorem cvX8_tuned : CV MX8_tuned 8 2 := ⟨cmX8_tuned, by decide, rfl, gd 1039 (by decide +kernel) (by decide +kernel), gd 1040 (by decide +kernel) (by decide +kernel)⟩
abbrev MX8_spared : MI := (yX8_spared, cX8_spared, 6, (some .int))
theorem cmX8_spared : CM MX8_spared 1 := ⟨gd 1045 (by decide +kernel) (by decide +kernel), by decide, iniX8, ⟨by decide, by decide, by decide +kernel⟩⟩
theorem cvX8_spared : CV MX8_spared 8 1 := ⟨cmX8_spared, by decide, rfl, gd 1043 (by decide +kernel) (by decide +kernel), gd 1044 (by decide +kernel) (by decide +kernel)⟩
abbrev MX8_alike : MI := (yX8_alike, cX8_alike, 6, (some .int))
theorem cmX8_alike : CM MX8_alike 1 := ⟨gd 1049 (by decide +kernel) (by decide +kernel), by decide, iniX8, ⟨by decide, by decide, by decide +kernel⟩⟩
theorem cvX8_alike : CV MX8_alike 8 1 := ⟨cmX8_alike, by decide, rfl, gd 1047 (by decide +kernel) (by decide +kernel), gd 1048 (by decide +kernel) (by decide +kernel)⟩
abbrev MX8_breaksBy : MI := (yX8_breaksBy, cX8_breaksBy, 4, (some .boolean))
theorem cmX8_breaksBy : CM MX8_breaksBy 2 := ⟨gd 1053 (by decide +kernel) (by decide +kernel), by decide, iniX8, ⟨by decide, by decide, by decide +kernel⟩⟩
theorem cvX8_breaksBy : CV MX8_breaksBy 8 2 := ⟨cmX8_breaksBy, by decide, rfl, gd 1052 (by decide +kernel) (by decide +kernel), gdp 38 (by decide +kernel) (by decide +kernel)⟩
abbrev MX8_song : MI := (yX8_song, cX8_song, 10, (some .int))
theorem cmX8_song : CM MX8_song 4 := ⟨gd 1057 (by decide +kernel) (by decide +kernel), by decide, iniX8, ⟨by decide, by decide, by decide +kernel⟩⟩
theorem cvX8_song : CV MX8_song 8 4 := ⟨cmX8_song, by decide, rfl, gd 1055 (by decide +kernel) (by decide +kernel), gd 1056 (by decide +kernel) (by decide +kernel)⟩
abbrev MX8_isMany : MI := (yX8_isMany, cX8_isMany, 2, (some .boolean))
theorem cmX8_isMany : CM MX8_isMany 2 := ⟨gd 1060 (by decide +kernel) (by decide +kernel), by decide, iniX8, ⟨by decide, by decide, by decide +kernel⟩⟩
theorem csX8_isMany : CSt MX8_isMany 2 := ⟨cmX8_isMany, gd 1059 (by decide +kernel) (by decide +kernel)⟩
abbrev MX8_rowFound : MI := (yX8_rowFound, cX8_rowFound, 4, (some .int))
theorem cmX8_rowFound : CM MX8_rowFound 3 := ⟨gd 1065 (by decide +kernel) (by decide +kernel), by decide, iniX8, ⟨by decide, by decide, by decide +kernel⟩⟩
theorem cvX8_rowFound : CV MX8_rowFound 8 3 := ⟨cmX8_rowFound, by decide, rfl, gd 1064 (by decide +kernel) (by decide +kernel), gdp 39 (by decide +kernel) (by decide +kernel)⟩
abbrev MX8_who : MI := (yX8_who, cX8_who, 10, (some .int))
theorem cmX8_who : CM MX8_who 6 := ⟨gd 1069 (by decide +kernel) (by decide +kernel), by decide, iniX8, ⟨by decide, by decide, by decide +kernel⟩⟩
theorem cvX8_who : CV MX8_who 8 6 := ⟨cmX8_who, by decide, rfl, gd 1067 (by decide +kernel) (by decide +kernel), gd 1068 (by decide +kernel) (by decide +kernel)⟩
abbrev MX8_isSo : MI := (yX8_isSo, cX8_isSo, 6, (some .boolean))
theorem cmX8_isSo : CM MX8_isSo 3 := ⟨gd 1073 (by decide +kernel) (by decide +kernel), by decide, iniX8, ⟨by decide, by decide, by decide +kernel⟩⟩
theorem cvX8_isSo : CV MX8_isSo 8 3 := ⟨cmX8_isSo, by decide, rfl, gd 1072 (by decide +kernel) (by decide +kernel), gdp 40 (by decide +kernel) (by decide +kernel)⟩
abbrev MX8_reaches : MI := (yX8_reaches, cX8_reaches, 8, (some .int))
theorem cmX8_reaches : CM MX8_reaches 4 := ⟨gd 1077 (by decide +kernel) (by decide +kernel), by decide, iniX8, ⟨by decide, by decide, by decide +kernel⟩⟩
theorem cvX8_reaches : CV MX8_reaches 8 4 := ⟨cmX8_reaches, by decide, rfl, gd 1075 (by decide +kernel) (by decide +kernel), gd 1076 (by decide +kernel) (by decide +kernel)⟩
abbrev MX8_mould : MI := (yX8_mould, cX8_mould, 17, (some .long))
theorem cmX8_mould : CM MX8_mould 5 := ⟨gd 1081 (by decide +kernel) (by decide +kernel), by decide, iniX8, ⟨by decide, by decide, by decide +kernel⟩⟩
theorem cvX8_mould : CV MX8_mould 8 5 := ⟨cmX8_mould, by decide, rfl, gd 1079 (by decide +kernel) (by decide +kernel), gd 1080 (by decide +kernel) (by decide +kernel)⟩
abbrev MX8_drawn : MI := (yX8_drawn, cX8_drawn, 7, (some .int))
theorem cmX8_drawn : CM MX8_drawn 3 := ⟨gd 1087 (by decide +kernel) (by decide +kernel), by decide, iniX8, ⟨by decide, by decide, by decide +kernel⟩⟩
theorem cvX8_drawn : CV MX8_drawn 8 3 := ⟨cmX8_drawn, by decide, rfl, gd 1085 (by decide +kernel) (by decide +kernel), gd 1086 (by decide +kernel) (by decide +kernel)⟩
abbrev MX8_image : MI := (yX8_image, cX8_image, 3, (some .int))
theorem cmX8_image : CM MX8_image 1 := ⟨gd 1094 (by decide +kernel) (by decide +kernel), by decide, iniX8, ⟨by decide, by decide, by decide +kernel⟩⟩
theorem cvX8_image : CV MX8_image 8 1 := ⟨cmX8_image, by decide, rfl, gd 1092 (by decide +kernel) (by decide +kernel), gd 1093 (by decide +kernel) (by decide +kernel)⟩
abbrev MX8_restore : MI := (yX8_restore, cX8_restore, 3, (some .int))
theorem cmX8_restore : CM MX8_restore 1 := ⟨gd 1098 (by decide +kernel) (by decide +kernel), by decide, iniX8, ⟨by decide, by decide, by decide +kernel⟩⟩
theorem cvX8_restore : CV MX8_restore 8 1 := ⟨cmX8_restore, by decide, rfl, gd 1096 (by decide +kernel) (by decide +kernel), gd 1097 (by decide +kernel) (by decide +kernel)⟩
abbrev MX8_kind : MI := (yX8_kind, cX8_kind, 2, (some .int))
theorem cmX8_kind : CM MX8_kind 1 := ⟨gd 1102 (by decide +kernel) (by decide +kernel), by decide, iniX8, ⟨by decide, by decide, by decide +kernel⟩⟩
theorem cvX8_kind : CV MX8_kind 8 1 := ⟨cmX8_kind, by decide, rfl, gd 1100 (by decide +kernel) (by decide +kernel), gd 1101 (by decide +kernel) (by decide +kernel)⟩
abbrev MX8_as : MI := (yX8_as, cX8_as, 3, (some .int))
theorem cmX8_as : CM MX8_as 2 := ⟨gd 1106 (by decide +kernel) (by decide +kernel), by decide, iniX8, ⟨by decide, by decide, by decide +kernel⟩⟩
theorem cvX8_as : CV MX8_as 8 2 := ⟨cmX8_as, by decide, rfl, gd 1104 (by decide +kernel) (by decide +kernel), gd 1105 (by decide +kernel) (by decide +kernel)⟩
abbrev MX8_isOf : MI := (yX8_isOf, cX8_isOf, 2, (some .boolean))
theorem cmX8_isOf : CM MX8_isOf 2 := ⟨gd 1110 (by decide +kernel) (by decide +kernel), by decide, iniX8, ⟨by decide, by decide, by decide +kernel⟩⟩
theorem csX8_isOf : CSt MX8_isOf 2 := ⟨cmX8_isOf, gd 1109 (by decide +kernel) (by decide +kernel)⟩
abbrev MX8_ask : MI := (yX8_ask, cX8_ask, 3, (some .int))
theorem cmX8_ask : CM MX8_ask 2 := ⟨gd 1114 (by decide +kernel) (by decide +kernel), by decide, iniX8, ⟨by decide, by decide, by decide +kernel⟩⟩
theorem cvX8_ask : CV MX8_ask 8 2 := ⟨cmX8_ask, by decide, rfl, gd 1112 (by decide +kernel) (by decide +kernel), gd 1113 (by decide +kernel) (by decide +kernel)⟩
abbrev MX8_sizeOf : MI := (yX8_sizeOf, cX8_sizeOf, 4, (some .int))
theorem cmX8_sizeOf : CM MX8_sizeOf 1 := ⟨gd 1118 (by decide +kernel) (by decide +kernel), by decide, iniX8, ⟨by decide, by decide, by decide +kernel⟩⟩
theorem cvX8_sizeOf : CV MX8_sizeOf 8 1 := ⟨cmX8_sizeOf, by decide, rfl, gd 1117 (by decide +kernel) (by decide +kernel), gdp 41 (by decide +kernel) (by decide +kernel)⟩
abbrev MX8_stoneSize : MI := (yX8_stoneSize, cX8_stoneSize, 4, (some .int))
theorem cmX8_stoneSize : CM MX8_stoneSize 1 := ⟨gd 1122 (by decide +kernel) (by decide +kernel), by decide, iniX8, ⟨by decide, by decide, by decide +kernel⟩⟩
theorem cvX8_stoneSize : CV MX8_stoneSize 8 1 := ⟨cmX8_stoneSize, by decide, rfl, gd 1121 (by decide +kernel) (by decide +kernel), gdp 42 (by decide +kernel) (by decide +kernel)⟩
abbrev MX8_began : MI := (yX8_began, cX8_began, 2, none)
theorem cmX8_began : CM MX8_began 1 := ⟨gd 1126 (by decide +kernel) (by decide +kernel), by decide, iniX8, ⟨by decide, by decide, by decide +kernel⟩⟩
theorem cvX8_began : CV MX8_began 8 1 := ⟨cmX8_began, by decide, rfl, gd 1125 (by decide +kernel) (by decide +kernel), gdp 43 (by decide +kernel) (by decide +kernel)⟩
abbrev MX8_plainSize : MI := (yX8_plainSize, cX8_plainSize, 2, (some .int))
theorem cmX8_plainSize : CM MX8_plainSize 1 := ⟨gd 1130 (by decide +kernel) (by decide +kernel), by decide, iniX8, ⟨by decide, by decide, by decide +kernel⟩⟩
theorem cvX8_plainSize : CV MX8_plainSize 8 1 := ⟨cmX8_plainSize, by decide, rfl, gd 1129 (by decide +kernel) (by decide +kernel), gdp 44 (by decide +kernel) (by decide +kernel)⟩
abbrev MX8_markOf : MI := (yX8_markOf, cX8_markOf, 4, (some .int))
theorem cmX8_markOf : CM MX8_markOf 1 := ⟨gd 1134 (by decide +kernel) (by decide +kernel), by decide, iniX8, ⟨by decide, by decide, by decide +kernel⟩⟩
theorem cvX8_markOf : CV MX8_markOf 8 1 := ⟨cmX8_markOf, by decide, rfl, gd 1133 (by decide +kernel) (by decide +kernel), gdp 45 (by decide +kernel) (by decide +kernel)⟩
abbrev MX8_trace : MI := (yX8_trace, cX8_trace, 2, (some .int))
theorem cmX8_trace : CM MX8_trace 1 := ⟨gd 1138 (by decide +kernel) (by decide +kernel), by decide, iniX8, ⟨by decide, by decide, by decide +kernel⟩⟩
theorem cvX8_trace : CV MX8_trace 8 1 := ⟨cmX8_trace, by decide, rfl, gd 1136 (by decide +kernel) (by decide +kernel), gd 1137 (by decide +kernel) (by decide +kernel)⟩
abbrev MX8_count : MI := (yX8_count, cX8_count, 4, (some .int))
theorem cmX8_count : CM MX8_count 1 := ⟨gd 1142 (by decide +kernel) (by decide +kernel), by decide, iniX8, ⟨by decide, by decide, by decide +kernel⟩⟩
theorem cvX8_count : CV MX8_count 8 1 := ⟨cmX8_count, by decide, rfl, gd 1140 (by decide +kernel) (by decide +kernel), gd 1141 (by decide +kernel) (by decide +kernel)⟩
abbrev MX8_status : MI := (yX8_status, cX8_status, 1, (some .int))
theorem cmX8_status : CM MX8_status 0 := ⟨gd 1146 (by decide +kernel) (by decide +kernel), by decide, iniX8, ⟨by decide, by decide, by decide +kernel⟩⟩
theorem cvX8_status : CV MX8_status 8 0 := ⟨cmX8_status, by decide, rfl, gd 1144 (by decide +kernel) (by decide +kernel), gd 1145 (by decide +kernel) (by decide +kernel)⟩
abbrev ML_law : MI := (yL_law, cL_law, 4, some .boolean)
theorem clL_7 : Cond.classLink RL 7 RX7 ∈ lw_g := gd 13 (by decide +kernel) (by decide +kernel)
theorem mlL_9 : Cond.methodLink RL 9 yX7_init ∈ lw_g := gd 15 (by decide +kernel) (by decide +kernel)
theorem mlX7_1 : Cond.methodLink RX7 1 Lib.objectInit ∈ lw_g := gd 18 (by decide +kernel) (by decide +kernel)
theorem clX7_7 : Cond.classLink RX7 7 RX5 ∈ lw_g := gd 21 (by decide +kernel) (by decide +kernel)
theorem mnX7_9 : Cond.methodLinkNest RX7 9 yX5_init "JarNotes" ∈ nestW := gdn 23 (by decide +kernel) (by decide +kernel)
theorem mlX5_3 : Cond.methodLink RX5 3 Lib.objectInit ∈ lw_g := gd 26 (by decide +kernel) (by decide +kernel)
theorem clX5_22 : Cond.classLink RX5 22 "[[I" ∈ lw_g := gd 27 (by decide +kernel) (by decide +kernel)
theorem flX5_9 : FL RX5 9 5 0 := ⟨gd 29 (by decide +kernel) (by decide +kernel), by decide, by decide⟩
theorem flX7_85 : FL RX7 85 5 0 := ⟨gd 30 (by decide +kernel) (by decide +kernel), by decide, by decide⟩
theorem flX5_15 : FL RX5 15 5 1 := ⟨gd 31 (by decide +kernel) (by decide +kernel), by decide, by decide⟩
theorem flX7_89 : FL RX7 89 5 1 := ⟨gd 32 (by decide +kernel) (by decide +kernel), by decide, by decide⟩
theorem flX5_19 : FL RX5 19 5 2 := ⟨gd 33 (by decide +kernel) (by decide +kernel), by decide, by decide⟩
theorem flX7_106 : FL RX7 106 5 2 := ⟨gd 34 (by decide +kernel) (by decide +kernel), by decide, by decide⟩
theorem flX5_24 : FL RX5 24 5 3 := ⟨gd 35 (by decide +kernel) (by decide +kernel), by decide, by decide⟩
theorem flX7_96 : FL RX7 96 5 3 := ⟨gd 36 (by decide +kernel) (by decide +kernel), by decide, by decide⟩
theorem clX7_16 : Cond.classLink RX7 16 RX6 ∈ lw_g := gd 48 (by decide +kernel) (by decide +kernel)
theorem mnX7_18 : Cond.methodLinkNest RX7 18 yX6_init "JarNotes" ∈ nestW := gdn 50 (by decide +kernel) (by decide +kernel)
theorem mlX6_3 : Cond.methodLink RX6 3 Lib.objectInit ∈ lw_g := gd 53 (by decide +kernel) (by decide +kernel)
theorem flX6_9 : FL RX6 9 6 0 := ⟨gd 54 (by decide +kernel) (by decide +kernel), by decide, by decide⟩
theorem flX6_15 : FL RX6 15 6 1 := ⟨gd 55 (by decide +kernel) (by decide +kernel), by decide, by decide⟩
theorem flX7_112 : FL RX7 112 6 1 := ⟨gd 56 (by decide +kernel) (by decide +kernel), by decide, by decide⟩
theorem flX6_19 : FL RX6 19 6 2 := ⟨gd 57 (by decide +kernel) (by decide +kernel), by decide, by decide⟩
theorem flX7_128 : FL RX7 128 6 2 := ⟨gd 58 (by decide +kernel) (by decide +kernel), by decide, by decide⟩
theorem flX7_121 : FL RX7 121 6 3 := ⟨gd 59 (by decide +kernel) (by decide +kernel), by decide, by decide⟩
theorem flX6_67 : FL RX6 67 6 3 := ⟨gd 60 (by decide +kernel) (by decide +kernel), by decide, by decide⟩
theorem flX6_35 : FL RX6 35 6 4 := ⟨gd 61 (by decide +kernel) (by decide +kernel), by decide, by decide⟩
theorem clX7_23 : Cond.classLink RX7 23 RX2 ∈ lw_g := gd 73 (by decide +kernel) (by decide +kernel)
theorem mnX7_25 : Cond.methodLinkNest RX7 25 yX2_init "JarNotes" ∈ nestW := gdn 75 (by decide +kernel) (by decide +kernel)
theorem mlX2_3 : Cond.methodLink RX2 3 Lib.objectInit ∈ lw_g := gd 78 (by decide +kernel) (by decide +kernel)
theorem flX2_27 : FL RX2 27 2 0 := ⟨gd 79 (by decide +kernel) (by decide +kernel), by decide, by decide⟩
theorem flX3_21 : FL RX3 21 2 0 := ⟨gd 80 (by decide +kernel) (by decide +kernel), by decide, by decide⟩
theorem flX6_52 : FL RX6 52 2 0 := ⟨gd 81 (by decide +kernel) (by decide +kernel), by decide, by decide⟩
theorem flX4_63 : FL RX4 63 2 0 := ⟨gd 82 (by decide +kernel) (by decide +kernel), by decide, by decide⟩
theorem flX7_138 : FL RX7 138 2 0 := ⟨gd 83 (by decide +kernel) (by decide +kernel), by decide, by decide⟩
theorem flX2_31 : FL RX2 31 2 1 := ⟨gd 84 (by decide +kernel) (by decide +kernel), by decide, by decide⟩
theorem flX7_150 : FL RX7 150 2 1 := ⟨gd 85 (by decide +kernel) (by decide +kernel), by decide, by decide⟩
theorem flX2_34 : FL RX2 34 2 2 := ⟨gd 86 (by decide +kernel) (by decide +kernel), by decide, by decide⟩
theorem flX6_38 : FL RX6 38 2 2 := ⟨gd 87 (by decide +kernel) (by decide +kernel), by decide, by decide⟩
theorem flX3_64 : FL RX3 64 2 2 := ⟨gd 88 (by decide +kernel) (by decide +kernel), by decide, by decide⟩
theorem flX7_196 : FL RX7 196 2 2 := ⟨gd 89 (by decide +kernel) (by decide +kernel), by decide, by decide⟩
theorem flX4_93 : FL RX4 93 2 2 := ⟨gd 90 (by decide +kernel) (by decide +kernel), by decide, by decide⟩
theorem flX2_9 : FL RX2 9 2 3 := ⟨gd 91 (by decide +kernel) (by decide +kernel), by decide, by decide⟩
theorem flX3_48 : FL RX3 48 2 3 := ⟨gd 92 (by decide +kernel) (by decide +kernel), by decide, by decide⟩
theorem flX1_23 : FL RX1 23 2 3 := ⟨gd 93 (by decide +kernel) (by decide +kernel), by decide, by decide⟩
theorem flX4_86 : FL RX4 86 2 3 := ⟨gd 94 (by decide +kernel) (by decide +kernel), by decide, by decide⟩
theorem flX7_280 : FL RX7 280 2 3 := ⟨gd 95 (by decide +kernel) (by decide +kernel), by decide, by decide⟩
theorem flX2_15 : FL RX2 15 2 4 := ⟨gd 96 (by decide +kernel) (by decide +kernel), by decide, by decide⟩
theorem flX3_38 : FL RX3 38 2 4 := ⟨gd 97 (by decide +kernel) (by decide +kernel), by decide, by decide⟩
theorem flX1_52 : FL RX1 52 2 4 := ⟨gd 98 (by decide +kernel) (by decide +kernel), by decide, by decide⟩
theorem flX4_68 : FL RX4 68 2 4 := ⟨gd 99 (by decide +kernel) (by decide +kernel), by decide, by decide⟩
theorem flX7_180 : FL RX7 180 2 4 := ⟨gd 100 (by decide +kernel) (by decide +kernel), by decide, by decide⟩
theorem flX2_18 : FL RX2 18 2 5 := ⟨gd 101 (by decide +kernel) (by decide +kernel), by decide, by decide⟩
theorem flX1_55 : FL RX1 55 2 5 := ⟨gd 102 (by decide +kernel) (by decide +kernel), by decide, by decide⟩
theorem flX7_193 : FL RX7 193 2 5 := ⟨gd 103 (by decide +kernel) (by decide +kernel), by decide, by decide⟩
theorem flX2_21 : FL RX2 21 2 6 := ⟨gd 104 (by decide +kernel) (by decide +kernel), by decide, by decide⟩
theorem flX3_41 : FL RX3 41 2 6 := ⟨gd 105 (by decide +kernel) (by decide +kernel), by decide, by decide⟩
theorem flX7_187 : FL RX7 187 2 6 := ⟨gd 106 (by decide +kernel) (by decide +kernel), by decide, by decide⟩
theorem flX2_24 : FL RX2 24 2 7 := ⟨gd 107 (by decide +kernel) (by decide +kernel), by decide, by decide⟩
theorem flX7_177 : FL RX7 177 2 7 := ⟨gd 108 (by decide +kernel) (by decide +kernel), by decide, by decide⟩
theorem clX7_33 : Cond.classLink RX7 33 RX0 ∈ lw_g := gd 126 (by decide +kernel) (by decide +kernel)
theorem mnX7_35 : Cond.methodLinkNest RX7 35 yX0_init "JarNotes" ∈ nestW := gdn 128 (by decide +kernel) (by decide +kernel)
theorem mlX0_3 : Cond.methodLink RX0 3 Lib.objectInit ∈ lw_g := gd 131 (by decide +kernel) (by decide +kernel)
theorem clX0_9 : Cond.classLink RX0 9 RX2 ∈ lw_g := gd 132 (by decide +kernel) (by decide +kernel)
theorem flX0_11 : FL RX0 11 0 0 := ⟨gd 134 (by decide +kernel) (by decide +kernel), by decide, by decide⟩
theorem flX0_17 : FL RX0 17 0 1 := ⟨gd 135 (by decide +kernel) (by decide +kernel), by decide, by decide⟩
theorem flX0_26 : FL RX0 26 0 2 := ⟨gd 136 (by decide +kernel) (by decide +kernel), by decide, by decide⟩
theorem flX7_144 : FL RX7 144 0 2 := ⟨gd 137 (by decide +kernel) (by decide +kernel), by decide, by decide⟩
theorem clX7_40 : Cond.classLink RX7 40 RX4 ∈ lw_g := gd 145 (by decide +kernel) (by decide +kernel)
theorem mnX7_42 : Cond.methodLinkNest RX7 42 yX4_init "JarNotes" ∈ nestW := gdn 147 (by decide +kernel) (by decide +kernel)
theorem mlX4_3 : Cond.methodLink RX4 3 Lib.objectInit ∈ lw_g := gd 150 (by decide +kernel) (by decide +kernel)
theorem clX4_9 : Cond.classLink RX4 9 RX3 ∈ lw_g := gd 151 (by decide +kernel) (by decide +kernel)
theorem mnX4_11 : Cond.methodLinkNest RX4 11 yX3_init "JarNotes" ∈ nestW := gdn 153 (by decide +kernel) (by decide +kernel)
theorem mlX3_3 : Cond.methodLink RX3 3 Lib.objectInit ∈ lw_g := gd 156 (by decide +kernel) (by decide +kernel)
theorem flX3_9 : FL RX3 9 3 0 := ⟨gd 157 (by decide +kernel) (by decide +kernel), by decide, by decide⟩
theorem flX3_15 : FL RX3 15 3 1 := ⟨gd 158 (by decide +kernel) (by decide +kernel), by decide, by decide⟩
theorem flX3_18 : FL RX3 18 3 2 := ⟨gd 159 (by decide +kernel) (by decide +kernel), by decide, by decide⟩
theorem flX3_28 : FL RX3 28 3 3 := ⟨gd 160 (by decide +kernel) (by decide +kernel), by decide, by decide⟩
theorem flX3_27 : FL RX3 27 3 4 := ⟨gd 161 (by decide +kernel) (by decide +kernel), by decide, by decide⟩
theorem flX4_51 : FL RX4 51 3 4 := ⟨gd 162 (by decide +kernel) (by decide +kernel), by decide, by decide⟩
theorem flX3_74 : FL RX3 74 3 5 := ⟨gd 163 (by decide +kernel) (by decide +kernel), by decide, by decide⟩
theorem flX7_206 : FL RX7 206 3 5 := ⟨gd 164 (by decide +kernel) (by decide +kernel), by decide, by decide⟩
theorem clX4_18 : Cond.classLink RX4 18 RX2 ∈ lw_g := gd 178 (by decide +kernel) (by decide +kernel)
theorem mnX4_20 : Cond.methodLinkNest RX4 20 yX2_init "JarNotes" ∈ nestW := gdn 179 (by decide +kernel) (by decide +kernel)
theorem flX4_12 : FL RX4 12 4 0 := ⟨gd 180 (by decide +kernel) (by decide +kernel), by decide, by decide⟩
theorem flX7_202 : FL RX7 202 4 0 := ⟨gd 181 (by decide +kernel) (by decide +kernel), by decide, by decide⟩
theorem flX4_21 : FL RX4 21 4 1 := ⟨gd 182 (by decide +kernel) (by decide +kernel), by decide, by decide⟩
theorem flX4_48 : FL RX4 48 4 2 := ⟨gd 183 (by decide +kernel) (by decide +kernel), by decide, by decide⟩
theorem flX7_214 : FL RX7 214 4 2 := ⟨gd 184 (by decide +kernel) (by decide +kernel), by decide, by decide⟩
theorem flX4_41 : FL RX4 41 4 3 := ⟨gd 185 (by decide +kernel) (by decide +kernel), by decide, by decide⟩
theorem flX7_217 : FL RX7 217 4 3 := ⟨gd 186 (by decide +kernel) (by decide +kernel), by decide, by decide⟩
theorem flX4_96 : FL RX4 96 4 4 := ⟨gd 187 (by decide +kernel) (by decide +kernel), by decide, by decide⟩
theorem flX7_268 : FL RX7 268 4 4 := ⟨gd 188 (by decide +kernel) (by decide +kernel), by decide, by decide⟩
theorem flX4_106 : FL RX4 106 4 5 := ⟨gd 189 (by decide +kernel) (by decide +kernel), by decide, by decide⟩
theorem flX7_272 : FL RX7 272 4 5 := ⟨gd 190 (by decide +kernel) (by decide +kernel), by decide, by decide⟩
theorem flX4_45 : FL RX4 45 4 6 := ⟨gd 191 (by decide +kernel) (by decide +kernel), by decide, by decide⟩
theorem clX7_47 : Cond.classLink RX7 47 RX1 ∈ lw_g := gd 207 (by decide +kernel) (by decide +kernel)
theorem mnX7_49 : Cond.methodLinkNest RX7 49 yX1_init "JarNotes" ∈ nestW := gdn 209 (by decide +kernel) (by decide +kernel)
theorem mlX1_3 : Cond.methodLink RX1 3 Lib.objectInit ∈ lw_g := gd 212 (by decide +kernel) (by decide +kernel)
theorem flX1_9 : FL RX1 9 1 0 := ⟨gd 213 (by decide +kernel) (by decide +kernel), by decide, by decide⟩
theorem flX7_290 : FL RX7 290 1 0 := ⟨gd 214 (by decide +kernel) (by decide +kernel), by decide, by decide⟩
theorem flX1_15 : FL RX1 15 1 1 := ⟨gd 215 (by decide +kernel) (by decide +kernel), by decide, by decide⟩
theorem flX7_289 : FL RX7 289 1 1 := ⟨gd 216 (by decide +kernel) (by decide +kernel), by decide, by decide⟩
theorem flX7_10 : FL RX7 10 7 0 := ⟨gd 222 (by decide +kernel) (by decide +kernel), by decide, by decide⟩
theorem flX7_19 : FL RX7 19 7 1 := ⟨gd 223 (by decide +kernel) (by decide +kernel), by decide, by decide⟩
theorem flX7_26 : FL RX7 26 7 2 := ⟨gd 224 (by decide +kernel) (by decide +kernel), by decide, by decide⟩
theorem flX7_30 : FL RX7 30 7 3 := ⟨gd 225 (by decide +kernel) (by decide +kernel), by decide, by decide⟩
theorem flX7_36 : FL RX7 36 7 4 := ⟨gd 226 (by decide +kernel) (by decide +kernel), by decide, by decide⟩
theorem flX7_43 : FL RX7 43 7 5 := ⟨gd 227 (by decide +kernel) (by decide +kernel), by decide, by decide⟩
theorem flX7_50 : FL RX7 50 7 6 := ⟨gd 228 (by decide +kernel) (by decide +kernel), by decide, by decide⟩
theorem flX7_54 : FL RX7 54 7 7 := ⟨gd 229 (by decide +kernel) (by decide +kernel), by decide, by decide⟩
theorem flX7_124 : FL RX7 124 7 8 := ⟨gd 230 (by decide +kernel) (by decide +kernel), by decide, by decide⟩
theorem flX7_301 : FL RX7 301 7 9 := ⟨gd 231 (by decide +kernel) (by decide +kernel), by decide, by decide⟩
theorem mlL_13 : Cond.methodLink RL 13 yX7_row ∈ lw_g := gd 253 (by decide +kernel) (by decide +kernel)
theorem mlX7_58 : Cond.methodLink RX7 58 yX7_isRow ∈ lw_g := gd 257 (by decide +kernel) (by decide +kernel)
theorem mlX7_62 : Cond.methodLink RX7 62 yX7_within ∈ lw_g := gd 260 (by decide +kernel) (by decide +kernel)
theorem kcX7_66 : Cond.constant RX7 66 (-1000001) ∈ lw_g := gd 263 (by decide +kernel) (by decide +kernel)
theorem mlX7_67 : Cond.methodLink RX7 67 yX7_found ∈ lw_g := gd 264 (by decide +kernel) (by decide +kernel)
theorem kcX7_304 : Cond.constant RX7 304 (-1000010) ∈ lw_g := gd 268 (by decide +kernel) (by decide +kernel)
theorem mlX7_71 : Cond.methodLink RX7 71 yX5_lay ∈ lw_g := gd 269 (by decide +kernel) (by decide +kernel)
theorem mlX7_75 : Cond.methodLink RX7 75 yX7_fine ∈ lw_g := gd 273 (by decide +kernel) (by decide +kernel)
theorem mlL_18 : Cond.methodLink RL 18 yX7_set ∈ lw_g := gd 277 (by decide +kernel) (by decide +kernel)
theorem mlX7_78 : Cond.methodLink RX7 78 yX5_lacking ∈ lw_g := gd 281 (by decide +kernel) (by decide +kernel)
theorem mlX5_31 : Cond.methodLink RX5 31 yX5_holds ∈ lw_g := gd 285 (by decide +kernel) (by decide +kernel)
theorem mlX7_82 : Cond.methodLink RX7 82 yX5_put ∈ lw_g := gd 289 (by decide +kernel) (by decide +kernel)
theorem mlX5_27 : Cond.methodLink RX5 27 yX5_narrowed ∈ lw_g := gd 293 (by decide +kernel) (by decide +kernel)
theorem mlL_22 : Cond.methodLink RL 22 yX7_copy ∈ lw_g := gd 296 (by decide +kernel) (by decide +kernel)
theorem mlX7_93 : Cond.methodLink RX7 93 yX5_holds ∈ lw_g := gd 300 (by decide +kernel) (by decide +kernel)
theorem mlX7_100 : Cond.methodLink RX7 100 arraycopyName ∈ lw_g := gd 301 (by decide +kernel) (by decide +kernel)
theorem mlL_27 : Cond.methodLink RL 27 yX7_drop ∈ lw_g := gd 304 (by decide +kernel) (by decide +kernel)
theorem mlL_32 : Cond.methodLink RL 32 yX7_feed ∈ lw_g := gd 308 (by decide +kernel) (by decide +kernel)
theorem mlX7_109 : Cond.methodLink RX7 109 yX6_takes ∈ lw_g := gd 312 (by decide +kernel) (by decide +kernel)
theorem kcX7_116 : Cond.constant RX7 116 (-1000003) ∈ lw_g := gd 316 (by decide +kernel) (by decide +kernel)
theorem mlL_36 : Cond.methodLink RL 36 yX7_cellar ∈ lw_g := gd 317 (by decide +kernel) (by decide +kernel)
theorem mlX7_117 : Cond.methodLink RX7 117 yX6_tells ∈ lw_g := gd 321 (by decide +kernel) (by decide +kernel)
theorem mlX6_22 : Cond.methodLink RX6 22 yX2_clear ∈ lw_g := gd 325 (by decide +kernel) (by decide +kernel)
theorem mlX6_27 : Cond.methodLink RX6 27 yX6_passes ∈ lw_g := gd 329 (by decide +kernel) (by decide +kernel)
theorem mlX6_49 : Cond.methodLink RX6 49 yX6_fails ∈ lw_g := gd 333 (by decide +kernel) (by decide +kernel)
theorem mlX6_31 : Cond.methodLink RX6 31 yX6_numbers ∈ lw_g := gd 337 (by decide +kernel) (by decide +kernel)
theorem mlX6_59 : Cond.methodLink RX6 59 yX6_figures ∈ lw_g := gd 341 (by decide +kernel) (by decide +kernel)
theorem mnX6_63 : Cond.methodLinkNest RX6 63 yX7_within "JarNotes" ∈ nestW := gdn 345 (by decide +kernel) (by decide +kernel)
theorem mlX6_41 : Cond.methodLink RX6 41 yX6_tellsJar ∈ lw_g := gd 346 (by decide +kernel) (by decide +kernel)
theorem mlX6_45 : Cond.methodLink RX6 45 yX6_kindOf ∈ lw_g := gd 350 (by decide +kernel) (by decide +kernel)
end
section
theorem mlX6_55 : Cond.methodLink RX6 55 yX2_add ∈ lw_g := gd 353 (by decide +kernel) (by decide +kernel)
theorem kcX7_127 : Cond.constant RX7 127 (-1000100) ∈ lw_g := gd 357 (by decide +kernel) (by decide +kernel)
theorem mlX7_131 : Cond.methodLink RX7 131 yX2_become ∈ lw_g := gd 358 (by decide +kernel) (by decide +kernel)
theorem mlX2_37 : Cond.methodLink RX2 37 arraycopyName ∈ lw_g := gd 362 (by decide +kernel) (by decide +kernel)
theorem mlX7_135 : Cond.methodLink RX7 135 yX0_forget ∈ lw_g := gd 363 (by decide +kernel) (by decide +kernel)
theorem mlL_41 : Cond.methodLink RL 41 yX7_fault ∈ lw_g := gd 367 (by decide +kernel) (by decide +kernel)
theorem mlL_45 : Cond.methodLink RL 45 yX7_undo ∈ lw_g := gd 371 (by decide +kernel) (by decide +kernel)
theorem mlX7_141 : Cond.methodLink RX7 141 yX0_takeBack ∈ lw_g := gd 375 (by decide +kernel) (by decide +kernel)
theorem mlX0_22 : Cond.methodLink RX0 22 yX2_become ∈ lw_g := gd 379 (by decide +kernel) (by decide +kernel)
theorem kcX7_145 : Cond.constant RX7 145 (-1000002) ∈ lw_g := gd 380 (by decide +kernel) (by decide +kernel)
theorem mlL_49 : Cond.methodLink RL 49 yX7_years ∈ lw_g := gd 381 (by decide +kernel) (by decide +kernel)
theorem mlX7_146 : Cond.methodLink RX7 146 yX7_noCellar ∈ lw_g := gd 385 (by decide +kernel) (by decide +kernel)
theorem mlX7_153 : Cond.methodLink RX7 153 yX0_keep ∈ lw_g := gd 389 (by decide +kernel) (by decide +kernel)
theorem mnX0_21 : Cond.methodLinkNest RX0 21 yX2_init "JarNotes" ∈ nestW := gdn 393 (by decide +kernel) (by decide +kernel)
theorem mlX0_29 : Cond.methodLink RX0 29 yJ9_min_7cf53 ∈ lw_g := gd 394 (by decide +kernel) (by decide +kernel)
theorem mlX7_156 : Cond.methodLink RX7 156 yX2_age ∈ lw_g := gd 397 (by decide +kernel) (by decide +kernel)
theorem mlX7_159 : Cond.methodLink RX7 159 yX2_those ∈ lw_g := gd 401 (by decide +kernel) (by decide +kernel)
theorem mlL_53 : Cond.methodLink RL 53 yX7_sneeze ∈ lw_g := gd 405 (by decide +kernel) (by decide +kernel)
theorem mlX7_162 : Cond.methodLink RX7 162 yX7_isSneeze ∈ lw_g := gd 409 (by decide +kernel) (by decide +kernel)
theorem mlX7_190 : Cond.methodLink RX7 190 yX7_isNote ∈ lw_g := gd 413 (by decide +kernel) (by decide +kernel)
theorem mlX7_248 : Cond.methodLink RX7 248 yX7_isPlace ∈ lw_g := gd 416 (by decide +kernel) (by decide +kernel)
theorem mlX7_166 : Cond.methodLink RX7 166 yX4_brokenBy ∈ lw_g := gd 420 (by decide +kernel) (by decide +kernel)
theorem mlX4_25 : Cond.methodLink RX4 25 yX3_tune ∈ lw_g := gd 424 (by decide +kernel) (by decide +kernel)
theorem mlX3_31 : Cond.methodLink RX3 31 yX3_answeringTo ∈ lw_g := gd 428 (by decide +kernel) (by decide +kernel)
theorem mlX3_51 : Cond.methodLink RX3 51 yX3_apart ∈ lw_g := gd 431 (by decide +kernel) (by decide +kernel)
theorem mlX3_58 : Cond.methodLink RX3 58 yJ9_abs_0f7a4 ∈ lw_g := gd 434 (by decide +kernel) (by decide +kernel)
theorem mlX3_67 : Cond.methodLink RX3 67 yJ9_min_7cf53 ∈ lw_g := gd 437 (by decide +kernel) (by decide +kernel)
theorem mlX3_54 : Cond.methodLink RX3 54 yX3_answers ∈ lw_g := gd 438 (by decide +kernel) (by decide +kernel)
theorem mlX3_35 : Cond.methodLink RX3 35 yX3_nearTo ∈ lw_g := gd 441 (by decide +kernel) (by decide +kernel)
theorem mlX3_44 : Cond.methodLink RX3 44 yX3_struckFrom ∈ lw_g := gd 444 (by decide +kernel) (by decide +kernel)
theorem mnX3_70 : Cond.methodLinkNest RX3 70 yX7_within "JarNotes" ∈ nestW := gdn 448 (by decide +kernel) (by decide +kernel)
theorem mlX4_29 : Cond.methodLink RX4 29 yX2_those ∈ lw_g := gd 449 (by decide +kernel) (by decide +kernel)
theorem mlX4_33 : Cond.methodLink RX4 33 yX3_broken ∈ lw_g := gd 450 (by decide +kernel) (by decide +kernel)
theorem mlX3_77 : Cond.methodLink RX3 77 yX3_breakingBy ∈ lw_g := gd 454 (by decide +kernel) (by decide +kernel)
theorem mnX3_80 : Cond.methodLinkNest RX3 80 yX7_has "JarNotes" ∈ nestW := gdn 458 (by decide +kernel) (by decide +kernel)
theorem mlX7_170 : Cond.methodLink RX7 170 yX2_smash ∈ lw_g := gd 461 (by decide +kernel) (by decide +kernel)
theorem mnX2_43 : Cond.methodLinkNest RX2 43 yX7_has "JarNotes" ∈ nestW := gdn 465 (by decide +kernel) (by decide +kernel)
theorem mlL_58 : Cond.methodLink RL 58 yX7_open ∈ lw_g := gd 466 (by decide +kernel) (by decide +kernel)
theorem mlX7_174 : Cond.methodLink RX7 174 yX7_isJar ∈ lw_g := gd 470 (by decide +kernel) (by decide +kernel)
theorem mlL_62 : Cond.methodLink RL 62 yX7_change ∈ lw_g := gd 474 (by decide +kernel) (by decide +kernel)
theorem mlX7_183 : Cond.methodLink RX7 183 yX2_swapPlaces ∈ lw_g := gd 478 (by decide +kernel) (by decide +kernel)
theorem mlL_66 : Cond.methodLink RL 66 yX7_seal ∈ lw_g := gd 482 (by decide +kernel) (by decide +kernel)
theorem mlL_70 : Cond.methodLink RL 70 yX7_reach ∈ lw_g := gd 486 (by decide +kernel) (by decide +kernel)
theorem mlL_74 : Cond.methodLink RL 74 yX7_jar ∈ lw_g := gd 490 (by decide +kernel) (by decide +kernel)
theorem mlL_78 : Cond.methodLink RL 78 yX7_stand ∈ lw_g := gd 494 (by decide +kernel) (by decide +kernel)
theorem mlL_82 : Cond.methodLink RL 82 yX7_chain ∈ lw_g := gd 498 (by decide +kernel) (by decide +kernel)
theorem mlX7_199 : Cond.methodLink RX7 199 yX7_isHalf ∈ lw_g := gd 502 (by decide +kernel) (by decide +kernel)
theorem mlL_86 : Cond.methodLink RL 86 yX7_worst ∈ lw_g := gd 505 (by decide +kernel) (by decide +kernel)
theorem mlX7_211 : Cond.methodLink RX7 211 yX4_findWorst ∈ lw_g := gd 509 (by decide +kernel) (by decide +kernel)
theorem mlX4_37 : Cond.methodLink RX4 37 yX4_mostBroken ∈ lw_g := gd 513 (by decide +kernel) (by decide +kernel)
theorem mlX4_54 : Cond.methodLink RX4 54 yJ6_bitCount_0f7a4 ∈ lw_g := gd 517 (by decide +kernel) (by decide +kernel)
theorem kcJ6_265 : Cond.constant RJ6 265 (nI 1431655765) ∈ lw_g := gd 520 (by decide +kernel) (by decide +kernel)
theorem kcJ6_266 : Cond.constant RJ6 266 (nI 858993459) ∈ lw_g := gd 521 (by decide +kernel) (by decide +kernel)
theorem kcJ6_267 : Cond.constant RJ6 267 (nI 252645135) ∈ lw_g := gd 522 (by decide +kernel) (by decide +kernel)
theorem mlL_90 : Cond.methodLink RL 90 yX7_when ∈ lw_g := gd 523 (by decide +kernel) (by decide +kernel)
theorem kcX7_220 : Cond.constant RX7 220 (-1000000) ∈ lw_g := gd 527 (by decide +kernel) (by decide +kernel)
theorem mlL_94 : Cond.methodLink RL 94 yX7_kept ∈ lw_g := gd 528 (by decide +kernel) (by decide +kernel)
theorem mlX7_221 : Cond.methodLink RX7 221 yX2_wholeBehind ∈ lw_g := gd 532 (by decide +kernel) (by decide +kernel)
theorem mlL_98 : Cond.methodLink RL 98 yX7_guard ∈ lw_g := gd 536 (by decide +kernel) (by decide +kernel)
theorem mlX7_224 : Cond.methodLink RX7 224 yX4_findGuard ∈ lw_g := gd 540 (by decide +kernel) (by decide +kernel)
theorem mlL_103 : Cond.methodLink RL 103 yX7_changes ∈ lw_g := gd 544 (by decide +kernel) (by decide +kernel)
theorem mlX7_228 : Cond.methodLink RX7 228 yX4_findChange ∈ lw_g := gd 548 (by decide +kernel) (by decide +kernel)
theorem kcX4_59 : Cond.constant RX4 59 (-1000000) ∈ lw_g := gd 552 (by decide +kernel) (by decide +kernel)
theorem mlX4_60 : Cond.methodLink RX4 60 yX2_become ∈ lw_g := gd 553 (by decide +kernel) (by decide +kernel)
theorem mlX4_64 : Cond.methodLink RX4 64 yX2_swapPlaces ∈ lw_g := gd 554 (by decide +kernel) (by decide +kernel)
theorem mlL_107 : Cond.methodLink RL 107 yX7_tuned ∈ lw_g := gd 555 (by decide +kernel) (by decide +kernel)
theorem mlX7_231 : Cond.methodLink RX7 231 yX4_findTuned ∈ lw_g := gd 559 (by decide +kernel) (by decide +kernel)
theorem mlX4_72 : Cond.methodLink RX4 72 yX4_keepFewest ∈ lw_g := gd 563 (by decide +kernel) (by decide +kernel)
theorem mlL_111 : Cond.methodLink RL 111 yX7_spared ∈ lw_g := gd 567 (by decide +kernel) (by decide +kernel)
theorem mlX7_235 : Cond.methodLink RX7 235 yX4_findSpared ∈ lw_g := gd 571 (by decide +kernel) (by decide +kernel)
theorem mnX4_75 : Cond.methodLinkNest RX4 75 yX7_has "JarNotes" ∈ nestW := gdn 575 (by decide +kernel) (by decide +kernel)
theorem mlL_115 : Cond.methodLink RL 115 yX7_alike ∈ lw_g := gd 576 (by decide +kernel) (by decide +kernel)
theorem mlX7_238 : Cond.methodLink RX7 238 yX4_findAlike ∈ lw_g := gd 580 (by decide +kernel) (by decide +kernel)
theorem mlX4_79 : Cond.methodLink RX4 79 yX3_eachStrikesOther ∈ lw_g := gd 584 (by decide +kernel) (by decide +kernel)
theorem mlL_119 : Cond.methodLink RL 119 yX7_song ∈ lw_g := gd 588 (by decide +kernel) (by decide +kernel)
theorem mlX7_241 : Cond.methodLink RX7 241 yX5_tellsNotes ∈ lw_g := gd 592 (by decide +kernel) (by decide +kernel)
theorem mnX5_35 : Cond.methodLinkNest RX5 35 yX7_isNote "JarNotes" ∈ nestW := gdn 596 (by decide +kernel) (by decide +kernel)
theorem mlX7_244 : Cond.methodLink RX7 244 yX4_findSong ∈ lw_g := gd 597 (by decide +kernel) (by decide +kernel)
theorem mlX4_82 : Cond.methodLink RX4 82 yX4_leastOf ∈ lw_g := gd 601 (by decide +kernel) (by decide +kernel)
theorem mlL_123 : Cond.methodLink RL 123 yX7_who ∈ lw_g := gd 604 (by decide +kernel) (by decide +kernel)
theorem mlX7_251 : Cond.methodLink RX7 251 yX4_fittingKinds ∈ lw_g := gd 608 (by decide +kernel) (by decide +kernel)
theorem mlX4_89 : Cond.methodLink RX4 89 yX4_guessFits ∈ lw_g := gd 612 (by decide +kernel) (by decide +kernel)
theorem mlX7_255 : Cond.methodLink RX7 255 yX4_fittingNotes ∈ lw_g := gd 616 (by decide +kernel) (by decide +kernel)
theorem mlL_128 : Cond.methodLink RL 128 yX7_reaches ∈ lw_g := gd 620 (by decide +kernel) (by decide +kernel)
theorem mlX7_258 : Cond.methodLink RX7 258 yX4_fittingReaches ∈ lw_g := gd 624 (by decide +kernel) (by decide +kernel)
theorem mlL_132 : Cond.methodLink RL 132 yX7_mould ∈ lw_g := gd 628 (by decide +kernel) (by decide +kernel)
theorem kcX7_262 : Cond.constantLong RX7 262 (-1000001) ∈ lw_g := gd 632 (by decide +kernel) (by decide +kernel)
theorem mlX7_264 : Cond.methodLink RX7 264 yX4_findMould ∈ lw_g := gd 633 (by decide +kernel) (by decide +kernel)
theorem kcX4_100 : Cond.constantLong RX4 100 (lN 10) ∈ lw_g := gd 637 (by decide +kernel) (by decide +kernel)
theorem mlX4_102 : Cond.methodLink RX4 102 yX4_power ∈ lw_g := gd 638 (by decide +kernel) (by decide +kernel)
theorem mlX4_109 : Cond.methodLink RX4 109 yX4_sharedDivisor ∈ lw_g := gd 641 (by decide +kernel) (by decide +kernel)
theorem mlL_137 : Cond.methodLink RL 137 yX7_drawn ∈ lw_g := gd 644 (by decide +kernel) (by decide +kernel)
theorem kcX7_275 : Cond.constant RX7 275 (nI 999999) ∈ lw_g := gd 648 (by decide +kernel) (by decide +kernel)
theorem mlX7_276 : Cond.methodLink RX7 276 yX4_findVintage ∈ lw_g := gd 649 (by decide +kernel) (by decide +kernel)
theorem kcX4_113 : Cond.constantLong RX4 113 (lN 16807) ∈ lw_g := gd 653 (by decide +kernel) (by decide +kernel)
theorem kcX4_115 : Cond.constantLong RX4 115 (lN 2147483647) ∈ lw_g := gd 654 (by decide +kernel) (by decide +kernel)
theorem kcX4_117 : Cond.constantLong RX4 117 (lN 3) ∈ lw_g := gd 655 (by decide +kernel) (by decide +kernel)
theorem kcX4_119 : Cond.constantLong RX4 119 (lN 12) ∈ lw_g := gd 656 (by decide +kernel) (by decide +kernel)
theorem mlX4_121 : Cond.methodLink RX4 121 yX2_smash ∈ lw_g := gd 657 (by decide +kernel) (by decide +kernel)
theorem mlX4_125 : Cond.methodLink RX4 125 yX2_age ∈ lw_g := gd 658 (by decide +kernel) (by decide +kernel)
theorem mlL_141 : Cond.methodLink RL 141 yX7_image ∈ lw_g := gd 659 (by decide +kernel) (by decide +kernel)
theorem mlL_145 : Cond.methodLink RL 145 yX7_restore ∈ lw_g := gd 663 (by decide +kernel) (by decide +kernel)
theorem mlL_149 : Cond.methodLink RL 149 yX7_kind ∈ lw_g := gd 667 (by decide +kernel) (by decide +kernel)
theorem mlL_153 : Cond.methodLink RL 153 yX7_as ∈ lw_g := gd 671 (by decide +kernel) (by decide +kernel)
theorem mlX7_283 : Cond.methodLink RX7 283 yX7_isA ∈ lw_g := gd 675 (by decide +kernel) (by decide +kernel)
theorem fsX7_305 : Cond.fieldLink RX7 305 RX7 "KIND_ABOVE" "[I" ∈ lw_g := gd 678 (by decide +kernel) (by decide +kernel)
theorem mlL_157 : Cond.methodLink RL 157 yX7_ask ∈ lw_g := gd 680 (by decide +kernel) (by decide +kernel)
theorem mlX7_286 : Cond.methodLink RX7 286 yX1_answer ∈ lw_g := gd 684 (by decide +kernel) (by decide +kernel)
theorem mlX1_19 : Cond.methodLink RX1 19 yX1_asked ∈ lw_g := gd 688 (by decide +kernel) (by decide +kernel)
theorem mlX1_28 : Cond.methodLink RX1 28 yX1_bodyFor ∈ lw_g := gd 692 (by decide +kernel) (by decide +kernel)
theorem mnX1_35 : Cond.methodLinkNest RX1 35 yX7_within "JarNotes" ∈ nestW := gdn 695 (by decide +kernel) (by decide +kernel)
theorem fsX1_39 : Cond.fieldLink RX1 39 RX1 "SIZE_BODIES" "[I" ∈ lw_g := gd 696 (by decide +kernel) (by decide +kernel)
theorem fsX1_42 : Cond.fieldLink RX1 42 RX1 "MARK_BODIES" "[I" ∈ lw_g := gd 698 (by decide +kernel) (by decide +kernel)
theorem fsX1_45 : Cond.fieldLinkNest RX1 45 RX7 "KIND_ABOVE" "[I" "JarNotes" ∈ nestW := gdn 700 (by decide +kernel) (by decide +kernel)
theorem mlX1_32 : Cond.methodLink RX1 32 yX1_body ∈ lw_g := gd 701 (by decide +kernel) (by decide +kernel)
theorem mlX1_48 : Cond.methodLink RX1 48 yX1_leave ∈ lw_g := gd 705 (by decide +kernel) (by decide +kernel)
theorem mlL_161 : Cond.methodLink RL 161 yX7_trace ∈ lw_g := gd 709 (by decide +kernel) (by decide +kernel)
theorem mlL_165 : Cond.methodLink RL 165 yX7_count ∈ lw_g := gd 713 (by decide +kernel) (by decide +kernel)
theorem mlX7_293 : Cond.methodLink RX7 293 yX5_howMany ∈ lw_g := gd 717 (by decide +kernel) (by decide +kernel)
theorem mlX7_296 : Cond.methodLink RX7 296 yJ6_bitCount_0f7a4 ∈ lw_g := gd 721 (by decide +kernel) (by decide +kernel)
theorem mlL_169 : Cond.methodLink RL 169 yX7_status ∈ lw_g := gd 722 (by decide +kernel) (by decide +kernel)
theorem clL_10 : Cond.classLink RL 10 RX8 ∈ lw_g := gd 726 (by decide +kernel) (by decide +kernel)
theorem mlL_12 : Cond.methodLink RL 12 yX8_init ∈ lw_g := gd 728 (by decide +kernel) (by decide +kernel)
theorem mlX8_1 : Cond.methodLink RX8 1 Lib.objectInit ∈ lw_g := gd 731 (by decide +kernel) (by decide +kernel)
theorem flX8_50 : FL RX8 50 8 0 := ⟨gd 732 (by decide +kernel) (by decide +kernel), by decide, by decide⟩
theorem flX8_54 : FL RX8 54 8 1 := ⟨gd 733 (by decide +kernel) (by decide +kernel), by decide, by decide⟩
theorem flX8_7 : FL RX8 7 8 2 := ⟨gd 734 (by decide +kernel) (by decide +kernel), by decide, by decide⟩
theorem flX8_13 : FL RX8 13 8 3 := ⟨gd 735 (by decide +kernel) (by decide +kernel), by decide, by decide⟩
theorem flX8_16 : FL RX8 16 8 4 := ⟨gd 736 (by decide +kernel) (by decide +kernel), by decide, by decide⟩
theorem flX8_19 : FL RX8 19 8 5 := ⟨gd 737 (by decide +kernel) (by decide +kernel), by decide, by decide⟩
theorem flX8_22 : FL RX8 22 8 6 := ⟨gd 738 (by decide +kernel) (by decide +kernel), by decide, by decide⟩
theorem flX8_25 : FL RX8 25 8 7 := ⟨gd 739 (by decide +kernel) (by decide +kernel), by decide, by decide⟩
theorem flX8_28 : FL RX8 28 8 8 := ⟨gd 740 (by decide +kernel) (by decide +kernel), by decide, by decide⟩
theorem flX8_149 : FL RX8 149 8 9 := ⟨gd 741 (by decide +kernel) (by decide +kernel), by decide, by decide⟩
theorem flX8_31 : FL RX8 31 8 10 := ⟨gd 742 (by decide +kernel) (by decide +kernel), by decide, by decide⟩
theorem flX8_77 : FL RX8 77 8 11 := ⟨gd 743 (by decide +kernel) (by decide +kernel), by decide, by decide⟩
theorem flX8_90 : FL RX8 90 8 12 := ⟨gd 744 (by decide +kernel) (by decide +kernel), by decide, by decide⟩
theorem flX8_84 : FL RX8 84 8 13 := ⟨gd 745 (by decide +kernel) (by decide +kernel), by decide, by decide⟩
theorem flX8_105 : FL RX8 105 8 14 := ⟨gd 746 (by decide +kernel) (by decide +kernel), by decide, by decide⟩
theorem flX8_94 : FL RX8 94 8 15 := ⟨gd 747 (by decide +kernel) (by decide +kernel), by decide, by decide⟩
theorem flX8_81 : FL RX8 81 8 16 := ⟨gd 748 (by decide +kernel) (by decide +kernel), by decide, by decide⟩
theorem flX8_87 : FL RX8 87 8 17 := ⟨gd 749 (by decide +kernel) (by decide +kernel), by decide, by decide⟩
theorem flX8_119 : FL RX8 119 8 18 := ⟨gd 750 (by decide +kernel) (by decide +kernel), by decide, by decide⟩
theorem flX8_34 : FL RX8 34 8 19 := ⟨gd 751 (by decide +kernel) (by decide +kernel), by decide, by decide⟩
theorem flX8_37 : FL RX8 37 8 20 := ⟨gd 752 (by decide +kernel) (by decide +kernel), by decide, by decide⟩
theorem flX8_164 : FL RX8 164 8 21 := ⟨gd 753 (by decide +kernel) (by decide +kernel), by decide, by decide⟩
theorem flX8_186 : FL RX8 186 8 22 := ⟨gd 754 (by decide +kernel) (by decide +kernel), by decide, by decide⟩
theorem flX8_189 : FL RX8 189 8 23 := ⟨gd 755 (by decide +kernel) (by decide +kernel), by decide, by decide⟩
theorem flX8_40 : FL RX8 40 8 24 := ⟨gd 756 (by decide +kernel) (by decide +kernel), by decide, by decide⟩
theorem flX8_44 : FL RX8 44 8 25 := ⟨gd 757 (by decide +kernel) (by decide +kernel), by decide, by decide⟩
theorem flX8_47 : FL RX8 47 8 26 := ⟨gd 758 (by decide +kernel) (by decide +kernel), by decide, by decide⟩
theorem flX8_267 : FL RX8 267 8 27 := ⟨gd 759 (by decide +kernel) (by decide +kernel), by decide, by decide⟩
theorem mlL_17 : Cond.methodLink RL 17 yX8_row ∈ lw_g := gd 817 (by decide +kernel) (by decide +kernel)
theorem mlX8_64 : Cond.methodLink RX8 64 yX8_isRow ∈ lw_g := gd 821 (by decide +kernel) (by decide +kernel)
theorem kcX8_58 : Cond.constantLong RX8 58 (lN 7) ∈ lw_g := gd 824 (by decide +kernel) (by decide +kernel)
theorem mlX8_60 : Cond.methodLink RX8 60 yX8_in ∈ lw_g := gd 825 (by decide +kernel) (by decide +kernel)
theorem kcX8_68 : Cond.constantLong RX8 68 (lN 2) ∈ lw_g := gd 828 (by decide +kernel) (by decide +kernel)
theorem kcX8_70 : Cond.constant RX8 70 (-1000001) ∈ lw_g := gd 829 (by decide +kernel) (by decide +kernel)
theorem mlX8_71 : Cond.methodLink RX8 71 yX8_finding ∈ lw_g := gd 830 (by decide +kernel) (by decide +kernel)
theorem kcX8_57 : Cond.constant RX8 57 (-1000010) ∈ lw_g := gd 834 (by decide +kernel) (by decide +kernel)
theorem mlL_21 : Cond.methodLink RL 21 yX8_set ∈ lw_g := gd 835 (by decide +kernel) (by decide +kernel)
theorem mlL_26 : Cond.methodLink RL 26 yX8_copy ∈ lw_g := gd 839 (by decide +kernel) (by decide +kernel)
theorem mlL_31 : Cond.methodLink RL 31 yX8_drop ∈ lw_g := gd 843 (by decide +kernel) (by decide +kernel)
theorem mlL_35 : Cond.methodLink RL 35 yX8_feed ∈ lw_g := gd 847 (by decide +kernel) (by decide +kernel)
theorem kcX8_75 : Cond.constantLong RX8 75 (lN 255) ∈ lw_g := gd 851 (by decide +kernel) (by decide +kernel)
theorem kcX8_80 : Cond.constant RX8 80 (-1000003) ∈ lw_g := gd 852 (by decide +kernel) (by decide +kernel)
theorem mlL_44 : Cond.methodLink RL 44 yX8_fault ∈ lw_g := gd 853 (by decide +kernel) (by decide +kernel)
theorem mlL_40 : Cond.methodLink RL 40 yX8_cellar ∈ lw_g := gd 857 (by decide +kernel) (by decide +kernel)
theorem mlX8_132 : Cond.methodLink RX8 132 yX8_begin ∈ lw_g := gd 861 (by decide +kernel) (by decide +kernel)
theorem mlX8_112 : Cond.methodLink RX8 112 yX8_nextToken ∈ lw_g := gd 865 (by decide +kernel) (by decide +kernel)
theorem kcX8_93 : Cond.constant RX8 93 (-1000000) ∈ lw_g := gd 869 (by decide +kernel) (by decide +kernel)
theorem kcX8_97 : Cond.constantLong RX8 97 (lN 97) ∈ lw_g := gd 870 (by decide +kernel) (by decide +kernel)
theorem kcX8_99 : Cond.constantLong RX8 99 (lN 122) ∈ lw_g := gd 871 (by decide +kernel) (by decide +kernel)
theorem kcX8_101 : Cond.constantLong RX8 101 (lN 48) ∈ lw_g := gd 872 (by decide +kernel) (by decide +kernel)
theorem kcX8_103 : Cond.constantLong RX8 103 (lN 57) ∈ lw_g := gd 873 (by decide +kernel) (by decide +kernel)
theorem mlX8_135 : Cond.methodLink RX8 135 yX8_isLetter ∈ lw_g := gd 874 (by decide +kernel) (by decide +kernel)
theorem mlX8_115 : Cond.methodLink RX8 115 yX8_must ∈ lw_g := gd 878 (by decide +kernel) (by decide +kernel)
theorem mlX8_108 : Cond.methodLink RX8 108 yX8_bad ∈ lw_g := gd 882 (by decide +kernel) (by decide +kernel)
theorem mlX8_125 : Cond.methodLink RX8 125 yX8_number ∈ lw_g := gd 886 (by decide +kernel) (by decide +kernel)
theorem mlX8_129 : Cond.methodLink RX8 129 yX8_mustSign ∈ lw_g := gd 890 (by decide +kernel) (by decide +kernel)
theorem mlX8_138 : Cond.methodLink RX8 138 yX8_isSort ∈ lw_g := gd 894 (by decide +kernel) (by decide +kernel)
theorem mlX8_122 : Cond.methodLink RX8 122 yX8_kindBy ∈ lw_g := gd 898 (by decide +kernel) (by decide +kernel)
theorem mlX8_142 : Cond.methodLink RX8 142 yX8_readJar ∈ lw_g := gd 901 (by decide +kernel) (by decide +kernel)
theorem mlX8_145 : Cond.methodLink RX8 145 yX8_failed ∈ lw_g := gd 905 (by decide +kernel) (by decide +kernel)
theorem kcX8_148 : Cond.constant RX8 148 (-1000100) ∈ lw_g := gd 909 (by decide +kernel) (by decide +kernel)
theorem mlL_52 : Cond.methodLink RL 52 yX8_years ∈ lw_g := gd 910 (by decide +kernel) (by decide +kernel)
theorem mlX8_196 : Cond.methodLink RX8 196 yX8_isThere ∈ lw_g := gd 914 (by decide +kernel) (by decide +kernel)
theorem kcX8_199 : Cond.constant RX8 199 (-1000002) ∈ lw_g := gd 918 (by decide +kernel) (by decide +kernel)
theorem kcX8_200 : Cond.constantLong RX8 200 (lN 24) ∈ lw_g := gd 919 (by decide +kernel) (by decide +kernel)
theorem mlX8_202 : Cond.methodLink RX8 202 yX8_keep ∈ lw_g := gd 920 (by decide +kernel) (by decide +kernel)
theorem mlX8_205 : Cond.methodLink RX8 205 yX8_yearOf ∈ lw_g := gd 924 (by decide +kernel) (by decide +kernel)
theorem mlX8_154 : Cond.methodLink RX8 154 yX8_of ∈ lw_g := gd 927 (by decide +kernel) (by decide +kernel)
theorem mlX8_192 : Cond.methodLink RX8 192 yX8_be ∈ lw_g := gd 930 (by decide +kernel) (by decide +kernel)
theorem mlX8_175 : Cond.methodLink RX8 175 yX8_those ∈ lw_g := gd 933 (by decide +kernel) (by decide +kernel)
theorem mlL_57 : Cond.methodLink RL 57 yX8_sneeze ∈ lw_g := gd 936 (by decide +kernel) (by decide +kernel)
theorem mlX8_209 : Cond.methodLink RX8 209 yX8_isNote ∈ lw_g := gd 940 (by decide +kernel) (by decide +kernel)
theorem kcX8_152 : Cond.constantLong RX8 152 (lN 11) ∈ lw_g := gd 943 (by decide +kernel) (by decide +kernel)
theorem mlX8_213 : Cond.methodLink RX8 213 yX8_isJar ∈ lw_g := gd 944 (by decide +kernel) (by decide +kernel)
theorem mlX8_216 : Cond.methodLink RX8 216 yX8_sneezes ∈ lw_g := gd 948 (by decide +kernel) (by decide +kernel)
theorem mlX8_179 : Cond.methodLink RX8 179 yX8_chainOf ∈ lw_g := gd 952 (by decide +kernel) (by decide +kernel)
theorem mlX8_167 : Cond.methodLink RX8 167 yX8_has ∈ lw_g := gd 956 (by decide +kernel) (by decide +kernel)
theorem mlX8_171 : Cond.methodLink RX8 171 yX8_setsOff ∈ lw_g := gd 959 (by decide +kernel) (by decide +kernel)
theorem mlX8_158 : Cond.methodLink RX8 158 yX8_gap ∈ lw_g := gd 963 (by decide +kernel) (by decide +kernel)
theorem mlX8_161 : Cond.methodLink RX8 161 yX8_apart ∈ lw_g := gd 966 (by decide +kernel) (by decide +kernel)
theorem mlL_61 : Cond.methodLink RL 61 yX8_open ∈ lw_g := gd 969 (by decide +kernel) (by decide +kernel)
theorem mlL_65 : Cond.methodLink RL 65 yX8_change ∈ lw_g := gd 973 (by decide +kernel) (by decide +kernel)
theorem mlX8_220 : Cond.methodLink RX8 220 yX8_changePlaces ∈ lw_g := gd 977 (by decide +kernel) (by decide +kernel)
theorem mlL_69 : Cond.methodLink RL 69 yX8_seal ∈ lw_g := gd 980 (by decide +kernel) (by decide +kernel)
theorem kcX8_223 : Cond.constantLong RX8 223 (lN 60) ∈ lw_g := gd 984 (by decide +kernel) (by decide +kernel)
theorem mlL_73 : Cond.methodLink RL 73 yX8_reach ∈ lw_g := gd 985 (by decide +kernel) (by decide +kernel)
theorem kcX8_225 : Cond.constantLong RX8 225 (lN 8) ∈ lw_g := gd 989 (by decide +kernel) (by decide +kernel)
theorem mlL_48 : Cond.methodLink RL 48 yX8_undo ∈ lw_g := gd 990 (by decide +kernel) (by decide +kernel)
theorem mlL_77 : Cond.methodLink RL 77 yX8_jar ∈ lw_g := gd 994 (by decide +kernel) (by decide +kernel)
theorem kcX8_227 : Cond.constantLong RX8 227 (lN 3) ∈ lw_g := gd 998 (by decide +kernel) (by decide +kernel)
theorem mlL_81 : Cond.methodLink RL 81 yX8_stand ∈ lw_g := gd 999 (by decide +kernel) (by decide +kernel)
theorem mlL_85 : Cond.methodLink RL 85 yX8_chain ∈ lw_g := gd 1003 (by decide +kernel) (by decide +kernel)
theorem mlL_89 : Cond.methodLink RL 89 yX8_worst ∈ lw_g := gd 1007 (by decide +kernel) (by decide +kernel)
theorem mlX8_229 : Cond.methodLink RX8 229 yX8_worstOf ∈ lw_g := gd 1011 (by decide +kernel) (by decide +kernel)
theorem mlX8_183 : Cond.methodLink RX8 183 yX8_bits ∈ lw_g := gd 1015 (by decide +kernel) (by decide +kernel)
theorem mlL_93 : Cond.methodLink RL 93 yX8_when ∈ lw_g := gd 1018 (by decide +kernel) (by decide +kernel)
theorem mlL_97 : Cond.methodLink RL 97 yX8_kept ∈ lw_g := gd 1022 (by decide +kernel) (by decide +kernel)
theorem mlX8_233 : Cond.methodLink RX8 233 yX8_layThen ∈ lw_g := gd 1026 (by decide +kernel) (by decide +kernel)
theorem mlL_102 : Cond.methodLink RL 102 yX8_guard ∈ lw_g := gd 1030 (by decide +kernel) (by decide +kernel)
theorem mlL_106 : Cond.methodLink RL 106 yX8_changes ∈ lw_g := gd 1034 (by decide +kernel) (by decide +kernel)
theorem mlL_110 : Cond.methodLink RL 110 yX8_tuned ∈ lw_g := gd 1038 (by decide +kernel) (by decide +kernel)
theorem mlL_114 : Cond.methodLink RL 114 yX8_spared ∈ lw_g := gd 1042 (by decide +kernel) (by decide +kernel)
theorem mlL_118 : Cond.methodLink RL 118 yX8_alike ∈ lw_g := gd 1046 (by decide +kernel) (by decide +kernel)
theorem mlX8_236 : Cond.methodLink RX8 236 yX8_breaksBy ∈ lw_g := gd 1050 (by decide +kernel) (by decide +kernel)
theorem mlL_122 : Cond.methodLink RL 122 yX8_song ∈ lw_g := gd 1054 (by decide +kernel) (by decide +kernel)
theorem mlX8_241 : Cond.methodLink RX8 241 yX8_isMany ∈ lw_g := gd 1058 (by decide +kernel) (by decide +kernel)
theorem kcX8_239 : Cond.constantLong RX8 239 (lN 12) ∈ lw_g := gd 1061 (by decide +kernel) (by decide +kernel)
theorem mlX8_244 : Cond.methodLink RX8 244 yX8_rowFound ∈ lw_g := gd 1062 (by decide +kernel) (by decide +kernel)
theorem mlL_127 : Cond.methodLink RL 127 yX8_who ∈ lw_g := gd 1066 (by decide +kernel) (by decide +kernel)
theorem mlX8_248 : Cond.methodLink RX8 248 yX8_isSo ∈ lw_g := gd 1070 (by decide +kernel) (by decide +kernel)
theorem mlL_131 : Cond.methodLink RL 131 yX8_reaches ∈ lw_g := gd 1074 (by decide +kernel) (by decide +kernel)
theorem mlL_136 : Cond.methodLink RL 136 yX8_mould ∈ lw_g := gd 1078 (by decide +kernel) (by decide +kernel)
theorem kcX8_252 : Cond.constantLong RX8 252 (lN 10) ∈ lw_g := gd 1082 (by decide +kernel) (by decide +kernel)
theorem kcX8_254 : Cond.constantLong RX8 254 (-1000001) ∈ lw_g := gd 1083 (by decide +kernel) (by decide +kernel)
theorem mlL_140 : Cond.methodLink RL 140 yX8_drawn ∈ lw_g := gd 1084 (by decide +kernel) (by decide +kernel)
theorem kcX8_256 : Cond.constantLong RX8 256 (lN 999999) ∈ lw_g := gd 1088 (by decide +kernel) (by decide +kernel)
theorem kcX8_258 : Cond.constantLong RX8 258 (lN 16807) ∈ lw_g := gd 1089 (by decide +kernel) (by decide +kernel)
theorem kcX8_260 : Cond.constantLong RX8 260 (lN 2147483647) ∈ lw_g := gd 1090 (by decide +kernel) (by decide +kernel)
theorem mlL_144 : Cond.methodLink RL 144 yX8_image ∈ lw_g := gd 1091 (by decide +kernel) (by decide +kernel)
theorem mlL_148 : Cond.methodLink RL 148 yX8_restore ∈ lw_g := gd 1095 (by decide +kernel) (by decide +kernel)
theorem mlL_152 : Cond.methodLink RL 152 yX8_kind ∈ lw_g := gd 1099 (by decide +kernel) (by decide +kernel)
theorem mlL_156 : Cond.methodLink RL 156 yX8_as ∈ lw_g := gd 1103 (by decide +kernel) (by decide +kernel)
theorem kcX8_262 : Cond.constantLong RX8 262 (lN 5) ∈ lw_g := gd 1107 (by decide +kernel) (by decide +kernel)
theorem mlX8_264 : Cond.methodLink RX8 264 yX8_isOf ∈ lw_g := gd 1108 (by decide +kernel) (by decide +kernel)
theorem mlL_160 : Cond.methodLink RL 160 yX8_ask ∈ lw_g := gd 1111 (by decide +kernel) (by decide +kernel)
theorem mlX8_282 : Cond.methodLink RX8 282 yX8_sizeOf ∈ lw_g := gd 1115 (by decide +kernel) (by decide +kernel)
theorem mlX8_276 : Cond.methodLink RX8 276 yX8_stoneSize ∈ lw_g := gd 1119 (by decide +kernel) (by decide +kernel)
theorem mlX8_270 : Cond.methodLink RX8 270 yX8_began ∈ lw_g := gd 1123 (by decide +kernel) (by decide +kernel)
theorem mlX8_273 : Cond.methodLink RX8 273 yX8_plainSize ∈ lw_g := gd 1127 (by decide +kernel) (by decide +kernel)
theorem mlX8_279 : Cond.methodLink RX8 279 yX8_markOf ∈ lw_g := gd 1131 (by decide +kernel) (by decide +kernel)
theorem mlL_164 : Cond.methodLink RL 164 yX8_trace ∈ lw_g := gd 1135 (by decide +kernel) (by decide +kernel)
theorem mlL_168 : Cond.methodLink RL 168 yX8_count ∈ lw_g := gd 1139 (by decide +kernel) (by decide +kernel)
theorem mlL_172 : Cond.methodLink RL 172 yX8_status ∈ lw_g := gd 1143 (by decide +kernel) (by decide +kernel)
end
section
theorem dJ6_bitCount_0f7a4_0 : decode cJ6_bitCount_0f7a4 0 = .ok (.iload_n 0, 1) := by decide +kernel
theorem dJ6_bitCount_0f7a4_1 : decode cJ6_bitCount_0f7a4 1 = .ok (.iload_n 0, 1) := by decide +kernel
theorem dJ6_bitCount_0f7a4_2 : decode cJ6_bitCount_0f7a4 2 = .ok (.iconst 1, 1) := by decide +kernel
theorem dJ6_bitCount_0f7a4_3 : decode cJ6_bitCount_0f7a4 3 = .ok (.iushr, 1) := by decide +kernel
theorem dJ6_bitCount_0f7a4_4 : decode cJ6_bitCount_0f7a4 4 = .ok (.ldc_w 265, 3) := by decide +kernel
theorem dJ6_bitCount_0f7a4_7 : decode cJ6_bitCount_0f7a4 7 = .ok (.iand, 1) := by decide +kernel
theorem dJ6_bitCount_0f7a4_8 : decode cJ6_bitCount_0f7a4 8 = .ok (.isub, 1) := by decide +kernel
theorem dJ6_bitCount_0f7a4_9 : decode cJ6_bitCount_0f7a4 9 = .ok (.istore_n 0, 1) := by decide +kernel
theorem dJ6_bitCount_0f7a4_10 : decode cJ6_bitCount_0f7a4 10 = .ok (.iload_n 0, 1) := by decide +kernel
theorem dJ6_bitCount_0f7a4_11 : decode cJ6_bitCount_0f7a4 11 = .ok (.ldc_w 266, 3) := by decide +kernel
theorem dJ6_bitCount_0f7a4_14 : decode cJ6_bitCount_0f7a4 14 = .ok (.iand, 1) := by decide +kernel
theorem dJ6_bitCount_0f7a4_15 : decode cJ6_bitCount_0f7a4 15 = .ok (.iload_n 0, 1) := by decide +kernel
theorem dJ6_bitCount_0f7a4_16 : decode cJ6_bitCount_0f7a4 16 = .ok (.iconst 2, 1) := by decide +kernel
theorem dJ6_bitCount_0f7a4_17 : decode cJ6_bitCount_0f7a4 17 = .ok (.iushr, 1) := by decide +kernel
theorem dJ6_bitCount_0f7a4_18 : decode cJ6_bitCount_0f7a4 18 = .ok (.ldc_w 266, 3) := by decide +kernel
theorem dJ6_bitCount_0f7a4_21 : decode cJ6_bitCount_0f7a4 21 = .ok (.iand, 1) := by decide +kernel
theorem dJ6_bitCount_0f7a4_22 : decode cJ6_bitCount_0f7a4 22 = .ok (.iadd, 1) := by decide +kernel
theorem dJ6_bitCount_0f7a4_23 : decode cJ6_bitCount_0f7a4 23 = .ok (.istore_n 0, 1) := by decide +kernel
theorem dJ6_bitCount_0f7a4_24 : decode cJ6_bitCount_0f7a4 24 = .ok (.iload_n 0, 1) := by decide +kernel
theorem dJ6_bitCount_0f7a4_25 : decode cJ6_bitCount_0f7a4 25 = .ok (.iload_n 0, 1) := by decide +kernel
theorem dJ6_bitCount_0f7a4_26 : decode cJ6_bitCount_0f7a4 26 = .ok (.iconst 4, 1) := by decide +kernel
theorem dJ6_bitCount_0f7a4_27 : decode cJ6_bitCount_0f7a4 27 = .ok (.iushr, 1) := by decide +kernel
theorem dJ6_bitCount_0f7a4_28 : decode cJ6_bitCount_0f7a4 28 = .ok (.iadd, 1) := by decide +kernel
theorem dJ6_bitCount_0f7a4_29 : decode cJ6_bitCount_0f7a4 29 = .ok (.ldc_w 267, 3) := by decide +kernel
theorem dJ6_bitCount_0f7a4_32 : decode cJ6_bitCount_0f7a4 32 = .ok (.iand, 1) := by decide +kernel
theorem dJ6_bitCount_0f7a4_33 : decode cJ6_bitCount_0f7a4 33 = .ok (.istore_n 0, 1) := by decide +kernel
theorem dJ6_bitCount_0f7a4_34 : decode cJ6_bitCount_0f7a4 34 = .ok (.iload_n 0, 1) := by decide +kernel
theorem dJ6_bitCount_0f7a4_35 : decode cJ6_bitCount_0f7a4 35 = .ok (.iload_n 0, 1) := by decide +kernel
theorem dJ6_bitCount_0f7a4_36 : decode cJ6_bitCount_0f7a4 36 = .ok (.bipush 8, 2) := by decide +kernel
theorem dJ6_bitCount_0f7a4_38 : decode cJ6_bitCount_0f7a4 38 = .ok (.iushr, 1) := by decide +kernel
theorem dJ6_bitCount_0f7a4_39 : decode cJ6_bitCount_0f7a4 39 = .ok (.iadd, 1) := by decide +kernel
theorem dJ6_bitCount_0f7a4_40 : decode cJ6_bitCount_0f7a4 40 = .ok (.istore_n 0, 1) := by decide +kernel
theorem dJ6_bitCount_0f7a4_41 : decode cJ6_bitCount_0f7a4 41 = .ok (.iload_n 0, 1) := by decide +kernel
theorem dJ6_bitCount_0f7a4_42 : decode cJ6_bitCount_0f7a4 42 = .ok (.iload_n 0, 1) := by decide +kernel
theorem dJ6_bitCount_0f7a4_43 : decode cJ6_bitCount_0f7a4 43 = .ok (.bipush 16, 2) := by decide +kernel
theorem dJ6_bitCount_0f7a4_45 : decode cJ6_bitCount_0f7a4 45 = .ok (.iushr, 1) := by decide +kernel
theorem dJ6_bitCount_0f7a4_46 : decode cJ6_bitCount_0f7a4 46 = .ok (.iadd, 1) := by decide +kernel
theorem dJ6_bitCount_0f7a4_47 : decode cJ6_bitCount_0f7a4 47 = .ok (.istore_n 0, 1) := by decide +kernel
theorem dJ6_bitCount_0f7a4_48 : decode cJ6_bitCount_0f7a4 48 = .ok (.iload_n 0, 1) := by decide +kernel
theorem dJ6_bitCount_0f7a4_49 : decode cJ6_bitCount_0f7a4 49 = .ok (.bipush 63, 2) := by decide +kernel
theorem dJ6_bitCount_0f7a4_51 : decode cJ6_bitCount_0f7a4 51 = .ok (.iand, 1) := by decide +kernel
theorem dJ6_bitCount_0f7a4_52 : decode cJ6_bitCount_0f7a4 52 = .ok (.ireturn, 1) := by decide +kernel
end
section
theorem dJ9_abs_0f7a4_0 : decode cJ9_abs_0f7a4 0 = .ok (.iload_n 0, 1) := by decide +kernel
theorem dJ9_abs_0f7a4_1 : decode cJ9_abs_0f7a4 1 = .ok (.ifCond .ge 8, 3) := by decide +kernel
theorem dJ9_abs_0f7a4_4 : decode cJ9_abs_0f7a4 4 = .ok (.iload_n 0, 1) := by decide +kernel
theorem dJ9_abs_0f7a4_5 : decode cJ9_abs_0f7a4 5 = .ok (.ineg, 1) := by decide +kernel
theorem dJ9_abs_0f7a4_6 : decode cJ9_abs_0f7a4 6 = .ok (.goto 4, 3) := by decide +kernel
theorem dJ9_abs_0f7a4_9 : decode cJ9_abs_0f7a4 9 = .ok (.iload_n 0, 1) := by decide +kernel
theorem dJ9_abs_0f7a4_10 : decode cJ9_abs_0f7a4 10 = .ok (.ireturn, 1) := by decide +kernel
theorem dJ9_min_7cf53_0 : decode cJ9_min_7cf53 0 = .ok (.iload_n 0, 1) := by decide +kernel
theorem dJ9_min_7cf53_1 : decode cJ9_min_7cf53 1 = .ok (.iload_n 1, 1) := by decide +kernel
theorem dJ9_min_7cf53_2 : decode cJ9_min_7cf53 2 = .ok (.if_icmp .gt 7, 3) := by decide +kernel
theorem dJ9_min_7cf53_5 : decode cJ9_min_7cf53 5 = .ok (.iload_n 0, 1) := by decide +kernel
theorem dJ9_min_7cf53_6 : decode cJ9_min_7cf53 6 = .ok (.goto 4, 3) := by decide +kernel
theorem dJ9_min_7cf53_9 : decode cJ9_min_7cf53 9 = .ok (.iload_n 1, 1) := by decide +kernel
theorem dJ9_min_7cf53_10 : decode cJ9_min_7cf53 10 = .ok (.ireturn, 1) := by decide +kernel
end
section
theorem dL_law_0 : decode cL_law 0 = .ok (.new 7, 3) := by decide +kernel
theorem dL_law_3 : decode cL_law 3 = .ok (.dup, 1) := by decide +kernel
theorem dL_law_4 : decode cL_law 4 = .ok (.invokespecial 9, 3) := by decide +kernel
theorem dL_law_7 : decode cL_law 7 = .ok (.astore_n 1, 1) := by decide +kernel
theorem dL_law_8 : decode cL_law 8 = .ok (.new 10, 3) := by decide +kernel
theorem dL_law_11 : decode cL_law 11 = .ok (.dup, 1) := by decide +kernel
theorem dL_law_12 : decode cL_law 12 = .ok (.invokespecial 12, 3) := by decide +kernel
theorem dL_law_15 : decode cL_law 15 = .ok (.astore_n 2, 1) := by decide +kernel
theorem dL_law_16 : decode cL_law 16 = .ok (.iconst 0, 1) := by decide +kernel
theorem dL_law_17 : decode cL_law 17 = .ok (.istore_n 3, 1) := by decide +kernel
theorem dL_law_18 : decode cL_law 18 = .ok (.iload_n 3, 1) := by decide +kernel
theorem dL_law_19 : decode cL_law 19 = .ok (.aload_n 0, 1) := by decide +kernel
theorem dL_law_20 : decode cL_law 20 = .ok (.arraylength, 1) := by decide +kernel
theorem dL_law_21 : decode cL_law 21 = .ok (.bipush 7, 2) := by decide +kernel
theorem dL_law_23 : decode cL_law 23 = .ok (.isub, 1) := by decide +kernel
theorem dL_law_24 : decode cL_law 24 = .ok (.if_icmp .gt 1399, 3) := by decide +kernel
theorem dL_law_27 : decode cL_law 27 = .ok (.aload_n 0, 1) := by decide +kernel
theorem dL_law_28 : decode cL_law 28 = .ok (.iload_n 3, 1) := by decide +kernel
theorem dL_law_29 : decode cL_law 29 = .ok (.iaload, 1) := by decide +kernel
theorem dL_law_30 : decode cL_law 30 = .ok (.bipush 63, 2) := by decide +kernel
theorem dL_law_32 : decode cL_law 32 = .ok (.iand, 1) := by decide +kernel
theorem dL_law_33 : decode cL_law 33 = .ok (.tableswitch 1384 0 37 #[167, 210, 253, 316, 339, 362, 375, 388, 401, 424, 457, 480, 513, 556, 579, 612, 635, 678, 701, 724, 747, 800, 823, 856, 879, 902, 955, 1030, 1083, 1147, 1190, 1213, 1236, 1259, 1292, 1325, 1348, 1371], 167) := by decide +kernel
theorem dL_law_200 : decode cL_law 200 = .ok (.aload_n 1, 1) := by decide +kernel
theorem dL_law_201 : decode cL_law 201 = .ok (.aload_n 0, 1) := by decide +kernel
theorem dL_law_202 : decode cL_law 202 = .ok (.iload_n 3, 1) := by decide +kernel
theorem dL_law_203 : decode cL_law 203 = .ok (.iconst 1, 1) := by decide +kernel
theorem dL_law_204 : decode cL_law 204 = .ok (.iadd, 1) := by decide +kernel
theorem dL_law_205 : decode cL_law 205 = .ok (.iaload, 1) := by decide +kernel
theorem dL_law_206 : decode cL_law 206 = .ok (.aload_n 0, 1) := by decide +kernel
theorem dL_law_207 : decode cL_law 207 = .ok (.iload_n 3, 1) := by decide +kernel
theorem dL_law_208 : decode cL_law 208 = .ok (.iconst 2, 1) := by decide +kernel
theorem dL_law_209 : decode cL_law 209 = .ok (.iadd, 1) := by decide +kernel
theorem dL_law_210 : decode cL_law 210 = .ok (.iaload, 1) := by decide +kernel
theorem dL_law_211 : decode cL_law 211 = .ok (.aload_n 0, 1) := by decide +kernel
theorem dL_law_212 : decode cL_law 212 = .ok (.iload_n 3, 1) := by decide +kernel
theorem dL_law_213 : decode cL_law 213 = .ok (.iconst 3, 1) := by decide +kernel
theorem dL_law_214 : decode cL_law 214 = .ok (.iadd, 1) := by decide +kernel
theorem dL_law_215 : decode cL_law 215 = .ok (.iaload, 1) := by decide +kernel
theorem dL_law_216 : decode cL_law 216 = .ok (.invokevirtual 13, 3) := by decide +kernel
theorem dL_law_219 : decode cL_law 219 = .ok (.aload_n 2, 1) := by decide +kernel
theorem dL_law_220 : decode cL_law 220 = .ok (.aload_n 0, 1) := by decide +kernel
theorem dL_law_221 : decode cL_law 221 = .ok (.iload_n 3, 1) := by decide +kernel
theorem dL_law_222 : decode cL_law 222 = .ok (.iconst 1, 1) := by decide +kernel
theorem dL_law_223 : decode cL_law 223 = .ok (.iadd, 1) := by decide +kernel
theorem dL_law_224 : decode cL_law 224 = .ok (.iaload, 1) := by decide +kernel
theorem dL_law_225 : decode cL_law 225 = .ok (.aload_n 0, 1) := by decide +kernel
theorem dL_law_226 : decode cL_law 226 = .ok (.iload_n 3, 1) := by decide +kernel
theorem dL_law_227 : decode cL_law 227 = .ok (.iconst 2, 1) := by decide +kernel
theorem dL_law_228 : decode cL_law 228 = .ok (.iadd, 1) := by decide +kernel
theorem dL_law_229 : decode cL_law 229 = .ok (.iaload, 1) := by decide +kernel
theorem dL_law_230 : decode cL_law 230 = .ok (.aload_n 0, 1) := by decide +kernel
theorem dL_law_231 : decode cL_law 231 = .ok (.iload_n 3, 1) := by decide +kernel
theorem dL_law_232 : decode cL_law 232 = .ok (.iconst 3, 1) := by decide +kernel
theorem dL_law_233 : decode cL_law 233 = .ok (.iadd, 1) := by decide +kernel
theorem dL_law_234 : decode cL_law 234 = .ok (.iaload, 1) := by decide +kernel
theorem dL_law_235 : decode cL_law 235 = .ok (.invokevirtual 17, 3) := by decide +kernel
theorem dL_law_238 : decode cL_law 238 = .ok (.if_icmp .eq 1179, 3) := by decide +kernel
theorem dL_law_241 : decode cL_law 241 = .ok (.iconst 0, 1) := by decide +kernel
theorem dL_law_242 : decode cL_law 242 = .ok (.ireturn, 1) := by decide +kernel
theorem dL_law_243 : decode cL_law 243 = .ok (.aload_n 1, 1) := by decide +kernel
theorem dL_law_244 : decode cL_law 244 = .ok (.aload_n 0, 1) := by decide +kernel
theorem dL_law_245 : decode cL_law 245 = .ok (.iload_n 3, 1) := by decide +kernel
theorem dL_law_246 : decode cL_law 246 = .ok (.iconst 1, 1) := by decide +kernel
theorem dL_law_247 : decode cL_law 247 = .ok (.iadd, 1) := by decide +kernel
theorem dL_law_248 : decode cL_law 248 = .ok (.iaload, 1) := by decide +kernel
theorem dL_law_249 : decode cL_law 249 = .ok (.aload_n 0, 1) := by decide +kernel
theorem dL_law_250 : decode cL_law 250 = .ok (.iload_n 3, 1) := by decide +kernel
theorem dL_law_251 : decode cL_law 251 = .ok (.iconst 2, 1) := by decide +kernel
theorem dL_law_252 : decode cL_law 252 = .ok (.iadd, 1) := by decide +kernel
theorem dL_law_253 : decode cL_law 253 = .ok (.iaload, 1) := by decide +kernel
theorem dL_law_254 : decode cL_law 254 = .ok (.aload_n 0, 1) := by decide +kernel
theorem dL_law_255 : decode cL_law 255 = .ok (.iload_n 3, 1) := by decide +kernel
theorem dL_law_256 : decode cL_law 256 = .ok (.iconst 3, 1) := by decide +kernel
theorem dL_law_257 : decode cL_law 257 = .ok (.iadd, 1) := by decide +kernel
theorem dL_law_258 : decode cL_law 258 = .ok (.iaload, 1) := by decide +kernel
theorem dL_law_259 : decode cL_law 259 = .ok (.invokevirtual 18, 3) := by decide +kernel
theorem dL_law_262 : decode cL_law 262 = .ok (.aload_n 2, 1) := by decide +kernel
theorem dL_law_263 : decode cL_law 263 = .ok (.aload_n 0, 1) := by decide +kernel
theorem dL_law_264 : decode cL_law 264 = .ok (.iload_n 3, 1) := by decide +kernel
theorem dL_law_265 : decode cL_law 265 = .ok (.iconst 1, 1) := by decide +kernel
theorem dL_law_266 : decode cL_law 266 = .ok (.iadd, 1) := by decide +kernel
theorem dL_law_267 : decode cL_law 267 = .ok (.iaload, 1) := by decide +kernel
theorem dL_law_268 : decode cL_law 268 = .ok (.aload_n 0, 1) := by decide +kernel
theorem dL_law_269 : decode cL_law 269 = .ok (.iload_n 3, 1) := by decide +kernel
theorem dL_law_270 : decode cL_law 270 = .ok (.iconst 2, 1) := by decide +kernel
theorem dL_law_271 : decode cL_law 271 = .ok (.iadd, 1) := by decide +kernel
theorem dL_law_272 : decode cL_law 272 = .ok (.iaload, 1) := by decide +kernel
theorem dL_law_273 : decode cL_law 273 = .ok (.aload_n 0, 1) := by decide +kernel
theorem dL_law_274 : decode cL_law 274 = .ok (.iload_n 3, 1) := by decide +kernel
theorem dL_law_275 : decode cL_law 275 = .ok (.iconst 3, 1) := by decide +kernel
theorem dL_law_276 : decode cL_law 276 = .ok (.iadd, 1) := by decide +kernel
theorem dL_law_277 : decode cL_law 277 = .ok (.iaload, 1) := by decide +kernel
theorem dL_law_278 : decode cL_law 278 = .ok (.invokevirtual 21, 3) := by decide +kernel
theorem dL_law_281 : decode cL_law 281 = .ok (.if_icmp .eq 1136, 3) := by decide +kernel
theorem dL_law_284 : decode cL_law 284 = .ok (.iconst 0, 1) := by decide +kernel
theorem dL_law_285 : decode cL_law 285 = .ok (.ireturn, 1) := by decide +kernel
theorem dL_law_286 : decode cL_law 286 = .ok (.aload_n 1, 1) := by decide +kernel
theorem dL_law_287 : decode cL_law 287 = .ok (.aload_n 0, 1) := by decide +kernel
theorem dL_law_288 : decode cL_law 288 = .ok (.iload_n 3, 1) := by decide +kernel
theorem dL_law_289 : decode cL_law 289 = .ok (.iconst 1, 1) := by decide +kernel
theorem dL_law_290 : decode cL_law 290 = .ok (.iadd, 1) := by decide +kernel
theorem dL_law_291 : decode cL_law 291 = .ok (.iaload, 1) := by decide +kernel
theorem dL_law_292 : decode cL_law 292 = .ok (.aload_n 0, 1) := by decide +kernel
theorem dL_law_293 : decode cL_law 293 = .ok (.iload_n 3, 1) := by decide +kernel
theorem dL_law_294 : decode cL_law 294 = .ok (.iconst 2, 1) := by decide +kernel
theorem dL_law_295 : decode cL_law 295 = .ok (.iadd, 1) := by decide +kernel
theorem dL_law_296 : decode cL_law 296 = .ok (.iaload, 1) := by decide +kernel
theorem dL_law_297 : decode cL_law 297 = .ok (.aload_n 0, 1) := by decide +kernel
theorem dL_law_298 : decode cL_law 298 = .ok (.iload_n 3, 1) := by decide +kernel
theorem dL_law_299 : decode cL_law 299 = .ok (.iconst 3, 1) := by decide +kernel
theorem dL_law_300 : decode cL_law 300 = .ok (.iadd, 1) := by decide +kernel
theorem dL_law_301 : decode cL_law 301 = .ok (.iaload, 1) := by decide +kernel
theorem dL_law_302 : decode cL_law 302 = .ok (.aload_n 0, 1) := by decide +kernel
theorem dL_law_303 : decode cL_law 303 = .ok (.iload_n 3, 1) := by decide +kernel
theorem dL_law_304 : decode cL_law 304 = .ok (.iconst 4, 1) := by decide +kernel
theorem dL_law_305 : decode cL_law 305 = .ok (.iadd, 1) := by decide +kernel
theorem dL_law_306 : decode cL_law 306 = .ok (.iaload, 1) := by decide +kernel
theorem dL_law_307 : decode cL_law 307 = .ok (.aload_n 0, 1) := by decide +kernel
theorem dL_law_308 : decode cL_law 308 = .ok (.iload_n 3, 1) := by decide +kernel
theorem dL_law_309 : decode cL_law 309 = .ok (.iconst 5, 1) := by decide +kernel
theorem dL_law_310 : decode cL_law 310 = .ok (.iadd, 1) := by decide +kernel
theorem dL_law_311 : decode cL_law 311 = .ok (.iaload, 1) := by decide +kernel
theorem dL_law_312 : decode cL_law 312 = .ok (.invokevirtual 22, 3) := by decide +kernel
theorem dL_law_315 : decode cL_law 315 = .ok (.aload_n 2, 1) := by decide +kernel
theorem dL_law_316 : decode cL_law 316 = .ok (.aload_n 0, 1) := by decide +kernel
theorem dL_law_317 : decode cL_law 317 = .ok (.iload_n 3, 1) := by decide +kernel
theorem dL_law_318 : decode cL_law 318 = .ok (.iconst 1, 1) := by decide +kernel
theorem dL_law_319 : decode cL_law 319 = .ok (.iadd, 1) := by decide +kernel
theorem dL_law_320 : decode cL_law 320 = .ok (.iaload, 1) := by decide +kernel
theorem dL_law_321 : decode cL_law 321 = .ok (.aload_n 0, 1) := by decide +kernel
theorem dL_law_322 : decode cL_law 322 = .ok (.iload_n 3, 1) := by decide +kernel
theorem dL_law_323 : decode cL_law 323 = .ok (.iconst 2, 1) := by decide +kernel
theorem dL_law_324 : decode cL_law 324 = .ok (.iadd, 1) := by decide +kernel
theorem dL_law_325 : decode cL_law 325 = .ok (.iaload, 1) := by decide +kernel
theorem dL_law_326 : decode cL_law 326 = .ok (.aload_n 0, 1) := by decide +kernel
theorem dL_law_327 : decode cL_law 327 = .ok (.iload_n 3, 1) := by decide +kernel
theorem dL_law_328 : decode cL_law 328 = .ok (.iconst 3, 1) := by decide +kernel
theorem dL_law_329 : decode cL_law 329 = .ok (.iadd, 1) := by decide +kernel
theorem dL_law_330 : decode cL_law 330 = .ok (.iaload, 1) := by decide +kernel
theorem dL_law_331 : decode cL_law 331 = .ok (.aload_n 0, 1) := by decide +kernel
theorem dL_law_332 : decode cL_law 332 = .ok (.iload_n 3, 1) := by decide +kernel
theorem dL_law_333 : decode cL_law 333 = .ok (.iconst 4, 1) := by decide +kernel
theorem dL_law_334 : decode cL_law 334 = .ok (.iadd, 1) := by decide +kernel
theorem dL_law_335 : decode cL_law 335 = .ok (.iaload, 1) := by decide +kernel
theorem dL_law_336 : decode cL_law 336 = .ok (.aload_n 0, 1) := by decide +kernel
theorem dL_law_337 : decode cL_law 337 = .ok (.iload_n 3, 1) := by decide +kernel
theorem dL_law_338 : decode cL_law 338 = .ok (.iconst 5, 1) := by decide +kernel
theorem dL_law_339 : decode cL_law 339 = .ok (.iadd, 1) := by decide +kernel
theorem dL_law_340 : decode cL_law 340 = .ok (.iaload, 1) := by decide +kernel
theorem dL_law_341 : decode cL_law 341 = .ok (.invokevirtual 26, 3) := by decide +kernel
theorem dL_law_344 : decode cL_law 344 = .ok (.if_icmp .eq 1073, 3) := by decide +kernel
theorem dL_law_347 : decode cL_law 347 = .ok (.iconst 0, 1) := by decide +kernel
theorem dL_law_348 : decode cL_law 348 = .ok (.ireturn, 1) := by decide +kernel
theorem dL_law_349 : decode cL_law 349 = .ok (.aload_n 1, 1) := by decide +kernel
theorem dL_law_350 : decode cL_law 350 = .ok (.aload_n 0, 1) := by decide +kernel
theorem dL_law_351 : decode cL_law 351 = .ok (.iload_n 3, 1) := by decide +kernel
theorem dL_law_352 : decode cL_law 352 = .ok (.iconst 1, 1) := by decide +kernel
theorem dL_law_353 : decode cL_law 353 = .ok (.iadd, 1) := by decide +kernel
theorem dL_law_354 : decode cL_law 354 = .ok (.iaload, 1) := by decide +kernel
theorem dL_law_355 : decode cL_law 355 = .ok (.invokevirtual 27, 3) := by decide +kernel
theorem dL_law_358 : decode cL_law 358 = .ok (.aload_n 2, 1) := by decide +kernel
theorem dL_law_359 : decode cL_law 359 = .ok (.aload_n 0, 1) := by decide +kernel
theorem dL_law_360 : decode cL_law 360 = .ok (.iload_n 3, 1) := by decide +kernel
theorem dL_law_361 : decode cL_law 361 = .ok (.iconst 1, 1) := by decide +kernel
theorem dL_law_362 : decode cL_law 362 = .ok (.iadd, 1) := by decide +kernel
theorem dL_law_363 : decode cL_law 363 = .ok (.iaload, 1) := by decide +kernel
theorem dL_law_364 : decode cL_law 364 = .ok (.invokevirtual 31, 3) := by decide +kernel
theorem dL_law_367 : decode cL_law 367 = .ok (.if_icmp .eq 1050, 3) := by decide +kernel
theorem dL_law_370 : decode cL_law 370 = .ok (.iconst 0, 1) := by decide +kernel
theorem dL_law_371 : decode cL_law 371 = .ok (.ireturn, 1) := by decide +kernel
theorem dL_law_372 : decode cL_law 372 = .ok (.aload_n 1, 1) := by decide +kernel
theorem dL_law_373 : decode cL_law 373 = .ok (.aload_n 0, 1) := by decide +kernel
theorem dL_law_374 : decode cL_law 374 = .ok (.iload_n 3, 1) := by decide +kernel
theorem dL_law_375 : decode cL_law 375 = .ok (.iconst 1, 1) := by decide +kernel
theorem dL_law_376 : decode cL_law 376 = .ok (.iadd, 1) := by decide +kernel
theorem dL_law_377 : decode cL_law 377 = .ok (.iaload, 1) := by decide +kernel
theorem dL_law_378 : decode cL_law 378 = .ok (.invokevirtual 32, 3) := by decide +kernel
theorem dL_law_381 : decode cL_law 381 = .ok (.aload_n 2, 1) := by decide +kernel
theorem dL_law_382 : decode cL_law 382 = .ok (.aload_n 0, 1) := by decide +kernel
theorem dL_law_383 : decode cL_law 383 = .ok (.iload_n 3, 1) := by decide +kernel
theorem dL_law_384 : decode cL_law 384 = .ok (.iconst 1, 1) := by decide +kernel
theorem dL_law_385 : decode cL_law 385 = .ok (.iadd, 1) := by decide +kernel
theorem dL_law_386 : decode cL_law 386 = .ok (.iaload, 1) := by decide +kernel
theorem dL_law_387 : decode cL_law 387 = .ok (.invokevirtual 35, 3) := by decide +kernel
theorem dL_law_390 : decode cL_law 390 = .ok (.if_icmp .eq 1027, 3) := by decide +kernel
theorem dL_law_393 : decode cL_law 393 = .ok (.iconst 0, 1) := by decide +kernel
theorem dL_law_394 : decode cL_law 394 = .ok (.ireturn, 1) := by decide +kernel
theorem dL_law_395 : decode cL_law 395 = .ok (.aload_n 1, 1) := by decide +kernel
theorem dL_law_396 : decode cL_law 396 = .ok (.invokevirtual 36, 3) := by decide +kernel
theorem dL_law_399 : decode cL_law 399 = .ok (.aload_n 2, 1) := by decide +kernel
theorem dL_law_400 : decode cL_law 400 = .ok (.invokevirtual 40, 3) := by decide +kernel
theorem dL_law_403 : decode cL_law 403 = .ok (.if_icmp .eq 1014, 3) := by decide +kernel
theorem dL_law_406 : decode cL_law 406 = .ok (.iconst 0, 1) := by decide +kernel
theorem dL_law_407 : decode cL_law 407 = .ok (.ireturn, 1) := by decide +kernel
theorem dL_law_408 : decode cL_law 408 = .ok (.aload_n 1, 1) := by decide +kernel
theorem dL_law_409 : decode cL_law 409 = .ok (.invokevirtual 41, 3) := by decide +kernel
theorem dL_law_412 : decode cL_law 412 = .ok (.aload_n 2, 1) := by decide +kernel
theorem dL_law_413 : decode cL_law 413 = .ok (.invokevirtual 44, 3) := by decide +kernel
theorem dL_law_416 : decode cL_law 416 = .ok (.if_icmp .eq 1001, 3) := by decide +kernel
theorem dL_law_419 : decode cL_law 419 = .ok (.iconst 0, 1) := by decide +kernel
theorem dL_law_420 : decode cL_law 420 = .ok (.ireturn, 1) := by decide +kernel
theorem dL_law_421 : decode cL_law 421 = .ok (.aload_n 1, 1) := by decide +kernel
theorem dL_law_422 : decode cL_law 422 = .ok (.invokevirtual 45, 3) := by decide +kernel
theorem dL_law_425 : decode cL_law 425 = .ok (.aload_n 2, 1) := by decide +kernel
theorem dL_law_426 : decode cL_law 426 = .ok (.invokevirtual 48, 3) := by decide +kernel
theorem dL_law_429 : decode cL_law 429 = .ok (.if_icmp .eq 988, 3) := by decide +kernel
theorem dL_law_432 : decode cL_law 432 = .ok (.iconst 0, 1) := by decide +kernel
theorem dL_law_433 : decode cL_law 433 = .ok (.ireturn, 1) := by decide +kernel
theorem dL_law_434 : decode cL_law 434 = .ok (.aload_n 1, 1) := by decide +kernel
theorem dL_law_435 : decode cL_law 435 = .ok (.aload_n 0, 1) := by decide +kernel
theorem dL_law_436 : decode cL_law 436 = .ok (.iload_n 3, 1) := by decide +kernel
theorem dL_law_437 : decode cL_law 437 = .ok (.iconst 1, 1) := by decide +kernel
theorem dL_law_438 : decode cL_law 438 = .ok (.iadd, 1) := by decide +kernel
theorem dL_law_439 : decode cL_law 439 = .ok (.iaload, 1) := by decide +kernel
theorem dL_law_440 : decode cL_law 440 = .ok (.invokevirtual 49, 3) := by decide +kernel
theorem dL_law_443 : decode cL_law 443 = .ok (.aload_n 2, 1) := by decide +kernel
theorem dL_law_444 : decode cL_law 444 = .ok (.aload_n 0, 1) := by decide +kernel
theorem dL_law_445 : decode cL_law 445 = .ok (.iload_n 3, 1) := by decide +kernel
theorem dL_law_446 : decode cL_law 446 = .ok (.iconst 1, 1) := by decide +kernel
theorem dL_law_447 : decode cL_law 447 = .ok (.iadd, 1) := by decide +kernel
theorem dL_law_448 : decode cL_law 448 = .ok (.iaload, 1) := by decide +kernel
theorem dL_law_449 : decode cL_law 449 = .ok (.invokevirtual 52, 3) := by decide +kernel
theorem dL_law_452 : decode cL_law 452 = .ok (.if_icmp .eq 965, 3) := by decide +kernel
theorem dL_law_455 : decode cL_law 455 = .ok (.iconst 0, 1) := by decide +kernel
theorem dL_law_456 : decode cL_law 456 = .ok (.ireturn, 1) := by decide +kernel
theorem dL_law_457 : decode cL_law 457 = .ok (.aload_n 1, 1) := by decide +kernel
theorem dL_law_458 : decode cL_law 458 = .ok (.aload_n 0, 1) := by decide +kernel
theorem dL_law_459 : decode cL_law 459 = .ok (.iload_n 3, 1) := by decide +kernel
theorem dL_law_460 : decode cL_law 460 = .ok (.iconst 1, 1) := by decide +kernel
theorem dL_law_461 : decode cL_law 461 = .ok (.iadd, 1) := by decide +kernel
theorem dL_law_462 : decode cL_law 462 = .ok (.iaload, 1) := by decide +kernel
theorem dL_law_463 : decode cL_law 463 = .ok (.aload_n 0, 1) := by decide +kernel
theorem dL_law_464 : decode cL_law 464 = .ok (.iload_n 3, 1) := by decide +kernel
theorem dL_law_465 : decode cL_law 465 = .ok (.iconst 2, 1) := by decide +kernel
theorem dL_law_466 : decode cL_law 466 = .ok (.iadd, 1) := by decide +kernel
theorem dL_law_467 : decode cL_law 467 = .ok (.iaload, 1) := by decide +kernel
theorem dL_law_468 : decode cL_law 468 = .ok (.invokevirtual 53, 3) := by decide +kernel
theorem dL_law_471 : decode cL_law 471 = .ok (.aload_n 2, 1) := by decide +kernel
theorem dL_law_472 : decode cL_law 472 = .ok (.aload_n 0, 1) := by decide +kernel
theorem dL_law_473 : decode cL_law 473 = .ok (.iload_n 3, 1) := by decide +kernel
theorem dL_law_474 : decode cL_law 474 = .ok (.iconst 1, 1) := by decide +kernel
theorem dL_law_475 : decode cL_law 475 = .ok (.iadd, 1) := by decide +kernel
theorem dL_law_476 : decode cL_law 476 = .ok (.iaload, 1) := by decide +kernel
theorem dL_law_477 : decode cL_law 477 = .ok (.aload_n 0, 1) := by decide +kernel
theorem dL_law_478 : decode cL_law 478 = .ok (.iload_n 3, 1) := by decide +kernel
theorem dL_law_479 : decode cL_law 479 = .ok (.iconst 2, 1) := by decide +kernel
theorem dL_law_480 : decode cL_law 480 = .ok (.iadd, 1) := by decide +kernel
theorem dL_law_481 : decode cL_law 481 = .ok (.iaload, 1) := by decide +kernel
theorem dL_law_482 : decode cL_law 482 = .ok (.invokevirtual 57, 3) := by decide +kernel
theorem dL_law_485 : decode cL_law 485 = .ok (.if_icmp .eq 932, 3) := by decide +kernel
theorem dL_law_488 : decode cL_law 488 = .ok (.iconst 0, 1) := by decide +kernel
theorem dL_law_489 : decode cL_law 489 = .ok (.ireturn, 1) := by decide +kernel
theorem dL_law_490 : decode cL_law 490 = .ok (.aload_n 1, 1) := by decide +kernel
theorem dL_law_491 : decode cL_law 491 = .ok (.aload_n 0, 1) := by decide +kernel
theorem dL_law_492 : decode cL_law 492 = .ok (.iload_n 3, 1) := by decide +kernel
theorem dL_law_493 : decode cL_law 493 = .ok (.iconst 1, 1) := by decide +kernel
theorem dL_law_494 : decode cL_law 494 = .ok (.iadd, 1) := by decide +kernel
theorem dL_law_495 : decode cL_law 495 = .ok (.iaload, 1) := by decide +kernel
theorem dL_law_496 : decode cL_law 496 = .ok (.invokevirtual 58, 3) := by decide +kernel
theorem dL_law_499 : decode cL_law 499 = .ok (.aload_n 2, 1) := by decide +kernel
theorem dL_law_500 : decode cL_law 500 = .ok (.aload_n 0, 1) := by decide +kernel
theorem dL_law_501 : decode cL_law 501 = .ok (.iload_n 3, 1) := by decide +kernel
theorem dL_law_502 : decode cL_law 502 = .ok (.iconst 1, 1) := by decide +kernel
theorem dL_law_503 : decode cL_law 503 = .ok (.iadd, 1) := by decide +kernel
theorem dL_law_504 : decode cL_law 504 = .ok (.iaload, 1) := by decide +kernel
theorem dL_law_505 : decode cL_law 505 = .ok (.invokevirtual 61, 3) := by decide +kernel
theorem dL_law_508 : decode cL_law 508 = .ok (.if_icmp .eq 909, 3) := by decide +kernel
theorem dL_law_511 : decode cL_law 511 = .ok (.iconst 0, 1) := by decide +kernel
theorem dL_law_512 : decode cL_law 512 = .ok (.ireturn, 1) := by decide +kernel
theorem dL_law_513 : decode cL_law 513 = .ok (.aload_n 1, 1) := by decide +kernel
theorem dL_law_514 : decode cL_law 514 = .ok (.aload_n 0, 1) := by decide +kernel
theorem dL_law_515 : decode cL_law 515 = .ok (.iload_n 3, 1) := by decide +kernel
theorem dL_law_516 : decode cL_law 516 = .ok (.iconst 1, 1) := by decide +kernel
theorem dL_law_517 : decode cL_law 517 = .ok (.iadd, 1) := by decide +kernel
theorem dL_law_518 : decode cL_law 518 = .ok (.iaload, 1) := by decide +kernel
theorem dL_law_519 : decode cL_law 519 = .ok (.aload_n 0, 1) := by decide +kernel
theorem dL_law_520 : decode cL_law 520 = .ok (.iload_n 3, 1) := by decide +kernel
theorem dL_law_521 : decode cL_law 521 = .ok (.iconst 2, 1) := by decide +kernel
theorem dL_law_522 : decode cL_law 522 = .ok (.iadd, 1) := by decide +kernel
theorem dL_law_523 : decode cL_law 523 = .ok (.iaload, 1) := by decide +kernel
theorem dL_law_524 : decode cL_law 524 = .ok (.invokevirtual 62, 3) := by decide +kernel
theorem dL_law_527 : decode cL_law 527 = .ok (.aload_n 2, 1) := by decide +kernel
theorem dL_law_528 : decode cL_law 528 = .ok (.aload_n 0, 1) := by decide +kernel
theorem dL_law_529 : decode cL_law 529 = .ok (.iload_n 3, 1) := by decide +kernel
theorem dL_law_530 : decode cL_law 530 = .ok (.iconst 1, 1) := by decide +kernel
theorem dL_law_531 : decode cL_law 531 = .ok (.iadd, 1) := by decide +kernel
theorem dL_law_532 : decode cL_law 532 = .ok (.iaload, 1) := by decide +kernel
theorem dL_law_533 : decode cL_law 533 = .ok (.aload_n 0, 1) := by decide +kernel
theorem dL_law_534 : decode cL_law 534 = .ok (.iload_n 3, 1) := by decide +kernel
theorem dL_law_535 : decode cL_law 535 = .ok (.iconst 2, 1) := by decide +kernel
theorem dL_law_536 : decode cL_law 536 = .ok (.iadd, 1) := by decide +kernel
theorem dL_law_537 : decode cL_law 537 = .ok (.iaload, 1) := by decide +kernel
theorem dL_law_538 : decode cL_law 538 = .ok (.invokevirtual 65, 3) := by decide +kernel
theorem dL_law_541 : decode cL_law 541 = .ok (.if_icmp .eq 876, 3) := by decide +kernel
theorem dL_law_544 : decode cL_law 544 = .ok (.iconst 0, 1) := by decide +kernel
theorem dL_law_545 : decode cL_law 545 = .ok (.ireturn, 1) := by decide +kernel
theorem dL_law_546 : decode cL_law 546 = .ok (.aload_n 1, 1) := by decide +kernel
theorem dL_law_547 : decode cL_law 547 = .ok (.aload_n 0, 1) := by decide +kernel
theorem dL_law_548 : decode cL_law 548 = .ok (.iload_n 3, 1) := by decide +kernel
theorem dL_law_549 : decode cL_law 549 = .ok (.iconst 1, 1) := by decide +kernel
theorem dL_law_550 : decode cL_law 550 = .ok (.iadd, 1) := by decide +kernel
theorem dL_law_551 : decode cL_law 551 = .ok (.iaload, 1) := by decide +kernel
theorem dL_law_552 : decode cL_law 552 = .ok (.aload_n 0, 1) := by decide +kernel
theorem dL_law_553 : decode cL_law 553 = .ok (.iload_n 3, 1) := by decide +kernel
theorem dL_law_554 : decode cL_law 554 = .ok (.iconst 2, 1) := by decide +kernel
theorem dL_law_555 : decode cL_law 555 = .ok (.iadd, 1) := by decide +kernel
theorem dL_law_556 : decode cL_law 556 = .ok (.iaload, 1) := by decide +kernel
theorem dL_law_557 : decode cL_law 557 = .ok (.aload_n 0, 1) := by decide +kernel
theorem dL_law_558 : decode cL_law 558 = .ok (.iload_n 3, 1) := by decide +kernel
theorem dL_law_559 : decode cL_law 559 = .ok (.iconst 3, 1) := by decide +kernel
theorem dL_law_560 : decode cL_law 560 = .ok (.iadd, 1) := by decide +kernel
theorem dL_law_561 : decode cL_law 561 = .ok (.iaload, 1) := by decide +kernel
theorem dL_law_562 : decode cL_law 562 = .ok (.invokevirtual 66, 3) := by decide +kernel
theorem dL_law_565 : decode cL_law 565 = .ok (.aload_n 2, 1) := by decide +kernel
theorem dL_law_566 : decode cL_law 566 = .ok (.aload_n 0, 1) := by decide +kernel
theorem dL_law_567 : decode cL_law 567 = .ok (.iload_n 3, 1) := by decide +kernel
theorem dL_law_568 : decode cL_law 568 = .ok (.iconst 1, 1) := by decide +kernel
theorem dL_law_569 : decode cL_law 569 = .ok (.iadd, 1) := by decide +kernel
theorem dL_law_570 : decode cL_law 570 = .ok (.iaload, 1) := by decide +kernel
theorem dL_law_571 : decode cL_law 571 = .ok (.aload_n 0, 1) := by decide +kernel
theorem dL_law_572 : decode cL_law 572 = .ok (.iload_n 3, 1) := by decide +kernel
theorem dL_law_573 : decode cL_law 573 = .ok (.iconst 2, 1) := by decide +kernel
theorem dL_law_574 : decode cL_law 574 = .ok (.iadd, 1) := by decide +kernel
theorem dL_law_575 : decode cL_law 575 = .ok (.iaload, 1) := by decide +kernel
theorem dL_law_576 : decode cL_law 576 = .ok (.aload_n 0, 1) := by decide +kernel
theorem dL_law_577 : decode cL_law 577 = .ok (.iload_n 3, 1) := by decide +kernel
theorem dL_law_578 : decode cL_law 578 = .ok (.iconst 3, 1) := by decide +kernel
theorem dL_law_579 : decode cL_law 579 = .ok (.iadd, 1) := by decide +kernel
theorem dL_law_580 : decode cL_law 580 = .ok (.iaload, 1) := by decide +kernel
theorem dL_law_581 : decode cL_law 581 = .ok (.invokevirtual 69, 3) := by decide +kernel
theorem dL_law_584 : decode cL_law 584 = .ok (.if_icmp .eq 833, 3) := by decide +kernel
theorem dL_law_587 : decode cL_law 587 = .ok (.iconst 0, 1) := by decide +kernel
theorem dL_law_588 : decode cL_law 588 = .ok (.ireturn, 1) := by decide +kernel
theorem dL_law_589 : decode cL_law 589 = .ok (.aload_n 1, 1) := by decide +kernel
theorem dL_law_590 : decode cL_law 590 = .ok (.aload_n 0, 1) := by decide +kernel
theorem dL_law_591 : decode cL_law 591 = .ok (.iload_n 3, 1) := by decide +kernel
theorem dL_law_592 : decode cL_law 592 = .ok (.iconst 1, 1) := by decide +kernel
theorem dL_law_593 : decode cL_law 593 = .ok (.iadd, 1) := by decide +kernel
theorem dL_law_594 : decode cL_law 594 = .ok (.iaload, 1) := by decide +kernel
theorem dL_law_595 : decode cL_law 595 = .ok (.invokevirtual 70, 3) := by decide +kernel
theorem dL_law_598 : decode cL_law 598 = .ok (.aload_n 2, 1) := by decide +kernel
theorem dL_law_599 : decode cL_law 599 = .ok (.aload_n 0, 1) := by decide +kernel
theorem dL_law_600 : decode cL_law 600 = .ok (.iload_n 3, 1) := by decide +kernel
theorem dL_law_601 : decode cL_law 601 = .ok (.iconst 1, 1) := by decide +kernel
theorem dL_law_602 : decode cL_law 602 = .ok (.iadd, 1) := by decide +kernel
theorem dL_law_603 : decode cL_law 603 = .ok (.iaload, 1) := by decide +kernel
theorem dL_law_604 : decode cL_law 604 = .ok (.invokevirtual 73, 3) := by decide +kernel
theorem dL_law_607 : decode cL_law 607 = .ok (.if_icmp .eq 810, 3) := by decide +kernel
theorem dL_law_610 : decode cL_law 610 = .ok (.iconst 0, 1) := by decide +kernel
theorem dL_law_611 : decode cL_law 611 = .ok (.ireturn, 1) := by decide +kernel
theorem dL_law_612 : decode cL_law 612 = .ok (.aload_n 1, 1) := by decide +kernel
theorem dL_law_613 : decode cL_law 613 = .ok (.aload_n 0, 1) := by decide +kernel
theorem dL_law_614 : decode cL_law 614 = .ok (.iload_n 3, 1) := by decide +kernel
theorem dL_law_615 : decode cL_law 615 = .ok (.iconst 1, 1) := by decide +kernel
theorem dL_law_616 : decode cL_law 616 = .ok (.iadd, 1) := by decide +kernel
theorem dL_law_617 : decode cL_law 617 = .ok (.iaload, 1) := by decide +kernel
theorem dL_law_618 : decode cL_law 618 = .ok (.aload_n 0, 1) := by decide +kernel
theorem dL_law_619 : decode cL_law 619 = .ok (.iload_n 3, 1) := by decide +kernel
theorem dL_law_620 : decode cL_law 620 = .ok (.iconst 2, 1) := by decide +kernel
theorem dL_law_621 : decode cL_law 621 = .ok (.iadd, 1) := by decide +kernel
theorem dL_law_622 : decode cL_law 622 = .ok (.iaload, 1) := by decide +kernel
theorem dL_law_623 : decode cL_law 623 = .ok (.invokevirtual 74, 3) := by decide +kernel
theorem dL_law_626 : decode cL_law 626 = .ok (.aload_n 2, 1) := by decide +kernel
theorem dL_law_627 : decode cL_law 627 = .ok (.aload_n 0, 1) := by decide +kernel
theorem dL_law_628 : decode cL_law 628 = .ok (.iload_n 3, 1) := by decide +kernel
theorem dL_law_629 : decode cL_law 629 = .ok (.iconst 1, 1) := by decide +kernel
theorem dL_law_630 : decode cL_law 630 = .ok (.iadd, 1) := by decide +kernel
theorem dL_law_631 : decode cL_law 631 = .ok (.iaload, 1) := by decide +kernel
theorem dL_law_632 : decode cL_law 632 = .ok (.aload_n 0, 1) := by decide +kernel
theorem dL_law_633 : decode cL_law 633 = .ok (.iload_n 3, 1) := by decide +kernel
theorem dL_law_634 : decode cL_law 634 = .ok (.iconst 2, 1) := by decide +kernel
theorem dL_law_635 : decode cL_law 635 = .ok (.iadd, 1) := by decide +kernel
theorem dL_law_636 : decode cL_law 636 = .ok (.iaload, 1) := by decide +kernel
theorem dL_law_637 : decode cL_law 637 = .ok (.invokevirtual 77, 3) := by decide +kernel
theorem dL_law_640 : decode cL_law 640 = .ok (.if_icmp .eq 777, 3) := by decide +kernel
theorem dL_law_643 : decode cL_law 643 = .ok (.iconst 0, 1) := by decide +kernel
theorem dL_law_644 : decode cL_law 644 = .ok (.ireturn, 1) := by decide +kernel
theorem dL_law_645 : decode cL_law 645 = .ok (.aload_n 1, 1) := by decide +kernel
theorem dL_law_646 : decode cL_law 646 = .ok (.aload_n 0, 1) := by decide +kernel
theorem dL_law_647 : decode cL_law 647 = .ok (.iload_n 3, 1) := by decide +kernel
theorem dL_law_648 : decode cL_law 648 = .ok (.iconst 1, 1) := by decide +kernel
theorem dL_law_649 : decode cL_law 649 = .ok (.iadd, 1) := by decide +kernel
theorem dL_law_650 : decode cL_law 650 = .ok (.iaload, 1) := by decide +kernel
theorem dL_law_651 : decode cL_law 651 = .ok (.invokevirtual 78, 3) := by decide +kernel
theorem dL_law_654 : decode cL_law 654 = .ok (.aload_n 2, 1) := by decide +kernel
theorem dL_law_655 : decode cL_law 655 = .ok (.aload_n 0, 1) := by decide +kernel
theorem dL_law_656 : decode cL_law 656 = .ok (.iload_n 3, 1) := by decide +kernel
theorem dL_law_657 : decode cL_law 657 = .ok (.iconst 1, 1) := by decide +kernel
theorem dL_law_658 : decode cL_law 658 = .ok (.iadd, 1) := by decide +kernel
theorem dL_law_659 : decode cL_law 659 = .ok (.iaload, 1) := by decide +kernel
theorem dL_law_660 : decode cL_law 660 = .ok (.invokevirtual 81, 3) := by decide +kernel
theorem dL_law_663 : decode cL_law 663 = .ok (.if_icmp .eq 754, 3) := by decide +kernel
theorem dL_law_666 : decode cL_law 666 = .ok (.iconst 0, 1) := by decide +kernel
theorem dL_law_667 : decode cL_law 667 = .ok (.ireturn, 1) := by decide +kernel
theorem dL_law_668 : decode cL_law 668 = .ok (.aload_n 1, 1) := by decide +kernel
theorem dL_law_669 : decode cL_law 669 = .ok (.aload_n 0, 1) := by decide +kernel
theorem dL_law_670 : decode cL_law 670 = .ok (.iload_n 3, 1) := by decide +kernel
theorem dL_law_671 : decode cL_law 671 = .ok (.iconst 1, 1) := by decide +kernel
theorem dL_law_672 : decode cL_law 672 = .ok (.iadd, 1) := by decide +kernel
theorem dL_law_673 : decode cL_law 673 = .ok (.iaload, 1) := by decide +kernel
theorem dL_law_674 : decode cL_law 674 = .ok (.aload_n 0, 1) := by decide +kernel
theorem dL_law_675 : decode cL_law 675 = .ok (.iload_n 3, 1) := by decide +kernel
theorem dL_law_676 : decode cL_law 676 = .ok (.iconst 2, 1) := by decide +kernel
theorem dL_law_677 : decode cL_law 677 = .ok (.iadd, 1) := by decide +kernel
theorem dL_law_678 : decode cL_law 678 = .ok (.iaload, 1) := by decide +kernel
theorem dL_law_679 : decode cL_law 679 = .ok (.aload_n 0, 1) := by decide +kernel
theorem dL_law_680 : decode cL_law 680 = .ok (.iload_n 3, 1) := by decide +kernel
theorem dL_law_681 : decode cL_law 681 = .ok (.iconst 3, 1) := by decide +kernel
theorem dL_law_682 : decode cL_law 682 = .ok (.iadd, 1) := by decide +kernel
theorem dL_law_683 : decode cL_law 683 = .ok (.iaload, 1) := by decide +kernel
theorem dL_law_684 : decode cL_law 684 = .ok (.invokevirtual 82, 3) := by decide +kernel
theorem dL_law_687 : decode cL_law 687 = .ok (.aload_n 2, 1) := by decide +kernel
theorem dL_law_688 : decode cL_law 688 = .ok (.aload_n 0, 1) := by decide +kernel
theorem dL_law_689 : decode cL_law 689 = .ok (.iload_n 3, 1) := by decide +kernel
theorem dL_law_690 : decode cL_law 690 = .ok (.iconst 1, 1) := by decide +kernel
theorem dL_law_691 : decode cL_law 691 = .ok (.iadd, 1) := by decide +kernel
theorem dL_law_692 : decode cL_law 692 = .ok (.iaload, 1) := by decide +kernel
theorem dL_law_693 : decode cL_law 693 = .ok (.aload_n 0, 1) := by decide +kernel
theorem dL_law_694 : decode cL_law 694 = .ok (.iload_n 3, 1) := by decide +kernel
theorem dL_law_695 : decode cL_law 695 = .ok (.iconst 2, 1) := by decide +kernel
theorem dL_law_696 : decode cL_law 696 = .ok (.iadd, 1) := by decide +kernel
theorem dL_law_697 : decode cL_law 697 = .ok (.iaload, 1) := by decide +kernel
theorem dL_law_698 : decode cL_law 698 = .ok (.aload_n 0, 1) := by decide +kernel
theorem dL_law_699 : decode cL_law 699 = .ok (.iload_n 3, 1) := by decide +kernel
theorem dL_law_700 : decode cL_law 700 = .ok (.iconst 3, 1) := by decide +kernel
theorem dL_law_701 : decode cL_law 701 = .ok (.iadd, 1) := by decide +kernel
theorem dL_law_702 : decode cL_law 702 = .ok (.iaload, 1) := by decide +kernel
theorem dL_law_703 : decode cL_law 703 = .ok (.invokevirtual 85, 3) := by decide +kernel
theorem dL_law_706 : decode cL_law 706 = .ok (.if_icmp .eq 711, 3) := by decide +kernel
theorem dL_law_709 : decode cL_law 709 = .ok (.iconst 0, 1) := by decide +kernel
theorem dL_law_710 : decode cL_law 710 = .ok (.ireturn, 1) := by decide +kernel
theorem dL_law_711 : decode cL_law 711 = .ok (.aload_n 1, 1) := by decide +kernel
theorem dL_law_712 : decode cL_law 712 = .ok (.aload_n 0, 1) := by decide +kernel
theorem dL_law_713 : decode cL_law 713 = .ok (.iload_n 3, 1) := by decide +kernel
theorem dL_law_714 : decode cL_law 714 = .ok (.iconst 1, 1) := by decide +kernel
theorem dL_law_715 : decode cL_law 715 = .ok (.iadd, 1) := by decide +kernel
theorem dL_law_716 : decode cL_law 716 = .ok (.iaload, 1) := by decide +kernel
theorem dL_law_717 : decode cL_law 717 = .ok (.invokevirtual 86, 3) := by decide +kernel
theorem dL_law_720 : decode cL_law 720 = .ok (.aload_n 2, 1) := by decide +kernel
theorem dL_law_721 : decode cL_law 721 = .ok (.aload_n 0, 1) := by decide +kernel
theorem dL_law_722 : decode cL_law 722 = .ok (.iload_n 3, 1) := by decide +kernel
theorem dL_law_723 : decode cL_law 723 = .ok (.iconst 1, 1) := by decide +kernel
theorem dL_law_724 : decode cL_law 724 = .ok (.iadd, 1) := by decide +kernel
theorem dL_law_725 : decode cL_law 725 = .ok (.iaload, 1) := by decide +kernel
theorem dL_law_726 : decode cL_law 726 = .ok (.invokevirtual 89, 3) := by decide +kernel
theorem dL_law_729 : decode cL_law 729 = .ok (.if_icmp .eq 688, 3) := by decide +kernel
theorem dL_law_732 : decode cL_law 732 = .ok (.iconst 0, 1) := by decide +kernel
theorem dL_law_733 : decode cL_law 733 = .ok (.ireturn, 1) := by decide +kernel
theorem dL_law_734 : decode cL_law 734 = .ok (.aload_n 1, 1) := by decide +kernel
theorem dL_law_735 : decode cL_law 735 = .ok (.aload_n 0, 1) := by decide +kernel
theorem dL_law_736 : decode cL_law 736 = .ok (.iload_n 3, 1) := by decide +kernel
theorem dL_law_737 : decode cL_law 737 = .ok (.iconst 1, 1) := by decide +kernel
theorem dL_law_738 : decode cL_law 738 = .ok (.iadd, 1) := by decide +kernel
theorem dL_law_739 : decode cL_law 739 = .ok (.iaload, 1) := by decide +kernel
theorem dL_law_740 : decode cL_law 740 = .ok (.invokevirtual 90, 3) := by decide +kernel
theorem dL_law_743 : decode cL_law 743 = .ok (.aload_n 2, 1) := by decide +kernel
theorem dL_law_744 : decode cL_law 744 = .ok (.aload_n 0, 1) := by decide +kernel
theorem dL_law_745 : decode cL_law 745 = .ok (.iload_n 3, 1) := by decide +kernel
theorem dL_law_746 : decode cL_law 746 = .ok (.iconst 1, 1) := by decide +kernel
theorem dL_law_747 : decode cL_law 747 = .ok (.iadd, 1) := by decide +kernel
theorem dL_law_748 : decode cL_law 748 = .ok (.iaload, 1) := by decide +kernel
theorem dL_law_749 : decode cL_law 749 = .ok (.invokevirtual 93, 3) := by decide +kernel
theorem dL_law_752 : decode cL_law 752 = .ok (.if_icmp .eq 665, 3) := by decide +kernel
theorem dL_law_755 : decode cL_law 755 = .ok (.iconst 0, 1) := by decide +kernel
theorem dL_law_756 : decode cL_law 756 = .ok (.ireturn, 1) := by decide +kernel
theorem dL_law_757 : decode cL_law 757 = .ok (.aload_n 1, 1) := by decide +kernel
theorem dL_law_758 : decode cL_law 758 = .ok (.aload_n 0, 1) := by decide +kernel
theorem dL_law_759 : decode cL_law 759 = .ok (.iload_n 3, 1) := by decide +kernel
theorem dL_law_760 : decode cL_law 760 = .ok (.iconst 1, 1) := by decide +kernel
theorem dL_law_761 : decode cL_law 761 = .ok (.iadd, 1) := by decide +kernel
theorem dL_law_762 : decode cL_law 762 = .ok (.iaload, 1) := by decide +kernel
theorem dL_law_763 : decode cL_law 763 = .ok (.invokevirtual 94, 3) := by decide +kernel
theorem dL_law_766 : decode cL_law 766 = .ok (.aload_n 2, 1) := by decide +kernel
theorem dL_law_767 : decode cL_law 767 = .ok (.aload_n 0, 1) := by decide +kernel
theorem dL_law_768 : decode cL_law 768 = .ok (.iload_n 3, 1) := by decide +kernel
theorem dL_law_769 : decode cL_law 769 = .ok (.iconst 1, 1) := by decide +kernel
theorem dL_law_770 : decode cL_law 770 = .ok (.iadd, 1) := by decide +kernel
theorem dL_law_771 : decode cL_law 771 = .ok (.iaload, 1) := by decide +kernel
theorem dL_law_772 : decode cL_law 772 = .ok (.invokevirtual 97, 3) := by decide +kernel
theorem dL_law_775 : decode cL_law 775 = .ok (.if_icmp .eq 642, 3) := by decide +kernel
theorem dL_law_778 : decode cL_law 778 = .ok (.iconst 0, 1) := by decide +kernel
theorem dL_law_779 : decode cL_law 779 = .ok (.ireturn, 1) := by decide +kernel
theorem dL_law_780 : decode cL_law 780 = .ok (.aload_n 1, 1) := by decide +kernel
theorem dL_law_781 : decode cL_law 781 = .ok (.aload_n 0, 1) := by decide +kernel
theorem dL_law_782 : decode cL_law 782 = .ok (.iload_n 3, 1) := by decide +kernel
theorem dL_law_783 : decode cL_law 783 = .ok (.iconst 1, 1) := by decide +kernel
theorem dL_law_784 : decode cL_law 784 = .ok (.iadd, 1) := by decide +kernel
theorem dL_law_785 : decode cL_law 785 = .ok (.iaload, 1) := by decide +kernel
theorem dL_law_786 : decode cL_law 786 = .ok (.aload_n 0, 1) := by decide +kernel
theorem dL_law_787 : decode cL_law 787 = .ok (.iload_n 3, 1) := by decide +kernel
theorem dL_law_788 : decode cL_law 788 = .ok (.iconst 2, 1) := by decide +kernel
theorem dL_law_789 : decode cL_law 789 = .ok (.iadd, 1) := by decide +kernel
theorem dL_law_790 : decode cL_law 790 = .ok (.iaload, 1) := by decide +kernel
theorem dL_law_791 : decode cL_law 791 = .ok (.aload_n 0, 1) := by decide +kernel
theorem dL_law_792 : decode cL_law 792 = .ok (.iload_n 3, 1) := by decide +kernel
theorem dL_law_793 : decode cL_law 793 = .ok (.iconst 3, 1) := by decide +kernel
theorem dL_law_794 : decode cL_law 794 = .ok (.iadd, 1) := by decide +kernel
theorem dL_law_795 : decode cL_law 795 = .ok (.iaload, 1) := by decide +kernel
theorem dL_law_796 : decode cL_law 796 = .ok (.aload_n 0, 1) := by decide +kernel
theorem dL_law_797 : decode cL_law 797 = .ok (.iload_n 3, 1) := by decide +kernel
theorem dL_law_798 : decode cL_law 798 = .ok (.iconst 4, 1) := by decide +kernel
theorem dL_law_799 : decode cL_law 799 = .ok (.iadd, 1) := by decide +kernel
theorem dL_law_800 : decode cL_law 800 = .ok (.iaload, 1) := by decide +kernel
theorem dL_law_801 : decode cL_law 801 = .ok (.invokevirtual 98, 3) := by decide +kernel
theorem dL_law_804 : decode cL_law 804 = .ok (.aload_n 2, 1) := by decide +kernel
theorem dL_law_805 : decode cL_law 805 = .ok (.aload_n 0, 1) := by decide +kernel
theorem dL_law_806 : decode cL_law 806 = .ok (.iload_n 3, 1) := by decide +kernel
theorem dL_law_807 : decode cL_law 807 = .ok (.iconst 1, 1) := by decide +kernel
theorem dL_law_808 : decode cL_law 808 = .ok (.iadd, 1) := by decide +kernel
theorem dL_law_809 : decode cL_law 809 = .ok (.iaload, 1) := by decide +kernel
theorem dL_law_810 : decode cL_law 810 = .ok (.aload_n 0, 1) := by decide +kernel
theorem dL_law_811 : decode cL_law 811 = .ok (.iload_n 3, 1) := by decide +kernel
theorem dL_law_812 : decode cL_law 812 = .ok (.iconst 2, 1) := by decide +kernel
theorem dL_law_813 : decode cL_law 813 = .ok (.iadd, 1) := by decide +kernel
theorem dL_law_814 : decode cL_law 814 = .ok (.iaload, 1) := by decide +kernel
theorem dL_law_815 : decode cL_law 815 = .ok (.aload_n 0, 1) := by decide +kernel
theorem dL_law_816 : decode cL_law 816 = .ok (.iload_n 3, 1) := by decide +kernel
theorem dL_law_817 : decode cL_law 817 = .ok (.iconst 3, 1) := by decide +kernel
theorem dL_law_818 : decode cL_law 818 = .ok (.iadd, 1) := by decide +kernel
theorem dL_law_819 : decode cL_law 819 = .ok (.iaload, 1) := by decide +kernel
theorem dL_law_820 : decode cL_law 820 = .ok (.aload_n 0, 1) := by decide +kernel
theorem dL_law_821 : decode cL_law 821 = .ok (.iload_n 3, 1) := by decide +kernel
theorem dL_law_822 : decode cL_law 822 = .ok (.iconst 4, 1) := by decide +kernel
theorem dL_law_823 : decode cL_law 823 = .ok (.iadd, 1) := by decide +kernel
theorem dL_law_824 : decode cL_law 824 = .ok (.iaload, 1) := by decide +kernel
theorem dL_law_825 : decode cL_law 825 = .ok (.invokevirtual 102, 3) := by decide +kernel
theorem dL_law_828 : decode cL_law 828 = .ok (.if_icmp .eq 589, 3) := by decide +kernel
theorem dL_law_831 : decode cL_law 831 = .ok (.iconst 0, 1) := by decide +kernel
theorem dL_law_832 : decode cL_law 832 = .ok (.ireturn, 1) := by decide +kernel
theorem dL_law_833 : decode cL_law 833 = .ok (.aload_n 1, 1) := by decide +kernel
theorem dL_law_834 : decode cL_law 834 = .ok (.aload_n 0, 1) := by decide +kernel
theorem dL_law_835 : decode cL_law 835 = .ok (.iload_n 3, 1) := by decide +kernel
theorem dL_law_836 : decode cL_law 836 = .ok (.iconst 1, 1) := by decide +kernel
theorem dL_law_837 : decode cL_law 837 = .ok (.iadd, 1) := by decide +kernel
theorem dL_law_838 : decode cL_law 838 = .ok (.iaload, 1) := by decide +kernel
theorem dL_law_839 : decode cL_law 839 = .ok (.invokevirtual 103, 3) := by decide +kernel
theorem dL_law_842 : decode cL_law 842 = .ok (.aload_n 2, 1) := by decide +kernel
theorem dL_law_843 : decode cL_law 843 = .ok (.aload_n 0, 1) := by decide +kernel
theorem dL_law_844 : decode cL_law 844 = .ok (.iload_n 3, 1) := by decide +kernel
theorem dL_law_845 : decode cL_law 845 = .ok (.iconst 1, 1) := by decide +kernel
theorem dL_law_846 : decode cL_law 846 = .ok (.iadd, 1) := by decide +kernel
theorem dL_law_847 : decode cL_law 847 = .ok (.iaload, 1) := by decide +kernel
theorem dL_law_848 : decode cL_law 848 = .ok (.invokevirtual 106, 3) := by decide +kernel
theorem dL_law_851 : decode cL_law 851 = .ok (.if_icmp .eq 566, 3) := by decide +kernel
theorem dL_law_854 : decode cL_law 854 = .ok (.iconst 0, 1) := by decide +kernel
theorem dL_law_855 : decode cL_law 855 = .ok (.ireturn, 1) := by decide +kernel
theorem dL_law_856 : decode cL_law 856 = .ok (.aload_n 1, 1) := by decide +kernel
theorem dL_law_857 : decode cL_law 857 = .ok (.aload_n 0, 1) := by decide +kernel
theorem dL_law_858 : decode cL_law 858 = .ok (.iload_n 3, 1) := by decide +kernel
theorem dL_law_859 : decode cL_law 859 = .ok (.iconst 1, 1) := by decide +kernel
theorem dL_law_860 : decode cL_law 860 = .ok (.iadd, 1) := by decide +kernel
theorem dL_law_861 : decode cL_law 861 = .ok (.iaload, 1) := by decide +kernel
theorem dL_law_862 : decode cL_law 862 = .ok (.aload_n 0, 1) := by decide +kernel
theorem dL_law_863 : decode cL_law 863 = .ok (.iload_n 3, 1) := by decide +kernel
theorem dL_law_864 : decode cL_law 864 = .ok (.iconst 2, 1) := by decide +kernel
theorem dL_law_865 : decode cL_law 865 = .ok (.iadd, 1) := by decide +kernel
theorem dL_law_866 : decode cL_law 866 = .ok (.iaload, 1) := by decide +kernel
theorem dL_law_867 : decode cL_law 867 = .ok (.invokevirtual 107, 3) := by decide +kernel
theorem dL_law_870 : decode cL_law 870 = .ok (.aload_n 2, 1) := by decide +kernel
theorem dL_law_871 : decode cL_law 871 = .ok (.aload_n 0, 1) := by decide +kernel
theorem dL_law_872 : decode cL_law 872 = .ok (.iload_n 3, 1) := by decide +kernel
theorem dL_law_873 : decode cL_law 873 = .ok (.iconst 1, 1) := by decide +kernel
theorem dL_law_874 : decode cL_law 874 = .ok (.iadd, 1) := by decide +kernel
theorem dL_law_875 : decode cL_law 875 = .ok (.iaload, 1) := by decide +kernel
theorem dL_law_876 : decode cL_law 876 = .ok (.aload_n 0, 1) := by decide +kernel
theorem dL_law_877 : decode cL_law 877 = .ok (.iload_n 3, 1) := by decide +kernel
theorem dL_law_878 : decode cL_law 878 = .ok (.iconst 2, 1) := by decide +kernel
theorem dL_law_879 : decode cL_law 879 = .ok (.iadd, 1) := by decide +kernel
theorem dL_law_880 : decode cL_law 880 = .ok (.iaload, 1) := by decide +kernel
theorem dL_law_881 : decode cL_law 881 = .ok (.invokevirtual 110, 3) := by decide +kernel
theorem dL_law_884 : decode cL_law 884 = .ok (.if_icmp .eq 533, 3) := by decide +kernel
theorem dL_law_887 : decode cL_law 887 = .ok (.iconst 0, 1) := by decide +kernel
theorem dL_law_888 : decode cL_law 888 = .ok (.ireturn, 1) := by decide +kernel
theorem dL_law_889 : decode cL_law 889 = .ok (.aload_n 1, 1) := by decide +kernel
theorem dL_law_890 : decode cL_law 890 = .ok (.aload_n 0, 1) := by decide +kernel
theorem dL_law_891 : decode cL_law 891 = .ok (.iload_n 3, 1) := by decide +kernel
theorem dL_law_892 : decode cL_law 892 = .ok (.iconst 1, 1) := by decide +kernel
theorem dL_law_893 : decode cL_law 893 = .ok (.iadd, 1) := by decide +kernel
theorem dL_law_894 : decode cL_law 894 = .ok (.iaload, 1) := by decide +kernel
theorem dL_law_895 : decode cL_law 895 = .ok (.invokevirtual 111, 3) := by decide +kernel
theorem dL_law_898 : decode cL_law 898 = .ok (.aload_n 2, 1) := by decide +kernel
theorem dL_law_899 : decode cL_law 899 = .ok (.aload_n 0, 1) := by decide +kernel
theorem dL_law_900 : decode cL_law 900 = .ok (.iload_n 3, 1) := by decide +kernel
theorem dL_law_901 : decode cL_law 901 = .ok (.iconst 1, 1) := by decide +kernel
theorem dL_law_902 : decode cL_law 902 = .ok (.iadd, 1) := by decide +kernel
theorem dL_law_903 : decode cL_law 903 = .ok (.iaload, 1) := by decide +kernel
theorem dL_law_904 : decode cL_law 904 = .ok (.invokevirtual 114, 3) := by decide +kernel
theorem dL_law_907 : decode cL_law 907 = .ok (.if_icmp .eq 510, 3) := by decide +kernel
theorem dL_law_910 : decode cL_law 910 = .ok (.iconst 0, 1) := by decide +kernel
theorem dL_law_911 : decode cL_law 911 = .ok (.ireturn, 1) := by decide +kernel
theorem dL_law_912 : decode cL_law 912 = .ok (.aload_n 1, 1) := by decide +kernel
theorem dL_law_913 : decode cL_law 913 = .ok (.aload_n 0, 1) := by decide +kernel
theorem dL_law_914 : decode cL_law 914 = .ok (.iload_n 3, 1) := by decide +kernel
theorem dL_law_915 : decode cL_law 915 = .ok (.iconst 1, 1) := by decide +kernel
theorem dL_law_916 : decode cL_law 916 = .ok (.iadd, 1) := by decide +kernel
theorem dL_law_917 : decode cL_law 917 = .ok (.iaload, 1) := by decide +kernel
theorem dL_law_918 : decode cL_law 918 = .ok (.invokevirtual 115, 3) := by decide +kernel
theorem dL_law_921 : decode cL_law 921 = .ok (.aload_n 2, 1) := by decide +kernel
theorem dL_law_922 : decode cL_law 922 = .ok (.aload_n 0, 1) := by decide +kernel
theorem dL_law_923 : decode cL_law 923 = .ok (.iload_n 3, 1) := by decide +kernel
theorem dL_law_924 : decode cL_law 924 = .ok (.iconst 1, 1) := by decide +kernel
theorem dL_law_925 : decode cL_law 925 = .ok (.iadd, 1) := by decide +kernel
theorem dL_law_926 : decode cL_law 926 = .ok (.iaload, 1) := by decide +kernel
theorem dL_law_927 : decode cL_law 927 = .ok (.invokevirtual 118, 3) := by decide +kernel
theorem dL_law_930 : decode cL_law 930 = .ok (.if_icmp .eq 487, 3) := by decide +kernel
theorem dL_law_933 : decode cL_law 933 = .ok (.iconst 0, 1) := by decide +kernel
theorem dL_law_934 : decode cL_law 934 = .ok (.ireturn, 1) := by decide +kernel
theorem dL_law_935 : decode cL_law 935 = .ok (.aload_n 1, 1) := by decide +kernel
theorem dL_law_936 : decode cL_law 936 = .ok (.aload_n 0, 1) := by decide +kernel
theorem dL_law_937 : decode cL_law 937 = .ok (.iload_n 3, 1) := by decide +kernel
theorem dL_law_938 : decode cL_law 938 = .ok (.iconst 1, 1) := by decide +kernel
theorem dL_law_939 : decode cL_law 939 = .ok (.iadd, 1) := by decide +kernel
theorem dL_law_940 : decode cL_law 940 = .ok (.iaload, 1) := by decide +kernel
theorem dL_law_941 : decode cL_law 941 = .ok (.aload_n 0, 1) := by decide +kernel
theorem dL_law_942 : decode cL_law 942 = .ok (.iload_n 3, 1) := by decide +kernel
theorem dL_law_943 : decode cL_law 943 = .ok (.iconst 2, 1) := by decide +kernel
theorem dL_law_944 : decode cL_law 944 = .ok (.iadd, 1) := by decide +kernel
theorem dL_law_945 : decode cL_law 945 = .ok (.iaload, 1) := by decide +kernel
theorem dL_law_946 : decode cL_law 946 = .ok (.aload_n 0, 1) := by decide +kernel
theorem dL_law_947 : decode cL_law 947 = .ok (.iload_n 3, 1) := by decide +kernel
theorem dL_law_948 : decode cL_law 948 = .ok (.iconst 3, 1) := by decide +kernel
theorem dL_law_949 : decode cL_law 949 = .ok (.iadd, 1) := by decide +kernel
theorem dL_law_950 : decode cL_law 950 = .ok (.iaload, 1) := by decide +kernel
theorem dL_law_951 : decode cL_law 951 = .ok (.aload_n 0, 1) := by decide +kernel
theorem dL_law_952 : decode cL_law 952 = .ok (.iload_n 3, 1) := by decide +kernel
theorem dL_law_953 : decode cL_law 953 = .ok (.iconst 4, 1) := by decide +kernel
theorem dL_law_954 : decode cL_law 954 = .ok (.iadd, 1) := by decide +kernel
theorem dL_law_955 : decode cL_law 955 = .ok (.iaload, 1) := by decide +kernel
theorem dL_law_956 : decode cL_law 956 = .ok (.invokevirtual 119, 3) := by decide +kernel
theorem dL_law_959 : decode cL_law 959 = .ok (.aload_n 2, 1) := by decide +kernel
theorem dL_law_960 : decode cL_law 960 = .ok (.aload_n 0, 1) := by decide +kernel
theorem dL_law_961 : decode cL_law 961 = .ok (.iload_n 3, 1) := by decide +kernel
theorem dL_law_962 : decode cL_law 962 = .ok (.iconst 1, 1) := by decide +kernel
theorem dL_law_963 : decode cL_law 963 = .ok (.iadd, 1) := by decide +kernel
theorem dL_law_964 : decode cL_law 964 = .ok (.iaload, 1) := by decide +kernel
theorem dL_law_965 : decode cL_law 965 = .ok (.aload_n 0, 1) := by decide +kernel
theorem dL_law_966 : decode cL_law 966 = .ok (.iload_n 3, 1) := by decide +kernel
theorem dL_law_967 : decode cL_law 967 = .ok (.iconst 2, 1) := by decide +kernel
theorem dL_law_968 : decode cL_law 968 = .ok (.iadd, 1) := by decide +kernel
theorem dL_law_969 : decode cL_law 969 = .ok (.iaload, 1) := by decide +kernel
theorem dL_law_970 : decode cL_law 970 = .ok (.aload_n 0, 1) := by decide +kernel
theorem dL_law_971 : decode cL_law 971 = .ok (.iload_n 3, 1) := by decide +kernel
theorem dL_law_972 : decode cL_law 972 = .ok (.iconst 3, 1) := by decide +kernel
theorem dL_law_973 : decode cL_law 973 = .ok (.iadd, 1) := by decide +kernel
theorem dL_law_974 : decode cL_law 974 = .ok (.iaload, 1) := by decide +kernel
theorem dL_law_975 : decode cL_law 975 = .ok (.aload_n 0, 1) := by decide +kernel
theorem dL_law_976 : decode cL_law 976 = .ok (.iload_n 3, 1) := by decide +kernel
theorem dL_law_977 : decode cL_law 977 = .ok (.iconst 4, 1) := by decide +kernel
theorem dL_law_978 : decode cL_law 978 = .ok (.iadd, 1) := by decide +kernel
theorem dL_law_979 : decode cL_law 979 = .ok (.iaload, 1) := by decide +kernel
theorem dL_law_980 : decode cL_law 980 = .ok (.invokevirtual 122, 3) := by decide +kernel
theorem dL_law_983 : decode cL_law 983 = .ok (.if_icmp .eq 434, 3) := by decide +kernel
theorem dL_law_986 : decode cL_law 986 = .ok (.iconst 0, 1) := by decide +kernel
theorem dL_law_987 : decode cL_law 987 = .ok (.ireturn, 1) := by decide +kernel
theorem dL_law_988 : decode cL_law 988 = .ok (.aload_n 1, 1) := by decide +kernel
theorem dL_law_989 : decode cL_law 989 = .ok (.aload_n 0, 1) := by decide +kernel
theorem dL_law_990 : decode cL_law 990 = .ok (.iload_n 3, 1) := by decide +kernel
theorem dL_law_991 : decode cL_law 991 = .ok (.iconst 1, 1) := by decide +kernel
theorem dL_law_992 : decode cL_law 992 = .ok (.iadd, 1) := by decide +kernel
theorem dL_law_993 : decode cL_law 993 = .ok (.iaload, 1) := by decide +kernel
theorem dL_law_994 : decode cL_law 994 = .ok (.aload_n 0, 1) := by decide +kernel
theorem dL_law_995 : decode cL_law 995 = .ok (.iload_n 3, 1) := by decide +kernel
theorem dL_law_996 : decode cL_law 996 = .ok (.iconst 2, 1) := by decide +kernel
theorem dL_law_997 : decode cL_law 997 = .ok (.iadd, 1) := by decide +kernel
theorem dL_law_998 : decode cL_law 998 = .ok (.iaload, 1) := by decide +kernel
theorem dL_law_999 : decode cL_law 999 = .ok (.aload_n 0, 1) := by decide +kernel
theorem dL_law_1000 : decode cL_law 1000 = .ok (.iload_n 3, 1) := by decide +kernel
theorem dL_law_1001 : decode cL_law 1001 = .ok (.iconst 3, 1) := by decide +kernel
theorem dL_law_1002 : decode cL_law 1002 = .ok (.iadd, 1) := by decide +kernel
theorem dL_law_1003 : decode cL_law 1003 = .ok (.iaload, 1) := by decide +kernel
theorem dL_law_1004 : decode cL_law 1004 = .ok (.aload_n 0, 1) := by decide +kernel
theorem dL_law_1005 : decode cL_law 1005 = .ok (.iload_n 3, 1) := by decide +kernel
theorem dL_law_1006 : decode cL_law 1006 = .ok (.iconst 4, 1) := by decide +kernel
theorem dL_law_1007 : decode cL_law 1007 = .ok (.iadd, 1) := by decide +kernel
theorem dL_law_1008 : decode cL_law 1008 = .ok (.iaload, 1) := by decide +kernel
theorem dL_law_1009 : decode cL_law 1009 = .ok (.aload_n 0, 1) := by decide +kernel
theorem dL_law_1010 : decode cL_law 1010 = .ok (.iload_n 3, 1) := by decide +kernel
theorem dL_law_1011 : decode cL_law 1011 = .ok (.iconst 5, 1) := by decide +kernel
theorem dL_law_1012 : decode cL_law 1012 = .ok (.iadd, 1) := by decide +kernel
theorem dL_law_1013 : decode cL_law 1013 = .ok (.iaload, 1) := by decide +kernel
theorem dL_law_1014 : decode cL_law 1014 = .ok (.aload_n 0, 1) := by decide +kernel
theorem dL_law_1015 : decode cL_law 1015 = .ok (.iload_n 3, 1) := by decide +kernel
theorem dL_law_1016 : decode cL_law 1016 = .ok (.bipush 6, 2) := by decide +kernel
theorem dL_law_1018 : decode cL_law 1018 = .ok (.iadd, 1) := by decide +kernel
theorem dL_law_1019 : decode cL_law 1019 = .ok (.iaload, 1) := by decide +kernel
theorem dL_law_1020 : decode cL_law 1020 = .ok (.invokevirtual 123, 3) := by decide +kernel
theorem dL_law_1023 : decode cL_law 1023 = .ok (.aload_n 2, 1) := by decide +kernel
theorem dL_law_1024 : decode cL_law 1024 = .ok (.aload_n 0, 1) := by decide +kernel
theorem dL_law_1025 : decode cL_law 1025 = .ok (.iload_n 3, 1) := by decide +kernel
theorem dL_law_1026 : decode cL_law 1026 = .ok (.iconst 1, 1) := by decide +kernel
theorem dL_law_1027 : decode cL_law 1027 = .ok (.iadd, 1) := by decide +kernel
theorem dL_law_1028 : decode cL_law 1028 = .ok (.iaload, 1) := by decide +kernel
theorem dL_law_1029 : decode cL_law 1029 = .ok (.aload_n 0, 1) := by decide +kernel
theorem dL_law_1030 : decode cL_law 1030 = .ok (.iload_n 3, 1) := by decide +kernel
theorem dL_law_1031 : decode cL_law 1031 = .ok (.iconst 2, 1) := by decide +kernel
theorem dL_law_1032 : decode cL_law 1032 = .ok (.iadd, 1) := by decide +kernel
theorem dL_law_1033 : decode cL_law 1033 = .ok (.iaload, 1) := by decide +kernel
theorem dL_law_1034 : decode cL_law 1034 = .ok (.aload_n 0, 1) := by decide +kernel
theorem dL_law_1035 : decode cL_law 1035 = .ok (.iload_n 3, 1) := by decide +kernel
theorem dL_law_1036 : decode cL_law 1036 = .ok (.iconst 3, 1) := by decide +kernel
theorem dL_law_1037 : decode cL_law 1037 = .ok (.iadd, 1) := by decide +kernel
theorem dL_law_1038 : decode cL_law 1038 = .ok (.iaload, 1) := by decide +kernel
theorem dL_law_1039 : decode cL_law 1039 = .ok (.aload_n 0, 1) := by decide +kernel
theorem dL_law_1040 : decode cL_law 1040 = .ok (.iload_n 3, 1) := by decide +kernel
theorem dL_law_1041 : decode cL_law 1041 = .ok (.iconst 4, 1) := by decide +kernel
theorem dL_law_1042 : decode cL_law 1042 = .ok (.iadd, 1) := by decide +kernel
theorem dL_law_1043 : decode cL_law 1043 = .ok (.iaload, 1) := by decide +kernel
theorem dL_law_1044 : decode cL_law 1044 = .ok (.aload_n 0, 1) := by decide +kernel
theorem dL_law_1045 : decode cL_law 1045 = .ok (.iload_n 3, 1) := by decide +kernel
theorem dL_law_1046 : decode cL_law 1046 = .ok (.iconst 5, 1) := by decide +kernel
theorem dL_law_1047 : decode cL_law 1047 = .ok (.iadd, 1) := by decide +kernel
theorem dL_law_1048 : decode cL_law 1048 = .ok (.iaload, 1) := by decide +kernel
theorem dL_law_1049 : decode cL_law 1049 = .ok (.aload_n 0, 1) := by decide +kernel
theorem dL_law_1050 : decode cL_law 1050 = .ok (.iload_n 3, 1) := by decide +kernel
theorem dL_law_1051 : decode cL_law 1051 = .ok (.bipush 6, 2) := by decide +kernel
theorem dL_law_1053 : decode cL_law 1053 = .ok (.iadd, 1) := by decide +kernel
theorem dL_law_1054 : decode cL_law 1054 = .ok (.iaload, 1) := by decide +kernel
theorem dL_law_1055 : decode cL_law 1055 = .ok (.invokevirtual 127, 3) := by decide +kernel
theorem dL_law_1058 : decode cL_law 1058 = .ok (.if_icmp .eq 359, 3) := by decide +kernel
theorem dL_law_1061 : decode cL_law 1061 = .ok (.iconst 0, 1) := by decide +kernel
theorem dL_law_1062 : decode cL_law 1062 = .ok (.ireturn, 1) := by decide +kernel
theorem dL_law_1063 : decode cL_law 1063 = .ok (.aload_n 1, 1) := by decide +kernel
theorem dL_law_1064 : decode cL_law 1064 = .ok (.aload_n 0, 1) := by decide +kernel
theorem dL_law_1065 : decode cL_law 1065 = .ok (.iload_n 3, 1) := by decide +kernel
theorem dL_law_1066 : decode cL_law 1066 = .ok (.iconst 1, 1) := by decide +kernel
theorem dL_law_1067 : decode cL_law 1067 = .ok (.iadd, 1) := by decide +kernel
theorem dL_law_1068 : decode cL_law 1068 = .ok (.iaload, 1) := by decide +kernel
theorem dL_law_1069 : decode cL_law 1069 = .ok (.aload_n 0, 1) := by decide +kernel
theorem dL_law_1070 : decode cL_law 1070 = .ok (.iload_n 3, 1) := by decide +kernel
theorem dL_law_1071 : decode cL_law 1071 = .ok (.iconst 2, 1) := by decide +kernel
theorem dL_law_1072 : decode cL_law 1072 = .ok (.iadd, 1) := by decide +kernel
theorem dL_law_1073 : decode cL_law 1073 = .ok (.iaload, 1) := by decide +kernel
theorem dL_law_1074 : decode cL_law 1074 = .ok (.aload_n 0, 1) := by decide +kernel
theorem dL_law_1075 : decode cL_law 1075 = .ok (.iload_n 3, 1) := by decide +kernel
theorem dL_law_1076 : decode cL_law 1076 = .ok (.iconst 3, 1) := by decide +kernel
theorem dL_law_1077 : decode cL_law 1077 = .ok (.iadd, 1) := by decide +kernel
theorem dL_law_1078 : decode cL_law 1078 = .ok (.iaload, 1) := by decide +kernel
theorem dL_law_1079 : decode cL_law 1079 = .ok (.aload_n 0, 1) := by decide +kernel
theorem dL_law_1080 : decode cL_law 1080 = .ok (.iload_n 3, 1) := by decide +kernel
theorem dL_law_1081 : decode cL_law 1081 = .ok (.iconst 4, 1) := by decide +kernel
theorem dL_law_1082 : decode cL_law 1082 = .ok (.iadd, 1) := by decide +kernel
theorem dL_law_1083 : decode cL_law 1083 = .ok (.iaload, 1) := by decide +kernel
theorem dL_law_1084 : decode cL_law 1084 = .ok (.invokevirtual 128, 3) := by decide +kernel
theorem dL_law_1087 : decode cL_law 1087 = .ok (.aload_n 2, 1) := by decide +kernel
theorem dL_law_1088 : decode cL_law 1088 = .ok (.aload_n 0, 1) := by decide +kernel
theorem dL_law_1089 : decode cL_law 1089 = .ok (.iload_n 3, 1) := by decide +kernel
theorem dL_law_1090 : decode cL_law 1090 = .ok (.iconst 1, 1) := by decide +kernel
theorem dL_law_1091 : decode cL_law 1091 = .ok (.iadd, 1) := by decide +kernel
theorem dL_law_1092 : decode cL_law 1092 = .ok (.iaload, 1) := by decide +kernel
theorem dL_law_1093 : decode cL_law 1093 = .ok (.aload_n 0, 1) := by decide +kernel
theorem dL_law_1094 : decode cL_law 1094 = .ok (.iload_n 3, 1) := by decide +kernel
theorem dL_law_1095 : decode cL_law 1095 = .ok (.iconst 2, 1) := by decide +kernel
theorem dL_law_1096 : decode cL_law 1096 = .ok (.iadd, 1) := by decide +kernel
theorem dL_law_1097 : decode cL_law 1097 = .ok (.iaload, 1) := by decide +kernel
theorem dL_law_1098 : decode cL_law 1098 = .ok (.aload_n 0, 1) := by decide +kernel
theorem dL_law_1099 : decode cL_law 1099 = .ok (.iload_n 3, 1) := by decide +kernel
theorem dL_law_1100 : decode cL_law 1100 = .ok (.iconst 3, 1) := by decide +kernel
theorem dL_law_1101 : decode cL_law 1101 = .ok (.iadd, 1) := by decide +kernel
theorem dL_law_1102 : decode cL_law 1102 = .ok (.iaload, 1) := by decide +kernel
theorem dL_law_1103 : decode cL_law 1103 = .ok (.aload_n 0, 1) := by decide +kernel
theorem dL_law_1104 : decode cL_law 1104 = .ok (.iload_n 3, 1) := by decide +kernel
theorem dL_law_1105 : decode cL_law 1105 = .ok (.iconst 4, 1) := by decide +kernel
theorem dL_law_1106 : decode cL_law 1106 = .ok (.iadd, 1) := by decide +kernel
theorem dL_law_1107 : decode cL_law 1107 = .ok (.iaload, 1) := by decide +kernel
theorem dL_law_1108 : decode cL_law 1108 = .ok (.invokevirtual 131, 3) := by decide +kernel
theorem dL_law_1111 : decode cL_law 1111 = .ok (.if_icmp .eq 306, 3) := by decide +kernel
theorem dL_law_1114 : decode cL_law 1114 = .ok (.iconst 0, 1) := by decide +kernel
theorem dL_law_1115 : decode cL_law 1115 = .ok (.ireturn, 1) := by decide +kernel
theorem dL_law_1116 : decode cL_law 1116 = .ok (.aload_n 1, 1) := by decide +kernel
theorem dL_law_1117 : decode cL_law 1117 = .ok (.aload_n 0, 1) := by decide +kernel
theorem dL_law_1118 : decode cL_law 1118 = .ok (.iload_n 3, 1) := by decide +kernel
theorem dL_law_1119 : decode cL_law 1119 = .ok (.iconst 1, 1) := by decide +kernel
theorem dL_law_1120 : decode cL_law 1120 = .ok (.iadd, 1) := by decide +kernel
theorem dL_law_1121 : decode cL_law 1121 = .ok (.iaload, 1) := by decide +kernel
theorem dL_law_1122 : decode cL_law 1122 = .ok (.aload_n 0, 1) := by decide +kernel
theorem dL_law_1123 : decode cL_law 1123 = .ok (.iload_n 3, 1) := by decide +kernel
theorem dL_law_1124 : decode cL_law 1124 = .ok (.iconst 2, 1) := by decide +kernel
theorem dL_law_1125 : decode cL_law 1125 = .ok (.iadd, 1) := by decide +kernel
theorem dL_law_1126 : decode cL_law 1126 = .ok (.iaload, 1) := by decide +kernel
theorem dL_law_1127 : decode cL_law 1127 = .ok (.aload_n 0, 1) := by decide +kernel
theorem dL_law_1128 : decode cL_law 1128 = .ok (.iload_n 3, 1) := by decide +kernel
theorem dL_law_1129 : decode cL_law 1129 = .ok (.iconst 3, 1) := by decide +kernel
theorem dL_law_1130 : decode cL_law 1130 = .ok (.iadd, 1) := by decide +kernel
theorem dL_law_1131 : decode cL_law 1131 = .ok (.iaload, 1) := by decide +kernel
theorem dL_law_1132 : decode cL_law 1132 = .ok (.aload_n 0, 1) := by decide +kernel
theorem dL_law_1133 : decode cL_law 1133 = .ok (.iload_n 3, 1) := by decide +kernel
theorem dL_law_1134 : decode cL_law 1134 = .ok (.iconst 4, 1) := by decide +kernel
theorem dL_law_1135 : decode cL_law 1135 = .ok (.iadd, 1) := by decide +kernel
theorem dL_law_1136 : decode cL_law 1136 = .ok (.iaload, 1) := by decide +kernel
theorem dL_law_1137 : decode cL_law 1137 = .ok (.aload_n 0, 1) := by decide +kernel
theorem dL_law_1138 : decode cL_law 1138 = .ok (.iload_n 3, 1) := by decide +kernel
theorem dL_law_1139 : decode cL_law 1139 = .ok (.iconst 5, 1) := by decide +kernel
theorem dL_law_1140 : decode cL_law 1140 = .ok (.iadd, 1) := by decide +kernel
theorem dL_law_1141 : decode cL_law 1141 = .ok (.iaload, 1) := by decide +kernel
theorem dL_law_1142 : decode cL_law 1142 = .ok (.invokevirtual 132, 3) := by decide +kernel
theorem dL_law_1145 : decode cL_law 1145 = .ok (.aload_n 2, 1) := by decide +kernel
theorem dL_law_1146 : decode cL_law 1146 = .ok (.aload_n 0, 1) := by decide +kernel
theorem dL_law_1147 : decode cL_law 1147 = .ok (.iload_n 3, 1) := by decide +kernel
theorem dL_law_1148 : decode cL_law 1148 = .ok (.iconst 1, 1) := by decide +kernel
theorem dL_law_1149 : decode cL_law 1149 = .ok (.iadd, 1) := by decide +kernel
theorem dL_law_1150 : decode cL_law 1150 = .ok (.iaload, 1) := by decide +kernel
theorem dL_law_1151 : decode cL_law 1151 = .ok (.aload_n 0, 1) := by decide +kernel
theorem dL_law_1152 : decode cL_law 1152 = .ok (.iload_n 3, 1) := by decide +kernel
theorem dL_law_1153 : decode cL_law 1153 = .ok (.iconst 2, 1) := by decide +kernel
theorem dL_law_1154 : decode cL_law 1154 = .ok (.iadd, 1) := by decide +kernel
theorem dL_law_1155 : decode cL_law 1155 = .ok (.iaload, 1) := by decide +kernel
theorem dL_law_1156 : decode cL_law 1156 = .ok (.aload_n 0, 1) := by decide +kernel
theorem dL_law_1157 : decode cL_law 1157 = .ok (.iload_n 3, 1) := by decide +kernel
theorem dL_law_1158 : decode cL_law 1158 = .ok (.iconst 3, 1) := by decide +kernel
theorem dL_law_1159 : decode cL_law 1159 = .ok (.iadd, 1) := by decide +kernel
theorem dL_law_1160 : decode cL_law 1160 = .ok (.iaload, 1) := by decide +kernel
theorem dL_law_1161 : decode cL_law 1161 = .ok (.aload_n 0, 1) := by decide +kernel
theorem dL_law_1162 : decode cL_law 1162 = .ok (.iload_n 3, 1) := by decide +kernel
theorem dL_law_1163 : decode cL_law 1163 = .ok (.iconst 4, 1) := by decide +kernel
theorem dL_law_1164 : decode cL_law 1164 = .ok (.iadd, 1) := by decide +kernel
theorem dL_law_1165 : decode cL_law 1165 = .ok (.iaload, 1) := by decide +kernel
theorem dL_law_1166 : decode cL_law 1166 = .ok (.aload_n 0, 1) := by decide +kernel
theorem dL_law_1167 : decode cL_law 1167 = .ok (.iload_n 3, 1) := by decide +kernel
theorem dL_law_1168 : decode cL_law 1168 = .ok (.iconst 5, 1) := by decide +kernel
theorem dL_law_1169 : decode cL_law 1169 = .ok (.iadd, 1) := by decide +kernel
theorem dL_law_1170 : decode cL_law 1170 = .ok (.iaload, 1) := by decide +kernel
theorem dL_law_1171 : decode cL_law 1171 = .ok (.invokevirtual 136, 3) := by decide +kernel
theorem dL_law_1174 : decode cL_law 1174 = .ok (.lcmp, 1) := by decide +kernel
theorem dL_law_1175 : decode cL_law 1175 = .ok (.ifCond .eq 242, 3) := by decide +kernel
theorem dL_law_1178 : decode cL_law 1178 = .ok (.iconst 0, 1) := by decide +kernel
theorem dL_law_1179 : decode cL_law 1179 = .ok (.ireturn, 1) := by decide +kernel
theorem dL_law_1180 : decode cL_law 1180 = .ok (.aload_n 1, 1) := by decide +kernel
theorem dL_law_1181 : decode cL_law 1181 = .ok (.aload_n 0, 1) := by decide +kernel
theorem dL_law_1182 : decode cL_law 1182 = .ok (.iload_n 3, 1) := by decide +kernel
theorem dL_law_1183 : decode cL_law 1183 = .ok (.iconst 1, 1) := by decide +kernel
theorem dL_law_1184 : decode cL_law 1184 = .ok (.iadd, 1) := by decide +kernel
theorem dL_law_1185 : decode cL_law 1185 = .ok (.iaload, 1) := by decide +kernel
theorem dL_law_1186 : decode cL_law 1186 = .ok (.aload_n 0, 1) := by decide +kernel
theorem dL_law_1187 : decode cL_law 1187 = .ok (.iload_n 3, 1) := by decide +kernel
theorem dL_law_1188 : decode cL_law 1188 = .ok (.iconst 2, 1) := by decide +kernel
theorem dL_law_1189 : decode cL_law 1189 = .ok (.iadd, 1) := by decide +kernel
theorem dL_law_1190 : decode cL_law 1190 = .ok (.iaload, 1) := by decide +kernel
theorem dL_law_1191 : decode cL_law 1191 = .ok (.aload_n 0, 1) := by decide +kernel
theorem dL_law_1192 : decode cL_law 1192 = .ok (.iload_n 3, 1) := by decide +kernel
theorem dL_law_1193 : decode cL_law 1193 = .ok (.iconst 3, 1) := by decide +kernel
theorem dL_law_1194 : decode cL_law 1194 = .ok (.iadd, 1) := by decide +kernel
theorem dL_law_1195 : decode cL_law 1195 = .ok (.iaload, 1) := by decide +kernel
theorem dL_law_1196 : decode cL_law 1196 = .ok (.invokevirtual 137, 3) := by decide +kernel
theorem dL_law_1199 : decode cL_law 1199 = .ok (.aload_n 2, 1) := by decide +kernel
theorem dL_law_1200 : decode cL_law 1200 = .ok (.aload_n 0, 1) := by decide +kernel
theorem dL_law_1201 : decode cL_law 1201 = .ok (.iload_n 3, 1) := by decide +kernel
theorem dL_law_1202 : decode cL_law 1202 = .ok (.iconst 1, 1) := by decide +kernel
theorem dL_law_1203 : decode cL_law 1203 = .ok (.iadd, 1) := by decide +kernel
theorem dL_law_1204 : decode cL_law 1204 = .ok (.iaload, 1) := by decide +kernel
theorem dL_law_1205 : decode cL_law 1205 = .ok (.aload_n 0, 1) := by decide +kernel
theorem dL_law_1206 : decode cL_law 1206 = .ok (.iload_n 3, 1) := by decide +kernel
theorem dL_law_1207 : decode cL_law 1207 = .ok (.iconst 2, 1) := by decide +kernel
theorem dL_law_1208 : decode cL_law 1208 = .ok (.iadd, 1) := by decide +kernel
theorem dL_law_1209 : decode cL_law 1209 = .ok (.iaload, 1) := by decide +kernel
theorem dL_law_1210 : decode cL_law 1210 = .ok (.aload_n 0, 1) := by decide +kernel
theorem dL_law_1211 : decode cL_law 1211 = .ok (.iload_n 3, 1) := by decide +kernel
theorem dL_law_1212 : decode cL_law 1212 = .ok (.iconst 3, 1) := by decide +kernel
theorem dL_law_1213 : decode cL_law 1213 = .ok (.iadd, 1) := by decide +kernel
theorem dL_law_1214 : decode cL_law 1214 = .ok (.iaload, 1) := by decide +kernel
theorem dL_law_1215 : decode cL_law 1215 = .ok (.invokevirtual 140, 3) := by decide +kernel
theorem dL_law_1218 : decode cL_law 1218 = .ok (.if_icmp .eq 199, 3) := by decide +kernel
theorem dL_law_1221 : decode cL_law 1221 = .ok (.iconst 0, 1) := by decide +kernel
theorem dL_law_1222 : decode cL_law 1222 = .ok (.ireturn, 1) := by decide +kernel
theorem dL_law_1223 : decode cL_law 1223 = .ok (.aload_n 1, 1) := by decide +kernel
theorem dL_law_1224 : decode cL_law 1224 = .ok (.aload_n 0, 1) := by decide +kernel
theorem dL_law_1225 : decode cL_law 1225 = .ok (.iload_n 3, 1) := by decide +kernel
theorem dL_law_1226 : decode cL_law 1226 = .ok (.iconst 1, 1) := by decide +kernel
theorem dL_law_1227 : decode cL_law 1227 = .ok (.iadd, 1) := by decide +kernel
theorem dL_law_1228 : decode cL_law 1228 = .ok (.iaload, 1) := by decide +kernel
theorem dL_law_1229 : decode cL_law 1229 = .ok (.invokevirtual 141, 3) := by decide +kernel
theorem dL_law_1232 : decode cL_law 1232 = .ok (.aload_n 2, 1) := by decide +kernel
theorem dL_law_1233 : decode cL_law 1233 = .ok (.aload_n 0, 1) := by decide +kernel
theorem dL_law_1234 : decode cL_law 1234 = .ok (.iload_n 3, 1) := by decide +kernel
theorem dL_law_1235 : decode cL_law 1235 = .ok (.iconst 1, 1) := by decide +kernel
theorem dL_law_1236 : decode cL_law 1236 = .ok (.iadd, 1) := by decide +kernel
theorem dL_law_1237 : decode cL_law 1237 = .ok (.iaload, 1) := by decide +kernel
theorem dL_law_1238 : decode cL_law 1238 = .ok (.invokevirtual 144, 3) := by decide +kernel
theorem dL_law_1241 : decode cL_law 1241 = .ok (.if_icmp .eq 176, 3) := by decide +kernel
theorem dL_law_1244 : decode cL_law 1244 = .ok (.iconst 0, 1) := by decide +kernel
theorem dL_law_1245 : decode cL_law 1245 = .ok (.ireturn, 1) := by decide +kernel
theorem dL_law_1246 : decode cL_law 1246 = .ok (.aload_n 1, 1) := by decide +kernel
theorem dL_law_1247 : decode cL_law 1247 = .ok (.aload_n 0, 1) := by decide +kernel
theorem dL_law_1248 : decode cL_law 1248 = .ok (.iload_n 3, 1) := by decide +kernel
theorem dL_law_1249 : decode cL_law 1249 = .ok (.iconst 1, 1) := by decide +kernel
theorem dL_law_1250 : decode cL_law 1250 = .ok (.iadd, 1) := by decide +kernel
theorem dL_law_1251 : decode cL_law 1251 = .ok (.iaload, 1) := by decide +kernel
theorem dL_law_1252 : decode cL_law 1252 = .ok (.invokevirtual 145, 3) := by decide +kernel
theorem dL_law_1255 : decode cL_law 1255 = .ok (.aload_n 2, 1) := by decide +kernel
theorem dL_law_1256 : decode cL_law 1256 = .ok (.aload_n 0, 1) := by decide +kernel
theorem dL_law_1257 : decode cL_law 1257 = .ok (.iload_n 3, 1) := by decide +kernel
theorem dL_law_1258 : decode cL_law 1258 = .ok (.iconst 1, 1) := by decide +kernel
theorem dL_law_1259 : decode cL_law 1259 = .ok (.iadd, 1) := by decide +kernel
theorem dL_law_1260 : decode cL_law 1260 = .ok (.iaload, 1) := by decide +kernel
theorem dL_law_1261 : decode cL_law 1261 = .ok (.invokevirtual 148, 3) := by decide +kernel
theorem dL_law_1264 : decode cL_law 1264 = .ok (.if_icmp .eq 153, 3) := by decide +kernel
theorem dL_law_1267 : decode cL_law 1267 = .ok (.iconst 0, 1) := by decide +kernel
theorem dL_law_1268 : decode cL_law 1268 = .ok (.ireturn, 1) := by decide +kernel
theorem dL_law_1269 : decode cL_law 1269 = .ok (.aload_n 1, 1) := by decide +kernel
theorem dL_law_1270 : decode cL_law 1270 = .ok (.aload_n 0, 1) := by decide +kernel
theorem dL_law_1271 : decode cL_law 1271 = .ok (.iload_n 3, 1) := by decide +kernel
end
section
theorem dL_law_1272 : decode cL_law 1272 = .ok (.iconst 1, 1) := by decide +kernel
theorem dL_law_1273 : decode cL_law 1273 = .ok (.iadd, 1) := by decide +kernel
theorem dL_law_1274 : decode cL_law 1274 = .ok (.iaload, 1) := by decide +kernel
theorem dL_law_1275 : decode cL_law 1275 = .ok (.invokevirtual 149, 3) := by decide +kernel
theorem dL_law_1278 : decode cL_law 1278 = .ok (.aload_n 2, 1) := by decide +kernel
theorem dL_law_1279 : decode cL_law 1279 = .ok (.aload_n 0, 1) := by decide +kernel
theorem dL_law_1280 : decode cL_law 1280 = .ok (.iload_n 3, 1) := by decide +kernel
theorem dL_law_1281 : decode cL_law 1281 = .ok (.iconst 1, 1) := by decide +kernel
theorem dL_law_1282 : decode cL_law 1282 = .ok (.iadd, 1) := by decide +kernel
theorem dL_law_1283 : decode cL_law 1283 = .ok (.iaload, 1) := by decide +kernel
theorem dL_law_1284 : decode cL_law 1284 = .ok (.invokevirtual 152, 3) := by decide +kernel
theorem dL_law_1287 : decode cL_law 1287 = .ok (.if_icmp .eq 130, 3) := by decide +kernel
theorem dL_law_1290 : decode cL_law 1290 = .ok (.iconst 0, 1) := by decide +kernel
theorem dL_law_1291 : decode cL_law 1291 = .ok (.ireturn, 1) := by decide +kernel
theorem dL_law_1292 : decode cL_law 1292 = .ok (.aload_n 1, 1) := by decide +kernel
theorem dL_law_1293 : decode cL_law 1293 = .ok (.aload_n 0, 1) := by decide +kernel
theorem dL_law_1294 : decode cL_law 1294 = .ok (.iload_n 3, 1) := by decide +kernel
theorem dL_law_1295 : decode cL_law 1295 = .ok (.iconst 1, 1) := by decide +kernel
theorem dL_law_1296 : decode cL_law 1296 = .ok (.iadd, 1) := by decide +kernel
theorem dL_law_1297 : decode cL_law 1297 = .ok (.iaload, 1) := by decide +kernel
theorem dL_law_1298 : decode cL_law 1298 = .ok (.aload_n 0, 1) := by decide +kernel
theorem dL_law_1299 : decode cL_law 1299 = .ok (.iload_n 3, 1) := by decide +kernel
theorem dL_law_1300 : decode cL_law 1300 = .ok (.iconst 2, 1) := by decide +kernel
theorem dL_law_1301 : decode cL_law 1301 = .ok (.iadd, 1) := by decide +kernel
theorem dL_law_1302 : decode cL_law 1302 = .ok (.iaload, 1) := by decide +kernel
theorem dL_law_1303 : decode cL_law 1303 = .ok (.invokevirtual 153, 3) := by decide +kernel
theorem dL_law_1306 : decode cL_law 1306 = .ok (.aload_n 2, 1) := by decide +kernel
theorem dL_law_1307 : decode cL_law 1307 = .ok (.aload_n 0, 1) := by decide +kernel
theorem dL_law_1308 : decode cL_law 1308 = .ok (.iload_n 3, 1) := by decide +kernel
theorem dL_law_1309 : decode cL_law 1309 = .ok (.iconst 1, 1) := by decide +kernel
theorem dL_law_1310 : decode cL_law 1310 = .ok (.iadd, 1) := by decide +kernel
theorem dL_law_1311 : decode cL_law 1311 = .ok (.iaload, 1) := by decide +kernel
theorem dL_law_1312 : decode cL_law 1312 = .ok (.aload_n 0, 1) := by decide +kernel
theorem dL_law_1313 : decode cL_law 1313 = .ok (.iload_n 3, 1) := by decide +kernel
theorem dL_law_1314 : decode cL_law 1314 = .ok (.iconst 2, 1) := by decide +kernel
theorem dL_law_1315 : decode cL_law 1315 = .ok (.iadd, 1) := by decide +kernel
theorem dL_law_1316 : decode cL_law 1316 = .ok (.iaload, 1) := by decide +kernel
theorem dL_law_1317 : decode cL_law 1317 = .ok (.invokevirtual 156, 3) := by decide +kernel
theorem dL_law_1320 : decode cL_law 1320 = .ok (.if_icmp .eq 97, 3) := by decide +kernel
theorem dL_law_1323 : decode cL_law 1323 = .ok (.iconst 0, 1) := by decide +kernel
theorem dL_law_1324 : decode cL_law 1324 = .ok (.ireturn, 1) := by decide +kernel
theorem dL_law_1325 : decode cL_law 1325 = .ok (.aload_n 1, 1) := by decide +kernel
theorem dL_law_1326 : decode cL_law 1326 = .ok (.aload_n 0, 1) := by decide +kernel
theorem dL_law_1327 : decode cL_law 1327 = .ok (.iload_n 3, 1) := by decide +kernel
theorem dL_law_1328 : decode cL_law 1328 = .ok (.iconst 1, 1) := by decide +kernel
theorem dL_law_1329 : decode cL_law 1329 = .ok (.iadd, 1) := by decide +kernel
theorem dL_law_1330 : decode cL_law 1330 = .ok (.iaload, 1) := by decide +kernel
theorem dL_law_1331 : decode cL_law 1331 = .ok (.aload_n 0, 1) := by decide +kernel
theorem dL_law_1332 : decode cL_law 1332 = .ok (.iload_n 3, 1) := by decide +kernel
theorem dL_law_1333 : decode cL_law 1333 = .ok (.iconst 2, 1) := by decide +kernel
theorem dL_law_1334 : decode cL_law 1334 = .ok (.iadd, 1) := by decide +kernel
theorem dL_law_1335 : decode cL_law 1335 = .ok (.iaload, 1) := by decide +kernel
theorem dL_law_1336 : decode cL_law 1336 = .ok (.invokevirtual 157, 3) := by decide +kernel
theorem dL_law_1339 : decode cL_law 1339 = .ok (.aload_n 2, 1) := by decide +kernel
theorem dL_law_1340 : decode cL_law 1340 = .ok (.aload_n 0, 1) := by decide +kernel
theorem dL_law_1341 : decode cL_law 1341 = .ok (.iload_n 3, 1) := by decide +kernel
theorem dL_law_1342 : decode cL_law 1342 = .ok (.iconst 1, 1) := by decide +kernel
theorem dL_law_1343 : decode cL_law 1343 = .ok (.iadd, 1) := by decide +kernel
theorem dL_law_1344 : decode cL_law 1344 = .ok (.iaload, 1) := by decide +kernel
theorem dL_law_1345 : decode cL_law 1345 = .ok (.aload_n 0, 1) := by decide +kernel
theorem dL_law_1346 : decode cL_law 1346 = .ok (.iload_n 3, 1) := by decide +kernel
theorem dL_law_1347 : decode cL_law 1347 = .ok (.iconst 2, 1) := by decide +kernel
theorem dL_law_1348 : decode cL_law 1348 = .ok (.iadd, 1) := by decide +kernel
theorem dL_law_1349 : decode cL_law 1349 = .ok (.iaload, 1) := by decide +kernel
theorem dL_law_1350 : decode cL_law 1350 = .ok (.invokevirtual 160, 3) := by decide +kernel
theorem dL_law_1353 : decode cL_law 1353 = .ok (.if_icmp .eq 64, 3) := by decide +kernel
theorem dL_law_1356 : decode cL_law 1356 = .ok (.iconst 0, 1) := by decide +kernel
theorem dL_law_1357 : decode cL_law 1357 = .ok (.ireturn, 1) := by decide +kernel
theorem dL_law_1358 : decode cL_law 1358 = .ok (.aload_n 1, 1) := by decide +kernel
theorem dL_law_1359 : decode cL_law 1359 = .ok (.aload_n 0, 1) := by decide +kernel
theorem dL_law_1360 : decode cL_law 1360 = .ok (.iload_n 3, 1) := by decide +kernel
theorem dL_law_1361 : decode cL_law 1361 = .ok (.iconst 1, 1) := by decide +kernel
theorem dL_law_1362 : decode cL_law 1362 = .ok (.iadd, 1) := by decide +kernel
theorem dL_law_1363 : decode cL_law 1363 = .ok (.iaload, 1) := by decide +kernel
theorem dL_law_1364 : decode cL_law 1364 = .ok (.invokevirtual 161, 3) := by decide +kernel
theorem dL_law_1367 : decode cL_law 1367 = .ok (.aload_n 2, 1) := by decide +kernel
theorem dL_law_1368 : decode cL_law 1368 = .ok (.aload_n 0, 1) := by decide +kernel
theorem dL_law_1369 : decode cL_law 1369 = .ok (.iload_n 3, 1) := by decide +kernel
theorem dL_law_1370 : decode cL_law 1370 = .ok (.iconst 1, 1) := by decide +kernel
theorem dL_law_1371 : decode cL_law 1371 = .ok (.iadd, 1) := by decide +kernel
theorem dL_law_1372 : decode cL_law 1372 = .ok (.iaload, 1) := by decide +kernel
theorem dL_law_1373 : decode cL_law 1373 = .ok (.invokevirtual 164, 3) := by decide +kernel
theorem dL_law_1376 : decode cL_law 1376 = .ok (.if_icmp .eq 41, 3) := by decide +kernel
theorem dL_law_1379 : decode cL_law 1379 = .ok (.iconst 0, 1) := by decide +kernel
theorem dL_law_1380 : decode cL_law 1380 = .ok (.ireturn, 1) := by decide +kernel
theorem dL_law_1381 : decode cL_law 1381 = .ok (.aload_n 1, 1) := by decide +kernel
theorem dL_law_1382 : decode cL_law 1382 = .ok (.aload_n 0, 1) := by decide +kernel
theorem dL_law_1383 : decode cL_law 1383 = .ok (.iload_n 3, 1) := by decide +kernel
theorem dL_law_1384 : decode cL_law 1384 = .ok (.iconst 1, 1) := by decide +kernel
theorem dL_law_1385 : decode cL_law 1385 = .ok (.iadd, 1) := by decide +kernel
theorem dL_law_1386 : decode cL_law 1386 = .ok (.iaload, 1) := by decide +kernel
theorem dL_law_1387 : decode cL_law 1387 = .ok (.invokevirtual 165, 3) := by decide +kernel
theorem dL_law_1390 : decode cL_law 1390 = .ok (.aload_n 2, 1) := by decide +kernel
theorem dL_law_1391 : decode cL_law 1391 = .ok (.aload_n 0, 1) := by decide +kernel
theorem dL_law_1392 : decode cL_law 1392 = .ok (.iload_n 3, 1) := by decide +kernel
theorem dL_law_1393 : decode cL_law 1393 = .ok (.iconst 1, 1) := by decide +kernel
theorem dL_law_1394 : decode cL_law 1394 = .ok (.iadd, 1) := by decide +kernel
theorem dL_law_1395 : decode cL_law 1395 = .ok (.iaload, 1) := by decide +kernel
theorem dL_law_1396 : decode cL_law 1396 = .ok (.invokevirtual 168, 3) := by decide +kernel
theorem dL_law_1399 : decode cL_law 1399 = .ok (.if_icmp .eq 18, 3) := by decide +kernel
theorem dL_law_1402 : decode cL_law 1402 = .ok (.iconst 0, 1) := by decide +kernel
theorem dL_law_1403 : decode cL_law 1403 = .ok (.ireturn, 1) := by decide +kernel
theorem dL_law_1404 : decode cL_law 1404 = .ok (.aload_n 1, 1) := by decide +kernel
theorem dL_law_1405 : decode cL_law 1405 = .ok (.invokevirtual 169, 3) := by decide +kernel
theorem dL_law_1408 : decode cL_law 1408 = .ok (.aload_n 2, 1) := by decide +kernel
theorem dL_law_1409 : decode cL_law 1409 = .ok (.invokevirtual 172, 3) := by decide +kernel
theorem dL_law_1412 : decode cL_law 1412 = .ok (.if_icmp .eq 5, 3) := by decide +kernel
theorem dL_law_1415 : decode cL_law 1415 = .ok (.iconst 0, 1) := by decide +kernel
theorem dL_law_1416 : decode cL_law 1416 = .ok (.ireturn, 1) := by decide +kernel
theorem dL_law_1417 : decode cL_law 1417 = .ok (.iinc 3 7, 3) := by decide +kernel
theorem dL_law_1420 : decode cL_law 1420 = .ok (.goto (-1402), 3) := by decide +kernel
theorem dL_law_1423 : decode cL_law 1423 = .ok (.iconst 1, 1) := by decide +kernel
theorem dL_law_1424 : decode cL_law 1424 = .ok (.ireturn, 1) := by decide +kernel
end
section
theorem dX0_init_0 : decode cX0_init 0 = .ok (.aload_n 0, 1) := by decide +kernel
theorem dX0_init_1 : decode cX0_init 1 = .ok (.invokespecial 3, 3) := by decide +kernel
theorem dX0_init_4 : decode cX0_init 4 = .ok (.aload_n 0, 1) := by decide +kernel
theorem dX0_init_5 : decode cX0_init 5 = .ok (.bipush 24, 2) := by decide +kernel
theorem dX0_init_7 : decode cX0_init 7 = .ok (.anewarray 9, 3) := by decide +kernel
theorem dX0_init_10 : decode cX0_init 10 = .ok (.putfield 11, 3) := by decide +kernel
theorem dX0_init_13 : decode cX0_init 13 = .ok (.return_, 1) := by decide +kernel
theorem dX0_keep_0 : decode cX0_keep 0 = .ok (.aload_n 0, 1) := by decide +kernel
theorem dX0_keep_1 : decode cX0_keep 1 = .ok (.getfield 11, 3) := by decide +kernel
theorem dX0_keep_4 : decode cX0_keep 4 = .ok (.aload_n 0, 1) := by decide +kernel
theorem dX0_keep_5 : decode cX0_keep 5 = .ok (.getfield 17, 3) := by decide +kernel
theorem dX0_keep_8 : decode cX0_keep 8 = .ok (.aaload, 1) := by decide +kernel
theorem dX0_keep_9 : decode cX0_keep 9 = .ok (.ifnonnull 19, 3) := by decide +kernel
theorem dX0_keep_12 : decode cX0_keep 12 = .ok (.aload_n 0, 1) := by decide +kernel
theorem dX0_keep_13 : decode cX0_keep 13 = .ok (.getfield 11, 3) := by decide +kernel
theorem dX0_keep_16 : decode cX0_keep 16 = .ok (.aload_n 0, 1) := by decide +kernel
theorem dX0_keep_17 : decode cX0_keep 17 = .ok (.getfield 17, 3) := by decide +kernel
theorem dX0_keep_20 : decode cX0_keep 20 = .ok (.new 9, 3) := by decide +kernel
theorem dX0_keep_23 : decode cX0_keep 23 = .ok (.dup, 1) := by decide +kernel
theorem dX0_keep_24 : decode cX0_keep 24 = .ok (.invokespecial 21, 3) := by decide +kernel
theorem dX0_keep_27 : decode cX0_keep 27 = .ok (.aastore, 1) := by decide +kernel
theorem dX0_keep_28 : decode cX0_keep 28 = .ok (.aload_n 0, 1) := by decide +kernel
theorem dX0_keep_29 : decode cX0_keep 29 = .ok (.getfield 11, 3) := by decide +kernel
theorem dX0_keep_32 : decode cX0_keep 32 = .ok (.aload_n 0, 1) := by decide +kernel
theorem dX0_keep_33 : decode cX0_keep 33 = .ok (.getfield 17, 3) := by decide +kernel
theorem dX0_keep_36 : decode cX0_keep 36 = .ok (.aaload, 1) := by decide +kernel
theorem dX0_keep_37 : decode cX0_keep 37 = .ok (.aload_n 1, 1) := by decide +kernel
theorem dX0_keep_38 : decode cX0_keep 38 = .ok (.invokevirtual 22, 3) := by decide +kernel
theorem dX0_keep_41 : decode cX0_keep 41 = .ok (.aload_n 0, 1) := by decide +kernel
theorem dX0_keep_42 : decode cX0_keep 42 = .ok (.aload_n 0, 1) := by decide +kernel
theorem dX0_keep_43 : decode cX0_keep 43 = .ok (.getfield 17, 3) := by decide +kernel
theorem dX0_keep_46 : decode cX0_keep 46 = .ok (.iconst 1, 1) := by decide +kernel
theorem dX0_keep_47 : decode cX0_keep 47 = .ok (.iadd, 1) := by decide +kernel
theorem dX0_keep_48 : decode cX0_keep 48 = .ok (.bipush 24, 2) := by decide +kernel
theorem dX0_keep_50 : decode cX0_keep 50 = .ok (.irem, 1) := by decide +kernel
theorem dX0_keep_51 : decode cX0_keep 51 = .ok (.putfield 17, 3) := by decide +kernel
theorem dX0_keep_54 : decode cX0_keep 54 = .ok (.aload_n 0, 1) := by decide +kernel
theorem dX0_keep_55 : decode cX0_keep 55 = .ok (.aload_n 0, 1) := by decide +kernel
theorem dX0_keep_56 : decode cX0_keep 56 = .ok (.getfield 26, 3) := by decide +kernel
theorem dX0_keep_59 : decode cX0_keep 59 = .ok (.iconst 1, 1) := by decide +kernel
theorem dX0_keep_60 : decode cX0_keep 60 = .ok (.iadd, 1) := by decide +kernel
theorem dX0_keep_61 : decode cX0_keep 61 = .ok (.bipush 24, 2) := by decide +kernel
theorem dX0_keep_63 : decode cX0_keep 63 = .ok (.invokestatic 29, 3) := by decide +kernel
theorem dX0_keep_66 : decode cX0_keep 66 = .ok (.putfield 26, 3) := by decide +kernel
theorem dX0_keep_69 : decode cX0_keep 69 = .ok (.return_, 1) := by decide +kernel
theorem dX0_takeBack_0 : decode cX0_takeBack 0 = .ok (.aload_n 0, 1) := by decide +kernel
theorem dX0_takeBack_1 : decode cX0_takeBack 1 = .ok (.getfield 17, 3) := by decide +kernel
theorem dX0_takeBack_4 : decode cX0_takeBack 4 = .ok (.bipush 24, 2) := by decide +kernel
theorem dX0_takeBack_6 : decode cX0_takeBack 6 = .ok (.iadd, 1) := by decide +kernel
theorem dX0_takeBack_7 : decode cX0_takeBack 7 = .ok (.iconst 1, 1) := by decide +kernel
theorem dX0_takeBack_8 : decode cX0_takeBack 8 = .ok (.isub, 1) := by decide +kernel
theorem dX0_takeBack_9 : decode cX0_takeBack 9 = .ok (.bipush 24, 2) := by decide +kernel
theorem dX0_takeBack_11 : decode cX0_takeBack 11 = .ok (.irem, 1) := by decide +kernel
theorem dX0_takeBack_12 : decode cX0_takeBack 12 = .ok (.istore_n 2, 1) := by decide +kernel
theorem dX0_takeBack_13 : decode cX0_takeBack 13 = .ok (.aload_n 0, 1) := by decide +kernel
theorem dX0_takeBack_14 : decode cX0_takeBack 14 = .ok (.getfield 26, 3) := by decide +kernel
theorem dX0_takeBack_17 : decode cX0_takeBack 17 = .ok (.ifCond .eq 12, 3) := by decide +kernel
theorem dX0_takeBack_20 : decode cX0_takeBack 20 = .ok (.aload_n 0, 1) := by decide +kernel
theorem dX0_takeBack_21 : decode cX0_takeBack 21 = .ok (.getfield 11, 3) := by decide +kernel
theorem dX0_takeBack_24 : decode cX0_takeBack 24 = .ok (.iload_n 2, 1) := by decide +kernel
theorem dX0_takeBack_25 : decode cX0_takeBack 25 = .ok (.aaload, 1) := by decide +kernel
theorem dX0_takeBack_26 : decode cX0_takeBack 26 = .ok (.ifnonnull 5, 3) := by decide +kernel
theorem dX0_takeBack_29 : decode cX0_takeBack 29 = .ok (.iconst 0, 1) := by decide +kernel
theorem dX0_takeBack_30 : decode cX0_takeBack 30 = .ok (.ireturn, 1) := by decide +kernel
theorem dX0_takeBack_31 : decode cX0_takeBack 31 = .ok (.aload_n 1, 1) := by decide +kernel
theorem dX0_takeBack_32 : decode cX0_takeBack 32 = .ok (.aload_n 0, 1) := by decide +kernel
theorem dX0_takeBack_33 : decode cX0_takeBack 33 = .ok (.getfield 11, 3) := by decide +kernel
theorem dX0_takeBack_36 : decode cX0_takeBack 36 = .ok (.iload_n 2, 1) := by decide +kernel
theorem dX0_takeBack_37 : decode cX0_takeBack 37 = .ok (.aaload, 1) := by decide +kernel
theorem dX0_takeBack_38 : decode cX0_takeBack 38 = .ok (.invokevirtual 22, 3) := by decide +kernel
theorem dX0_takeBack_41 : decode cX0_takeBack 41 = .ok (.aload_n 0, 1) := by decide +kernel
theorem dX0_takeBack_42 : decode cX0_takeBack 42 = .ok (.iload_n 2, 1) := by decide +kernel
theorem dX0_takeBack_43 : decode cX0_takeBack 43 = .ok (.putfield 17, 3) := by decide +kernel
theorem dX0_takeBack_46 : decode cX0_takeBack 46 = .ok (.aload_n 0, 1) := by decide +kernel
theorem dX0_takeBack_47 : decode cX0_takeBack 47 = .ok (.dup, 1) := by decide +kernel
theorem dX0_takeBack_48 : decode cX0_takeBack 48 = .ok (.getfield 26, 3) := by decide +kernel
theorem dX0_takeBack_51 : decode cX0_takeBack 51 = .ok (.iconst 1, 1) := by decide +kernel
theorem dX0_takeBack_52 : decode cX0_takeBack 52 = .ok (.isub, 1) := by decide +kernel
theorem dX0_takeBack_53 : decode cX0_takeBack 53 = .ok (.putfield 26, 3) := by decide +kernel
theorem dX0_takeBack_56 : decode cX0_takeBack 56 = .ok (.iconst 1, 1) := by decide +kernel
theorem dX0_takeBack_57 : decode cX0_takeBack 57 = .ok (.ireturn, 1) := by decide +kernel
theorem dX0_forget_0 : decode cX0_forget 0 = .ok (.aload_n 0, 1) := by decide +kernel
theorem dX0_forget_1 : decode cX0_forget 1 = .ok (.iconst 0, 1) := by decide +kernel
theorem dX0_forget_2 : decode cX0_forget 2 = .ok (.putfield 26, 3) := by decide +kernel
theorem dX0_forget_5 : decode cX0_forget 5 = .ok (.return_, 1) := by decide +kernel
end
section
theorem dX1_init_0 : decode cX1_init 0 = .ok (.aload_n 0, 1) := by decide +kernel
theorem dX1_init_1 : decode cX1_init 1 = .ok (.invokespecial 3, 3) := by decide +kernel
theorem dX1_init_4 : decode cX1_init 4 = .ok (.aload_n 0, 1) := by decide +kernel
theorem dX1_init_5 : decode cX1_init 5 = .ok (.bipush 16, 2) := by decide +kernel
theorem dX1_init_7 : decode cX1_init 7 = .ok (.newarray .int, 2) := by decide +kernel
theorem dX1_init_9 : decode cX1_init 9 = .ok (.putfield 9, 3) := by decide +kernel
theorem dX1_init_12 : decode cX1_init 12 = .ok (.return_, 1) := by decide +kernel
theorem dX1_answer_0 : decode cX1_answer 0 = .ok (.aload_n 0, 1) := by decide +kernel
theorem dX1_answer_1 : decode cX1_answer 1 = .ok (.iconst 0, 1) := by decide +kernel
theorem dX1_answer_2 : decode cX1_answer 2 = .ok (.putfield 15, 3) := by decide +kernel
theorem dX1_answer_5 : decode cX1_answer 5 = .ok (.aload_n 0, 1) := by decide +kernel
theorem dX1_answer_6 : decode cX1_answer 6 = .ok (.aload_n 1, 1) := by decide +kernel
theorem dX1_answer_7 : decode cX1_answer 7 = .ok (.iload_n 2, 1) := by decide +kernel
theorem dX1_answer_8 : decode cX1_answer 8 = .ok (.iload_n 3, 1) := by decide +kernel
theorem dX1_answer_9 : decode cX1_answer 9 = .ok (.iconst 0, 1) := by decide +kernel
theorem dX1_answer_10 : decode cX1_answer 10 = .ok (.invokevirtual 19, 3) := by decide +kernel
theorem dX1_answer_13 : decode cX1_answer 13 = .ok (.ireturn, 1) := by decide +kernel
theorem dX1_asked_0 : decode cX1_asked 0 = .ok (.aload_n 0, 1) := by decide +kernel
theorem dX1_asked_1 : decode cX1_asked 1 = .ok (.aload_n 1, 1) := by decide +kernel
theorem dX1_asked_2 : decode cX1_asked 2 = .ok (.iload_n 2, 1) := by decide +kernel
theorem dX1_asked_3 : decode cX1_asked 3 = .ok (.aload_n 1, 1) := by decide +kernel
theorem dX1_asked_4 : decode cX1_asked 4 = .ok (.getfield 23, 3) := by decide +kernel
theorem dX1_asked_7 : decode cX1_asked 7 = .ok (.iload_n 2, 1) := by decide +kernel
theorem dX1_asked_8 : decode cX1_asked 8 = .ok (.iaload, 1) := by decide +kernel
theorem dX1_asked_9 : decode cX1_asked 9 = .ok (.iload_n 3, 1) := by decide +kernel
theorem dX1_asked_10 : decode cX1_asked 10 = .ok (.invokestatic 28, 3) := by decide +kernel
theorem dX1_asked_13 : decode cX1_asked 13 = .ok (.iload 4, 2) := by decide +kernel
theorem dX1_asked_15 : decode cX1_asked 15 = .ok (.invokevirtual 32, 3) := by decide +kernel
theorem dX1_asked_18 : decode cX1_asked 18 = .ok (.ireturn, 1) := by decide +kernel
theorem dX1_bodyFor_0 : decode cX1_bodyFor 0 = .ok (.iload_n 0, 1) := by decide +kernel
theorem dX1_bodyFor_1 : decode cX1_bodyFor 1 = .ok (.istore_n 2, 1) := by decide +kernel
theorem dX1_bodyFor_2 : decode cX1_bodyFor 2 = .ok (.iconst 0, 1) := by decide +kernel
theorem dX1_bodyFor_3 : decode cX1_bodyFor 3 = .ok (.istore_n 3, 1) := by decide +kernel
theorem dX1_bodyFor_4 : decode cX1_bodyFor 4 = .ok (.iload_n 3, 1) := by decide +kernel
theorem dX1_bodyFor_5 : decode cX1_bodyFor 5 = .ok (.bipush 6, 2) := by decide +kernel
theorem dX1_bodyFor_7 : decode cX1_bodyFor 7 = .ok (.if_icmp .ge 51, 3) := by decide +kernel
theorem dX1_bodyFor_10 : decode cX1_bodyFor 10 = .ok (.iload_n 2, 1) := by decide +kernel
theorem dX1_bodyFor_11 : decode cX1_bodyFor 11 = .ok (.iconst 0, 1) := by decide +kernel
theorem dX1_bodyFor_12 : decode cX1_bodyFor 12 = .ok (.iconst 5, 1) := by decide +kernel
theorem dX1_bodyFor_13 : decode cX1_bodyFor 13 = .ok (.invokestatic 35, 3) := by decide +kernel
theorem dX1_bodyFor_16 : decode cX1_bodyFor 16 = .ok (.ifCond .eq 42, 3) := by decide +kernel
theorem dX1_bodyFor_19 : decode cX1_bodyFor 19 = .ok (.iload_n 1, 1) := by decide +kernel
theorem dX1_bodyFor_20 : decode cX1_bodyFor 20 = .ok (.ifCond .ne 11, 3) := by decide +kernel
theorem dX1_bodyFor_23 : decode cX1_bodyFor 23 = .ok (.getstatic 39, 3) := by decide +kernel
theorem dX1_bodyFor_26 : decode cX1_bodyFor 26 = .ok (.iload_n 2, 1) := by decide +kernel
theorem dX1_bodyFor_27 : decode cX1_bodyFor 27 = .ok (.iaload, 1) := by decide +kernel
theorem dX1_bodyFor_28 : decode cX1_bodyFor 28 = .ok (.goto 8, 3) := by decide +kernel
theorem dX1_bodyFor_31 : decode cX1_bodyFor 31 = .ok (.getstatic 42, 3) := by decide +kernel
theorem dX1_bodyFor_34 : decode cX1_bodyFor 34 = .ok (.iload_n 2, 1) := by decide +kernel
theorem dX1_bodyFor_35 : decode cX1_bodyFor 35 = .ok (.iaload, 1) := by decide +kernel
theorem dX1_bodyFor_36 : decode cX1_bodyFor 36 = .ok (.istore 4, 2) := by decide +kernel
theorem dX1_bodyFor_38 : decode cX1_bodyFor 38 = .ok (.iload 4, 2) := by decide +kernel
theorem dX1_bodyFor_40 : decode cX1_bodyFor 40 = .ok (.ifCond .eq 6, 3) := by decide +kernel
theorem dX1_bodyFor_43 : decode cX1_bodyFor 43 = .ok (.iload 4, 2) := by decide +kernel
theorem dX1_bodyFor_45 : decode cX1_bodyFor 45 = .ok (.ireturn, 1) := by decide +kernel
theorem dX1_bodyFor_46 : decode cX1_bodyFor 46 = .ok (.getstatic 45, 3) := by decide +kernel
theorem dX1_bodyFor_49 : decode cX1_bodyFor 49 = .ok (.iload_n 2, 1) := by decide +kernel
theorem dX1_bodyFor_50 : decode cX1_bodyFor 50 = .ok (.iaload, 1) := by decide +kernel
theorem dX1_bodyFor_51 : decode cX1_bodyFor 51 = .ok (.istore_n 2, 1) := by decide +kernel
theorem dX1_bodyFor_52 : decode cX1_bodyFor 52 = .ok (.iinc 3 1, 3) := by decide +kernel
theorem dX1_bodyFor_55 : decode cX1_bodyFor 55 = .ok (.goto (-51), 3) := by decide +kernel
theorem dX1_bodyFor_58 : decode cX1_bodyFor 58 = .ok (.iconst 0, 1) := by decide +kernel
theorem dX1_bodyFor_59 : decode cX1_bodyFor 59 = .ok (.ireturn, 1) := by decide +kernel
theorem dX1_body_0 : decode cX1_body 0 = .ok (.iload 4, 2) := by decide +kernel
theorem dX1_body_2 : decode cX1_body 2 = .ok (.bipush 16, 2) := by decide +kernel
theorem dX1_body_4 : decode cX1_body 4 = .ok (.if_icmp .lt 5, 3) := by decide +kernel
theorem dX1_body_7 : decode cX1_body 7 = .ok (.iconst 0, 1) := by decide +kernel
theorem dX1_body_8 : decode cX1_body 8 = .ok (.ireturn, 1) := by decide +kernel
theorem dX1_body_9 : decode cX1_body 9 = .ok (.aload_n 0, 1) := by decide +kernel
theorem dX1_body_10 : decode cX1_body 10 = .ok (.iload_n 3, 1) := by decide +kernel
theorem dX1_body_11 : decode cX1_body 11 = .ok (.invokevirtual 48, 3) := by decide +kernel
theorem dX1_body_14 : decode cX1_body 14 = .ok (.iload 4, 2) := by decide +kernel
theorem dX1_body_16 : decode cX1_body 16 = .ok (.iconst 1, 1) := by decide +kernel
theorem dX1_body_17 : decode cX1_body 17 = .ok (.iadd, 1) := by decide +kernel
theorem dX1_body_18 : decode cX1_body 18 = .ok (.istore 5, 2) := by decide +kernel
theorem dX1_body_20 : decode cX1_body 20 = .ok (.iload_n 3, 1) := by decide +kernel
theorem dX1_body_21 : decode cX1_body 21 = .ok (.tableswitch 211 10 24 #[75, 82, 103, 115, 129, 211, 211, 211, 211, 211, 142, 144, 162, 177, 198], 75) := by decide +kernel
theorem dX1_body_96 : decode cX1_body 96 = .ok (.aload_n 1, 1) := by decide +kernel
theorem dX1_body_97 : decode cX1_body 97 = .ok (.getfield 52, 3) := by decide +kernel
theorem dX1_body_100 : decode cX1_body 100 = .ok (.iload_n 2, 1) := by decide +kernel
theorem dX1_body_101 : decode cX1_body 101 = .ok (.iaload, 1) := by decide +kernel
theorem dX1_body_102 : decode cX1_body 102 = .ok (.ireturn, 1) := by decide +kernel
theorem dX1_body_103 : decode cX1_body 103 = .ok (.aload_n 0, 1) := by decide +kernel
theorem dX1_body_104 : decode cX1_body 104 = .ok (.aload_n 1, 1) := by decide +kernel
theorem dX1_body_105 : decode cX1_body 105 = .ok (.iload_n 2, 1) := by decide +kernel
theorem dX1_body_106 : decode cX1_body 106 = .ok (.bipush 10, 2) := by decide +kernel
theorem dX1_body_108 : decode cX1_body 108 = .ok (.iload 5, 2) := by decide +kernel
theorem dX1_body_110 : decode cX1_body 110 = .ok (.invokevirtual 32, 3) := by decide +kernel
theorem dX1_body_113 : decode cX1_body 113 = .ok (.aload_n 0, 1) := by decide +kernel
theorem dX1_body_114 : decode cX1_body 114 = .ok (.aload_n 1, 1) := by decide +kernel
theorem dX1_body_115 : decode cX1_body 115 = .ok (.iload_n 2, 1) := by decide +kernel
theorem dX1_body_116 : decode cX1_body 116 = .ok (.iconst 1, 1) := by decide +kernel
theorem dX1_body_117 : decode cX1_body 117 = .ok (.iload 5, 2) := by decide +kernel
theorem dX1_body_119 : decode cX1_body 119 = .ok (.invokevirtual 19, 3) := by decide +kernel
theorem dX1_body_122 : decode cX1_body 122 = .ok (.iadd, 1) := by decide +kernel
theorem dX1_body_123 : decode cX1_body 123 = .ok (.ireturn, 1) := by decide +kernel
theorem dX1_body_124 : decode cX1_body 124 = .ok (.aload_n 0, 1) := by decide +kernel
theorem dX1_body_125 : decode cX1_body 125 = .ok (.aload_n 1, 1) := by decide +kernel
theorem dX1_body_126 : decode cX1_body 126 = .ok (.iload_n 2, 1) := by decide +kernel
theorem dX1_body_127 : decode cX1_body 127 = .ok (.bipush 11, 2) := by decide +kernel
theorem dX1_body_129 : decode cX1_body 129 = .ok (.iload 5, 2) := by decide +kernel
theorem dX1_body_131 : decode cX1_body 131 = .ok (.invokevirtual 32, 3) := by decide +kernel
theorem dX1_body_134 : decode cX1_body 134 = .ok (.ineg, 1) := by decide +kernel
theorem dX1_body_135 : decode cX1_body 135 = .ok (.ireturn, 1) := by decide +kernel
theorem dX1_body_136 : decode cX1_body 136 = .ok (.aload_n 0, 1) := by decide +kernel
theorem dX1_body_137 : decode cX1_body 137 = .ok (.aload_n 1, 1) := by decide +kernel
theorem dX1_body_138 : decode cX1_body 138 = .ok (.iload_n 2, 1) := by decide +kernel
theorem dX1_body_139 : decode cX1_body 139 = .ok (.bipush 10, 2) := by decide +kernel
theorem dX1_body_141 : decode cX1_body 141 = .ok (.iload 5, 2) := by decide +kernel
theorem dX1_body_143 : decode cX1_body 143 = .ok (.invokevirtual 32, 3) := by decide +kernel
theorem dX1_body_146 : decode cX1_body 146 = .ok (.bipush 100, 2) := by decide +kernel
theorem dX1_body_148 : decode cX1_body 148 = .ok (.isub, 1) := by decide +kernel
theorem dX1_body_149 : decode cX1_body 149 = .ok (.ireturn, 1) := by decide +kernel
theorem dX1_body_150 : decode cX1_body 150 = .ok (.iconst 2, 1) := by decide +kernel
theorem dX1_body_151 : decode cX1_body 151 = .ok (.aload_n 0, 1) := by decide +kernel
theorem dX1_body_152 : decode cX1_body 152 = .ok (.aload_n 1, 1) := by decide +kernel
theorem dX1_body_153 : decode cX1_body 153 = .ok (.iload_n 2, 1) := by decide +kernel
theorem dX1_body_154 : decode cX1_body 154 = .ok (.bipush 13, 2) := by decide +kernel
theorem dX1_body_156 : decode cX1_body 156 = .ok (.iload 5, 2) := by decide +kernel
theorem dX1_body_158 : decode cX1_body 158 = .ok (.invokevirtual 32, 3) := by decide +kernel
theorem dX1_body_161 : decode cX1_body 161 = .ok (.imul, 1) := by decide +kernel
theorem dX1_body_162 : decode cX1_body 162 = .ok (.ireturn, 1) := by decide +kernel
theorem dX1_body_163 : decode cX1_body 163 = .ok (.iload_n 2, 1) := by decide +kernel
theorem dX1_body_164 : decode cX1_body 164 = .ok (.ireturn, 1) := by decide +kernel
theorem dX1_body_165 : decode cX1_body 165 = .ok (.aload_n 0, 1) := by decide +kernel
theorem dX1_body_166 : decode cX1_body 166 = .ok (.aload_n 1, 1) := by decide +kernel
theorem dX1_body_167 : decode cX1_body 167 = .ok (.iload_n 2, 1) := by decide +kernel
theorem dX1_body_168 : decode cX1_body 168 = .ok (.bipush 20, 2) := by decide +kernel
theorem dX1_body_170 : decode cX1_body 170 = .ok (.iload 5, 2) := by decide +kernel
theorem dX1_body_172 : decode cX1_body 172 = .ok (.invokevirtual 32, 3) := by decide +kernel
theorem dX1_body_175 : decode cX1_body 175 = .ok (.aload_n 1, 1) := by decide +kernel
theorem dX1_body_176 : decode cX1_body 176 = .ok (.getfield 55, 3) := by decide +kernel
theorem dX1_body_179 : decode cX1_body 179 = .ok (.iload_n 2, 1) := by decide +kernel
theorem dX1_body_180 : decode cX1_body 180 = .ok (.iaload, 1) := by decide +kernel
theorem dX1_body_181 : decode cX1_body 181 = .ok (.iadd, 1) := by decide +kernel
theorem dX1_body_182 : decode cX1_body 182 = .ok (.ireturn, 1) := by decide +kernel
theorem dX1_body_183 : decode cX1_body 183 = .ok (.aload_n 0, 1) := by decide +kernel
theorem dX1_body_184 : decode cX1_body 184 = .ok (.aload_n 1, 1) := by decide +kernel
theorem dX1_body_185 : decode cX1_body 185 = .ok (.iload_n 2, 1) := by decide +kernel
theorem dX1_body_186 : decode cX1_body 186 = .ok (.bipush 21, 2) := by decide +kernel
theorem dX1_body_188 : decode cX1_body 188 = .ok (.iload 5, 2) := by decide +kernel
theorem dX1_body_190 : decode cX1_body 190 = .ok (.invokevirtual 32, 3) := by decide +kernel
theorem dX1_body_193 : decode cX1_body 193 = .ok (.sipush 1000, 3) := by decide +kernel
theorem dX1_body_196 : decode cX1_body 196 = .ok (.isub, 1) := by decide +kernel
theorem dX1_body_197 : decode cX1_body 197 = .ok (.ireturn, 1) := by decide +kernel
theorem dX1_body_198 : decode cX1_body 198 = .ok (.aload_n 0, 1) := by decide +kernel
theorem dX1_body_199 : decode cX1_body 199 = .ok (.aload_n 1, 1) := by decide +kernel
theorem dX1_body_200 : decode cX1_body 200 = .ok (.iload_n 2, 1) := by decide +kernel
theorem dX1_body_201 : decode cX1_body 201 = .ok (.bipush 20, 2) := by decide +kernel
theorem dX1_body_203 : decode cX1_body 203 = .ok (.iload 5, 2) := by decide +kernel
theorem dX1_body_205 : decode cX1_body 205 = .ok (.invokevirtual 32, 3) := by decide +kernel
theorem dX1_body_208 : decode cX1_body 208 = .ok (.aload_n 0, 1) := by decide +kernel
theorem dX1_body_209 : decode cX1_body 209 = .ok (.aload_n 1, 1) := by decide +kernel
theorem dX1_body_210 : decode cX1_body 210 = .ok (.iload_n 2, 1) := by decide +kernel
theorem dX1_body_211 : decode cX1_body 211 = .ok (.iconst 0, 1) := by decide +kernel
theorem dX1_body_212 : decode cX1_body 212 = .ok (.iload 5, 2) := by decide +kernel
theorem dX1_body_214 : decode cX1_body 214 = .ok (.invokevirtual 19, 3) := by decide +kernel
theorem dX1_body_217 : decode cX1_body 217 = .ok (.isub, 1) := by decide +kernel
theorem dX1_body_218 : decode cX1_body 218 = .ok (.ireturn, 1) := by decide +kernel
theorem dX1_body_219 : decode cX1_body 219 = .ok (.iconst 2, 1) := by decide +kernel
theorem dX1_body_220 : decode cX1_body 220 = .ok (.aload_n 0, 1) := by decide +kernel
theorem dX1_body_221 : decode cX1_body 221 = .ok (.aload_n 1, 1) := by decide +kernel
theorem dX1_body_222 : decode cX1_body 222 = .ok (.iload_n 2, 1) := by decide +kernel
theorem dX1_body_223 : decode cX1_body 223 = .ok (.bipush 21, 2) := by decide +kernel
theorem dX1_body_225 : decode cX1_body 225 = .ok (.iload 5, 2) := by decide +kernel
theorem dX1_body_227 : decode cX1_body 227 = .ok (.invokevirtual 32, 3) := by decide +kernel
theorem dX1_body_230 : decode cX1_body 230 = .ok (.imul, 1) := by decide +kernel
theorem dX1_body_231 : decode cX1_body 231 = .ok (.ireturn, 1) := by decide +kernel
theorem dX1_body_232 : decode cX1_body 232 = .ok (.iconst 0, 1) := by decide +kernel
theorem dX1_body_233 : decode cX1_body 233 = .ok (.ireturn, 1) := by decide +kernel
theorem dX1_leave_0 : decode cX1_leave 0 = .ok (.aload_n 0, 1) := by decide +kernel
theorem dX1_leave_1 : decode cX1_leave 1 = .ok (.getfield 15, 3) := by decide +kernel
theorem dX1_leave_4 : decode cX1_leave 4 = .ok (.bipush 16, 2) := by decide +kernel
theorem dX1_leave_6 : decode cX1_leave 6 = .ok (.if_icmp .ge 23, 3) := by decide +kernel
theorem dX1_leave_9 : decode cX1_leave 9 = .ok (.aload_n 0, 1) := by decide +kernel
theorem dX1_leave_10 : decode cX1_leave 10 = .ok (.getfield 9, 3) := by decide +kernel
theorem dX1_leave_13 : decode cX1_leave 13 = .ok (.aload_n 0, 1) := by decide +kernel
theorem dX1_leave_14 : decode cX1_leave 14 = .ok (.getfield 15, 3) := by decide +kernel
theorem dX1_leave_17 : decode cX1_leave 17 = .ok (.iload_n 1, 1) := by decide +kernel
theorem dX1_leave_18 : decode cX1_leave 18 = .ok (.iastore, 1) := by decide +kernel
theorem dX1_leave_19 : decode cX1_leave 19 = .ok (.aload_n 0, 1) := by decide +kernel
theorem dX1_leave_20 : decode cX1_leave 20 = .ok (.dup, 1) := by decide +kernel
theorem dX1_leave_21 : decode cX1_leave 21 = .ok (.getfield 15, 3) := by decide +kernel
theorem dX1_leave_24 : decode cX1_leave 24 = .ok (.iconst 1, 1) := by decide +kernel
theorem dX1_leave_25 : decode cX1_leave 25 = .ok (.iadd, 1) := by decide +kernel
theorem dX1_leave_26 : decode cX1_leave 26 = .ok (.putfield 15, 3) := by decide +kernel
theorem dX1_leave_29 : decode cX1_leave 29 = .ok (.return_, 1) := by decide +kernel
end
section
theorem dX2_init_0 : decode cX2_init 0 = .ok (.aload_n 0, 1) := by decide +kernel
theorem dX2_init_1 : decode cX2_init 1 = .ok (.invokespecial 3, 3) := by decide +kernel
theorem dX2_init_4 : decode cX2_init 4 = .ok (.aload_n 0, 1) := by decide +kernel
theorem dX2_init_5 : decode cX2_init 5 = .ok (.bipush 8, 2) := by decide +kernel
theorem dX2_init_7 : decode cX2_init 7 = .ok (.newarray .int, 2) := by decide +kernel
theorem dX2_init_9 : decode cX2_init 9 = .ok (.putfield 9, 3) := by decide +kernel
theorem dX2_init_12 : decode cX2_init 12 = .ok (.aload_n 0, 1) := by decide +kernel
theorem dX2_init_13 : decode cX2_init 13 = .ok (.bipush 8, 2) := by decide +kernel
theorem dX2_init_15 : decode cX2_init 15 = .ok (.newarray .int, 2) := by decide +kernel
theorem dX2_init_17 : decode cX2_init 17 = .ok (.putfield 15, 3) := by decide +kernel
theorem dX2_init_20 : decode cX2_init 20 = .ok (.aload_n 0, 1) := by decide +kernel
theorem dX2_init_21 : decode cX2_init 21 = .ok (.bipush 8, 2) := by decide +kernel
theorem dX2_init_23 : decode cX2_init 23 = .ok (.newarray .int, 2) := by decide +kernel
theorem dX2_init_25 : decode cX2_init 25 = .ok (.putfield 18, 3) := by decide +kernel
theorem dX2_init_28 : decode cX2_init 28 = .ok (.aload_n 0, 1) := by decide +kernel
theorem dX2_init_29 : decode cX2_init 29 = .ok (.bipush 8, 2) := by decide +kernel
theorem dX2_init_31 : decode cX2_init 31 = .ok (.newarray .int, 2) := by decide +kernel
theorem dX2_init_33 : decode cX2_init 33 = .ok (.putfield 21, 3) := by decide +kernel
theorem dX2_init_36 : decode cX2_init 36 = .ok (.aload_n 0, 1) := by decide +kernel
theorem dX2_init_37 : decode cX2_init 37 = .ok (.bipush 8, 2) := by decide +kernel
theorem dX2_init_39 : decode cX2_init 39 = .ok (.newarray .int, 2) := by decide +kernel
theorem dX2_init_41 : decode cX2_init 41 = .ok (.putfield 24, 3) := by decide +kernel
theorem dX2_init_44 : decode cX2_init 44 = .ok (.return_, 1) := by decide +kernel
theorem dX2_clear_0 : decode cX2_clear 0 = .ok (.aload_n 0, 1) := by decide +kernel
theorem dX2_clear_1 : decode cX2_clear 1 = .ok (.iconst 0, 1) := by decide +kernel
theorem dX2_clear_2 : decode cX2_clear 2 = .ok (.putfield 27, 3) := by decide +kernel
theorem dX2_clear_5 : decode cX2_clear 5 = .ok (.aload_n 0, 1) := by decide +kernel
theorem dX2_clear_6 : decode cX2_clear 6 = .ok (.iconst 0, 1) := by decide +kernel
theorem dX2_clear_7 : decode cX2_clear 7 = .ok (.putfield 31, 3) := by decide +kernel
theorem dX2_clear_10 : decode cX2_clear 10 = .ok (.aload_n 0, 1) := by decide +kernel
theorem dX2_clear_11 : decode cX2_clear 11 = .ok (.iconst 0, 1) := by decide +kernel
theorem dX2_clear_12 : decode cX2_clear 12 = .ok (.putfield 34, 3) := by decide +kernel
theorem dX2_clear_15 : decode cX2_clear 15 = .ok (.return_, 1) := by decide +kernel
theorem dX2_add_0 : decode cX2_add 0 = .ok (.aload_n 0, 1) := by decide +kernel
theorem dX2_add_1 : decode cX2_add 1 = .ok (.getfield 27, 3) := by decide +kernel
theorem dX2_add_4 : decode cX2_add 4 = .ok (.bipush 8, 2) := by decide +kernel
theorem dX2_add_6 : decode cX2_add 6 = .ok (.if_icmp .lt 4, 3) := by decide +kernel
theorem dX2_add_9 : decode cX2_add 9 = .ok (.return_, 1) := by decide +kernel
theorem dX2_add_10 : decode cX2_add 10 = .ok (.aload_n 0, 1) := by decide +kernel
theorem dX2_add_11 : decode cX2_add 11 = .ok (.getfield 9, 3) := by decide +kernel
theorem dX2_add_14 : decode cX2_add 14 = .ok (.aload_n 0, 1) := by decide +kernel
theorem dX2_add_15 : decode cX2_add 15 = .ok (.getfield 27, 3) := by decide +kernel
theorem dX2_add_18 : decode cX2_add 18 = .ok (.iload_n 1, 1) := by decide +kernel
theorem dX2_add_19 : decode cX2_add 19 = .ok (.iastore, 1) := by decide +kernel
theorem dX2_add_20 : decode cX2_add 20 = .ok (.aload_n 0, 1) := by decide +kernel
theorem dX2_add_21 : decode cX2_add 21 = .ok (.getfield 15, 3) := by decide +kernel
theorem dX2_add_24 : decode cX2_add 24 = .ok (.aload_n 0, 1) := by decide +kernel
theorem dX2_add_25 : decode cX2_add 25 = .ok (.getfield 27, 3) := by decide +kernel
theorem dX2_add_28 : decode cX2_add 28 = .ok (.iload_n 2, 1) := by decide +kernel
theorem dX2_add_29 : decode cX2_add 29 = .ok (.iastore, 1) := by decide +kernel
theorem dX2_add_30 : decode cX2_add 30 = .ok (.aload_n 0, 1) := by decide +kernel
theorem dX2_add_31 : decode cX2_add 31 = .ok (.getfield 18, 3) := by decide +kernel
theorem dX2_add_34 : decode cX2_add 34 = .ok (.aload_n 0, 1) := by decide +kernel
theorem dX2_add_35 : decode cX2_add 35 = .ok (.getfield 27, 3) := by decide +kernel
theorem dX2_add_38 : decode cX2_add 38 = .ok (.iload_n 3, 1) := by decide +kernel
theorem dX2_add_39 : decode cX2_add 39 = .ok (.iastore, 1) := by decide +kernel
theorem dX2_add_40 : decode cX2_add 40 = .ok (.aload_n 0, 1) := by decide +kernel
theorem dX2_add_41 : decode cX2_add 41 = .ok (.getfield 21, 3) := by decide +kernel
theorem dX2_add_44 : decode cX2_add 44 = .ok (.aload_n 0, 1) := by decide +kernel
theorem dX2_add_45 : decode cX2_add 45 = .ok (.getfield 27, 3) := by decide +kernel
theorem dX2_add_48 : decode cX2_add 48 = .ok (.aload_n 0, 1) := by decide +kernel
theorem dX2_add_49 : decode cX2_add 49 = .ok (.getfield 27, 3) := by decide +kernel
theorem dX2_add_52 : decode cX2_add 52 = .ok (.iastore, 1) := by decide +kernel
theorem dX2_add_53 : decode cX2_add 53 = .ok (.aload_n 0, 1) := by decide +kernel
theorem dX2_add_54 : decode cX2_add 54 = .ok (.getfield 24, 3) := by decide +kernel
theorem dX2_add_57 : decode cX2_add 57 = .ok (.aload_n 0, 1) := by decide +kernel
theorem dX2_add_58 : decode cX2_add 58 = .ok (.getfield 27, 3) := by decide +kernel
theorem dX2_add_61 : decode cX2_add 61 = .ok (.iconst 0, 1) := by decide +kernel
theorem dX2_add_62 : decode cX2_add 62 = .ok (.iastore, 1) := by decide +kernel
theorem dX2_add_63 : decode cX2_add 63 = .ok (.aload_n 0, 1) := by decide +kernel
theorem dX2_add_64 : decode cX2_add 64 = .ok (.dup, 1) := by decide +kernel
theorem dX2_add_65 : decode cX2_add 65 = .ok (.getfield 27, 3) := by decide +kernel
theorem dX2_add_68 : decode cX2_add 68 = .ok (.iconst 1, 1) := by decide +kernel
theorem dX2_add_69 : decode cX2_add 69 = .ok (.iadd, 1) := by decide +kernel
theorem dX2_add_70 : decode cX2_add 70 = .ok (.putfield 27, 3) := by decide +kernel
theorem dX2_add_73 : decode cX2_add 73 = .ok (.return_, 1) := by decide +kernel
theorem dX2_become_0 : decode cX2_become 0 = .ok (.aload_n 0, 1) := by decide +kernel
theorem dX2_become_1 : decode cX2_become 1 = .ok (.aload_n 1, 1) := by decide +kernel
theorem dX2_become_2 : decode cX2_become 2 = .ok (.getfield 27, 3) := by decide +kernel
theorem dX2_become_5 : decode cX2_become 5 = .ok (.putfield 27, 3) := by decide +kernel
theorem dX2_become_8 : decode cX2_become 8 = .ok (.aload_n 0, 1) := by decide +kernel
theorem dX2_become_9 : decode cX2_become 9 = .ok (.aload_n 1, 1) := by decide +kernel
theorem dX2_become_10 : decode cX2_become 10 = .ok (.getfield 31, 3) := by decide +kernel
theorem dX2_become_13 : decode cX2_become 13 = .ok (.putfield 31, 3) := by decide +kernel
theorem dX2_become_16 : decode cX2_become 16 = .ok (.aload_n 0, 1) := by decide +kernel
theorem dX2_become_17 : decode cX2_become 17 = .ok (.aload_n 1, 1) := by decide +kernel
theorem dX2_become_18 : decode cX2_become 18 = .ok (.getfield 34, 3) := by decide +kernel
theorem dX2_become_21 : decode cX2_become 21 = .ok (.putfield 34, 3) := by decide +kernel
theorem dX2_become_24 : decode cX2_become 24 = .ok (.aload_n 1, 1) := by decide +kernel
theorem dX2_become_25 : decode cX2_become 25 = .ok (.getfield 9, 3) := by decide +kernel
theorem dX2_become_28 : decode cX2_become 28 = .ok (.iconst 0, 1) := by decide +kernel
theorem dX2_become_29 : decode cX2_become 29 = .ok (.aload_n 0, 1) := by decide +kernel
theorem dX2_become_30 : decode cX2_become 30 = .ok (.getfield 9, 3) := by decide +kernel
theorem dX2_become_33 : decode cX2_become 33 = .ok (.iconst 0, 1) := by decide +kernel
theorem dX2_become_34 : decode cX2_become 34 = .ok (.bipush 8, 2) := by decide +kernel
theorem dX2_become_36 : decode cX2_become 36 = .ok (.invokestatic 37, 3) := by decide +kernel
theorem dX2_become_39 : decode cX2_become 39 = .ok (.aload_n 1, 1) := by decide +kernel
theorem dX2_become_40 : decode cX2_become 40 = .ok (.getfield 15, 3) := by decide +kernel
theorem dX2_become_43 : decode cX2_become 43 = .ok (.iconst 0, 1) := by decide +kernel
theorem dX2_become_44 : decode cX2_become 44 = .ok (.aload_n 0, 1) := by decide +kernel
theorem dX2_become_45 : decode cX2_become 45 = .ok (.getfield 15, 3) := by decide +kernel
theorem dX2_become_48 : decode cX2_become 48 = .ok (.iconst 0, 1) := by decide +kernel
theorem dX2_become_49 : decode cX2_become 49 = .ok (.bipush 8, 2) := by decide +kernel
theorem dX2_become_51 : decode cX2_become 51 = .ok (.invokestatic 37, 3) := by decide +kernel
theorem dX2_become_54 : decode cX2_become 54 = .ok (.aload_n 1, 1) := by decide +kernel
theorem dX2_become_55 : decode cX2_become 55 = .ok (.getfield 18, 3) := by decide +kernel
theorem dX2_become_58 : decode cX2_become 58 = .ok (.iconst 0, 1) := by decide +kernel
theorem dX2_become_59 : decode cX2_become 59 = .ok (.aload_n 0, 1) := by decide +kernel
theorem dX2_become_60 : decode cX2_become 60 = .ok (.getfield 18, 3) := by decide +kernel
theorem dX2_become_63 : decode cX2_become 63 = .ok (.iconst 0, 1) := by decide +kernel
theorem dX2_become_64 : decode cX2_become 64 = .ok (.bipush 8, 2) := by decide +kernel
theorem dX2_become_66 : decode cX2_become 66 = .ok (.invokestatic 37, 3) := by decide +kernel
theorem dX2_become_69 : decode cX2_become 69 = .ok (.aload_n 1, 1) := by decide +kernel
theorem dX2_become_70 : decode cX2_become 70 = .ok (.getfield 21, 3) := by decide +kernel
theorem dX2_become_73 : decode cX2_become 73 = .ok (.iconst 0, 1) := by decide +kernel
theorem dX2_become_74 : decode cX2_become 74 = .ok (.aload_n 0, 1) := by decide +kernel
theorem dX2_become_75 : decode cX2_become 75 = .ok (.getfield 21, 3) := by decide +kernel
theorem dX2_become_78 : decode cX2_become 78 = .ok (.iconst 0, 1) := by decide +kernel
theorem dX2_become_79 : decode cX2_become 79 = .ok (.bipush 8, 2) := by decide +kernel
theorem dX2_become_81 : decode cX2_become 81 = .ok (.invokestatic 37, 3) := by decide +kernel
theorem dX2_become_84 : decode cX2_become 84 = .ok (.aload_n 1, 1) := by decide +kernel
theorem dX2_become_85 : decode cX2_become 85 = .ok (.getfield 24, 3) := by decide +kernel
theorem dX2_become_88 : decode cX2_become 88 = .ok (.iconst 0, 1) := by decide +kernel
theorem dX2_become_89 : decode cX2_become 89 = .ok (.aload_n 0, 1) := by decide +kernel
theorem dX2_become_90 : decode cX2_become 90 = .ok (.getfield 24, 3) := by decide +kernel
theorem dX2_become_93 : decode cX2_become 93 = .ok (.iconst 0, 1) := by decide +kernel
theorem dX2_become_94 : decode cX2_become 94 = .ok (.bipush 8, 2) := by decide +kernel
theorem dX2_become_96 : decode cX2_become 96 = .ok (.invokestatic 37, 3) := by decide +kernel
theorem dX2_become_99 : decode cX2_become 99 = .ok (.return_, 1) := by decide +kernel
theorem dX2_age_0 : decode cX2_age 0 = .ok (.aload_n 0, 1) := by decide +kernel
theorem dX2_age_1 : decode cX2_age 1 = .ok (.dup, 1) := by decide +kernel
theorem dX2_age_2 : decode cX2_age 2 = .ok (.getfield 31, 3) := by decide +kernel
theorem dX2_age_5 : decode cX2_age 5 = .ok (.iconst 1, 1) := by decide +kernel
theorem dX2_age_6 : decode cX2_age 6 = .ok (.iadd, 1) := by decide +kernel
theorem dX2_age_7 : decode cX2_age 7 = .ok (.putfield 31, 3) := by decide +kernel
theorem dX2_age_10 : decode cX2_age 10 = .ok (.iconst 0, 1) := by decide +kernel
theorem dX2_age_11 : decode cX2_age 11 = .ok (.istore_n 1, 1) := by decide +kernel
theorem dX2_age_12 : decode cX2_age 12 = .ok (.iload_n 1, 1) := by decide +kernel
theorem dX2_age_13 : decode cX2_age 13 = .ok (.aload_n 0, 1) := by decide +kernel
theorem dX2_age_14 : decode cX2_age 14 = .ok (.getfield 27, 3) := by decide +kernel
theorem dX2_age_17 : decode cX2_age 17 = .ok (.if_icmp .ge 44, 3) := by decide +kernel
theorem dX2_age_20 : decode cX2_age 20 = .ok (.aload_n 0, 1) := by decide +kernel
theorem dX2_age_21 : decode cX2_age 21 = .ok (.getfield 24, 3) := by decide +kernel
theorem dX2_age_24 : decode cX2_age 24 = .ok (.iload_n 1, 1) := by decide +kernel
theorem dX2_age_25 : decode cX2_age 25 = .ok (.iaload, 1) := by decide +kernel
theorem dX2_age_26 : decode cX2_age 26 = .ok (.ifCond .ne 29, 3) := by decide +kernel
theorem dX2_age_29 : decode cX2_age 29 = .ok (.aload_n 0, 1) := by decide +kernel
theorem dX2_age_30 : decode cX2_age 30 = .ok (.getfield 18, 3) := by decide +kernel
theorem dX2_age_33 : decode cX2_age 33 = .ok (.iload_n 1, 1) := by decide +kernel
theorem dX2_age_34 : decode cX2_age 34 = .ok (.dup2, 1) := by decide +kernel
theorem dX2_age_35 : decode cX2_age 35 = .ok (.iaload, 1) := by decide +kernel
theorem dX2_age_36 : decode cX2_age 36 = .ok (.iconst 1, 1) := by decide +kernel
theorem dX2_age_37 : decode cX2_age 37 = .ok (.isub, 1) := by decide +kernel
theorem dX2_age_38 : decode cX2_age 38 = .ok (.iastore, 1) := by decide +kernel
theorem dX2_age_39 : decode cX2_age 39 = .ok (.aload_n 0, 1) := by decide +kernel
theorem dX2_age_40 : decode cX2_age 40 = .ok (.getfield 18, 3) := by decide +kernel
theorem dX2_age_43 : decode cX2_age 43 = .ok (.iload_n 1, 1) := by decide +kernel
theorem dX2_age_44 : decode cX2_age 44 = .ok (.iaload, 1) := by decide +kernel
theorem dX2_age_45 : decode cX2_age 45 = .ok (.ifCond .gt 10, 3) := by decide +kernel
theorem dX2_age_48 : decode cX2_age 48 = .ok (.aload_n 0, 1) := by decide +kernel
theorem dX2_age_49 : decode cX2_age 49 = .ok (.getfield 24, 3) := by decide +kernel
theorem dX2_age_52 : decode cX2_age 52 = .ok (.iload_n 1, 1) := by decide +kernel
theorem dX2_age_53 : decode cX2_age 53 = .ok (.iconst 2, 1) := by decide +kernel
theorem dX2_age_54 : decode cX2_age 54 = .ok (.iastore, 1) := by decide +kernel
theorem dX2_age_55 : decode cX2_age 55 = .ok (.iinc 1 1, 3) := by decide +kernel
theorem dX2_age_58 : decode cX2_age 58 = .ok (.goto (-46), 3) := by decide +kernel
theorem dX2_age_61 : decode cX2_age 61 = .ok (.return_, 1) := by decide +kernel
theorem dX2_smash_0 : decode cX2_smash 0 = .ok (.iconst 0, 1) := by decide +kernel
theorem dX2_smash_1 : decode cX2_smash 1 = .ok (.istore_n 2, 1) := by decide +kernel
theorem dX2_smash_2 : decode cX2_smash 2 = .ok (.iload_n 2, 1) := by decide +kernel
theorem dX2_smash_3 : decode cX2_smash 3 = .ok (.aload_n 0, 1) := by decide +kernel
theorem dX2_smash_4 : decode cX2_smash 4 = .ok (.getfield 27, 3) := by decide +kernel
theorem dX2_smash_7 : decode cX2_smash 7 = .ok (.if_icmp .ge 24, 3) := by decide +kernel
theorem dX2_smash_10 : decode cX2_smash 10 = .ok (.iload_n 1, 1) := by decide +kernel
theorem dX2_smash_11 : decode cX2_smash 11 = .ok (.iload_n 2, 1) := by decide +kernel
theorem dX2_smash_12 : decode cX2_smash 12 = .ok (.invokestatic 43, 3) := by decide +kernel
theorem dX2_smash_15 : decode cX2_smash 15 = .ok (.ifCond .eq 10, 3) := by decide +kernel
theorem dX2_smash_18 : decode cX2_smash 18 = .ok (.aload_n 0, 1) := by decide +kernel
theorem dX2_smash_19 : decode cX2_smash 19 = .ok (.getfield 24, 3) := by decide +kernel
theorem dX2_smash_22 : decode cX2_smash 22 = .ok (.iload_n 2, 1) := by decide +kernel
theorem dX2_smash_23 : decode cX2_smash 23 = .ok (.iconst 1, 1) := by decide +kernel
theorem dX2_smash_24 : decode cX2_smash 24 = .ok (.iastore, 1) := by decide +kernel
theorem dX2_smash_25 : decode cX2_smash 25 = .ok (.iinc 2 1, 3) := by decide +kernel
theorem dX2_smash_28 : decode cX2_smash 28 = .ok (.goto (-26), 3) := by decide +kernel
theorem dX2_smash_31 : decode cX2_smash 31 = .ok (.return_, 1) := by decide +kernel
theorem dX2_swapPlaces_0 : decode cX2_swapPlaces 0 = .ok (.aload_n 0, 1) := by decide +kernel
theorem dX2_swapPlaces_1 : decode cX2_swapPlaces 1 = .ok (.getfield 21, 3) := by decide +kernel
theorem dX2_swapPlaces_4 : decode cX2_swapPlaces 4 = .ok (.iload_n 1, 1) := by decide +kernel
theorem dX2_swapPlaces_5 : decode cX2_swapPlaces 5 = .ok (.iaload, 1) := by decide +kernel
theorem dX2_swapPlaces_6 : decode cX2_swapPlaces 6 = .ok (.istore_n 3, 1) := by decide +kernel
theorem dX2_swapPlaces_7 : decode cX2_swapPlaces 7 = .ok (.aload_n 0, 1) := by decide +kernel
theorem dX2_swapPlaces_8 : decode cX2_swapPlaces 8 = .ok (.getfield 21, 3) := by decide +kernel
theorem dX2_swapPlaces_11 : decode cX2_swapPlaces 11 = .ok (.iload_n 1, 1) := by decide +kernel
theorem dX2_swapPlaces_12 : decode cX2_swapPlaces 12 = .ok (.aload_n 0, 1) := by decide +kernel
theorem dX2_swapPlaces_13 : decode cX2_swapPlaces 13 = .ok (.getfield 21, 3) := by decide +kernel
theorem dX2_swapPlaces_16 : decode cX2_swapPlaces 16 = .ok (.iload_n 2, 1) := by decide +kernel
theorem dX2_swapPlaces_17 : decode cX2_swapPlaces 17 = .ok (.iaload, 1) := by decide +kernel
theorem dX2_swapPlaces_18 : decode cX2_swapPlaces 18 = .ok (.iastore, 1) := by decide +kernel
theorem dX2_swapPlaces_19 : decode cX2_swapPlaces 19 = .ok (.aload_n 0, 1) := by decide +kernel
theorem dX2_swapPlaces_20 : decode cX2_swapPlaces 20 = .ok (.getfield 21, 3) := by decide +kernel
theorem dX2_swapPlaces_23 : decode cX2_swapPlaces 23 = .ok (.iload_n 2, 1) := by decide +kernel
theorem dX2_swapPlaces_24 : decode cX2_swapPlaces 24 = .ok (.iload_n 3, 1) := by decide +kernel
theorem dX2_swapPlaces_25 : decode cX2_swapPlaces 25 = .ok (.iastore, 1) := by decide +kernel
theorem dX2_swapPlaces_26 : decode cX2_swapPlaces 26 = .ok (.return_, 1) := by decide +kernel
theorem dX2_those_0 : decode cX2_those 0 = .ok (.iconst 0, 1) := by decide +kernel
theorem dX2_those_1 : decode cX2_those 1 = .ok (.istore_n 2, 1) := by decide +kernel
theorem dX2_those_2 : decode cX2_those 2 = .ok (.iconst 0, 1) := by decide +kernel
theorem dX2_those_3 : decode cX2_those 3 = .ok (.istore_n 3, 1) := by decide +kernel
theorem dX2_those_4 : decode cX2_those 4 = .ok (.iload_n 3, 1) := by decide +kernel
theorem dX2_those_5 : decode cX2_those 5 = .ok (.aload_n 0, 1) := by decide +kernel
theorem dX2_those_6 : decode cX2_those 6 = .ok (.getfield 27, 3) := by decide +kernel
theorem dX2_those_9 : decode cX2_those 9 = .ok (.if_icmp .ge 25, 3) := by decide +kernel
theorem dX2_those_12 : decode cX2_those 12 = .ok (.aload_n 0, 1) := by decide +kernel
theorem dX2_those_13 : decode cX2_those 13 = .ok (.getfield 24, 3) := by decide +kernel
theorem dX2_those_16 : decode cX2_those 16 = .ok (.iload_n 3, 1) := by decide +kernel
theorem dX2_those_17 : decode cX2_those 17 = .ok (.iaload, 1) := by decide +kernel
theorem dX2_those_18 : decode cX2_those 18 = .ok (.iload_n 1, 1) := by decide +kernel
theorem dX2_those_19 : decode cX2_those 19 = .ok (.if_icmp .ne 9, 3) := by decide +kernel
theorem dX2_those_22 : decode cX2_those 22 = .ok (.iload_n 2, 1) := by decide +kernel
theorem dX2_those_23 : decode cX2_those 23 = .ok (.iconst 1, 1) := by decide +kernel
theorem dX2_those_24 : decode cX2_those 24 = .ok (.iload_n 3, 1) := by decide +kernel
theorem dX2_those_25 : decode cX2_those 25 = .ok (.ishl, 1) := by decide +kernel
theorem dX2_those_26 : decode cX2_those 26 = .ok (.ior, 1) := by decide +kernel
theorem dX2_those_27 : decode cX2_those 27 = .ok (.istore_n 2, 1) := by decide +kernel
theorem dX2_those_28 : decode cX2_those 28 = .ok (.iinc 3 1, 3) := by decide +kernel
theorem dX2_those_31 : decode cX2_those 31 = .ok (.goto (-27), 3) := by decide +kernel
theorem dX2_those_34 : decode cX2_those 34 = .ok (.iload_n 2, 1) := by decide +kernel
theorem dX2_those_35 : decode cX2_those 35 = .ok (.ireturn, 1) := by decide +kernel
theorem dX2_wholeBehind_0 : decode cX2_wholeBehind 0 = .ok (.iconst 0, 1) := by decide +kernel
theorem dX2_wholeBehind_1 : decode cX2_wholeBehind 1 = .ok (.istore_n 2, 1) := by decide +kernel
theorem dX2_wholeBehind_2 : decode cX2_wholeBehind 2 = .ok (.iconst 0, 1) := by decide +kernel
theorem dX2_wholeBehind_3 : decode cX2_wholeBehind 3 = .ok (.istore_n 3, 1) := by decide +kernel
theorem dX2_wholeBehind_4 : decode cX2_wholeBehind 4 = .ok (.iload_n 3, 1) := by decide +kernel
theorem dX2_wholeBehind_5 : decode cX2_wholeBehind 5 = .ok (.aload_n 0, 1) := by decide +kernel
theorem dX2_wholeBehind_6 : decode cX2_wholeBehind 6 = .ok (.getfield 27, 3) := by decide +kernel
theorem dX2_wholeBehind_9 : decode cX2_wholeBehind 9 = .ok (.if_icmp .ge 34, 3) := by decide +kernel
theorem dX2_wholeBehind_12 : decode cX2_wholeBehind 12 = .ok (.aload_n 0, 1) := by decide +kernel
theorem dX2_wholeBehind_13 : decode cX2_wholeBehind 13 = .ok (.getfield 24, 3) := by decide +kernel
theorem dX2_wholeBehind_16 : decode cX2_wholeBehind 16 = .ok (.iload_n 3, 1) := by decide +kernel
theorem dX2_wholeBehind_17 : decode cX2_wholeBehind 17 = .ok (.iaload, 1) := by decide +kernel
theorem dX2_wholeBehind_18 : decode cX2_wholeBehind 18 = .ok (.ifCond .ne 19, 3) := by decide +kernel
theorem dX2_wholeBehind_21 : decode cX2_wholeBehind 21 = .ok (.aload_n 0, 1) := by decide +kernel
theorem dX2_wholeBehind_22 : decode cX2_wholeBehind 22 = .ok (.getfield 18, 3) := by decide +kernel
theorem dX2_wholeBehind_25 : decode cX2_wholeBehind 25 = .ok (.iload_n 3, 1) := by decide +kernel
theorem dX2_wholeBehind_26 : decode cX2_wholeBehind 26 = .ok (.iaload, 1) := by decide +kernel
theorem dX2_wholeBehind_27 : decode cX2_wholeBehind 27 = .ok (.iload_n 1, 1) := by decide +kernel
theorem dX2_wholeBehind_28 : decode cX2_wholeBehind 28 = .ok (.if_icmp .le 9, 3) := by decide +kernel
theorem dX2_wholeBehind_31 : decode cX2_wholeBehind 31 = .ok (.iload_n 2, 1) := by decide +kernel
theorem dX2_wholeBehind_32 : decode cX2_wholeBehind 32 = .ok (.iconst 1, 1) := by decide +kernel
theorem dX2_wholeBehind_33 : decode cX2_wholeBehind 33 = .ok (.iload_n 3, 1) := by decide +kernel
theorem dX2_wholeBehind_34 : decode cX2_wholeBehind 34 = .ok (.ishl, 1) := by decide +kernel
theorem dX2_wholeBehind_35 : decode cX2_wholeBehind 35 = .ok (.ior, 1) := by decide +kernel
theorem dX2_wholeBehind_36 : decode cX2_wholeBehind 36 = .ok (.istore_n 2, 1) := by decide +kernel
theorem dX2_wholeBehind_37 : decode cX2_wholeBehind 37 = .ok (.iinc 3 1, 3) := by decide +kernel
theorem dX2_wholeBehind_40 : decode cX2_wholeBehind 40 = .ok (.goto (-36), 3) := by decide +kernel
theorem dX2_wholeBehind_43 : decode cX2_wholeBehind 43 = .ok (.iload_n 2, 1) := by decide +kernel
theorem dX2_wholeBehind_44 : decode cX2_wholeBehind 44 = .ok (.ireturn, 1) := by decide +kernel
end
section
theorem dX3_init_0 : decode cX3_init 0 = .ok (.aload_n 0, 1) := by decide +kernel
theorem dX3_init_1 : decode cX3_init 1 = .ok (.invokespecial 3, 3) := by decide +kernel
theorem dX3_init_4 : decode cX3_init 4 = .ok (.aload_n 0, 1) := by decide +kernel
theorem dX3_init_5 : decode cX3_init 5 = .ok (.bipush 12, 2) := by decide +kernel
theorem dX3_init_7 : decode cX3_init 7 = .ok (.newarray .int, 2) := by decide +kernel
theorem dX3_init_9 : decode cX3_init 9 = .ok (.putfield 9, 3) := by decide +kernel
theorem dX3_init_12 : decode cX3_init 12 = .ok (.aload_n 0, 1) := by decide +kernel
theorem dX3_init_13 : decode cX3_init 13 = .ok (.bipush 8, 2) := by decide +kernel
theorem dX3_init_15 : decode cX3_init 15 = .ok (.newarray .int, 2) := by decide +kernel
theorem dX3_init_17 : decode cX3_init 17 = .ok (.putfield 15, 3) := by decide +kernel
theorem dX3_init_20 : decode cX3_init 20 = .ok (.aload_n 0, 1) := by decide +kernel
theorem dX3_init_21 : decode cX3_init 21 = .ok (.bipush 8, 2) := by decide +kernel
theorem dX3_init_23 : decode cX3_init 23 = .ok (.newarray .int, 2) := by decide +kernel
theorem dX3_init_25 : decode cX3_init 25 = .ok (.putfield 18, 3) := by decide +kernel
theorem dX3_init_28 : decode cX3_init 28 = .ok (.return_, 1) := by decide +kernel
theorem dX3_tune_0 : decode cX3_tune 0 = .ok (.aload_n 0, 1) := by decide +kernel
theorem dX3_tune_1 : decode cX3_tune 1 = .ok (.aload_n 1, 1) := by decide +kernel
theorem dX3_tune_2 : decode cX3_tune 2 = .ok (.getfield 21, 3) := by decide +kernel
theorem dX3_tune_5 : decode cX3_tune 5 = .ok (.putfield 27, 3) := by decide +kernel
theorem dX3_tune_8 : decode cX3_tune 8 = .ok (.aload_n 0, 1) := by decide +kernel
theorem dX3_tune_9 : decode cX3_tune 9 = .ok (.iconst 0, 1) := by decide +kernel
theorem dX3_tune_10 : decode cX3_tune 10 = .ok (.putfield 28, 3) := by decide +kernel
theorem dX3_tune_13 : decode cX3_tune 13 = .ok (.iconst 0, 1) := by decide +kernel
theorem dX3_tune_14 : decode cX3_tune 14 = .ok (.istore_n 2, 1) := by decide +kernel
theorem dX3_tune_15 : decode cX3_tune 15 = .ok (.iload_n 2, 1) := by decide +kernel
theorem dX3_tune_16 : decode cX3_tune 16 = .ok (.bipush 12, 2) := by decide +kernel
theorem dX3_tune_18 : decode cX3_tune 18 = .ok (.if_icmp .ge 20, 3) := by decide +kernel
theorem dX3_tune_21 : decode cX3_tune 21 = .ok (.aload_n 0, 1) := by decide +kernel
theorem dX3_tune_22 : decode cX3_tune 22 = .ok (.getfield 9, 3) := by decide +kernel
theorem dX3_tune_25 : decode cX3_tune 25 = .ok (.iload_n 2, 1) := by decide +kernel
theorem dX3_tune_26 : decode cX3_tune 26 = .ok (.aload_n 1, 1) := by decide +kernel
theorem dX3_tune_27 : decode cX3_tune 27 = .ok (.iload_n 2, 1) := by decide +kernel
theorem dX3_tune_28 : decode cX3_tune 28 = .ok (.invokestatic 31, 3) := by decide +kernel
theorem dX3_tune_31 : decode cX3_tune 31 = .ok (.iastore, 1) := by decide +kernel
theorem dX3_tune_32 : decode cX3_tune 32 = .ok (.iinc 2 1, 3) := by decide +kernel
theorem dX3_tune_35 : decode cX3_tune 35 = .ok (.goto (-20), 3) := by decide +kernel
theorem dX3_tune_38 : decode cX3_tune 38 = .ok (.iconst 0, 1) := by decide +kernel
theorem dX3_tune_39 : decode cX3_tune 39 = .ok (.istore_n 2, 1) := by decide +kernel
theorem dX3_tune_40 : decode cX3_tune 40 = .ok (.iload_n 2, 1) := by decide +kernel
theorem dX3_tune_41 : decode cX3_tune 41 = .ok (.aload_n 0, 1) := by decide +kernel
theorem dX3_tune_42 : decode cX3_tune 42 = .ok (.getfield 27, 3) := by decide +kernel
theorem dX3_tune_45 : decode cX3_tune 45 = .ok (.if_icmp .ge 20, 3) := by decide +kernel
theorem dX3_tune_48 : decode cX3_tune 48 = .ok (.aload_n 0, 1) := by decide +kernel
theorem dX3_tune_49 : decode cX3_tune 49 = .ok (.getfield 15, 3) := by decide +kernel
theorem dX3_tune_52 : decode cX3_tune 52 = .ok (.iload_n 2, 1) := by decide +kernel
theorem dX3_tune_53 : decode cX3_tune 53 = .ok (.aload_n 1, 1) := by decide +kernel
theorem dX3_tune_54 : decode cX3_tune 54 = .ok (.iload_n 2, 1) := by decide +kernel
theorem dX3_tune_55 : decode cX3_tune 55 = .ok (.invokestatic 35, 3) := by decide +kernel
theorem dX3_tune_58 : decode cX3_tune 58 = .ok (.iastore, 1) := by decide +kernel
theorem dX3_tune_59 : decode cX3_tune 59 = .ok (.iinc 2 1, 3) := by decide +kernel
theorem dX3_tune_62 : decode cX3_tune 62 = .ok (.goto (-22), 3) := by decide +kernel
theorem dX3_tune_65 : decode cX3_tune 65 = .ok (.iconst 0, 1) := by decide +kernel
theorem dX3_tune_66 : decode cX3_tune 66 = .ok (.istore_n 2, 1) := by decide +kernel
theorem dX3_tune_67 : decode cX3_tune 67 = .ok (.iload_n 2, 1) := by decide +kernel
theorem dX3_tune_68 : decode cX3_tune 68 = .ok (.aload_n 0, 1) := by decide +kernel
theorem dX3_tune_69 : decode cX3_tune 69 = .ok (.getfield 27, 3) := by decide +kernel
theorem dX3_tune_72 : decode cX3_tune 72 = .ok (.if_icmp .ge 53, 3) := by decide +kernel
theorem dX3_tune_75 : decode cX3_tune 75 = .ok (.aload_n 0, 1) := by decide +kernel
theorem dX3_tune_76 : decode cX3_tune 76 = .ok (.getfield 18, 3) := by decide +kernel
theorem dX3_tune_79 : decode cX3_tune 79 = .ok (.iload_n 2, 1) := by decide +kernel
theorem dX3_tune_80 : decode cX3_tune 80 = .ok (.aload_n 0, 1) := by decide +kernel
theorem dX3_tune_81 : decode cX3_tune 81 = .ok (.aload_n 1, 1) := by decide +kernel
theorem dX3_tune_82 : decode cX3_tune 82 = .ok (.getfield 38, 3) := by decide +kernel
theorem dX3_tune_85 : decode cX3_tune 85 = .ok (.iload_n 2, 1) := by decide +kernel
theorem dX3_tune_86 : decode cX3_tune 86 = .ok (.iaload, 1) := by decide +kernel
theorem dX3_tune_87 : decode cX3_tune 87 = .ok (.aload_n 1, 1) := by decide +kernel
theorem dX3_tune_88 : decode cX3_tune 88 = .ok (.getfield 41, 3) := by decide +kernel
theorem dX3_tune_91 : decode cX3_tune 91 = .ok (.iload_n 2, 1) := by decide +kernel
theorem dX3_tune_92 : decode cX3_tune 92 = .ok (.iaload, 1) := by decide +kernel
theorem dX3_tune_93 : decode cX3_tune 93 = .ok (.invokevirtual 44, 3) := by decide +kernel
theorem dX3_tune_96 : decode cX3_tune 96 = .ok (.iastore, 1) := by decide +kernel
theorem dX3_tune_97 : decode cX3_tune 97 = .ok (.aload_n 1, 1) := by decide +kernel
theorem dX3_tune_98 : decode cX3_tune 98 = .ok (.getfield 48, 3) := by decide +kernel
theorem dX3_tune_101 : decode cX3_tune 101 = .ok (.iload_n 2, 1) := by decide +kernel
theorem dX3_tune_102 : decode cX3_tune 102 = .ok (.iaload, 1) := by decide +kernel
theorem dX3_tune_103 : decode cX3_tune 103 = .ok (.iconst 3, 1) := by decide +kernel
theorem dX3_tune_104 : decode cX3_tune 104 = .ok (.if_icmp .ne 15, 3) := by decide +kernel
theorem dX3_tune_107 : decode cX3_tune 107 = .ok (.aload_n 0, 1) := by decide +kernel
theorem dX3_tune_108 : decode cX3_tune 108 = .ok (.dup, 1) := by decide +kernel
theorem dX3_tune_109 : decode cX3_tune 109 = .ok (.getfield 28, 3) := by decide +kernel
theorem dX3_tune_112 : decode cX3_tune 112 = .ok (.iconst 1, 1) := by decide +kernel
theorem dX3_tune_113 : decode cX3_tune 113 = .ok (.iload_n 2, 1) := by decide +kernel
theorem dX3_tune_114 : decode cX3_tune 114 = .ok (.ishl, 1) := by decide +kernel
theorem dX3_tune_115 : decode cX3_tune 115 = .ok (.ior, 1) := by decide +kernel
theorem dX3_tune_116 : decode cX3_tune 116 = .ok (.putfield 28, 3) := by decide +kernel
theorem dX3_tune_119 : decode cX3_tune 119 = .ok (.iinc 2 1, 3) := by decide +kernel
theorem dX3_tune_122 : decode cX3_tune 122 = .ok (.goto (-55), 3) := by decide +kernel
theorem dX3_tune_125 : decode cX3_tune 125 = .ok (.return_, 1) := by decide +kernel
theorem dX3_answeringTo_0 : decode cX3_answeringTo 0 = .ok (.iconst 0, 1) := by decide +kernel
theorem dX3_answeringTo_1 : decode cX3_answeringTo 1 = .ok (.istore_n 2, 1) := by decide +kernel
theorem dX3_answeringTo_2 : decode cX3_answeringTo 2 = .ok (.iconst 0, 1) := by decide +kernel
theorem dX3_answeringTo_3 : decode cX3_answeringTo 3 = .ok (.istore_n 3, 1) := by decide +kernel
theorem dX3_answeringTo_4 : decode cX3_answeringTo 4 = .ok (.iload_n 3, 1) := by decide +kernel
theorem dX3_answeringTo_5 : decode cX3_answeringTo 5 = .ok (.aload_n 0, 1) := by decide +kernel
theorem dX3_answeringTo_6 : decode cX3_answeringTo 6 = .ok (.getfield 21, 3) := by decide +kernel
theorem dX3_answeringTo_9 : decode cX3_answeringTo 9 = .ok (.if_icmp .ge 37, 3) := by decide +kernel
theorem dX3_answeringTo_12 : decode cX3_answeringTo 12 = .ok (.aload_n 0, 1) := by decide +kernel
theorem dX3_answeringTo_13 : decode cX3_answeringTo 13 = .ok (.getfield 48, 3) := by decide +kernel
theorem dX3_answeringTo_16 : decode cX3_answeringTo 16 = .ok (.iload_n 3, 1) := by decide +kernel
theorem dX3_answeringTo_17 : decode cX3_answeringTo 17 = .ok (.iaload, 1) := by decide +kernel
theorem dX3_answeringTo_18 : decode cX3_answeringTo 18 = .ok (.aload_n 0, 1) := by decide +kernel
theorem dX3_answeringTo_19 : decode cX3_answeringTo 19 = .ok (.getfield 38, 3) := by decide +kernel
theorem dX3_answeringTo_22 : decode cX3_answeringTo 22 = .ok (.iload_n 3, 1) := by decide +kernel
theorem dX3_answeringTo_23 : decode cX3_answeringTo 23 = .ok (.iaload, 1) := by decide +kernel
theorem dX3_answeringTo_24 : decode cX3_answeringTo 24 = .ok (.iload_n 1, 1) := by decide +kernel
theorem dX3_answeringTo_25 : decode cX3_answeringTo 25 = .ok (.invokestatic 51, 3) := by decide +kernel
theorem dX3_answeringTo_28 : decode cX3_answeringTo 28 = .ok (.invokestatic 54, 3) := by decide +kernel
theorem dX3_answeringTo_31 : decode cX3_answeringTo 31 = .ok (.ifCond .eq 9, 3) := by decide +kernel
theorem dX3_answeringTo_34 : decode cX3_answeringTo 34 = .ok (.iload_n 2, 1) := by decide +kernel
theorem dX3_answeringTo_35 : decode cX3_answeringTo 35 = .ok (.iconst 1, 1) := by decide +kernel
theorem dX3_answeringTo_36 : decode cX3_answeringTo 36 = .ok (.iload_n 3, 1) := by decide +kernel
theorem dX3_answeringTo_37 : decode cX3_answeringTo 37 = .ok (.ishl, 1) := by decide +kernel
theorem dX3_answeringTo_38 : decode cX3_answeringTo 38 = .ok (.ior, 1) := by decide +kernel
theorem dX3_answeringTo_39 : decode cX3_answeringTo 39 = .ok (.istore_n 2, 1) := by decide +kernel
theorem dX3_answeringTo_40 : decode cX3_answeringTo 40 = .ok (.iinc 3 1, 3) := by decide +kernel
theorem dX3_answeringTo_43 : decode cX3_answeringTo 43 = .ok (.goto (-39), 3) := by decide +kernel
theorem dX3_answeringTo_46 : decode cX3_answeringTo 46 = .ok (.iload_n 2, 1) := by decide +kernel
theorem dX3_answeringTo_47 : decode cX3_answeringTo 47 = .ok (.ireturn, 1) := by decide +kernel
theorem dX3_nearTo_0 : decode cX3_nearTo 0 = .ok (.iconst 0, 1) := by decide +kernel
theorem dX3_nearTo_1 : decode cX3_nearTo 1 = .ok (.istore_n 2, 1) := by decide +kernel
theorem dX3_nearTo_2 : decode cX3_nearTo 2 = .ok (.iconst 0, 1) := by decide +kernel
theorem dX3_nearTo_3 : decode cX3_nearTo 3 = .ok (.istore_n 3, 1) := by decide +kernel
theorem dX3_nearTo_4 : decode cX3_nearTo 4 = .ok (.iload_n 3, 1) := by decide +kernel
theorem dX3_nearTo_5 : decode cX3_nearTo 5 = .ok (.aload_n 0, 1) := by decide +kernel
theorem dX3_nearTo_6 : decode cX3_nearTo 6 = .ok (.getfield 21, 3) := by decide +kernel
theorem dX3_nearTo_9 : decode cX3_nearTo 9 = .ok (.if_icmp .ge 33, 3) := by decide +kernel
theorem dX3_nearTo_12 : decode cX3_nearTo 12 = .ok (.aload_n 0, 1) := by decide +kernel
theorem dX3_nearTo_13 : decode cX3_nearTo 13 = .ok (.getfield 41, 3) := by decide +kernel
theorem dX3_nearTo_16 : decode cX3_nearTo 16 = .ok (.iload_n 3, 1) := by decide +kernel
theorem dX3_nearTo_17 : decode cX3_nearTo 17 = .ok (.iaload, 1) := by decide +kernel
theorem dX3_nearTo_18 : decode cX3_nearTo 18 = .ok (.iload_n 1, 1) := by decide +kernel
theorem dX3_nearTo_19 : decode cX3_nearTo 19 = .ok (.isub, 1) := by decide +kernel
theorem dX3_nearTo_20 : decode cX3_nearTo 20 = .ok (.invokestatic 58, 3) := by decide +kernel
theorem dX3_nearTo_23 : decode cX3_nearTo 23 = .ok (.aload_n 0, 1) := by decide +kernel
theorem dX3_nearTo_24 : decode cX3_nearTo 24 = .ok (.getfield 64, 3) := by decide +kernel
theorem dX3_nearTo_27 : decode cX3_nearTo 27 = .ok (.if_icmp .gt 9, 3) := by decide +kernel
theorem dX3_nearTo_30 : decode cX3_nearTo 30 = .ok (.iload_n 2, 1) := by decide +kernel
theorem dX3_nearTo_31 : decode cX3_nearTo 31 = .ok (.iconst 1, 1) := by decide +kernel
theorem dX3_nearTo_32 : decode cX3_nearTo 32 = .ok (.iload_n 3, 1) := by decide +kernel
theorem dX3_nearTo_33 : decode cX3_nearTo 33 = .ok (.ishl, 1) := by decide +kernel
theorem dX3_nearTo_34 : decode cX3_nearTo 34 = .ok (.ior, 1) := by decide +kernel
theorem dX3_nearTo_35 : decode cX3_nearTo 35 = .ok (.istore_n 2, 1) := by decide +kernel
theorem dX3_nearTo_36 : decode cX3_nearTo 36 = .ok (.iinc 3 1, 3) := by decide +kernel
theorem dX3_nearTo_39 : decode cX3_nearTo 39 = .ok (.goto (-35), 3) := by decide +kernel
theorem dX3_nearTo_42 : decode cX3_nearTo 42 = .ok (.iload_n 2, 1) := by decide +kernel
theorem dX3_nearTo_43 : decode cX3_nearTo 43 = .ok (.ireturn, 1) := by decide +kernel
theorem dX3_apart_0 : decode cX3_apart 0 = .ok (.iload_n 0, 1) := by decide +kernel
theorem dX3_apart_1 : decode cX3_apart 1 = .ok (.iload_n 1, 1) := by decide +kernel
theorem dX3_apart_2 : decode cX3_apart 2 = .ok (.isub, 1) := by decide +kernel
theorem dX3_apart_3 : decode cX3_apart 3 = .ok (.invokestatic 58, 3) := by decide +kernel
theorem dX3_apart_6 : decode cX3_apart 6 = .ok (.istore_n 2, 1) := by decide +kernel
theorem dX3_apart_7 : decode cX3_apart 7 = .ok (.iload_n 2, 1) := by decide +kernel
theorem dX3_apart_8 : decode cX3_apart 8 = .ok (.bipush 12, 2) := by decide +kernel
theorem dX3_apart_10 : decode cX3_apart 10 = .ok (.iload_n 2, 1) := by decide +kernel
theorem dX3_apart_11 : decode cX3_apart 11 = .ok (.isub, 1) := by decide +kernel
theorem dX3_apart_12 : decode cX3_apart 12 = .ok (.invokestatic 67, 3) := by decide +kernel
theorem dX3_apart_15 : decode cX3_apart 15 = .ok (.ireturn, 1) := by decide +kernel
theorem dX3_answers_0 : decode cX3_answers 0 = .ok (.iload_n 0, 1) := by decide +kernel
theorem dX3_answers_1 : decode cX3_answers 1 = .ok (.tableswitch 84 1 5 #[35, 45, 35, 56, 67], 35) := by decide +kernel
theorem dX3_answers_36 : decode cX3_answers 36 = .ok (.iload_n 1, 1) := by decide +kernel
theorem dX3_answers_37 : decode cX3_answers 37 = .ok (.ifCond .ne 7, 3) := by decide +kernel
theorem dX3_answers_40 : decode cX3_answers 40 = .ok (.iconst 1, 1) := by decide +kernel
theorem dX3_answers_41 : decode cX3_answers 41 = .ok (.goto 4, 3) := by decide +kernel
theorem dX3_answers_44 : decode cX3_answers 44 = .ok (.iconst 0, 1) := by decide +kernel
theorem dX3_answers_45 : decode cX3_answers 45 = .ok (.ireturn, 1) := by decide +kernel
theorem dX3_answers_46 : decode cX3_answers 46 = .ok (.iload_n 1, 1) := by decide +kernel
theorem dX3_answers_47 : decode cX3_answers 47 = .ok (.iconst 1, 1) := by decide +kernel
theorem dX3_answers_48 : decode cX3_answers 48 = .ok (.if_icmp .gt 7, 3) := by decide +kernel
theorem dX3_answers_51 : decode cX3_answers 51 = .ok (.iconst 1, 1) := by decide +kernel
theorem dX3_answers_52 : decode cX3_answers 52 = .ok (.goto 4, 3) := by decide +kernel
theorem dX3_answers_55 : decode cX3_answers 55 = .ok (.iconst 0, 1) := by decide +kernel
theorem dX3_answers_56 : decode cX3_answers 56 = .ok (.ireturn, 1) := by decide +kernel
theorem dX3_answers_57 : decode cX3_answers 57 = .ok (.iload_n 1, 1) := by decide +kernel
theorem dX3_answers_58 : decode cX3_answers 58 = .ok (.iconst 5, 1) := by decide +kernel
theorem dX3_answers_59 : decode cX3_answers 59 = .ok (.if_icmp .ne 7, 3) := by decide +kernel
theorem dX3_answers_62 : decode cX3_answers 62 = .ok (.iconst 1, 1) := by decide +kernel
theorem dX3_answers_63 : decode cX3_answers 63 = .ok (.goto 4, 3) := by decide +kernel
theorem dX3_answers_66 : decode cX3_answers 66 = .ok (.iconst 0, 1) := by decide +kernel
theorem dX3_answers_67 : decode cX3_answers 67 = .ok (.ireturn, 1) := by decide +kernel
theorem dX3_answers_68 : decode cX3_answers 68 = .ok (.iload_n 1, 1) := by decide +kernel
theorem dX3_answers_69 : decode cX3_answers 69 = .ok (.iconst 5, 1) := by decide +kernel
theorem dX3_answers_70 : decode cX3_answers 70 = .ok (.if_icmp .eq 9, 3) := by decide +kernel
theorem dX3_answers_73 : decode cX3_answers 73 = .ok (.iload_n 1, 1) := by decide +kernel
theorem dX3_answers_74 : decode cX3_answers 74 = .ok (.bipush 6, 2) := by decide +kernel
theorem dX3_answers_76 : decode cX3_answers 76 = .ok (.if_icmp .ne 7, 3) := by decide +kernel
theorem dX3_answers_79 : decode cX3_answers 79 = .ok (.iconst 1, 1) := by decide +kernel
theorem dX3_answers_80 : decode cX3_answers 80 = .ok (.goto 4, 3) := by decide +kernel
theorem dX3_answers_83 : decode cX3_answers 83 = .ok (.iconst 0, 1) := by decide +kernel
theorem dX3_answers_84 : decode cX3_answers 84 = .ok (.ireturn, 1) := by decide +kernel
theorem dX3_answers_85 : decode cX3_answers 85 = .ok (.iconst 0, 1) := by decide +kernel
theorem dX3_answers_86 : decode cX3_answers 86 = .ok (.ireturn, 1) := by decide +kernel
theorem dX3_struckFrom_0 : decode cX3_struckFrom 0 = .ok (.iload_n 1, 1) := by decide +kernel
theorem dX3_struckFrom_1 : decode cX3_struckFrom 1 = .ok (.iconst 0, 1) := by decide +kernel
theorem dX3_struckFrom_2 : decode cX3_struckFrom 2 = .ok (.bipush 11, 2) := by decide +kernel
theorem dX3_struckFrom_4 : decode cX3_struckFrom 4 = .ok (.invokestatic 70, 3) := by decide +kernel
theorem dX3_struckFrom_7 : decode cX3_struckFrom 7 = .ok (.ifCond .eq 21, 3) := by decide +kernel
theorem dX3_struckFrom_10 : decode cX3_struckFrom 10 = .ok (.iload_n 2, 1) := by decide +kernel
theorem dX3_struckFrom_11 : decode cX3_struckFrom 11 = .ok (.iconst 0, 1) := by decide +kernel
theorem dX3_struckFrom_12 : decode cX3_struckFrom 12 = .ok (.aload_n 0, 1) := by decide +kernel
theorem dX3_struckFrom_13 : decode cX3_struckFrom 13 = .ok (.getfield 27, 3) := by decide +kernel
theorem dX3_struckFrom_16 : decode cX3_struckFrom 16 = .ok (.iconst 1, 1) := by decide +kernel
theorem dX3_struckFrom_17 : decode cX3_struckFrom 17 = .ok (.isub, 1) := by decide +kernel
theorem dX3_struckFrom_18 : decode cX3_struckFrom 18 = .ok (.invokestatic 70, 3) := by decide +kernel
theorem dX3_struckFrom_21 : decode cX3_struckFrom 21 = .ok (.ifCond .eq 7, 3) := by decide +kernel
theorem dX3_struckFrom_24 : decode cX3_struckFrom 24 = .ok (.iconst 1, 1) := by decide +kernel
theorem dX3_struckFrom_25 : decode cX3_struckFrom 25 = .ok (.goto 4, 3) := by decide +kernel
theorem dX3_struckFrom_28 : decode cX3_struckFrom 28 = .ok (.iconst 0, 1) := by decide +kernel
theorem dX3_struckFrom_29 : decode cX3_struckFrom 29 = .ok (.istore_n 3, 1) := by decide +kernel
theorem dX3_struckFrom_30 : decode cX3_struckFrom 30 = .ok (.iload_n 3, 1) := by decide +kernel
theorem dX3_struckFrom_31 : decode cX3_struckFrom 31 = .ok (.ifCond .eq 19, 3) := by decide +kernel
theorem dX3_struckFrom_34 : decode cX3_struckFrom 34 = .ok (.aload_n 0, 1) := by decide +kernel
theorem dX3_struckFrom_35 : decode cX3_struckFrom 35 = .ok (.getfield 9, 3) := by decide +kernel
theorem dX3_struckFrom_38 : decode cX3_struckFrom 38 = .ok (.iload_n 1, 1) := by decide +kernel
theorem dX3_struckFrom_39 : decode cX3_struckFrom 39 = .ok (.iaload, 1) := by decide +kernel
theorem dX3_struckFrom_40 : decode cX3_struckFrom 40 = .ok (.aload_n 0, 1) := by decide +kernel
theorem dX3_struckFrom_41 : decode cX3_struckFrom 41 = .ok (.getfield 15, 3) := by decide +kernel
theorem dX3_struckFrom_44 : decode cX3_struckFrom 44 = .ok (.iload_n 2, 1) := by decide +kernel
theorem dX3_struckFrom_45 : decode cX3_struckFrom 45 = .ok (.iaload, 1) := by decide +kernel
theorem dX3_struckFrom_46 : decode cX3_struckFrom 46 = .ok (.iand, 1) := by decide +kernel
theorem dX3_struckFrom_47 : decode cX3_struckFrom 47 = .ok (.goto 4, 3) := by decide +kernel
theorem dX3_struckFrom_50 : decode cX3_struckFrom 50 = .ok (.iconst 0, 1) := by decide +kernel
theorem dX3_struckFrom_51 : decode cX3_struckFrom 51 = .ok (.ireturn, 1) := by decide +kernel
theorem dX3_broken_0 : decode cX3_broken 0 = .ok (.iload_n 3, 1) := by decide +kernel
theorem dX3_broken_1 : decode cX3_broken 1 = .ok (.istore 4, 2) := by decide +kernel
theorem dX3_broken_3 : decode cX3_broken 3 = .ok (.iload 4, 2) := by decide +kernel
theorem dX3_broken_5 : decode cX3_broken 5 = .ok (.aload_n 0, 1) := by decide +kernel
theorem dX3_broken_6 : decode cX3_broken 6 = .ok (.iload_n 1, 1) := by decide +kernel
theorem dX3_broken_7 : decode cX3_broken 7 = .ok (.iload_n 2, 1) := by decide +kernel
theorem dX3_broken_8 : decode cX3_broken 8 = .ok (.invokevirtual 44, 3) := by decide +kernel
theorem dX3_broken_11 : decode cX3_broken 11 = .ok (.iand, 1) := by decide +kernel
theorem dX3_broken_12 : decode cX3_broken 12 = .ok (.aload_n 0, 1) := by decide +kernel
theorem dX3_broken_13 : decode cX3_broken 13 = .ok (.getfield 28, 3) := by decide +kernel
theorem dX3_broken_16 : decode cX3_broken 16 = .ok (.iconst (-1), 1) := by decide +kernel
theorem dX3_broken_17 : decode cX3_broken 17 = .ok (.ixor, 1) := by decide +kernel
theorem dX3_broken_18 : decode cX3_broken 18 = .ok (.iand, 1) := by decide +kernel
theorem dX3_broken_19 : decode cX3_broken 19 = .ok (.istore 5, 2) := by decide +kernel
theorem dX3_broken_21 : decode cX3_broken 21 = .ok (.aload_n 0, 1) := by decide +kernel
theorem dX3_broken_22 : decode cX3_broken 22 = .ok (.iconst 0, 1) := by decide +kernel
theorem dX3_broken_23 : decode cX3_broken 23 = .ok (.putfield 74, 3) := by decide +kernel
theorem dX3_broken_26 : decode cX3_broken 26 = .ok (.iload 5, 2) := by decide +kernel
theorem dX3_broken_28 : decode cX3_broken 28 = .ok (.ifCond .eq 45, 3) := by decide +kernel
theorem dX3_broken_31 : decode cX3_broken 31 = .ok (.aload_n 0, 1) := by decide +kernel
theorem dX3_broken_32 : decode cX3_broken 32 = .ok (.getfield 74, 3) := by decide +kernel
theorem dX3_broken_35 : decode cX3_broken 35 = .ok (.bipush 8, 2) := by decide +kernel
theorem dX3_broken_37 : decode cX3_broken 37 = .ok (.if_icmp .ge 36, 3) := by decide +kernel
theorem dX3_broken_40 : decode cX3_broken 40 = .ok (.aload_n 0, 1) := by decide +kernel
theorem dX3_broken_41 : decode cX3_broken 41 = .ok (.dup, 1) := by decide +kernel
theorem dX3_broken_42 : decode cX3_broken 42 = .ok (.getfield 74, 3) := by decide +kernel
theorem dX3_broken_45 : decode cX3_broken 45 = .ok (.iconst 1, 1) := by decide +kernel
theorem dX3_broken_46 : decode cX3_broken 46 = .ok (.iadd, 1) := by decide +kernel
theorem dX3_broken_47 : decode cX3_broken 47 = .ok (.putfield 74, 3) := by decide +kernel
theorem dX3_broken_50 : decode cX3_broken 50 = .ok (.iload 4, 2) := by decide +kernel
theorem dX3_broken_52 : decode cX3_broken 52 = .ok (.iload 5, 2) := by decide +kernel
theorem dX3_broken_54 : decode cX3_broken 54 = .ok (.iconst (-1), 1) := by decide +kernel
theorem dX3_broken_55 : decode cX3_broken 55 = .ok (.ixor, 1) := by decide +kernel
theorem dX3_broken_56 : decode cX3_broken 56 = .ok (.iand, 1) := by decide +kernel
theorem dX3_broken_57 : decode cX3_broken 57 = .ok (.istore 4, 2) := by decide +kernel
theorem dX3_broken_59 : decode cX3_broken 59 = .ok (.iload 4, 2) := by decide +kernel
theorem dX3_broken_61 : decode cX3_broken 61 = .ok (.aload_n 0, 1) := by decide +kernel
theorem dX3_broken_62 : decode cX3_broken 62 = .ok (.iload 5, 2) := by decide +kernel
theorem dX3_broken_64 : decode cX3_broken 64 = .ok (.invokevirtual 77, 3) := by decide +kernel
theorem dX3_broken_67 : decode cX3_broken 67 = .ok (.iand, 1) := by decide +kernel
theorem dX3_broken_68 : decode cX3_broken 68 = .ok (.istore 5, 2) := by decide +kernel
theorem dX3_broken_70 : decode cX3_broken 70 = .ok (.goto (-44), 3) := by decide +kernel
theorem dX3_broken_73 : decode cX3_broken 73 = .ok (.iload_n 3, 1) := by decide +kernel
theorem dX3_broken_74 : decode cX3_broken 74 = .ok (.iload 4, 2) := by decide +kernel
theorem dX3_broken_76 : decode cX3_broken 76 = .ok (.iconst (-1), 1) := by decide +kernel
theorem dX3_broken_77 : decode cX3_broken 77 = .ok (.ixor, 1) := by decide +kernel
theorem dX3_broken_78 : decode cX3_broken 78 = .ok (.iand, 1) := by decide +kernel
theorem dX3_broken_79 : decode cX3_broken 79 = .ok (.ireturn, 1) := by decide +kernel
theorem dX3_breakingBy_0 : decode cX3_breakingBy 0 = .ok (.iconst 0, 1) := by decide +kernel
theorem dX3_breakingBy_1 : decode cX3_breakingBy 1 = .ok (.istore_n 2, 1) := by decide +kernel
theorem dX3_breakingBy_2 : decode cX3_breakingBy 2 = .ok (.iconst 0, 1) := by decide +kernel
theorem dX3_breakingBy_3 : decode cX3_breakingBy 3 = .ok (.istore_n 3, 1) := by decide +kernel
theorem dX3_breakingBy_4 : decode cX3_breakingBy 4 = .ok (.iconst 0, 1) := by decide +kernel
theorem dX3_breakingBy_5 : decode cX3_breakingBy 5 = .ok (.istore 4, 2) := by decide +kernel
theorem dX3_breakingBy_7 : decode cX3_breakingBy 7 = .ok (.iload 4, 2) := by decide +kernel
theorem dX3_breakingBy_9 : decode cX3_breakingBy 9 = .ok (.aload_n 0, 1) := by decide +kernel
theorem dX3_breakingBy_10 : decode cX3_breakingBy 10 = .ok (.getfield 27, 3) := by decide +kernel
theorem dX3_breakingBy_13 : decode cX3_breakingBy 13 = .ok (.if_icmp .ge 40, 3) := by decide +kernel
theorem dX3_breakingBy_16 : decode cX3_breakingBy 16 = .ok (.iload_n 1, 1) := by decide +kernel
theorem dX3_breakingBy_17 : decode cX3_breakingBy 17 = .ok (.iload 4, 2) := by decide +kernel
theorem dX3_breakingBy_19 : decode cX3_breakingBy 19 = .ok (.invokestatic 80, 3) := by decide +kernel
theorem dX3_breakingBy_22 : decode cX3_breakingBy 22 = .ok (.ifCond .eq 25, 3) := by decide +kernel
theorem dX3_breakingBy_25 : decode cX3_breakingBy 25 = .ok (.iload_n 3, 1) := by decide +kernel
theorem dX3_breakingBy_26 : decode cX3_breakingBy 26 = .ok (.iload_n 2, 1) := by decide +kernel
theorem dX3_breakingBy_27 : decode cX3_breakingBy 27 = .ok (.aload_n 0, 1) := by decide +kernel
theorem dX3_breakingBy_28 : decode cX3_breakingBy 28 = .ok (.getfield 18, 3) := by decide +kernel
theorem dX3_breakingBy_31 : decode cX3_breakingBy 31 = .ok (.iload 4, 2) := by decide +kernel
theorem dX3_breakingBy_33 : decode cX3_breakingBy 33 = .ok (.iaload, 1) := by decide +kernel
theorem dX3_breakingBy_34 : decode cX3_breakingBy 34 = .ok (.iand, 1) := by decide +kernel
theorem dX3_breakingBy_35 : decode cX3_breakingBy 35 = .ok (.ior, 1) := by decide +kernel
theorem dX3_breakingBy_36 : decode cX3_breakingBy 36 = .ok (.istore_n 3, 1) := by decide +kernel
theorem dX3_breakingBy_37 : decode cX3_breakingBy 37 = .ok (.iload_n 2, 1) := by decide +kernel
theorem dX3_breakingBy_38 : decode cX3_breakingBy 38 = .ok (.aload_n 0, 1) := by decide +kernel
theorem dX3_breakingBy_39 : decode cX3_breakingBy 39 = .ok (.getfield 18, 3) := by decide +kernel
theorem dX3_breakingBy_42 : decode cX3_breakingBy 42 = .ok (.iload 4, 2) := by decide +kernel
theorem dX3_breakingBy_44 : decode cX3_breakingBy 44 = .ok (.iaload, 1) := by decide +kernel
theorem dX3_breakingBy_45 : decode cX3_breakingBy 45 = .ok (.ior, 1) := by decide +kernel
theorem dX3_breakingBy_46 : decode cX3_breakingBy 46 = .ok (.istore_n 2, 1) := by decide +kernel
theorem dX3_breakingBy_47 : decode cX3_breakingBy 47 = .ok (.iinc 4 1, 3) := by decide +kernel
theorem dX3_breakingBy_50 : decode cX3_breakingBy 50 = .ok (.goto (-43), 3) := by decide +kernel
theorem dX3_breakingBy_53 : decode cX3_breakingBy 53 = .ok (.iload_n 2, 1) := by decide +kernel
theorem dX3_breakingBy_54 : decode cX3_breakingBy 54 = .ok (.aload_n 0, 1) := by decide +kernel
theorem dX3_breakingBy_55 : decode cX3_breakingBy 55 = .ok (.getfield 28, 3) := by decide +kernel
theorem dX3_breakingBy_58 : decode cX3_breakingBy 58 = .ok (.iconst (-1), 1) := by decide +kernel
theorem dX3_breakingBy_59 : decode cX3_breakingBy 59 = .ok (.ixor, 1) := by decide +kernel
theorem dX3_breakingBy_60 : decode cX3_breakingBy 60 = .ok (.iand, 1) := by decide +kernel
theorem dX3_breakingBy_61 : decode cX3_breakingBy 61 = .ok (.iload_n 3, 1) := by decide +kernel
theorem dX3_breakingBy_62 : decode cX3_breakingBy 62 = .ok (.aload_n 0, 1) := by decide +kernel
theorem dX3_breakingBy_63 : decode cX3_breakingBy 63 = .ok (.getfield 28, 3) := by decide +kernel
theorem dX3_breakingBy_66 : decode cX3_breakingBy 66 = .ok (.iand, 1) := by decide +kernel
theorem dX3_breakingBy_67 : decode cX3_breakingBy 67 = .ok (.ior, 1) := by decide +kernel
theorem dX3_breakingBy_68 : decode cX3_breakingBy 68 = .ok (.ireturn, 1) := by decide +kernel
theorem dX3_eachStrikesOther_0 : decode cX3_eachStrikesOther 0 = .ok (.aload_n 0, 1) := by decide +kernel
theorem dX3_eachStrikesOther_1 : decode cX3_eachStrikesOther 1 = .ok (.getfield 18, 3) := by decide +kernel
theorem dX3_eachStrikesOther_4 : decode cX3_eachStrikesOther 4 = .ok (.iload_n 1, 1) := by decide +kernel
theorem dX3_eachStrikesOther_5 : decode cX3_eachStrikesOther 5 = .ok (.iaload, 1) := by decide +kernel
theorem dX3_eachStrikesOther_6 : decode cX3_eachStrikesOther 6 = .ok (.aload_n 0, 1) := by decide +kernel
theorem dX3_eachStrikesOther_7 : decode cX3_eachStrikesOther 7 = .ok (.getfield 28, 3) := by decide +kernel
theorem dX3_eachStrikesOther_10 : decode cX3_eachStrikesOther 10 = .ok (.iconst (-1), 1) := by decide +kernel
theorem dX3_eachStrikesOther_11 : decode cX3_eachStrikesOther 11 = .ok (.ixor, 1) := by decide +kernel
theorem dX3_eachStrikesOther_12 : decode cX3_eachStrikesOther 12 = .ok (.iand, 1) := by decide +kernel
theorem dX3_eachStrikesOther_13 : decode cX3_eachStrikesOther 13 = .ok (.iload_n 2, 1) := by decide +kernel
theorem dX3_eachStrikesOther_14 : decode cX3_eachStrikesOther 14 = .ok (.invokestatic 80, 3) := by decide +kernel
theorem dX3_eachStrikesOther_17 : decode cX3_eachStrikesOther 17 = .ok (.ifCond .eq 27, 3) := by decide +kernel
theorem dX3_eachStrikesOther_20 : decode cX3_eachStrikesOther 20 = .ok (.aload_n 0, 1) := by decide +kernel
theorem dX3_eachStrikesOther_21 : decode cX3_eachStrikesOther 21 = .ok (.getfield 18, 3) := by decide +kernel
theorem dX3_eachStrikesOther_24 : decode cX3_eachStrikesOther 24 = .ok (.iload_n 2, 1) := by decide +kernel
theorem dX3_eachStrikesOther_25 : decode cX3_eachStrikesOther 25 = .ok (.iaload, 1) := by decide +kernel
theorem dX3_eachStrikesOther_26 : decode cX3_eachStrikesOther 26 = .ok (.aload_n 0, 1) := by decide +kernel
theorem dX3_eachStrikesOther_27 : decode cX3_eachStrikesOther 27 = .ok (.getfield 28, 3) := by decide +kernel
theorem dX3_eachStrikesOther_30 : decode cX3_eachStrikesOther 30 = .ok (.iconst (-1), 1) := by decide +kernel
theorem dX3_eachStrikesOther_31 : decode cX3_eachStrikesOther 31 = .ok (.ixor, 1) := by decide +kernel
theorem dX3_eachStrikesOther_32 : decode cX3_eachStrikesOther 32 = .ok (.iand, 1) := by decide +kernel
theorem dX3_eachStrikesOther_33 : decode cX3_eachStrikesOther 33 = .ok (.iload_n 1, 1) := by decide +kernel
theorem dX3_eachStrikesOther_34 : decode cX3_eachStrikesOther 34 = .ok (.invokestatic 80, 3) := by decide +kernel
theorem dX3_eachStrikesOther_37 : decode cX3_eachStrikesOther 37 = .ok (.ifCond .eq 7, 3) := by decide +kernel
theorem dX3_eachStrikesOther_40 : decode cX3_eachStrikesOther 40 = .ok (.iconst 1, 1) := by decide +kernel
theorem dX3_eachStrikesOther_41 : decode cX3_eachStrikesOther 41 = .ok (.goto 4, 3) := by decide +kernel
theorem dX3_eachStrikesOther_44 : decode cX3_eachStrikesOther 44 = .ok (.iconst 0, 1) := by decide +kernel
theorem dX3_eachStrikesOther_45 : decode cX3_eachStrikesOther 45 = .ok (.ireturn, 1) := by decide +kernel
end
section
theorem dX4_init_0 : decode cX4_init 0 = .ok (.aload_n 0, 1) := by decide +kernel
theorem dX4_init_1 : decode cX4_init 1 = .ok (.invokespecial 3, 3) := by decide +kernel
theorem dX4_init_4 : decode cX4_init 4 = .ok (.aload_n 0, 1) := by decide +kernel
theorem dX4_init_5 : decode cX4_init 5 = .ok (.new 9, 3) := by decide +kernel
theorem dX4_init_8 : decode cX4_init 8 = .ok (.dup, 1) := by decide +kernel
theorem dX4_init_9 : decode cX4_init 9 = .ok (.invokespecial 11, 3) := by decide +kernel
theorem dX4_init_12 : decode cX4_init 12 = .ok (.putfield 12, 3) := by decide +kernel
theorem dX4_init_15 : decode cX4_init 15 = .ok (.aload_n 0, 1) := by decide +kernel
theorem dX4_init_16 : decode cX4_init 16 = .ok (.new 18, 3) := by decide +kernel
theorem dX4_init_19 : decode cX4_init 19 = .ok (.dup, 1) := by decide +kernel
theorem dX4_init_20 : decode cX4_init 20 = .ok (.invokespecial 20, 3) := by decide +kernel
theorem dX4_init_23 : decode cX4_init 23 = .ok (.putfield 21, 3) := by decide +kernel
theorem dX4_init_26 : decode cX4_init 26 = .ok (.return_, 1) := by decide +kernel
theorem dX4_brokenBy_0 : decode cX4_brokenBy 0 = .ok (.aload_n 0, 1) := by decide +kernel
theorem dX4_brokenBy_1 : decode cX4_brokenBy 1 = .ok (.getfield 12, 3) := by decide +kernel
theorem dX4_brokenBy_4 : decode cX4_brokenBy 4 = .ok (.aload_n 1, 1) := by decide +kernel
theorem dX4_brokenBy_5 : decode cX4_brokenBy 5 = .ok (.invokevirtual 25, 3) := by decide +kernel
theorem dX4_brokenBy_8 : decode cX4_brokenBy 8 = .ok (.aload_n 0, 1) := by decide +kernel
theorem dX4_brokenBy_9 : decode cX4_brokenBy 9 = .ok (.getfield 12, 3) := by decide +kernel
theorem dX4_brokenBy_12 : decode cX4_brokenBy 12 = .ok (.iload_n 2, 1) := by decide +kernel
theorem dX4_brokenBy_13 : decode cX4_brokenBy 13 = .ok (.iload_n 3, 1) := by decide +kernel
theorem dX4_brokenBy_14 : decode cX4_brokenBy 14 = .ok (.aload_n 1, 1) := by decide +kernel
theorem dX4_brokenBy_15 : decode cX4_brokenBy 15 = .ok (.iconst 0, 1) := by decide +kernel
theorem dX4_brokenBy_16 : decode cX4_brokenBy 16 = .ok (.invokevirtual 29, 3) := by decide +kernel
theorem dX4_brokenBy_19 : decode cX4_brokenBy 19 = .ok (.invokevirtual 33, 3) := by decide +kernel
theorem dX4_brokenBy_22 : decode cX4_brokenBy 22 = .ok (.ireturn, 1) := by decide +kernel
theorem dX4_findWorst_0 : decode cX4_findWorst 0 = .ok (.aload_n 0, 1) := by decide +kernel
theorem dX4_findWorst_1 : decode cX4_findWorst 1 = .ok (.getfield 12, 3) := by decide +kernel
theorem dX4_findWorst_4 : decode cX4_findWorst 4 = .ok (.aload_n 1, 1) := by decide +kernel
theorem dX4_findWorst_5 : decode cX4_findWorst 5 = .ok (.invokevirtual 25, 3) := by decide +kernel
theorem dX4_findWorst_8 : decode cX4_findWorst 8 = .ok (.aload_n 0, 1) := by decide +kernel
theorem dX4_findWorst_9 : decode cX4_findWorst 9 = .ok (.aload_n 0, 1) := by decide +kernel
theorem dX4_findWorst_10 : decode cX4_findWorst 10 = .ok (.aload_n 1, 1) := by decide +kernel
theorem dX4_findWorst_11 : decode cX4_findWorst 11 = .ok (.iconst 0, 1) := by decide +kernel
theorem dX4_findWorst_12 : decode cX4_findWorst 12 = .ok (.invokevirtual 29, 3) := by decide +kernel
theorem dX4_findWorst_15 : decode cX4_findWorst 15 = .ok (.bipush 8, 2) := by decide +kernel
theorem dX4_findWorst_17 : decode cX4_findWorst 17 = .ok (.invokevirtual 37, 3) := by decide +kernel
theorem dX4_findWorst_20 : decode cX4_findWorst 20 = .ok (.putfield 41, 3) := by decide +kernel
theorem dX4_findWorst_23 : decode cX4_findWorst 23 = .ok (.aload_n 0, 1) := by decide +kernel
theorem dX4_findWorst_24 : decode cX4_findWorst 24 = .ok (.aload_n 0, 1) := by decide +kernel
theorem dX4_findWorst_25 : decode cX4_findWorst 25 = .ok (.getfield 45, 3) := by decide +kernel
theorem dX4_findWorst_28 : decode cX4_findWorst 28 = .ok (.putfield 48, 3) := by decide +kernel
theorem dX4_findWorst_31 : decode cX4_findWorst 31 = .ok (.return_, 1) := by decide +kernel
theorem dX4_mostBroken_0 : decode cX4_mostBroken 0 = .ok (.iconst (-1), 1) := by decide +kernel
theorem dX4_mostBroken_1 : decode cX4_mostBroken 1 = .ok (.istore_n 3, 1) := by decide +kernel
theorem dX4_mostBroken_2 : decode cX4_mostBroken 2 = .ok (.iconst 0, 1) := by decide +kernel
theorem dX4_mostBroken_3 : decode cX4_mostBroken 3 = .ok (.istore 4, 2) := by decide +kernel
theorem dX4_mostBroken_5 : decode cX4_mostBroken 5 = .ok (.iload 4, 2) := by decide +kernel
theorem dX4_mostBroken_7 : decode cX4_mostBroken 7 = .ok (.bipush 12, 2) := by decide +kernel
theorem dX4_mostBroken_9 : decode cX4_mostBroken 9 = .ok (.if_icmp .ge 78, 3) := by decide +kernel
theorem dX4_mostBroken_12 : decode cX4_mostBroken 12 = .ok (.iload_n 3, 1) := by decide +kernel
theorem dX4_mostBroken_13 : decode cX4_mostBroken 13 = .ok (.iload_n 2, 1) := by decide +kernel
theorem dX4_mostBroken_14 : decode cX4_mostBroken 14 = .ok (.if_icmp .ge 73, 3) := by decide +kernel
theorem dX4_mostBroken_17 : decode cX4_mostBroken 17 = .ok (.iconst 0, 1) := by decide +kernel
theorem dX4_mostBroken_18 : decode cX4_mostBroken 18 = .ok (.istore 5, 2) := by decide +kernel
theorem dX4_mostBroken_20 : decode cX4_mostBroken 20 = .ok (.iload 5, 2) := by decide +kernel
theorem dX4_mostBroken_22 : decode cX4_mostBroken 22 = .ok (.aload_n 0, 1) := by decide +kernel
theorem dX4_mostBroken_23 : decode cX4_mostBroken 23 = .ok (.getfield 12, 3) := by decide +kernel
theorem dX4_mostBroken_26 : decode cX4_mostBroken 26 = .ok (.getfield 51, 3) := by decide +kernel
theorem dX4_mostBroken_29 : decode cX4_mostBroken 29 = .ok (.if_icmp .ge 52, 3) := by decide +kernel
theorem dX4_mostBroken_32 : decode cX4_mostBroken 32 = .ok (.iload_n 3, 1) := by decide +kernel
theorem dX4_mostBroken_33 : decode cX4_mostBroken 33 = .ok (.iload_n 2, 1) := by decide +kernel
theorem dX4_mostBroken_34 : decode cX4_mostBroken 34 = .ok (.if_icmp .ge 47, 3) := by decide +kernel
theorem dX4_mostBroken_37 : decode cX4_mostBroken 37 = .ok (.aload_n 0, 1) := by decide +kernel
theorem dX4_mostBroken_38 : decode cX4_mostBroken 38 = .ok (.getfield 12, 3) := by decide +kernel
theorem dX4_mostBroken_41 : decode cX4_mostBroken 41 = .ok (.iload 4, 2) := by decide +kernel
theorem dX4_mostBroken_43 : decode cX4_mostBroken 43 = .ok (.iload 5, 2) := by decide +kernel
theorem dX4_mostBroken_45 : decode cX4_mostBroken 45 = .ok (.iload_n 1, 1) := by decide +kernel
theorem dX4_mostBroken_46 : decode cX4_mostBroken 46 = .ok (.invokevirtual 33, 3) := by decide +kernel
theorem dX4_mostBroken_49 : decode cX4_mostBroken 49 = .ok (.invokestatic 54, 3) := by decide +kernel
theorem dX4_mostBroken_52 : decode cX4_mostBroken 52 = .ok (.istore 6, 2) := by decide +kernel
theorem dX4_mostBroken_54 : decode cX4_mostBroken 54 = .ok (.iload 6, 2) := by decide +kernel
theorem dX4_mostBroken_56 : decode cX4_mostBroken 56 = .ok (.iload_n 3, 1) := by decide +kernel
theorem dX4_mostBroken_57 : decode cX4_mostBroken 57 = .ok (.if_icmp .le 18, 3) := by decide +kernel
theorem dX4_mostBroken_60 : decode cX4_mostBroken 60 = .ok (.iload 6, 2) := by decide +kernel
theorem dX4_mostBroken_62 : decode cX4_mostBroken 62 = .ok (.istore_n 3, 1) := by decide +kernel
theorem dX4_mostBroken_63 : decode cX4_mostBroken 63 = .ok (.aload_n 0, 1) := by decide +kernel
theorem dX4_mostBroken_64 : decode cX4_mostBroken 64 = .ok (.bipush 100, 2) := by decide +kernel
theorem dX4_mostBroken_66 : decode cX4_mostBroken 66 = .ok (.iload 4, 2) := by decide +kernel
theorem dX4_mostBroken_68 : decode cX4_mostBroken 68 = .ok (.imul, 1) := by decide +kernel
theorem dX4_mostBroken_69 : decode cX4_mostBroken 69 = .ok (.iload 5, 2) := by decide +kernel
theorem dX4_mostBroken_71 : decode cX4_mostBroken 71 = .ok (.iadd, 1) := by decide +kernel
theorem dX4_mostBroken_72 : decode cX4_mostBroken 72 = .ok (.putfield 45, 3) := by decide +kernel
theorem dX4_mostBroken_75 : decode cX4_mostBroken 75 = .ok (.iinc 5 1, 3) := by decide +kernel
theorem dX4_mostBroken_78 : decode cX4_mostBroken 78 = .ok (.goto (-58), 3) := by decide +kernel
theorem dX4_mostBroken_81 : decode cX4_mostBroken 81 = .ok (.iinc 4 1, 3) := by decide +kernel
theorem dX4_mostBroken_84 : decode cX4_mostBroken 84 = .ok (.goto (-79), 3) := by decide +kernel
theorem dX4_mostBroken_87 : decode cX4_mostBroken 87 = .ok (.iload_n 3, 1) := by decide +kernel
theorem dX4_mostBroken_88 : decode cX4_mostBroken 88 = .ok (.ireturn, 1) := by decide +kernel
theorem dX4_findGuard_0 : decode cX4_findGuard 0 = .ok (.aload_n 0, 1) := by decide +kernel
theorem dX4_findGuard_1 : decode cX4_findGuard 1 = .ok (.getfield 12, 3) := by decide +kernel
theorem dX4_findGuard_4 : decode cX4_findGuard 4 = .ok (.aload_n 1, 1) := by decide +kernel
theorem dX4_findGuard_5 : decode cX4_findGuard 5 = .ok (.invokevirtual 25, 3) := by decide +kernel
theorem dX4_findGuard_8 : decode cX4_findGuard 8 = .ok (.aload_n 1, 1) := by decide +kernel
theorem dX4_findGuard_9 : decode cX4_findGuard 9 = .ok (.iconst 0, 1) := by decide +kernel
theorem dX4_findGuard_10 : decode cX4_findGuard 10 = .ok (.invokevirtual 29, 3) := by decide +kernel
theorem dX4_findGuard_13 : decode cX4_findGuard 13 = .ok (.istore 5, 2) := by decide +kernel
theorem dX4_findGuard_15 : decode cX4_findGuard 15 = .ok (.aload_n 0, 1) := by decide +kernel
theorem dX4_findGuard_16 : decode cX4_findGuard 16 = .ok (.bipush 9, 2) := by decide +kernel
theorem dX4_findGuard_18 : decode cX4_findGuard 18 = .ok (.putfield 41, 3) := by decide +kernel
theorem dX4_findGuard_21 : decode cX4_findGuard 21 = .ok (.aload_n 0, 1) := by decide +kernel
theorem dX4_findGuard_22 : decode cX4_findGuard 22 = .ok (.iconst 0, 1) := by decide +kernel
theorem dX4_findGuard_23 : decode cX4_findGuard 23 = .ok (.putfield 48, 3) := by decide +kernel
theorem dX4_findGuard_26 : decode cX4_findGuard 26 = .ok (.iconst 0, 1) := by decide +kernel
theorem dX4_findGuard_27 : decode cX4_findGuard 27 = .ok (.istore 6, 2) := by decide +kernel
theorem dX4_findGuard_29 : decode cX4_findGuard 29 = .ok (.iload 6, 2) := by decide +kernel
theorem dX4_findGuard_31 : decode cX4_findGuard 31 = .ok (.sipush 256, 3) := by decide +kernel
theorem dX4_findGuard_34 : decode cX4_findGuard 34 = .ok (.if_icmp .ge 71, 3) := by decide +kernel
theorem dX4_findGuard_37 : decode cX4_findGuard 37 = .ok (.iload 6, 2) := by decide +kernel
theorem dX4_findGuard_39 : decode cX4_findGuard 39 = .ok (.invokestatic 54, 3) := by decide +kernel
theorem dX4_findGuard_42 : decode cX4_findGuard 42 = .ok (.istore 7, 2) := by decide +kernel
theorem dX4_findGuard_44 : decode cX4_findGuard 44 = .ok (.iload 6, 2) := by decide +kernel
theorem dX4_findGuard_46 : decode cX4_findGuard 46 = .ok (.iload 5, 2) := by decide +kernel
theorem dX4_findGuard_48 : decode cX4_findGuard 48 = .ok (.iconst (-1), 1) := by decide +kernel
theorem dX4_findGuard_49 : decode cX4_findGuard 49 = .ok (.ixor, 1) := by decide +kernel
theorem dX4_findGuard_50 : decode cX4_findGuard 50 = .ok (.iand, 1) := by decide +kernel
theorem dX4_findGuard_51 : decode cX4_findGuard 51 = .ok (.ifCond .ne 48, 3) := by decide +kernel
theorem dX4_findGuard_54 : decode cX4_findGuard 54 = .ok (.iload 7, 2) := by decide +kernel
theorem dX4_findGuard_56 : decode cX4_findGuard 56 = .ok (.aload_n 0, 1) := by decide +kernel
theorem dX4_findGuard_57 : decode cX4_findGuard 57 = .ok (.getfield 41, 3) := by decide +kernel
theorem dX4_findGuard_60 : decode cX4_findGuard 60 = .ok (.if_icmp .ge 39, 3) := by decide +kernel
theorem dX4_findGuard_63 : decode cX4_findGuard 63 = .ok (.aload_n 0, 1) := by decide +kernel
theorem dX4_findGuard_64 : decode cX4_findGuard 64 = .ok (.getfield 12, 3) := by decide +kernel
theorem dX4_findGuard_67 : decode cX4_findGuard 67 = .ok (.iload_n 2, 1) := by decide +kernel
theorem dX4_findGuard_68 : decode cX4_findGuard 68 = .ok (.iload_n 3, 1) := by decide +kernel
theorem dX4_findGuard_69 : decode cX4_findGuard 69 = .ok (.iload 5, 2) := by decide +kernel
theorem dX4_findGuard_71 : decode cX4_findGuard 71 = .ok (.iload 6, 2) := by decide +kernel
theorem dX4_findGuard_73 : decode cX4_findGuard 73 = .ok (.iconst (-1), 1) := by decide +kernel
theorem dX4_findGuard_74 : decode cX4_findGuard 74 = .ok (.ixor, 1) := by decide +kernel
theorem dX4_findGuard_75 : decode cX4_findGuard 75 = .ok (.iand, 1) := by decide +kernel
theorem dX4_findGuard_76 : decode cX4_findGuard 76 = .ok (.invokevirtual 33, 3) := by decide +kernel
theorem dX4_findGuard_79 : decode cX4_findGuard 79 = .ok (.invokestatic 54, 3) := by decide +kernel
theorem dX4_findGuard_82 : decode cX4_findGuard 82 = .ok (.iload 4, 2) := by decide +kernel
theorem dX4_findGuard_84 : decode cX4_findGuard 84 = .ok (.if_icmp .gt 15, 3) := by decide +kernel
theorem dX4_findGuard_87 : decode cX4_findGuard 87 = .ok (.aload_n 0, 1) := by decide +kernel
theorem dX4_findGuard_88 : decode cX4_findGuard 88 = .ok (.iload 7, 2) := by decide +kernel
theorem dX4_findGuard_90 : decode cX4_findGuard 90 = .ok (.putfield 41, 3) := by decide +kernel
theorem dX4_findGuard_93 : decode cX4_findGuard 93 = .ok (.aload_n 0, 1) := by decide +kernel
theorem dX4_findGuard_94 : decode cX4_findGuard 94 = .ok (.iload 6, 2) := by decide +kernel
theorem dX4_findGuard_96 : decode cX4_findGuard 96 = .ok (.putfield 48, 3) := by decide +kernel
theorem dX4_findGuard_99 : decode cX4_findGuard 99 = .ok (.iinc 6 1, 3) := by decide +kernel
theorem dX4_findGuard_102 : decode cX4_findGuard 102 = .ok (.goto (-73), 3) := by decide +kernel
theorem dX4_findGuard_105 : decode cX4_findGuard 105 = .ok (.return_, 1) := by decide +kernel
theorem dX4_findChange_0 : decode cX4_findChange 0 = .ok (.aload_n 0, 1) := by decide +kernel
theorem dX4_findChange_1 : decode cX4_findChange 1 = .ok (.getfield 12, 3) := by decide +kernel
theorem dX4_findChange_4 : decode cX4_findChange 4 = .ok (.aload_n 1, 1) := by decide +kernel
theorem dX4_findChange_5 : decode cX4_findChange 5 = .ok (.invokevirtual 25, 3) := by decide +kernel
theorem dX4_findChange_8 : decode cX4_findChange 8 = .ok (.aload_n 1, 1) := by decide +kernel
theorem dX4_findChange_9 : decode cX4_findChange 9 = .ok (.iconst 0, 1) := by decide +kernel
theorem dX4_findChange_10 : decode cX4_findChange 10 = .ok (.invokevirtual 29, 3) := by decide +kernel
theorem dX4_findChange_13 : decode cX4_findChange 13 = .ok (.istore_n 2, 1) := by decide +kernel
theorem dX4_findChange_14 : decode cX4_findChange 14 = .ok (.aload_n 0, 1) := by decide +kernel
theorem dX4_findChange_15 : decode cX4_findChange 15 = .ok (.iload_n 2, 1) := by decide +kernel
theorem dX4_findChange_16 : decode cX4_findChange 16 = .ok (.bipush 8, 2) := by decide +kernel
theorem dX4_findChange_18 : decode cX4_findChange 18 = .ok (.invokevirtual 37, 3) := by decide +kernel
theorem dX4_findChange_21 : decode cX4_findChange 21 = .ok (.istore_n 3, 1) := by decide +kernel
theorem dX4_findChange_22 : decode cX4_findChange 22 = .ok (.aload_n 0, 1) := by decide +kernel
theorem dX4_findChange_23 : decode cX4_findChange 23 = .ok (.ldc 59, 2) := by decide +kernel
theorem dX4_findChange_25 : decode cX4_findChange 25 = .ok (.putfield 48, 3) := by decide +kernel
theorem dX4_findChange_28 : decode cX4_findChange 28 = .ok (.aload_n 0, 1) := by decide +kernel
theorem dX4_findChange_29 : decode cX4_findChange 29 = .ok (.ldc 59, 2) := by decide +kernel
theorem dX4_findChange_31 : decode cX4_findChange 31 = .ok (.putfield 41, 3) := by decide +kernel
theorem dX4_findChange_34 : decode cX4_findChange 34 = .ok (.aload_n 0, 1) := by decide +kernel
theorem dX4_findChange_35 : decode cX4_findChange 35 = .ok (.getfield 21, 3) := by decide +kernel
theorem dX4_findChange_38 : decode cX4_findChange 38 = .ok (.aload_n 1, 1) := by decide +kernel
theorem dX4_findChange_39 : decode cX4_findChange 39 = .ok (.invokevirtual 60, 3) := by decide +kernel
theorem dX4_findChange_42 : decode cX4_findChange 42 = .ok (.iconst 0, 1) := by decide +kernel
theorem dX4_findChange_43 : decode cX4_findChange 43 = .ok (.istore 4, 2) := by decide +kernel
theorem dX4_findChange_45 : decode cX4_findChange 45 = .ok (.iload 4, 2) := by decide +kernel
theorem dX4_findChange_47 : decode cX4_findChange 47 = .ok (.aload_n 1, 1) := by decide +kernel
theorem dX4_findChange_48 : decode cX4_findChange 48 = .ok (.getfield 63, 3) := by decide +kernel
theorem dX4_findChange_51 : decode cX4_findChange 51 = .ok (.if_icmp .ge 98, 3) := by decide +kernel
theorem dX4_findChange_54 : decode cX4_findChange 54 = .ok (.iload 4, 2) := by decide +kernel
theorem dX4_findChange_56 : decode cX4_findChange 56 = .ok (.iconst 1, 1) := by decide +kernel
theorem dX4_findChange_57 : decode cX4_findChange 57 = .ok (.iadd, 1) := by decide +kernel
theorem dX4_findChange_58 : decode cX4_findChange 58 = .ok (.istore 5, 2) := by decide +kernel
theorem dX4_findChange_60 : decode cX4_findChange 60 = .ok (.iload 5, 2) := by decide +kernel
theorem dX4_findChange_62 : decode cX4_findChange 62 = .ok (.aload_n 1, 1) := by decide +kernel
theorem dX4_findChange_63 : decode cX4_findChange 63 = .ok (.getfield 63, 3) := by decide +kernel
theorem dX4_findChange_66 : decode cX4_findChange 66 = .ok (.if_icmp .ge 77, 3) := by decide +kernel
theorem dX4_findChange_69 : decode cX4_findChange 69 = .ok (.aload_n 0, 1) := by decide +kernel
theorem dX4_findChange_70 : decode cX4_findChange 70 = .ok (.getfield 21, 3) := by decide +kernel
theorem dX4_findChange_73 : decode cX4_findChange 73 = .ok (.iload 4, 2) := by decide +kernel
theorem dX4_findChange_75 : decode cX4_findChange 75 = .ok (.iload 5, 2) := by decide +kernel
theorem dX4_findChange_77 : decode cX4_findChange 77 = .ok (.invokevirtual 64, 3) := by decide +kernel
theorem dX4_findChange_80 : decode cX4_findChange 80 = .ok (.aload_n 0, 1) := by decide +kernel
theorem dX4_findChange_81 : decode cX4_findChange 81 = .ok (.getfield 12, 3) := by decide +kernel
theorem dX4_findChange_84 : decode cX4_findChange 84 = .ok (.aload_n 0, 1) := by decide +kernel
theorem dX4_findChange_85 : decode cX4_findChange 85 = .ok (.getfield 21, 3) := by decide +kernel
theorem dX4_findChange_88 : decode cX4_findChange 88 = .ok (.invokevirtual 25, 3) := by decide +kernel
theorem dX4_findChange_91 : decode cX4_findChange 91 = .ok (.aload_n 0, 1) := by decide +kernel
theorem dX4_findChange_92 : decode cX4_findChange 92 = .ok (.iload_n 2, 1) := by decide +kernel
theorem dX4_findChange_93 : decode cX4_findChange 93 = .ok (.iload_n 3, 1) := by decide +kernel
theorem dX4_findChange_94 : decode cX4_findChange 94 = .ok (.invokevirtual 37, 3) := by decide +kernel
theorem dX4_findChange_97 : decode cX4_findChange 97 = .ok (.istore 6, 2) := by decide +kernel
theorem dX4_findChange_99 : decode cX4_findChange 99 = .ok (.aload_n 0, 1) := by decide +kernel
theorem dX4_findChange_100 : decode cX4_findChange 100 = .ok (.getfield 21, 3) := by decide +kernel
theorem dX4_findChange_103 : decode cX4_findChange 103 = .ok (.iload 4, 2) := by decide +kernel
theorem dX4_findChange_105 : decode cX4_findChange 105 = .ok (.iload 5, 2) := by decide +kernel
theorem dX4_findChange_107 : decode cX4_findChange 107 = .ok (.invokevirtual 64, 3) := by decide +kernel
theorem dX4_findChange_110 : decode cX4_findChange 110 = .ok (.iload 6, 2) := by decide +kernel
theorem dX4_findChange_112 : decode cX4_findChange 112 = .ok (.iload_n 3, 1) := by decide +kernel
theorem dX4_findChange_113 : decode cX4_findChange 113 = .ok (.if_icmp .ge 24, 3) := by decide +kernel
theorem dX4_findChange_116 : decode cX4_findChange 116 = .ok (.iload 6, 2) := by decide +kernel
theorem dX4_findChange_118 : decode cX4_findChange 118 = .ok (.istore_n 3, 1) := by decide +kernel
theorem dX4_findChange_119 : decode cX4_findChange 119 = .ok (.aload_n 0, 1) := by decide +kernel
theorem dX4_findChange_120 : decode cX4_findChange 120 = .ok (.bipush 10, 2) := by decide +kernel
theorem dX4_findChange_122 : decode cX4_findChange 122 = .ok (.iload 4, 2) := by decide +kernel
theorem dX4_findChange_124 : decode cX4_findChange 124 = .ok (.imul, 1) := by decide +kernel
theorem dX4_findChange_125 : decode cX4_findChange 125 = .ok (.iload 5, 2) := by decide +kernel
theorem dX4_findChange_127 : decode cX4_findChange 127 = .ok (.iadd, 1) := by decide +kernel
theorem dX4_findChange_128 : decode cX4_findChange 128 = .ok (.putfield 48, 3) := by decide +kernel
theorem dX4_findChange_131 : decode cX4_findChange 131 = .ok (.aload_n 0, 1) := by decide +kernel
theorem dX4_findChange_132 : decode cX4_findChange 132 = .ok (.iload 6, 2) := by decide +kernel
theorem dX4_findChange_134 : decode cX4_findChange 134 = .ok (.putfield 41, 3) := by decide +kernel
theorem dX4_findChange_137 : decode cX4_findChange 137 = .ok (.iinc 5 1, 3) := by decide +kernel
theorem dX4_findChange_140 : decode cX4_findChange 140 = .ok (.goto (-80), 3) := by decide +kernel
theorem dX4_findChange_143 : decode cX4_findChange 143 = .ok (.iinc 4 1, 3) := by decide +kernel
theorem dX4_findChange_146 : decode cX4_findChange 146 = .ok (.goto (-101), 3) := by decide +kernel
theorem dX4_findChange_149 : decode cX4_findChange 149 = .ok (.return_, 1) := by decide +kernel
theorem dX4_findTuned_0 : decode cX4_findTuned 0 = .ok (.aload_n 1, 1) := by decide +kernel
theorem dX4_findTuned_1 : decode cX4_findTuned 1 = .ok (.iconst 0, 1) := by decide +kernel
theorem dX4_findTuned_2 : decode cX4_findTuned 2 = .ok (.invokevirtual 29, 3) := by decide +kernel
theorem dX4_findTuned_5 : decode cX4_findTuned 5 = .ok (.iconst 1, 1) := by decide +kernel
theorem dX4_findTuned_6 : decode cX4_findTuned 6 = .ok (.iload_n 2, 1) := by decide +kernel
theorem dX4_findTuned_7 : decode cX4_findTuned 7 = .ok (.ishl, 1) := by decide +kernel
theorem dX4_findTuned_8 : decode cX4_findTuned 8 = .ok (.ior, 1) := by decide +kernel
theorem dX4_findTuned_9 : decode cX4_findTuned 9 = .ok (.istore_n 3, 1) := by decide +kernel
theorem dX4_findTuned_10 : decode cX4_findTuned 10 = .ok (.aload_n 0, 1) := by decide +kernel
theorem dX4_findTuned_11 : decode cX4_findTuned 11 = .ok (.bipush 9, 2) := by decide +kernel
theorem dX4_findTuned_13 : decode cX4_findTuned 13 = .ok (.putfield 41, 3) := by decide +kernel
theorem dX4_findTuned_16 : decode cX4_findTuned 16 = .ok (.aload_n 0, 1) := by decide +kernel
theorem dX4_findTuned_17 : decode cX4_findTuned 17 = .ok (.getfield 21, 3) := by decide +kernel
theorem dX4_findTuned_20 : decode cX4_findTuned 20 = .ok (.aload_n 1, 1) := by decide +kernel
theorem dX4_findTuned_21 : decode cX4_findTuned 21 = .ok (.invokevirtual 60, 3) := by decide +kernel
theorem dX4_findTuned_24 : decode cX4_findTuned 24 = .ok (.iconst 0, 1) := by decide +kernel
theorem dX4_findTuned_25 : decode cX4_findTuned 25 = .ok (.istore 4, 2) := by decide +kernel
theorem dX4_findTuned_27 : decode cX4_findTuned 27 = .ok (.iload 4, 2) := by decide +kernel
theorem dX4_findTuned_29 : decode cX4_findTuned 29 = .ok (.bipush 12, 2) := by decide +kernel
theorem dX4_findTuned_31 : decode cX4_findTuned 31 = .ok (.if_icmp .ge 46, 3) := by decide +kernel
theorem dX4_findTuned_34 : decode cX4_findTuned 34 = .ok (.aload_n 0, 1) := by decide +kernel
theorem dX4_findTuned_35 : decode cX4_findTuned 35 = .ok (.getfield 21, 3) := by decide +kernel
theorem dX4_findTuned_38 : decode cX4_findTuned 38 = .ok (.getfield 68, 3) := by decide +kernel
theorem dX4_findTuned_41 : decode cX4_findTuned 41 = .ok (.iload_n 2, 1) := by decide +kernel
theorem dX4_findTuned_42 : decode cX4_findTuned 42 = .ok (.iload 4, 2) := by decide +kernel
theorem dX4_findTuned_44 : decode cX4_findTuned 44 = .ok (.iastore, 1) := by decide +kernel
theorem dX4_findTuned_45 : decode cX4_findTuned 45 = .ok (.aload_n 0, 1) := by decide +kernel
theorem dX4_findTuned_46 : decode cX4_findTuned 46 = .ok (.getfield 12, 3) := by decide +kernel
theorem dX4_findTuned_49 : decode cX4_findTuned 49 = .ok (.aload_n 0, 1) := by decide +kernel
theorem dX4_findTuned_50 : decode cX4_findTuned 50 = .ok (.getfield 21, 3) := by decide +kernel
theorem dX4_findTuned_53 : decode cX4_findTuned 53 = .ok (.invokevirtual 25, 3) := by decide +kernel
theorem dX4_findTuned_56 : decode cX4_findTuned 56 = .ok (.aload_n 0, 1) := by decide +kernel
theorem dX4_findTuned_57 : decode cX4_findTuned 57 = .ok (.iload 4, 2) := by decide +kernel
theorem dX4_findTuned_59 : decode cX4_findTuned 59 = .ok (.aload_n 0, 1) := by decide +kernel
theorem dX4_findTuned_60 : decode cX4_findTuned 60 = .ok (.iload_n 3, 1) := by decide +kernel
theorem dX4_findTuned_61 : decode cX4_findTuned 61 = .ok (.aload_n 0, 1) := by decide +kernel
theorem dX4_findTuned_62 : decode cX4_findTuned 62 = .ok (.getfield 41, 3) := by decide +kernel
theorem dX4_findTuned_65 : decode cX4_findTuned 65 = .ok (.invokevirtual 37, 3) := by decide +kernel
theorem dX4_findTuned_68 : decode cX4_findTuned 68 = .ok (.invokevirtual 72, 3) := by decide +kernel
theorem dX4_findTuned_71 : decode cX4_findTuned 71 = .ok (.iinc 4 1, 3) := by decide +kernel
theorem dX4_findTuned_74 : decode cX4_findTuned 74 = .ok (.goto (-47), 3) := by decide +kernel
theorem dX4_findTuned_77 : decode cX4_findTuned 77 = .ok (.return_, 1) := by decide +kernel
theorem dX4_findSpared_0 : decode cX4_findSpared 0 = .ok (.aload_n 1, 1) := by decide +kernel
theorem dX4_findSpared_1 : decode cX4_findSpared 1 = .ok (.iconst 0, 1) := by decide +kernel
theorem dX4_findSpared_2 : decode cX4_findSpared 2 = .ok (.invokevirtual 29, 3) := by decide +kernel
theorem dX4_findSpared_5 : decode cX4_findSpared 5 = .ok (.istore_n 2, 1) := by decide +kernel
theorem dX4_findSpared_6 : decode cX4_findSpared 6 = .ok (.iload_n 2, 1) := by decide +kernel
theorem dX4_findSpared_7 : decode cX4_findSpared 7 = .ok (.ifCond .ne 16, 3) := by decide +kernel
theorem dX4_findSpared_10 : decode cX4_findSpared 10 = .ok (.aload_n 0, 1) := by decide +kernel
theorem dX4_findSpared_11 : decode cX4_findSpared 11 = .ok (.ldc 59, 2) := by decide +kernel
theorem dX4_findSpared_13 : decode cX4_findSpared 13 = .ok (.putfield 48, 3) := by decide +kernel
theorem dX4_findSpared_16 : decode cX4_findSpared 16 = .ok (.aload_n 0, 1) := by decide +kernel
theorem dX4_findSpared_17 : decode cX4_findSpared 17 = .ok (.ldc 59, 2) := by decide +kernel
theorem dX4_findSpared_19 : decode cX4_findSpared 19 = .ok (.putfield 41, 3) := by decide +kernel
theorem dX4_findSpared_22 : decode cX4_findSpared 22 = .ok (.return_, 1) := by decide +kernel
theorem dX4_findSpared_23 : decode cX4_findSpared 23 = .ok (.aload_n 0, 1) := by decide +kernel
theorem dX4_findSpared_24 : decode cX4_findSpared 24 = .ok (.getfield 12, 3) := by decide +kernel
theorem dX4_findSpared_27 : decode cX4_findSpared 27 = .ok (.aload_n 1, 1) := by decide +kernel
theorem dX4_findSpared_28 : decode cX4_findSpared 28 = .ok (.invokevirtual 25, 3) := by decide +kernel
theorem dX4_findSpared_31 : decode cX4_findSpared 31 = .ok (.aload_n 0, 1) := by decide +kernel
theorem dX4_findSpared_32 : decode cX4_findSpared 32 = .ok (.bipush 9, 2) := by decide +kernel
theorem dX4_findSpared_34 : decode cX4_findSpared 34 = .ok (.putfield 41, 3) := by decide +kernel
theorem dX4_findSpared_37 : decode cX4_findSpared 37 = .ok (.iconst 0, 1) := by decide +kernel
theorem dX4_findSpared_38 : decode cX4_findSpared 38 = .ok (.istore_n 3, 1) := by decide +kernel
theorem dX4_findSpared_39 : decode cX4_findSpared 39 = .ok (.iload_n 3, 1) := by decide +kernel
theorem dX4_findSpared_40 : decode cX4_findSpared 40 = .ok (.aload_n 1, 1) := by decide +kernel
theorem dX4_findSpared_41 : decode cX4_findSpared 41 = .ok (.getfield 63, 3) := by decide +kernel
theorem dX4_findSpared_44 : decode cX4_findSpared 44 = .ok (.if_icmp .ge 37, 3) := by decide +kernel
theorem dX4_findSpared_47 : decode cX4_findSpared 47 = .ok (.iload_n 2, 1) := by decide +kernel
theorem dX4_findSpared_48 : decode cX4_findSpared 48 = .ok (.iload_n 3, 1) := by decide +kernel
theorem dX4_findSpared_49 : decode cX4_findSpared 49 = .ok (.invokestatic 75, 3) := by decide +kernel
theorem dX4_findSpared_52 : decode cX4_findSpared 52 = .ok (.ifCond .eq 23, 3) := by decide +kernel
theorem dX4_findSpared_55 : decode cX4_findSpared 55 = .ok (.aload_n 0, 1) := by decide +kernel
theorem dX4_findSpared_56 : decode cX4_findSpared 56 = .ok (.iload_n 3, 1) := by decide +kernel
theorem dX4_findSpared_57 : decode cX4_findSpared 57 = .ok (.aload_n 0, 1) := by decide +kernel
theorem dX4_findSpared_58 : decode cX4_findSpared 58 = .ok (.iload_n 2, 1) := by decide +kernel
theorem dX4_findSpared_59 : decode cX4_findSpared 59 = .ok (.iconst 1, 1) := by decide +kernel
theorem dX4_findSpared_60 : decode cX4_findSpared 60 = .ok (.iload_n 3, 1) := by decide +kernel
theorem dX4_findSpared_61 : decode cX4_findSpared 61 = .ok (.ishl, 1) := by decide +kernel
theorem dX4_findSpared_62 : decode cX4_findSpared 62 = .ok (.iconst (-1), 1) := by decide +kernel
theorem dX4_findSpared_63 : decode cX4_findSpared 63 = .ok (.ixor, 1) := by decide +kernel
theorem dX4_findSpared_64 : decode cX4_findSpared 64 = .ok (.iand, 1) := by decide +kernel
theorem dX4_findSpared_65 : decode cX4_findSpared 65 = .ok (.aload_n 0, 1) := by decide +kernel
theorem dX4_findSpared_66 : decode cX4_findSpared 66 = .ok (.getfield 41, 3) := by decide +kernel
theorem dX4_findSpared_69 : decode cX4_findSpared 69 = .ok (.invokevirtual 37, 3) := by decide +kernel
theorem dX4_findSpared_72 : decode cX4_findSpared 72 = .ok (.invokevirtual 72, 3) := by decide +kernel
theorem dX4_findSpared_75 : decode cX4_findSpared 75 = .ok (.iinc 3 1, 3) := by decide +kernel
theorem dX4_findSpared_78 : decode cX4_findSpared 78 = .ok (.goto (-39), 3) := by decide +kernel
theorem dX4_findSpared_81 : decode cX4_findSpared 81 = .ok (.return_, 1) := by decide +kernel
theorem dX4_keepFewest_0 : decode cX4_keepFewest 0 = .ok (.iload_n 2, 1) := by decide +kernel
theorem dX4_keepFewest_1 : decode cX4_keepFewest 1 = .ok (.aload_n 0, 1) := by decide +kernel
theorem dX4_keepFewest_2 : decode cX4_keepFewest 2 = .ok (.getfield 41, 3) := by decide +kernel
theorem dX4_keepFewest_5 : decode cX4_keepFewest 5 = .ok (.if_icmp .ge 13, 3) := by decide +kernel
theorem dX4_keepFewest_8 : decode cX4_keepFewest 8 = .ok (.aload_n 0, 1) := by decide +kernel
theorem dX4_keepFewest_9 : decode cX4_keepFewest 9 = .ok (.iload_n 1, 1) := by decide +kernel
theorem dX4_keepFewest_10 : decode cX4_keepFewest 10 = .ok (.putfield 48, 3) := by decide +kernel
theorem dX4_keepFewest_13 : decode cX4_keepFewest 13 = .ok (.aload_n 0, 1) := by decide +kernel
theorem dX4_keepFewest_14 : decode cX4_keepFewest 14 = .ok (.iload_n 2, 1) := by decide +kernel
theorem dX4_keepFewest_15 : decode cX4_keepFewest 15 = .ok (.putfield 41, 3) := by decide +kernel
theorem dX4_keepFewest_18 : decode cX4_keepFewest 18 = .ok (.return_, 1) := by decide +kernel
theorem dX4_findAlike_0 : decode cX4_findAlike 0 = .ok (.aload_n 0, 1) := by decide +kernel
theorem dX4_findAlike_1 : decode cX4_findAlike 1 = .ok (.getfield 12, 3) := by decide +kernel
theorem dX4_findAlike_4 : decode cX4_findAlike 4 = .ok (.aload_n 1, 1) := by decide +kernel
theorem dX4_findAlike_5 : decode cX4_findAlike 5 = .ok (.invokevirtual 25, 3) := by decide +kernel
theorem dX4_findAlike_8 : decode cX4_findAlike 8 = .ok (.aload_n 1, 1) := by decide +kernel
theorem dX4_findAlike_9 : decode cX4_findAlike 9 = .ok (.iconst 0, 1) := by decide +kernel
theorem dX4_findAlike_10 : decode cX4_findAlike 10 = .ok (.invokevirtual 29, 3) := by decide +kernel
theorem dX4_findAlike_13 : decode cX4_findAlike 13 = .ok (.istore_n 2, 1) := by decide +kernel
theorem dX4_findAlike_14 : decode cX4_findAlike 14 = .ok (.aload_n 0, 1) := by decide +kernel
theorem dX4_findAlike_15 : decode cX4_findAlike 15 = .ok (.iconst 0, 1) := by decide +kernel
theorem dX4_findAlike_16 : decode cX4_findAlike 16 = .ok (.putfield 41, 3) := by decide +kernel
theorem dX4_findAlike_19 : decode cX4_findAlike 19 = .ok (.aload_n 0, 1) := by decide +kernel
theorem dX4_findAlike_20 : decode cX4_findAlike 20 = .ok (.ldc 59, 2) := by decide +kernel
theorem dX4_findAlike_22 : decode cX4_findAlike 22 = .ok (.putfield 48, 3) := by decide +kernel
theorem dX4_findAlike_25 : decode cX4_findAlike 25 = .ok (.iconst 0, 1) := by decide +kernel
theorem dX4_findAlike_26 : decode cX4_findAlike 26 = .ok (.istore_n 3, 1) := by decide +kernel
theorem dX4_findAlike_27 : decode cX4_findAlike 27 = .ok (.iload_n 3, 1) := by decide +kernel
theorem dX4_findAlike_28 : decode cX4_findAlike 28 = .ok (.aload_n 1, 1) := by decide +kernel
theorem dX4_findAlike_29 : decode cX4_findAlike 29 = .ok (.getfield 63, 3) := by decide +kernel
theorem dX4_findAlike_32 : decode cX4_findAlike 32 = .ok (.if_icmp .ge 94, 3) := by decide +kernel
theorem dX4_findAlike_35 : decode cX4_findAlike 35 = .ok (.iload_n 3, 1) := by decide +kernel
theorem dX4_findAlike_36 : decode cX4_findAlike 36 = .ok (.iconst 1, 1) := by decide +kernel
theorem dX4_findAlike_37 : decode cX4_findAlike 37 = .ok (.iadd, 1) := by decide +kernel
theorem dX4_findAlike_38 : decode cX4_findAlike 38 = .ok (.istore 4, 2) := by decide +kernel
theorem dX4_findAlike_40 : decode cX4_findAlike 40 = .ok (.iload 4, 2) := by decide +kernel
theorem dX4_findAlike_42 : decode cX4_findAlike 42 = .ok (.aload_n 1, 1) := by decide +kernel
theorem dX4_findAlike_43 : decode cX4_findAlike 43 = .ok (.getfield 63, 3) := by decide +kernel
theorem dX4_findAlike_46 : decode cX4_findAlike 46 = .ok (.if_icmp .ge 74, 3) := by decide +kernel
theorem dX4_findAlike_49 : decode cX4_findAlike 49 = .ok (.iload_n 2, 1) := by decide +kernel
theorem dX4_findAlike_50 : decode cX4_findAlike 50 = .ok (.iload_n 3, 1) := by decide +kernel
theorem dX4_findAlike_51 : decode cX4_findAlike 51 = .ok (.invokestatic 75, 3) := by decide +kernel
theorem dX4_findAlike_54 : decode cX4_findAlike 54 = .ok (.ifCond .eq 60, 3) := by decide +kernel
theorem dX4_findAlike_57 : decode cX4_findAlike 57 = .ok (.iload_n 2, 1) := by decide +kernel
theorem dX4_findAlike_58 : decode cX4_findAlike 58 = .ok (.iload 4, 2) := by decide +kernel
theorem dX4_findAlike_60 : decode cX4_findAlike 60 = .ok (.invokestatic 75, 3) := by decide +kernel
theorem dX4_findAlike_63 : decode cX4_findAlike 63 = .ok (.ifCond .eq 51, 3) := by decide +kernel
theorem dX4_findAlike_66 : decode cX4_findAlike 66 = .ok (.aload_n 0, 1) := by decide +kernel
theorem dX4_findAlike_67 : decode cX4_findAlike 67 = .ok (.getfield 12, 3) := by decide +kernel
theorem dX4_findAlike_70 : decode cX4_findAlike 70 = .ok (.iload_n 3, 1) := by decide +kernel
theorem dX4_findAlike_71 : decode cX4_findAlike 71 = .ok (.iload 4, 2) := by decide +kernel
theorem dX4_findAlike_73 : decode cX4_findAlike 73 = .ok (.invokevirtual 79, 3) := by decide +kernel
theorem dX4_findAlike_76 : decode cX4_findAlike 76 = .ok (.ifCond .eq 38, 3) := by decide +kernel
theorem dX4_findAlike_79 : decode cX4_findAlike 79 = .ok (.aload_n 0, 1) := by decide +kernel
theorem dX4_findAlike_80 : decode cX4_findAlike 80 = .ok (.aload_n 0, 1) := by decide +kernel
theorem dX4_findAlike_81 : decode cX4_findAlike 81 = .ok (.getfield 41, 3) := by decide +kernel
theorem dX4_findAlike_84 : decode cX4_findAlike 84 = .ok (.ifCond .ne 13, 3) := by decide +kernel
theorem dX4_findAlike_87 : decode cX4_findAlike 87 = .ok (.bipush 10, 2) := by decide +kernel
theorem dX4_findAlike_89 : decode cX4_findAlike 89 = .ok (.iload_n 3, 1) := by decide +kernel
theorem dX4_findAlike_90 : decode cX4_findAlike 90 = .ok (.imul, 1) := by decide +kernel
theorem dX4_findAlike_91 : decode cX4_findAlike 91 = .ok (.iload 4, 2) := by decide +kernel
theorem dX4_findAlike_93 : decode cX4_findAlike 93 = .ok (.iadd, 1) := by decide +kernel
theorem dX4_findAlike_94 : decode cX4_findAlike 94 = .ok (.goto 7, 3) := by decide +kernel
theorem dX4_findAlike_97 : decode cX4_findAlike 97 = .ok (.aload_n 0, 1) := by decide +kernel
theorem dX4_findAlike_98 : decode cX4_findAlike 98 = .ok (.getfield 48, 3) := by decide +kernel
theorem dX4_findAlike_101 : decode cX4_findAlike 101 = .ok (.putfield 48, 3) := by decide +kernel
theorem dX4_findAlike_104 : decode cX4_findAlike 104 = .ok (.aload_n 0, 1) := by decide +kernel
theorem dX4_findAlike_105 : decode cX4_findAlike 105 = .ok (.dup, 1) := by decide +kernel
theorem dX4_findAlike_106 : decode cX4_findAlike 106 = .ok (.getfield 41, 3) := by decide +kernel
theorem dX4_findAlike_109 : decode cX4_findAlike 109 = .ok (.iconst 1, 1) := by decide +kernel
theorem dX4_findAlike_110 : decode cX4_findAlike 110 = .ok (.iadd, 1) := by decide +kernel
theorem dX4_findAlike_111 : decode cX4_findAlike 111 = .ok (.putfield 41, 3) := by decide +kernel
theorem dX4_findAlike_114 : decode cX4_findAlike 114 = .ok (.iinc 4 1, 3) := by decide +kernel
theorem dX4_findAlike_117 : decode cX4_findAlike 117 = .ok (.goto (-77), 3) := by decide +kernel
theorem dX4_findAlike_120 : decode cX4_findAlike 120 = .ok (.iinc 3 1, 3) := by decide +kernel
theorem dX4_findAlike_123 : decode cX4_findAlike 123 = .ok (.goto (-96), 3) := by decide +kernel
theorem dX4_findAlike_126 : decode cX4_findAlike 126 = .ok (.return_, 1) := by decide +kernel
theorem dX4_findSong_0 : decode cX4_findSong 0 = .ok (.aload_n 1, 1) := by decide +kernel
theorem dX4_findSong_1 : decode cX4_findSong 1 = .ok (.iconst 0, 1) := by decide +kernel
theorem dX4_findSong_2 : decode cX4_findSong 2 = .ok (.invokevirtual 29, 3) := by decide +kernel
theorem dX4_findSong_5 : decode cX4_findSong 5 = .ok (.istore 5, 2) := by decide +kernel
theorem dX4_findSong_7 : decode cX4_findSong 7 = .ok (.aload_n 0, 1) := by decide +kernel
theorem dX4_findSong_8 : decode cX4_findSong 8 = .ok (.iconst 0, 1) := by decide +kernel
theorem dX4_findSong_9 : decode cX4_findSong 9 = .ok (.putfield 48, 3) := by decide +kernel
theorem dX4_findSong_12 : decode cX4_findSong 12 = .ok (.aload_n 0, 1) := by decide +kernel
theorem dX4_findSong_13 : decode cX4_findSong 13 = .ok (.iconst 0, 1) := by decide +kernel
theorem dX4_findSong_14 : decode cX4_findSong 14 = .ok (.putfield 41, 3) := by decide +kernel
theorem dX4_findSong_17 : decode cX4_findSong 17 = .ok (.iconst 0, 1) := by decide +kernel
theorem dX4_findSong_18 : decode cX4_findSong 18 = .ok (.istore 6, 2) := by decide +kernel
theorem dX4_findSong_20 : decode cX4_findSong 20 = .ok (.iload 6, 2) := by decide +kernel
theorem dX4_findSong_22 : decode cX4_findSong 22 = .ok (.iload 4, 2) := by decide +kernel
theorem dX4_findSong_24 : decode cX4_findSong 24 = .ok (.if_icmp .ge 65, 3) := by decide +kernel
theorem dX4_findSong_27 : decode cX4_findSong 27 = .ok (.aload_n 1, 1) := by decide +kernel
theorem dX4_findSong_28 : decode cX4_findSong 28 = .ok (.iload 5, 2) := by decide +kernel
theorem dX4_findSong_30 : decode cX4_findSong 30 = .ok (.aload_n 2, 1) := by decide +kernel
theorem dX4_findSong_31 : decode cX4_findSong 31 = .ok (.iload_n 3, 1) := by decide +kernel
theorem dX4_findSong_32 : decode cX4_findSong 32 = .ok (.iload 6, 2) := by decide +kernel
theorem dX4_findSong_34 : decode cX4_findSong 34 = .ok (.iadd, 1) := by decide +kernel
theorem dX4_findSong_35 : decode cX4_findSong 35 = .ok (.iaload, 1) := by decide +kernel
theorem dX4_findSong_36 : decode cX4_findSong 36 = .ok (.invokestatic 82, 3) := by decide +kernel
theorem dX4_findSong_39 : decode cX4_findSong 39 = .ok (.istore 7, 2) := by decide +kernel
theorem dX4_findSong_41 : decode cX4_findSong 41 = .ok (.iload 7, 2) := by decide +kernel
theorem dX4_findSong_43 : decode cX4_findSong 43 = .ok (.ifCond .ge 16, 3) := by decide +kernel
theorem dX4_findSong_46 : decode cX4_findSong 46 = .ok (.aload_n 0, 1) := by decide +kernel
theorem dX4_findSong_47 : decode cX4_findSong 47 = .ok (.dup, 1) := by decide +kernel
theorem dX4_findSong_48 : decode cX4_findSong 48 = .ok (.getfield 41, 3) := by decide +kernel
theorem dX4_findSong_51 : decode cX4_findSong 51 = .ok (.iconst 1, 1) := by decide +kernel
theorem dX4_findSong_52 : decode cX4_findSong 52 = .ok (.iadd, 1) := by decide +kernel
theorem dX4_findSong_53 : decode cX4_findSong 53 = .ok (.putfield 41, 3) := by decide +kernel
theorem dX4_findSong_56 : decode cX4_findSong 56 = .ok (.goto 27, 3) := by decide +kernel
theorem dX4_findSong_59 : decode cX4_findSong 59 = .ok (.aload_n 0, 1) := by decide +kernel
theorem dX4_findSong_60 : decode cX4_findSong 60 = .ok (.dup, 1) := by decide +kernel
theorem dX4_findSong_61 : decode cX4_findSong 61 = .ok (.getfield 48, 3) := by decide +kernel
theorem dX4_findSong_64 : decode cX4_findSong 64 = .ok (.iconst 1, 1) := by decide +kernel
theorem dX4_findSong_65 : decode cX4_findSong 65 = .ok (.iload 7, 2) := by decide +kernel
theorem dX4_findSong_67 : decode cX4_findSong 67 = .ok (.ishl, 1) := by decide +kernel
theorem dX4_findSong_68 : decode cX4_findSong 68 = .ok (.ior, 1) := by decide +kernel
theorem dX4_findSong_69 : decode cX4_findSong 69 = .ok (.putfield 48, 3) := by decide +kernel
theorem dX4_findSong_72 : decode cX4_findSong 72 = .ok (.iload 5, 2) := by decide +kernel
theorem dX4_findSong_74 : decode cX4_findSong 74 = .ok (.iconst 1, 1) := by decide +kernel
theorem dX4_findSong_75 : decode cX4_findSong 75 = .ok (.iload 7, 2) := by decide +kernel
theorem dX4_findSong_77 : decode cX4_findSong 77 = .ok (.ishl, 1) := by decide +kernel
theorem dX4_findSong_78 : decode cX4_findSong 78 = .ok (.iconst (-1), 1) := by decide +kernel
theorem dX4_findSong_79 : decode cX4_findSong 79 = .ok (.ixor, 1) := by decide +kernel
theorem dX4_findSong_80 : decode cX4_findSong 80 = .ok (.iand, 1) := by decide +kernel
theorem dX4_findSong_81 : decode cX4_findSong 81 = .ok (.istore 5, 2) := by decide +kernel
theorem dX4_findSong_83 : decode cX4_findSong 83 = .ok (.iinc 6 1, 3) := by decide +kernel
theorem dX4_findSong_86 : decode cX4_findSong 86 = .ok (.goto (-66), 3) := by decide +kernel
theorem dX4_findSong_89 : decode cX4_findSong 89 = .ok (.return_, 1) := by decide +kernel
theorem dX4_leastOf_0 : decode cX4_leastOf 0 = .ok (.iconst 0, 1) := by decide +kernel
theorem dX4_leastOf_1 : decode cX4_leastOf 1 = .ok (.istore_n 3, 1) := by decide +kernel
theorem dX4_leastOf_2 : decode cX4_leastOf 2 = .ok (.iload_n 3, 1) := by decide +kernel
theorem dX4_leastOf_3 : decode cX4_leastOf 3 = .ok (.aload_n 0, 1) := by decide +kernel
theorem dX4_leastOf_4 : decode cX4_leastOf 4 = .ok (.getfield 63, 3) := by decide +kernel
theorem dX4_leastOf_7 : decode cX4_leastOf 7 = .ok (.if_icmp .ge 29, 3) := by decide +kernel
theorem dX4_leastOf_10 : decode cX4_leastOf 10 = .ok (.iload_n 1, 1) := by decide +kernel
theorem dX4_leastOf_11 : decode cX4_leastOf 11 = .ok (.iload_n 3, 1) := by decide +kernel
theorem dX4_leastOf_12 : decode cX4_leastOf 12 = .ok (.invokestatic 75, 3) := by decide +kernel
theorem dX4_leastOf_15 : decode cX4_leastOf 15 = .ok (.ifCond .eq 15, 3) := by decide +kernel
theorem dX4_leastOf_18 : decode cX4_leastOf 18 = .ok (.aload_n 0, 1) := by decide +kernel
theorem dX4_leastOf_19 : decode cX4_leastOf 19 = .ok (.getfield 68, 3) := by decide +kernel
theorem dX4_leastOf_22 : decode cX4_leastOf 22 = .ok (.iload_n 3, 1) := by decide +kernel
theorem dX4_leastOf_23 : decode cX4_leastOf 23 = .ok (.iaload, 1) := by decide +kernel
theorem dX4_leastOf_24 : decode cX4_leastOf 24 = .ok (.iload_n 2, 1) := by decide +kernel
theorem dX4_leastOf_25 : decode cX4_leastOf 25 = .ok (.if_icmp .ne 5, 3) := by decide +kernel
theorem dX4_leastOf_28 : decode cX4_leastOf 28 = .ok (.iload_n 3, 1) := by decide +kernel
theorem dX4_leastOf_29 : decode cX4_leastOf 29 = .ok (.ireturn, 1) := by decide +kernel
theorem dX4_leastOf_30 : decode cX4_leastOf 30 = .ok (.iinc 3 1, 3) := by decide +kernel
theorem dX4_leastOf_33 : decode cX4_leastOf 33 = .ok (.goto (-31), 3) := by decide +kernel
theorem dX4_leastOf_36 : decode cX4_leastOf 36 = .ok (.iconst (-1), 1) := by decide +kernel
theorem dX4_leastOf_37 : decode cX4_leastOf 37 = .ok (.ireturn, 1) := by decide +kernel
theorem dX4_fittingKinds_0 : decode cX4_fittingKinds 0 = .ok (.iconst 0, 1) := by decide +kernel
theorem dX4_fittingKinds_1 : decode cX4_fittingKinds 1 = .ok (.istore 7, 2) := by decide +kernel
theorem dX4_fittingKinds_3 : decode cX4_fittingKinds 3 = .ok (.aload_n 0, 1) := by decide +kernel
theorem dX4_fittingKinds_4 : decode cX4_fittingKinds 4 = .ok (.getfield 21, 3) := by decide +kernel
theorem dX4_fittingKinds_7 : decode cX4_fittingKinds 7 = .ok (.aload_n 1, 1) := by decide +kernel
theorem dX4_fittingKinds_8 : decode cX4_fittingKinds 8 = .ok (.invokevirtual 60, 3) := by decide +kernel
theorem dX4_fittingKinds_11 : decode cX4_fittingKinds 11 = .ok (.iconst 1, 1) := by decide +kernel
theorem dX4_fittingKinds_12 : decode cX4_fittingKinds 12 = .ok (.istore 8, 2) := by decide +kernel
theorem dX4_fittingKinds_14 : decode cX4_fittingKinds 14 = .ok (.iload 8, 2) := by decide +kernel
theorem dX4_fittingKinds_16 : decode cX4_fittingKinds 16 = .ok (.iconst 5, 1) := by decide +kernel
theorem dX4_fittingKinds_17 : decode cX4_fittingKinds 17 = .ok (.if_icmp .gt 43, 3) := by decide +kernel
theorem dX4_fittingKinds_20 : decode cX4_fittingKinds 20 = .ok (.aload_n 0, 1) := by decide +kernel
theorem dX4_fittingKinds_21 : decode cX4_fittingKinds 21 = .ok (.getfield 21, 3) := by decide +kernel
theorem dX4_fittingKinds_24 : decode cX4_fittingKinds 24 = .ok (.getfield 86, 3) := by decide +kernel
theorem dX4_fittingKinds_27 : decode cX4_fittingKinds 27 = .ok (.iload_n 2, 1) := by decide +kernel
theorem dX4_fittingKinds_28 : decode cX4_fittingKinds 28 = .ok (.iload 8, 2) := by decide +kernel
theorem dX4_fittingKinds_30 : decode cX4_fittingKinds 30 = .ok (.iastore, 1) := by decide +kernel
theorem dX4_fittingKinds_31 : decode cX4_fittingKinds 31 = .ok (.aload_n 0, 1) := by decide +kernel
theorem dX4_fittingKinds_32 : decode cX4_fittingKinds 32 = .ok (.iload_n 3, 1) := by decide +kernel
theorem dX4_fittingKinds_33 : decode cX4_fittingKinds 33 = .ok (.aload 4, 2) := by decide +kernel
theorem dX4_fittingKinds_35 : decode cX4_fittingKinds 35 = .ok (.iload 5, 2) := by decide +kernel
theorem dX4_fittingKinds_37 : decode cX4_fittingKinds 37 = .ok (.iload 6, 2) := by decide +kernel
theorem dX4_fittingKinds_39 : decode cX4_fittingKinds 39 = .ok (.invokevirtual 89, 3) := by decide +kernel
theorem dX4_fittingKinds_42 : decode cX4_fittingKinds 42 = .ok (.ifCond .eq 12, 3) := by decide +kernel
theorem dX4_fittingKinds_45 : decode cX4_fittingKinds 45 = .ok (.iload 7, 2) := by decide +kernel
theorem dX4_fittingKinds_47 : decode cX4_fittingKinds 47 = .ok (.iconst 1, 1) := by decide +kernel
theorem dX4_fittingKinds_48 : decode cX4_fittingKinds 48 = .ok (.iload 8, 2) := by decide +kernel
theorem dX4_fittingKinds_50 : decode cX4_fittingKinds 50 = .ok (.ishl, 1) := by decide +kernel
theorem dX4_fittingKinds_51 : decode cX4_fittingKinds 51 = .ok (.ior, 1) := by decide +kernel
theorem dX4_fittingKinds_52 : decode cX4_fittingKinds 52 = .ok (.istore 7, 2) := by decide +kernel
theorem dX4_fittingKinds_54 : decode cX4_fittingKinds 54 = .ok (.iinc 8 1, 3) := by decide +kernel
theorem dX4_fittingKinds_57 : decode cX4_fittingKinds 57 = .ok (.goto (-43), 3) := by decide +kernel
theorem dX4_fittingKinds_60 : decode cX4_fittingKinds 60 = .ok (.iload 7, 2) := by decide +kernel
theorem dX4_fittingKinds_62 : decode cX4_fittingKinds 62 = .ok (.ireturn, 1) := by decide +kernel
theorem dX4_fittingNotes_0 : decode cX4_fittingNotes 0 = .ok (.iconst 0, 1) := by decide +kernel
theorem dX4_fittingNotes_1 : decode cX4_fittingNotes 1 = .ok (.istore 7, 2) := by decide +kernel
theorem dX4_fittingNotes_3 : decode cX4_fittingNotes 3 = .ok (.aload_n 0, 1) := by decide +kernel
theorem dX4_fittingNotes_4 : decode cX4_fittingNotes 4 = .ok (.getfield 21, 3) := by decide +kernel
theorem dX4_fittingNotes_7 : decode cX4_fittingNotes 7 = .ok (.aload_n 1, 1) := by decide +kernel
theorem dX4_fittingNotes_8 : decode cX4_fittingNotes 8 = .ok (.invokevirtual 60, 3) := by decide +kernel
theorem dX4_fittingNotes_11 : decode cX4_fittingNotes 11 = .ok (.iconst 0, 1) := by decide +kernel
theorem dX4_fittingNotes_12 : decode cX4_fittingNotes 12 = .ok (.istore 8, 2) := by decide +kernel
theorem dX4_fittingNotes_14 : decode cX4_fittingNotes 14 = .ok (.iload 8, 2) := by decide +kernel
theorem dX4_fittingNotes_16 : decode cX4_fittingNotes 16 = .ok (.bipush 12, 2) := by decide +kernel
theorem dX4_fittingNotes_18 : decode cX4_fittingNotes 18 = .ok (.if_icmp .ge 43, 3) := by decide +kernel
theorem dX4_fittingNotes_21 : decode cX4_fittingNotes 21 = .ok (.aload_n 0, 1) := by decide +kernel
theorem dX4_fittingNotes_22 : decode cX4_fittingNotes 22 = .ok (.getfield 21, 3) := by decide +kernel
theorem dX4_fittingNotes_25 : decode cX4_fittingNotes 25 = .ok (.getfield 68, 3) := by decide +kernel
theorem dX4_fittingNotes_28 : decode cX4_fittingNotes 28 = .ok (.iload_n 2, 1) := by decide +kernel
theorem dX4_fittingNotes_29 : decode cX4_fittingNotes 29 = .ok (.iload 8, 2) := by decide +kernel
theorem dX4_fittingNotes_31 : decode cX4_fittingNotes 31 = .ok (.iastore, 1) := by decide +kernel
theorem dX4_fittingNotes_32 : decode cX4_fittingNotes 32 = .ok (.aload_n 0, 1) := by decide +kernel
theorem dX4_fittingNotes_33 : decode cX4_fittingNotes 33 = .ok (.iload_n 3, 1) := by decide +kernel
theorem dX4_fittingNotes_34 : decode cX4_fittingNotes 34 = .ok (.aload 4, 2) := by decide +kernel
theorem dX4_fittingNotes_36 : decode cX4_fittingNotes 36 = .ok (.iload 5, 2) := by decide +kernel
theorem dX4_fittingNotes_38 : decode cX4_fittingNotes 38 = .ok (.iload 6, 2) := by decide +kernel
theorem dX4_fittingNotes_40 : decode cX4_fittingNotes 40 = .ok (.invokevirtual 89, 3) := by decide +kernel
theorem dX4_fittingNotes_43 : decode cX4_fittingNotes 43 = .ok (.ifCond .eq 12, 3) := by decide +kernel
theorem dX4_fittingNotes_46 : decode cX4_fittingNotes 46 = .ok (.iload 7, 2) := by decide +kernel
theorem dX4_fittingNotes_48 : decode cX4_fittingNotes 48 = .ok (.iconst 1, 1) := by decide +kernel
theorem dX4_fittingNotes_49 : decode cX4_fittingNotes 49 = .ok (.iload 8, 2) := by decide +kernel
theorem dX4_fittingNotes_51 : decode cX4_fittingNotes 51 = .ok (.ishl, 1) := by decide +kernel
theorem dX4_fittingNotes_52 : decode cX4_fittingNotes 52 = .ok (.ior, 1) := by decide +kernel
theorem dX4_fittingNotes_53 : decode cX4_fittingNotes 53 = .ok (.istore 7, 2) := by decide +kernel
theorem dX4_fittingNotes_55 : decode cX4_fittingNotes 55 = .ok (.iinc 8 1, 3) := by decide +kernel
theorem dX4_fittingNotes_58 : decode cX4_fittingNotes 58 = .ok (.goto (-44), 3) := by decide +kernel
theorem dX4_fittingNotes_61 : decode cX4_fittingNotes 61 = .ok (.iload 7, 2) := by decide +kernel
theorem dX4_fittingNotes_63 : decode cX4_fittingNotes 63 = .ok (.ireturn, 1) := by decide +kernel
theorem dX4_fittingReaches_0 : decode cX4_fittingReaches 0 = .ok (.iconst 0, 1) := by decide +kernel
theorem dX4_fittingReaches_1 : decode cX4_fittingReaches 1 = .ok (.istore 6, 2) := by decide +kernel
theorem dX4_fittingReaches_3 : decode cX4_fittingReaches 3 = .ok (.aload_n 0, 1) := by decide +kernel
theorem dX4_fittingReaches_4 : decode cX4_fittingReaches 4 = .ok (.getfield 21, 3) := by decide +kernel
theorem dX4_fittingReaches_7 : decode cX4_fittingReaches 7 = .ok (.aload_n 1, 1) := by decide +kernel
theorem dX4_fittingReaches_8 : decode cX4_fittingReaches 8 = .ok (.invokevirtual 60, 3) := by decide +kernel
theorem dX4_fittingReaches_11 : decode cX4_fittingReaches 11 = .ok (.iconst 0, 1) := by decide +kernel
theorem dX4_fittingReaches_12 : decode cX4_fittingReaches 12 = .ok (.istore 7, 2) := by decide +kernel
theorem dX4_fittingReaches_14 : decode cX4_fittingReaches 14 = .ok (.iload 7, 2) := by decide +kernel
theorem dX4_fittingReaches_16 : decode cX4_fittingReaches 16 = .ok (.bipush 8, 2) := by decide +kernel
theorem dX4_fittingReaches_18 : decode cX4_fittingReaches 18 = .ok (.if_icmp .gt 40, 3) := by decide +kernel
theorem dX4_fittingReaches_21 : decode cX4_fittingReaches 21 = .ok (.aload_n 0, 1) := by decide +kernel
theorem dX4_fittingReaches_22 : decode cX4_fittingReaches 22 = .ok (.getfield 21, 3) := by decide +kernel
theorem dX4_fittingReaches_25 : decode cX4_fittingReaches 25 = .ok (.iload 7, 2) := by decide +kernel
theorem dX4_fittingReaches_27 : decode cX4_fittingReaches 27 = .ok (.putfield 93, 3) := by decide +kernel
theorem dX4_fittingReaches_30 : decode cX4_fittingReaches 30 = .ok (.aload_n 0, 1) := by decide +kernel
theorem dX4_fittingReaches_31 : decode cX4_fittingReaches 31 = .ok (.iload_n 2, 1) := by decide +kernel
theorem dX4_fittingReaches_32 : decode cX4_fittingReaches 32 = .ok (.aload_n 3, 1) := by decide +kernel
theorem dX4_fittingReaches_33 : decode cX4_fittingReaches 33 = .ok (.iload 4, 2) := by decide +kernel
theorem dX4_fittingReaches_35 : decode cX4_fittingReaches 35 = .ok (.iload 5, 2) := by decide +kernel
theorem dX4_fittingReaches_37 : decode cX4_fittingReaches 37 = .ok (.invokevirtual 89, 3) := by decide +kernel
theorem dX4_fittingReaches_40 : decode cX4_fittingReaches 40 = .ok (.ifCond .eq 12, 3) := by decide +kernel
theorem dX4_fittingReaches_43 : decode cX4_fittingReaches 43 = .ok (.iload 6, 2) := by decide +kernel
theorem dX4_fittingReaches_45 : decode cX4_fittingReaches 45 = .ok (.iconst 1, 1) := by decide +kernel
theorem dX4_fittingReaches_46 : decode cX4_fittingReaches 46 = .ok (.iload 7, 2) := by decide +kernel
theorem dX4_fittingReaches_48 : decode cX4_fittingReaches 48 = .ok (.ishl, 1) := by decide +kernel
theorem dX4_fittingReaches_49 : decode cX4_fittingReaches 49 = .ok (.ior, 1) := by decide +kernel
theorem dX4_fittingReaches_50 : decode cX4_fittingReaches 50 = .ok (.istore 6, 2) := by decide +kernel
theorem dX4_fittingReaches_52 : decode cX4_fittingReaches 52 = .ok (.iinc 7 1, 3) := by decide +kernel
theorem dX4_fittingReaches_55 : decode cX4_fittingReaches 55 = .ok (.goto (-41), 3) := by decide +kernel
theorem dX4_fittingReaches_58 : decode cX4_fittingReaches 58 = .ok (.iload 6, 2) := by decide +kernel
theorem dX4_fittingReaches_60 : decode cX4_fittingReaches 60 = .ok (.ireturn, 1) := by decide +kernel
theorem dX4_guessFits_0 : decode cX4_guessFits 0 = .ok (.aload_n 0, 1) := by decide +kernel
theorem dX4_guessFits_1 : decode cX4_guessFits 1 = .ok (.getfield 12, 3) := by decide +kernel
theorem dX4_guessFits_4 : decode cX4_guessFits 4 = .ok (.aload_n 0, 1) := by decide +kernel
theorem dX4_guessFits_5 : decode cX4_guessFits 5 = .ok (.getfield 21, 3) := by decide +kernel
theorem dX4_guessFits_8 : decode cX4_guessFits 8 = .ok (.invokevirtual 25, 3) := by decide +kernel
theorem dX4_guessFits_11 : decode cX4_guessFits 11 = .ok (.aload_n 0, 1) := by decide +kernel
theorem dX4_guessFits_12 : decode cX4_guessFits 12 = .ok (.getfield 21, 3) := by decide +kernel
theorem dX4_guessFits_15 : decode cX4_guessFits 15 = .ok (.iconst 0, 1) := by decide +kernel
theorem dX4_guessFits_16 : decode cX4_guessFits 16 = .ok (.invokevirtual 29, 3) := by decide +kernel
theorem dX4_guessFits_19 : decode cX4_guessFits 19 = .ok (.istore 5, 2) := by decide +kernel
theorem dX4_guessFits_21 : decode cX4_guessFits 21 = .ok (.iconst 0, 1) := by decide +kernel
theorem dX4_guessFits_22 : decode cX4_guessFits 22 = .ok (.istore 6, 2) := by decide +kernel
theorem dX4_guessFits_24 : decode cX4_guessFits 24 = .ok (.iload 6, 2) := by decide +kernel
theorem dX4_guessFits_26 : decode cX4_guessFits 26 = .ok (.iload 4, 2) := by decide +kernel
theorem dX4_guessFits_28 : decode cX4_guessFits 28 = .ok (.if_icmp .ge 35, 3) := by decide +kernel
theorem dX4_guessFits_31 : decode cX4_guessFits 31 = .ok (.aload_n 0, 1) := by decide +kernel
theorem dX4_guessFits_32 : decode cX4_guessFits 32 = .ok (.getfield 12, 3) := by decide +kernel
theorem dX4_guessFits_35 : decode cX4_guessFits 35 = .ok (.iload 6, 2) := by decide +kernel
theorem dX4_guessFits_37 : decode cX4_guessFits 37 = .ok (.iload_n 1, 1) := by decide +kernel
theorem dX4_guessFits_38 : decode cX4_guessFits 38 = .ok (.iload 5, 2) := by decide +kernel
theorem dX4_guessFits_40 : decode cX4_guessFits 40 = .ok (.invokevirtual 33, 3) := by decide +kernel
theorem dX4_guessFits_43 : decode cX4_guessFits 43 = .ok (.invokestatic 54, 3) := by decide +kernel
theorem dX4_guessFits_46 : decode cX4_guessFits 46 = .ok (.aload_n 2, 1) := by decide +kernel
theorem dX4_guessFits_47 : decode cX4_guessFits 47 = .ok (.iload_n 3, 1) := by decide +kernel
theorem dX4_guessFits_48 : decode cX4_guessFits 48 = .ok (.iload 6, 2) := by decide +kernel
theorem dX4_guessFits_50 : decode cX4_guessFits 50 = .ok (.iadd, 1) := by decide +kernel
theorem dX4_guessFits_51 : decode cX4_guessFits 51 = .ok (.iaload, 1) := by decide +kernel
theorem dX4_guessFits_52 : decode cX4_guessFits 52 = .ok (.if_icmp .eq 5, 3) := by decide +kernel
theorem dX4_guessFits_55 : decode cX4_guessFits 55 = .ok (.iconst 0, 1) := by decide +kernel
theorem dX4_guessFits_56 : decode cX4_guessFits 56 = .ok (.ireturn, 1) := by decide +kernel
theorem dX4_guessFits_57 : decode cX4_guessFits 57 = .ok (.iinc 6 1, 3) := by decide +kernel
theorem dX4_guessFits_60 : decode cX4_guessFits 60 = .ok (.goto (-36), 3) := by decide +kernel
theorem dX4_guessFits_63 : decode cX4_guessFits 63 = .ok (.iconst 1, 1) := by decide +kernel
theorem dX4_guessFits_64 : decode cX4_guessFits 64 = .ok (.ireturn, 1) := by decide +kernel
theorem dX4_findMould_0 : decode cX4_findMould 0 = .ok (.aload_n 0, 1) := by decide +kernel
theorem dX4_findMould_1 : decode cX4_findMould 1 = .ok (.getfield 12, 3) := by decide +kernel
theorem dX4_findMould_4 : decode cX4_findMould 4 = .ok (.aload_n 1, 1) := by decide +kernel
theorem dX4_findMould_5 : decode cX4_findMould 5 = .ok (.invokevirtual 25, 3) := by decide +kernel
theorem dX4_findMould_8 : decode cX4_findMould 8 = .ok (.aload_n 1, 1) := by decide +kernel
theorem dX4_findMould_9 : decode cX4_findMould 9 = .ok (.iconst 0, 1) := by decide +kernel
theorem dX4_findMould_10 : decode cX4_findMould 10 = .ok (.invokevirtual 29, 3) := by decide +kernel
theorem dX4_findMould_13 : decode cX4_findMould 13 = .ok (.istore 6, 2) := by decide +kernel
theorem dX4_findMould_15 : decode cX4_findMould 15 = .ok (.aload_n 0, 1) := by decide +kernel
theorem dX4_findMould_16 : decode cX4_findMould 16 = .ok (.lconst 0, 1) := by decide +kernel
theorem dX4_findMould_17 : decode cX4_findMould 17 = .ok (.putfield 96, 3) := by decide +kernel
theorem dX4_findMould_20 : decode cX4_findMould 20 = .ok (.aload_n 0, 1) := by decide +kernel
theorem dX4_findMould_21 : decode cX4_findMould 21 = .ok (.ldc2_w 100, 3) := by decide +kernel
theorem dX4_findMould_24 : decode cX4_findMould 24 = .ok (.iload 6, 2) := by decide +kernel
theorem dX4_findMould_26 : decode cX4_findMould 26 = .ok (.invokestatic 54, 3) := by decide +kernel
theorem dX4_findMould_29 : decode cX4_findMould 29 = .ok (.invokestatic 102, 3) := by decide +kernel
theorem dX4_findMould_32 : decode cX4_findMould 32 = .ok (.putfield 106, 3) := by decide +kernel
theorem dX4_findMould_35 : decode cX4_findMould 35 = .ok (.iconst 0, 1) := by decide +kernel
theorem dX4_findMould_36 : decode cX4_findMould 36 = .ok (.istore 7, 2) := by decide +kernel
theorem dX4_findMould_38 : decode cX4_findMould 38 = .ok (.iload 7, 2) := by decide +kernel
theorem dX4_findMould_40 : decode cX4_findMould 40 = .ok (.sipush 256, 3) := by decide +kernel
theorem dX4_findMould_43 : decode cX4_findMould 43 = .ok (.if_icmp .ge 87, 3) := by decide +kernel
theorem dX4_findMould_46 : decode cX4_findMould 46 = .ok (.iload 7, 2) := by decide +kernel
theorem dX4_findMould_48 : decode cX4_findMould 48 = .ok (.iload 6, 2) := by decide +kernel
theorem dX4_findMould_50 : decode cX4_findMould 50 = .ok (.iconst (-1), 1) := by decide +kernel
theorem dX4_findMould_51 : decode cX4_findMould 51 = .ok (.ixor, 1) := by decide +kernel
theorem dX4_findMould_52 : decode cX4_findMould 52 = .ok (.iand, 1) := by decide +kernel
theorem dX4_findMould_53 : decode cX4_findMould 53 = .ok (.ifCond .ne 71, 3) := by decide +kernel
theorem dX4_findMould_56 : decode cX4_findMould 56 = .ok (.iload 7, 2) := by decide +kernel
theorem dX4_findMould_58 : decode cX4_findMould 58 = .ok (.iload_n 2, 1) := by decide +kernel
theorem dX4_findMould_59 : decode cX4_findMould 59 = .ok (.invokestatic 75, 3) := by decide +kernel
theorem dX4_findMould_62 : decode cX4_findMould 62 = .ok (.ifCond .eq 62, 3) := by decide +kernel
theorem dX4_findMould_65 : decode cX4_findMould 65 = .ok (.aload_n 0, 1) := by decide +kernel
theorem dX4_findMould_66 : decode cX4_findMould 66 = .ok (.getfield 12, 3) := by decide +kernel
theorem dX4_findMould_69 : decode cX4_findMould 69 = .ok (.iload_n 3, 1) := by decide +kernel
theorem dX4_findMould_70 : decode cX4_findMould 70 = .ok (.iload 4, 2) := by decide +kernel
theorem dX4_findMould_72 : decode cX4_findMould 72 = .ok (.iload 7, 2) := by decide +kernel
theorem dX4_findMould_74 : decode cX4_findMould 74 = .ok (.invokevirtual 33, 3) := by decide +kernel
theorem dX4_findMould_77 : decode cX4_findMould 77 = .ok (.iload_n 2, 1) := by decide +kernel
theorem dX4_findMould_78 : decode cX4_findMould 78 = .ok (.invokestatic 75, 3) := by decide +kernel
theorem dX4_findMould_81 : decode cX4_findMould 81 = .ok (.ifCond .eq 43, 3) := by decide +kernel
theorem dX4_findMould_84 : decode cX4_findMould 84 = .ok (.aload_n 0, 1) := by decide +kernel
theorem dX4_findMould_85 : decode cX4_findMould 85 = .ok (.dup, 1) := by decide +kernel
theorem dX4_findMould_86 : decode cX4_findMould 86 = .ok (.getfield 96, 3) := by decide +kernel
theorem dX4_findMould_89 : decode cX4_findMould 89 = .ok (.bipush 10, 2) := by decide +kernel
theorem dX4_findMould_91 : decode cX4_findMould 91 = .ok (.iload 5, 2) := by decide +kernel
theorem dX4_findMould_93 : decode cX4_findMould 93 = .ok (.isub, 1) := by decide +kernel
theorem dX4_findMould_94 : decode cX4_findMould 94 = .ok (.i2l, 1) := by decide +kernel
theorem dX4_findMould_95 : decode cX4_findMould 95 = .ok (.iload 7, 2) := by decide +kernel
theorem dX4_findMould_97 : decode cX4_findMould 97 = .ok (.invokestatic 54, 3) := by decide +kernel
theorem dX4_findMould_100 : decode cX4_findMould 100 = .ok (.invokestatic 102, 3) := by decide +kernel
theorem dX4_findMould_103 : decode cX4_findMould 103 = .ok (.iload 5, 2) := by decide +kernel
theorem dX4_findMould_105 : decode cX4_findMould 105 = .ok (.i2l, 1) := by decide +kernel
theorem dX4_findMould_106 : decode cX4_findMould 106 = .ok (.iload 6, 2) := by decide +kernel
theorem dX4_findMould_108 : decode cX4_findMould 108 = .ok (.iload 7, 2) := by decide +kernel
theorem dX4_findMould_110 : decode cX4_findMould 110 = .ok (.iconst (-1), 1) := by decide +kernel
theorem dX4_findMould_111 : decode cX4_findMould 111 = .ok (.ixor, 1) := by decide +kernel
theorem dX4_findMould_112 : decode cX4_findMould 112 = .ok (.iand, 1) := by decide +kernel
theorem dX4_findMould_113 : decode cX4_findMould 113 = .ok (.invokestatic 54, 3) := by decide +kernel
theorem dX4_findMould_116 : decode cX4_findMould 116 = .ok (.invokestatic 102, 3) := by decide +kernel
theorem dX4_findMould_119 : decode cX4_findMould 119 = .ok (.lmul, 1) := by decide +kernel
theorem dX4_findMould_120 : decode cX4_findMould 120 = .ok (.ladd, 1) := by decide +kernel
theorem dX4_findMould_121 : decode cX4_findMould 121 = .ok (.putfield 96, 3) := by decide +kernel
theorem dX4_findMould_124 : decode cX4_findMould 124 = .ok (.iinc 7 1, 3) := by decide +kernel
theorem dX4_findMould_127 : decode cX4_findMould 127 = .ok (.goto (-89), 3) := by decide +kernel
theorem dX4_findMould_130 : decode cX4_findMould 130 = .ok (.aload_n 0, 1) := by decide +kernel
theorem dX4_findMould_131 : decode cX4_findMould 131 = .ok (.getfield 96, 3) := by decide +kernel
theorem dX4_findMould_134 : decode cX4_findMould 134 = .ok (.aload_n 0, 1) := by decide +kernel
theorem dX4_findMould_135 : decode cX4_findMould 135 = .ok (.getfield 106, 3) := by decide +kernel
theorem dX4_findMould_138 : decode cX4_findMould 138 = .ok (.invokestatic 109, 3) := by decide +kernel
theorem dX4_findMould_141 : decode cX4_findMould 141 = .ok (.lstore 7, 2) := by decide +kernel
theorem dX4_findMould_143 : decode cX4_findMould 143 = .ok (.lload 7, 2) := by decide +kernel
theorem dX4_findMould_145 : decode cX4_findMould 145 = .ok (.lconst 1, 1) := by decide +kernel
theorem dX4_findMould_146 : decode cX4_findMould 146 = .ok (.lcmp, 1) := by decide +kernel
theorem dX4_findMould_147 : decode cX4_findMould 147 = .ok (.ifCond .le 25, 3) := by decide +kernel
theorem dX4_findMould_150 : decode cX4_findMould 150 = .ok (.aload_n 0, 1) := by decide +kernel
theorem dX4_findMould_151 : decode cX4_findMould 151 = .ok (.dup, 1) := by decide +kernel
theorem dX4_findMould_152 : decode cX4_findMould 152 = .ok (.getfield 96, 3) := by decide +kernel
theorem dX4_findMould_155 : decode cX4_findMould 155 = .ok (.lload 7, 2) := by decide +kernel
theorem dX4_findMould_157 : decode cX4_findMould 157 = .ok (.ldiv, 1) := by decide +kernel
theorem dX4_findMould_158 : decode cX4_findMould 158 = .ok (.putfield 96, 3) := by decide +kernel
theorem dX4_findMould_161 : decode cX4_findMould 161 = .ok (.aload_n 0, 1) := by decide +kernel
theorem dX4_findMould_162 : decode cX4_findMould 162 = .ok (.dup, 1) := by decide +kernel
theorem dX4_findMould_163 : decode cX4_findMould 163 = .ok (.getfield 106, 3) := by decide +kernel
theorem dX4_findMould_166 : decode cX4_findMould 166 = .ok (.lload 7, 2) := by decide +kernel
theorem dX4_findMould_168 : decode cX4_findMould 168 = .ok (.ldiv, 1) := by decide +kernel
theorem dX4_findMould_169 : decode cX4_findMould 169 = .ok (.putfield 106, 3) := by decide +kernel
theorem dX4_findMould_172 : decode cX4_findMould 172 = .ok (.return_, 1) := by decide +kernel
theorem dX4_power_0 : decode cX4_power 0 = .ok (.lconst 1, 1) := by decide +kernel
theorem dX4_power_1 : decode cX4_power 1 = .ok (.lstore_n 3, 1) := by decide +kernel
theorem dX4_power_2 : decode cX4_power 2 = .ok (.iconst 0, 1) := by decide +kernel
theorem dX4_power_3 : decode cX4_power 3 = .ok (.istore 5, 2) := by decide +kernel
theorem dX4_power_5 : decode cX4_power 5 = .ok (.iload 5, 2) := by decide +kernel
theorem dX4_power_7 : decode cX4_power 7 = .ok (.iload_n 2, 1) := by decide +kernel
theorem dX4_power_8 : decode cX4_power 8 = .ok (.if_icmp .ge 13, 3) := by decide +kernel
theorem dX4_power_11 : decode cX4_power 11 = .ok (.lload_n 3, 1) := by decide +kernel
theorem dX4_power_12 : decode cX4_power 12 = .ok (.lload_n 0, 1) := by decide +kernel
theorem dX4_power_13 : decode cX4_power 13 = .ok (.lmul, 1) := by decide +kernel
theorem dX4_power_14 : decode cX4_power 14 = .ok (.lstore_n 3, 1) := by decide +kernel
theorem dX4_power_15 : decode cX4_power 15 = .ok (.iinc 5 1, 3) := by decide +kernel
theorem dX4_power_18 : decode cX4_power 18 = .ok (.goto (-13), 3) := by decide +kernel
theorem dX4_power_21 : decode cX4_power 21 = .ok (.lload_n 3, 1) := by decide +kernel
theorem dX4_power_22 : decode cX4_power 22 = .ok (.lreturn, 1) := by decide +kernel
theorem dX4_sharedDivisor_0 : decode cX4_sharedDivisor 0 = .ok (.lload_n 0, 1) := by decide +kernel
theorem dX4_sharedDivisor_1 : decode cX4_sharedDivisor 1 = .ok (.lstore 4, 2) := by decide +kernel
theorem dX4_sharedDivisor_3 : decode cX4_sharedDivisor 3 = .ok (.lload_n 2, 1) := by decide +kernel
theorem dX4_sharedDivisor_4 : decode cX4_sharedDivisor 4 = .ok (.lstore 6, 2) := by decide +kernel
theorem dX4_sharedDivisor_6 : decode cX4_sharedDivisor 6 = .ok (.iconst 0, 1) := by decide +kernel
theorem dX4_sharedDivisor_7 : decode cX4_sharedDivisor 7 = .ok (.istore 8, 2) := by decide +kernel
theorem dX4_sharedDivisor_9 : decode cX4_sharedDivisor 9 = .ok (.iload 8, 2) := by decide +kernel
theorem dX4_sharedDivisor_11 : decode cX4_sharedDivisor 11 = .ok (.bipush 100, 2) := by decide +kernel
theorem dX4_sharedDivisor_13 : decode cX4_sharedDivisor 13 = .ok (.if_icmp .ge 31, 3) := by decide +kernel
theorem dX4_sharedDivisor_16 : decode cX4_sharedDivisor 16 = .ok (.lload 6, 2) := by decide +kernel
theorem dX4_sharedDivisor_18 : decode cX4_sharedDivisor 18 = .ok (.lconst 0, 1) := by decide +kernel
theorem dX4_sharedDivisor_19 : decode cX4_sharedDivisor 19 = .ok (.lcmp, 1) := by decide +kernel
theorem dX4_sharedDivisor_20 : decode cX4_sharedDivisor 20 = .ok (.ifCond .eq 24, 3) := by decide +kernel
theorem dX4_sharedDivisor_23 : decode cX4_sharedDivisor 23 = .ok (.lload 4, 2) := by decide +kernel
theorem dX4_sharedDivisor_25 : decode cX4_sharedDivisor 25 = .ok (.lload 6, 2) := by decide +kernel
theorem dX4_sharedDivisor_27 : decode cX4_sharedDivisor 27 = .ok (.lrem, 1) := by decide +kernel
theorem dX4_sharedDivisor_28 : decode cX4_sharedDivisor 28 = .ok (.lstore 9, 2) := by decide +kernel
theorem dX4_sharedDivisor_30 : decode cX4_sharedDivisor 30 = .ok (.lload 6, 2) := by decide +kernel
theorem dX4_sharedDivisor_32 : decode cX4_sharedDivisor 32 = .ok (.lstore 4, 2) := by decide +kernel
theorem dX4_sharedDivisor_34 : decode cX4_sharedDivisor 34 = .ok (.lload 9, 2) := by decide +kernel
theorem dX4_sharedDivisor_36 : decode cX4_sharedDivisor 36 = .ok (.lstore 6, 2) := by decide +kernel
theorem dX4_sharedDivisor_38 : decode cX4_sharedDivisor 38 = .ok (.iinc 8 1, 3) := by decide +kernel
theorem dX4_sharedDivisor_41 : decode cX4_sharedDivisor 41 = .ok (.goto (-32), 3) := by decide +kernel
theorem dX4_sharedDivisor_44 : decode cX4_sharedDivisor 44 = .ok (.lload 4, 2) := by decide +kernel
theorem dX4_sharedDivisor_46 : decode cX4_sharedDivisor 46 = .ok (.lreturn, 1) := by decide +kernel
theorem dX4_findVintage_0 : decode cX4_findVintage 0 = .ok (.aload_n 0, 1) := by decide +kernel
theorem dX4_findVintage_1 : decode cX4_findVintage 1 = .ok (.getfield 21, 3) := by decide +kernel
theorem dX4_findVintage_4 : decode cX4_findVintage 4 = .ok (.aload_n 1, 1) := by decide +kernel
theorem dX4_findVintage_5 : decode cX4_findVintage 5 = .ok (.invokevirtual 60, 3) := by decide +kernel
theorem dX4_findVintage_8 : decode cX4_findVintage 8 = .ok (.aload_n 0, 1) := by decide +kernel
theorem dX4_findVintage_9 : decode cX4_findVintage 9 = .ok (.getfield 12, 3) := by decide +kernel
theorem dX4_findVintage_12 : decode cX4_findVintage 12 = .ok (.aload_n 0, 1) := by decide +kernel
theorem dX4_findVintage_13 : decode cX4_findVintage 13 = .ok (.getfield 21, 3) := by decide +kernel
theorem dX4_findVintage_16 : decode cX4_findVintage 16 = .ok (.invokevirtual 25, 3) := by decide +kernel
theorem dX4_findVintage_19 : decode cX4_findVintage 19 = .ok (.iload_n 3, 1) := by decide +kernel
theorem dX4_findVintage_20 : decode cX4_findVintage 20 = .ok (.i2l, 1) := by decide +kernel
theorem dX4_findVintage_21 : decode cX4_findVintage 21 = .ok (.lstore 4, 2) := by decide +kernel
theorem dX4_findVintage_23 : decode cX4_findVintage 23 = .ok (.iconst 0, 1) := by decide +kernel
theorem dX4_findVintage_24 : decode cX4_findVintage 24 = .ok (.istore 6, 2) := by decide +kernel
theorem dX4_findVintage_26 : decode cX4_findVintage 26 = .ok (.iload 6, 2) := by decide +kernel
theorem dX4_findVintage_28 : decode cX4_findVintage 28 = .ok (.iload_n 2, 1) := by decide +kernel
theorem dX4_findVintage_29 : decode cX4_findVintage 29 = .ok (.if_icmp .ge 94, 3) := by decide +kernel
theorem dX4_findVintage_32 : decode cX4_findVintage 32 = .ok (.lload 4, 2) := by decide +kernel
theorem dX4_findVintage_34 : decode cX4_findVintage 34 = .ok (.ldc2_w 113, 3) := by decide +kernel
theorem dX4_findVintage_37 : decode cX4_findVintage 37 = .ok (.lmul, 1) := by decide +kernel
theorem dX4_findVintage_38 : decode cX4_findVintage 38 = .ok (.ldc2_w 115, 3) := by decide +kernel
theorem dX4_findVintage_41 : decode cX4_findVintage 41 = .ok (.lrem, 1) := by decide +kernel
theorem dX4_findVintage_42 : decode cX4_findVintage 42 = .ok (.lstore 4, 2) := by decide +kernel
theorem dX4_findVintage_44 : decode cX4_findVintage 44 = .ok (.lload 4, 2) := by decide +kernel
theorem dX4_findVintage_46 : decode cX4_findVintage 46 = .ok (.ldc2_w 117, 3) := by decide +kernel
theorem dX4_findVintage_49 : decode cX4_findVintage 49 = .ok (.lrem, 1) := by decide +kernel
theorem dX4_findVintage_50 : decode cX4_findVintage 50 = .ok (.lconst 0, 1) := by decide +kernel
theorem dX4_findVintage_51 : decode cX4_findVintage 51 = .ok (.lcmp, 1) := by decide +kernel
theorem dX4_findVintage_52 : decode cX4_findVintage 52 = .ok (.ifCond .ne 58, 3) := by decide +kernel
theorem dX4_findVintage_55 : decode cX4_findVintage 55 = .ok (.aload_n 0, 1) := by decide +kernel
theorem dX4_findVintage_56 : decode cX4_findVintage 56 = .ok (.getfield 21, 3) := by decide +kernel
theorem dX4_findVintage_59 : decode cX4_findVintage 59 = .ok (.getfield 63, 3) := by decide +kernel
theorem dX4_findVintage_62 : decode cX4_findVintage 62 = .ok (.ifCond .le 48, 3) := by decide +kernel
theorem dX4_findVintage_65 : decode cX4_findVintage 65 = .ok (.lload 4, 2) := by decide +kernel
theorem dX4_findVintage_67 : decode cX4_findVintage 67 = .ok (.aload_n 0, 1) := by decide +kernel
theorem dX4_findVintage_68 : decode cX4_findVintage 68 = .ok (.getfield 21, 3) := by decide +kernel
theorem dX4_findVintage_71 : decode cX4_findVintage 71 = .ok (.getfield 63, 3) := by decide +kernel
theorem dX4_findVintage_74 : decode cX4_findVintage 74 = .ok (.i2l, 1) := by decide +kernel
theorem dX4_findVintage_75 : decode cX4_findVintage 75 = .ok (.lrem, 1) := by decide +kernel
theorem dX4_findVintage_76 : decode cX4_findVintage 76 = .ok (.l2i, 1) := by decide +kernel
theorem dX4_findVintage_77 : decode cX4_findVintage 77 = .ok (.istore 7, 2) := by decide +kernel
theorem dX4_findVintage_79 : decode cX4_findVintage 79 = .ok (.aload_n 0, 1) := by decide +kernel
theorem dX4_findVintage_80 : decode cX4_findVintage 80 = .ok (.getfield 21, 3) := by decide +kernel
theorem dX4_findVintage_83 : decode cX4_findVintage 83 = .ok (.aload_n 0, 1) := by decide +kernel
theorem dX4_findVintage_84 : decode cX4_findVintage 84 = .ok (.getfield 12, 3) := by decide +kernel
theorem dX4_findVintage_87 : decode cX4_findVintage 87 = .ok (.lload 4, 2) := by decide +kernel
theorem dX4_findVintage_89 : decode cX4_findVintage 89 = .ok (.ldc2_w 119, 3) := by decide +kernel
theorem dX4_findVintage_92 : decode cX4_findVintage 92 = .ok (.lrem, 1) := by decide +kernel
theorem dX4_findVintage_93 : decode cX4_findVintage 93 = .ok (.l2i, 1) := by decide +kernel
theorem dX4_findVintage_94 : decode cX4_findVintage 94 = .ok (.iload 7, 2) := by decide +kernel
theorem dX4_findVintage_96 : decode cX4_findVintage 96 = .ok (.aload_n 0, 1) := by decide +kernel
theorem dX4_findVintage_97 : decode cX4_findVintage 97 = .ok (.getfield 21, 3) := by decide +kernel
theorem dX4_findVintage_100 : decode cX4_findVintage 100 = .ok (.iconst 0, 1) := by decide +kernel
theorem dX4_findVintage_101 : decode cX4_findVintage 101 = .ok (.invokevirtual 29, 3) := by decide +kernel
theorem dX4_findVintage_104 : decode cX4_findVintage 104 = .ok (.invokevirtual 33, 3) := by decide +kernel
theorem dX4_findVintage_107 : decode cX4_findVintage 107 = .ok (.invokevirtual 121, 3) := by decide +kernel
theorem dX4_findVintage_110 : decode cX4_findVintage 110 = .ok (.aload_n 0, 1) := by decide +kernel
theorem dX4_findVintage_111 : decode cX4_findVintage 111 = .ok (.getfield 21, 3) := by decide +kernel
theorem dX4_findVintage_114 : decode cX4_findVintage 114 = .ok (.invokevirtual 125, 3) := by decide +kernel
theorem dX4_findVintage_117 : decode cX4_findVintage 117 = .ok (.iinc 6 1, 3) := by decide +kernel
theorem dX4_findVintage_120 : decode cX4_findVintage 120 = .ok (.goto (-94), 3) := by decide +kernel
theorem dX4_findVintage_123 : decode cX4_findVintage 123 = .ok (.aload_n 0, 1) := by decide +kernel
theorem dX4_findVintage_124 : decode cX4_findVintage 124 = .ok (.aload_n 0, 1) := by decide +kernel
theorem dX4_findVintage_125 : decode cX4_findVintage 125 = .ok (.getfield 21, 3) := by decide +kernel
theorem dX4_findVintage_128 : decode cX4_findVintage 128 = .ok (.iconst 0, 1) := by decide +kernel
theorem dX4_findVintage_129 : decode cX4_findVintage 129 = .ok (.invokevirtual 29, 3) := by decide +kernel
theorem dX4_findVintage_132 : decode cX4_findVintage 132 = .ok (.putfield 48, 3) := by decide +kernel
theorem dX4_findVintage_135 : decode cX4_findVintage 135 = .ok (.aload_n 0, 1) := by decide +kernel
theorem dX4_findVintage_136 : decode cX4_findVintage 136 = .ok (.aload_n 0, 1) := by decide +kernel
theorem dX4_findVintage_137 : decode cX4_findVintage 137 = .ok (.getfield 21, 3) := by decide +kernel
theorem dX4_findVintage_140 : decode cX4_findVintage 140 = .ok (.iconst 1, 1) := by decide +kernel
theorem dX4_findVintage_141 : decode cX4_findVintage 141 = .ok (.invokevirtual 29, 3) := by decide +kernel
theorem dX4_findVintage_144 : decode cX4_findVintage 144 = .ok (.invokestatic 54, 3) := by decide +kernel
theorem dX4_findVintage_147 : decode cX4_findVintage 147 = .ok (.putfield 41, 3) := by decide +kernel
theorem dX4_findVintage_150 : decode cX4_findVintage 150 = .ok (.return_, 1) := by decide +kernel
end
section
theorem dX5_init_0 : decode cX5_init 0 = .ok (.aload_n 0, 1) := by decide +kernel
theorem dX5_init_1 : decode cX5_init 1 = .ok (.invokespecial 3, 3) := by decide +kernel
theorem dX5_init_4 : decode cX5_init 4 = .ok (.aload_n 0, 1) := by decide +kernel
theorem dX5_init_5 : decode cX5_init 5 = .ok (.bipush 8, 2) := by decide +kernel
theorem dX5_init_7 : decode cX5_init 7 = .ok (.newarray .boolean, 2) := by decide +kernel
theorem dX5_init_9 : decode cX5_init 9 = .ok (.putfield 9, 3) := by decide +kernel
theorem dX5_init_12 : decode cX5_init 12 = .ok (.aload_n 0, 1) := by decide +kernel
theorem dX5_init_13 : decode cX5_init 13 = .ok (.bipush 8, 2) := by decide +kernel
theorem dX5_init_15 : decode cX5_init 15 = .ok (.newarray .int, 2) := by decide +kernel
theorem dX5_init_17 : decode cX5_init 17 = .ok (.putfield 15, 3) := by decide +kernel
theorem dX5_init_20 : decode cX5_init 20 = .ok (.aload_n 0, 1) := by decide +kernel
theorem dX5_init_21 : decode cX5_init 21 = .ok (.bipush 8, 2) := by decide +kernel
theorem dX5_init_23 : decode cX5_init 23 = .ok (.newarray .int, 2) := by decide +kernel
theorem dX5_init_25 : decode cX5_init 25 = .ok (.putfield 19, 3) := by decide +kernel
theorem dX5_init_28 : decode cX5_init 28 = .ok (.aload_n 0, 1) := by decide +kernel
theorem dX5_init_29 : decode cX5_init 29 = .ok (.bipush 8, 2) := by decide +kernel
theorem dX5_init_31 : decode cX5_init 31 = .ok (.bipush 40, 2) := by decide +kernel
theorem dX5_init_33 : decode cX5_init 33 = .ok (.multianewarray 22 2, 4) := by decide +kernel
theorem dX5_init_37 : decode cX5_init 37 = .ok (.putfield 24, 3) := by decide +kernel
theorem dX5_init_40 : decode cX5_init 40 = .ok (.return_, 1) := by decide +kernel
theorem dX5_lay_0 : decode cX5_lay 0 = .ok (.aload_n 0, 1) := by decide +kernel
theorem dX5_lay_1 : decode cX5_lay 1 = .ok (.getfield 9, 3) := by decide +kernel
theorem dX5_lay_4 : decode cX5_lay 4 = .ok (.iload_n 1, 1) := by decide +kernel
theorem dX5_lay_5 : decode cX5_lay 5 = .ok (.iconst 1, 1) := by decide +kernel
theorem dX5_lay_6 : decode cX5_lay 6 = .ok (.bastore, 1) := by decide +kernel
theorem dX5_lay_7 : decode cX5_lay 7 = .ok (.aload_n 0, 1) := by decide +kernel
theorem dX5_lay_8 : decode cX5_lay 8 = .ok (.getfield 15, 3) := by decide +kernel
theorem dX5_lay_11 : decode cX5_lay 11 = .ok (.iload_n 1, 1) := by decide +kernel
theorem dX5_lay_12 : decode cX5_lay 12 = .ok (.iload_n 2, 1) := by decide +kernel
theorem dX5_lay_13 : decode cX5_lay 13 = .ok (.iastore, 1) := by decide +kernel
theorem dX5_lay_14 : decode cX5_lay 14 = .ok (.aload_n 0, 1) := by decide +kernel
theorem dX5_lay_15 : decode cX5_lay 15 = .ok (.getfield 19, 3) := by decide +kernel
theorem dX5_lay_18 : decode cX5_lay 18 = .ok (.iload_n 1, 1) := by decide +kernel
theorem dX5_lay_19 : decode cX5_lay 19 = .ok (.iload_n 3, 1) := by decide +kernel
theorem dX5_lay_20 : decode cX5_lay 20 = .ok (.iastore, 1) := by decide +kernel
theorem dX5_lay_21 : decode cX5_lay 21 = .ok (.iconst 0, 1) := by decide +kernel
theorem dX5_lay_22 : decode cX5_lay 22 = .ok (.istore 4, 2) := by decide +kernel
theorem dX5_lay_24 : decode cX5_lay 24 = .ok (.iload 4, 2) := by decide +kernel
theorem dX5_lay_26 : decode cX5_lay 26 = .ok (.bipush 40, 2) := by decide +kernel
theorem dX5_lay_28 : decode cX5_lay 28 = .ok (.if_icmp .ge 19, 3) := by decide +kernel
theorem dX5_lay_31 : decode cX5_lay 31 = .ok (.aload_n 0, 1) := by decide +kernel
theorem dX5_lay_32 : decode cX5_lay 32 = .ok (.getfield 24, 3) := by decide +kernel
theorem dX5_lay_35 : decode cX5_lay 35 = .ok (.iload_n 1, 1) := by decide +kernel
theorem dX5_lay_36 : decode cX5_lay 36 = .ok (.aaload, 1) := by decide +kernel
theorem dX5_lay_37 : decode cX5_lay 37 = .ok (.iload 4, 2) := by decide +kernel
theorem dX5_lay_39 : decode cX5_lay 39 = .ok (.iconst 0, 1) := by decide +kernel
theorem dX5_lay_40 : decode cX5_lay 40 = .ok (.iastore, 1) := by decide +kernel
theorem dX5_lay_41 : decode cX5_lay 41 = .ok (.iinc 4 1, 3) := by decide +kernel
theorem dX5_lay_44 : decode cX5_lay 44 = .ok (.goto (-20), 3) := by decide +kernel
theorem dX5_lay_47 : decode cX5_lay 47 = .ok (.return_, 1) := by decide +kernel
theorem dX5_put_0 : decode cX5_put 0 = .ok (.aload_n 0, 1) := by decide +kernel
theorem dX5_put_1 : decode cX5_put 1 = .ok (.getfield 24, 3) := by decide +kernel
theorem dX5_put_4 : decode cX5_put 4 = .ok (.iload_n 1, 1) := by decide +kernel
theorem dX5_put_5 : decode cX5_put 5 = .ok (.aaload, 1) := by decide +kernel
theorem dX5_put_6 : decode cX5_put 6 = .ok (.iload_n 2, 1) := by decide +kernel
theorem dX5_put_7 : decode cX5_put 7 = .ok (.aload_n 0, 1) := by decide +kernel
theorem dX5_put_8 : decode cX5_put 8 = .ok (.getfield 15, 3) := by decide +kernel
theorem dX5_put_11 : decode cX5_put 11 = .ok (.iload_n 1, 1) := by decide +kernel
theorem dX5_put_12 : decode cX5_put 12 = .ok (.iaload, 1) := by decide +kernel
theorem dX5_put_13 : decode cX5_put 13 = .ok (.iload_n 3, 1) := by decide +kernel
theorem dX5_put_14 : decode cX5_put 14 = .ok (.invokestatic 27, 3) := by decide +kernel
theorem dX5_put_17 : decode cX5_put 17 = .ok (.iastore, 1) := by decide +kernel
theorem dX5_put_18 : decode cX5_put 18 = .ok (.aload_n 0, 1) := by decide +kernel
theorem dX5_put_19 : decode cX5_put 19 = .ok (.getfield 24, 3) := by decide +kernel
theorem dX5_put_22 : decode cX5_put 22 = .ok (.iload_n 1, 1) := by decide +kernel
theorem dX5_put_23 : decode cX5_put 23 = .ok (.aaload, 1) := by decide +kernel
theorem dX5_put_24 : decode cX5_put 24 = .ok (.iload_n 2, 1) := by decide +kernel
theorem dX5_put_25 : decode cX5_put 25 = .ok (.iaload, 1) := by decide +kernel
theorem dX5_put_26 : decode cX5_put 26 = .ok (.ireturn, 1) := by decide +kernel
theorem dX5_narrowed_0 : decode cX5_narrowed 0 = .ok (.iload_n 0, 1) := by decide +kernel
theorem dX5_narrowed_1 : decode cX5_narrowed 1 = .ok (.lookupswitch 33 #[(0, 27), (1, 30)], 27) := by decide +kernel
theorem dX5_narrowed_28 : decode cX5_narrowed 28 = .ok (.iload_n 1, 1) := by decide +kernel
theorem dX5_narrowed_29 : decode cX5_narrowed 29 = .ok (.i2b, 1) := by decide +kernel
theorem dX5_narrowed_30 : decode cX5_narrowed 30 = .ok (.ireturn, 1) := by decide +kernel
theorem dX5_narrowed_31 : decode cX5_narrowed 31 = .ok (.iload_n 1, 1) := by decide +kernel
theorem dX5_narrowed_32 : decode cX5_narrowed 32 = .ok (.i2s, 1) := by decide +kernel
theorem dX5_narrowed_33 : decode cX5_narrowed 33 = .ok (.ireturn, 1) := by decide +kernel
theorem dX5_narrowed_34 : decode cX5_narrowed 34 = .ok (.iload_n 1, 1) := by decide +kernel
theorem dX5_narrowed_35 : decode cX5_narrowed 35 = .ok (.ireturn, 1) := by decide +kernel
theorem dX5_holds_0 : decode cX5_holds 0 = .ok (.iload_n 2, 1) := by decide +kernel
theorem dX5_holds_1 : decode cX5_holds 1 = .ok (.ifCond .lt 23, 3) := by decide +kernel
theorem dX5_holds_4 : decode cX5_holds 4 = .ok (.iload_n 3, 1) := by decide +kernel
theorem dX5_holds_5 : decode cX5_holds 5 = .ok (.ifCond .lt 19, 3) := by decide +kernel
theorem dX5_holds_8 : decode cX5_holds 8 = .ok (.iload_n 2, 1) := by decide +kernel
theorem dX5_holds_9 : decode cX5_holds 9 = .ok (.aload_n 0, 1) := by decide +kernel
theorem dX5_holds_10 : decode cX5_holds 10 = .ok (.getfield 19, 3) := by decide +kernel
theorem dX5_holds_13 : decode cX5_holds 13 = .ok (.iload_n 1, 1) := by decide +kernel
theorem dX5_holds_14 : decode cX5_holds 14 = .ok (.iaload, 1) := by decide +kernel
theorem dX5_holds_15 : decode cX5_holds 15 = .ok (.iload_n 3, 1) := by decide +kernel
theorem dX5_holds_16 : decode cX5_holds 16 = .ok (.isub, 1) := by decide +kernel
theorem dX5_holds_17 : decode cX5_holds 17 = .ok (.if_icmp .gt 7, 3) := by decide +kernel
theorem dX5_holds_20 : decode cX5_holds 20 = .ok (.iconst 1, 1) := by decide +kernel
theorem dX5_holds_21 : decode cX5_holds 21 = .ok (.goto 4, 3) := by decide +kernel
theorem dX5_holds_24 : decode cX5_holds 24 = .ok (.iconst 0, 1) := by decide +kernel
theorem dX5_holds_25 : decode cX5_holds 25 = .ok (.ireturn, 1) := by decide +kernel
theorem dX5_lacking_0 : decode cX5_lacking 0 = .ok (.aload_n 0, 1) := by decide +kernel
theorem dX5_lacking_1 : decode cX5_lacking 1 = .ok (.getfield 9, 3) := by decide +kernel
theorem dX5_lacking_4 : decode cX5_lacking 4 = .ok (.iload_n 1, 1) := by decide +kernel
theorem dX5_lacking_5 : decode cX5_lacking 5 = .ok (.baload, 1) := by decide +kernel
theorem dX5_lacking_6 : decode cX5_lacking 6 = .ok (.ifCond .ne 5, 3) := by decide +kernel
theorem dX5_lacking_9 : decode cX5_lacking 9 = .ok (.iconst 1, 1) := by decide +kernel
theorem dX5_lacking_10 : decode cX5_lacking 10 = .ok (.ireturn, 1) := by decide +kernel
theorem dX5_lacking_11 : decode cX5_lacking 11 = .ok (.aload_n 0, 1) := by decide +kernel
theorem dX5_lacking_12 : decode cX5_lacking 12 = .ok (.iload_n 1, 1) := by decide +kernel
theorem dX5_lacking_13 : decode cX5_lacking 13 = .ok (.iload_n 2, 1) := by decide +kernel
theorem dX5_lacking_14 : decode cX5_lacking 14 = .ok (.iload_n 3, 1) := by decide +kernel
theorem dX5_lacking_15 : decode cX5_lacking 15 = .ok (.invokevirtual 31, 3) := by decide +kernel
theorem dX5_lacking_18 : decode cX5_lacking 18 = .ok (.ifCond .eq 7, 3) := by decide +kernel
theorem dX5_lacking_21 : decode cX5_lacking 21 = .ok (.iconst 0, 1) := by decide +kernel
theorem dX5_lacking_22 : decode cX5_lacking 22 = .ok (.goto 4, 3) := by decide +kernel
theorem dX5_lacking_25 : decode cX5_lacking 25 = .ok (.iconst 2, 1) := by decide +kernel
theorem dX5_lacking_26 : decode cX5_lacking 26 = .ok (.ireturn, 1) := by decide +kernel
theorem dX5_tellsNotes_0 : decode cX5_tellsNotes 0 = .ok (.iconst 0, 1) := by decide +kernel
theorem dX5_tellsNotes_1 : decode cX5_tellsNotes 1 = .ok (.istore 4, 2) := by decide +kernel
theorem dX5_tellsNotes_3 : decode cX5_tellsNotes 3 = .ok (.iload 4, 2) := by decide +kernel
theorem dX5_tellsNotes_5 : decode cX5_tellsNotes 5 = .ok (.iload_n 3, 1) := by decide +kernel
theorem dX5_tellsNotes_6 : decode cX5_tellsNotes 6 = .ok (.if_icmp .ge 28, 3) := by decide +kernel
theorem dX5_tellsNotes_9 : decode cX5_tellsNotes 9 = .ok (.aload_n 0, 1) := by decide +kernel
theorem dX5_tellsNotes_10 : decode cX5_tellsNotes 10 = .ok (.getfield 24, 3) := by decide +kernel
theorem dX5_tellsNotes_13 : decode cX5_tellsNotes 13 = .ok (.iload_n 1, 1) := by decide +kernel
theorem dX5_tellsNotes_14 : decode cX5_tellsNotes 14 = .ok (.aaload, 1) := by decide +kernel
theorem dX5_tellsNotes_15 : decode cX5_tellsNotes 15 = .ok (.iload_n 2, 1) := by decide +kernel
theorem dX5_tellsNotes_16 : decode cX5_tellsNotes 16 = .ok (.iload 4, 2) := by decide +kernel
theorem dX5_tellsNotes_18 : decode cX5_tellsNotes 18 = .ok (.iadd, 1) := by decide +kernel
theorem dX5_tellsNotes_19 : decode cX5_tellsNotes 19 = .ok (.iaload, 1) := by decide +kernel
theorem dX5_tellsNotes_20 : decode cX5_tellsNotes 20 = .ok (.invokestatic 35, 3) := by decide +kernel
theorem dX5_tellsNotes_23 : decode cX5_tellsNotes 23 = .ok (.ifCond .ne 5, 3) := by decide +kernel
theorem dX5_tellsNotes_26 : decode cX5_tellsNotes 26 = .ok (.iconst 0, 1) := by decide +kernel
theorem dX5_tellsNotes_27 : decode cX5_tellsNotes 27 = .ok (.ireturn, 1) := by decide +kernel
theorem dX5_tellsNotes_28 : decode cX5_tellsNotes 28 = .ok (.iinc 4 1, 3) := by decide +kernel
theorem dX5_tellsNotes_31 : decode cX5_tellsNotes 31 = .ok (.goto (-28), 3) := by decide +kernel
theorem dX5_tellsNotes_34 : decode cX5_tellsNotes 34 = .ok (.iconst 1, 1) := by decide +kernel
theorem dX5_tellsNotes_35 : decode cX5_tellsNotes 35 = .ok (.ireturn, 1) := by decide +kernel
theorem dX5_howMany_0 : decode cX5_howMany 0 = .ok (.iconst 0, 1) := by decide +kernel
theorem dX5_howMany_1 : decode cX5_howMany 1 = .ok (.istore_n 1, 1) := by decide +kernel
theorem dX5_howMany_2 : decode cX5_howMany 2 = .ok (.iconst 0, 1) := by decide +kernel
theorem dX5_howMany_3 : decode cX5_howMany 3 = .ok (.istore_n 2, 1) := by decide +kernel
theorem dX5_howMany_4 : decode cX5_howMany 4 = .ok (.iload_n 2, 1) := by decide +kernel
theorem dX5_howMany_5 : decode cX5_howMany 5 = .ok (.bipush 8, 2) := by decide +kernel
theorem dX5_howMany_7 : decode cX5_howMany 7 = .ok (.if_icmp .ge 26, 3) := by decide +kernel
theorem dX5_howMany_10 : decode cX5_howMany 10 = .ok (.iload_n 1, 1) := by decide +kernel
theorem dX5_howMany_11 : decode cX5_howMany 11 = .ok (.aload_n 0, 1) := by decide +kernel
theorem dX5_howMany_12 : decode cX5_howMany 12 = .ok (.getfield 9, 3) := by decide +kernel
theorem dX5_howMany_15 : decode cX5_howMany 15 = .ok (.iload_n 2, 1) := by decide +kernel
theorem dX5_howMany_16 : decode cX5_howMany 16 = .ok (.baload, 1) := by decide +kernel
theorem dX5_howMany_17 : decode cX5_howMany 17 = .ok (.ifCond .eq 7, 3) := by decide +kernel
theorem dX5_howMany_20 : decode cX5_howMany 20 = .ok (.iconst 1, 1) := by decide +kernel
theorem dX5_howMany_21 : decode cX5_howMany 21 = .ok (.goto 4, 3) := by decide +kernel
theorem dX5_howMany_24 : decode cX5_howMany 24 = .ok (.iconst 0, 1) := by decide +kernel
theorem dX5_howMany_25 : decode cX5_howMany 25 = .ok (.iadd, 1) := by decide +kernel
theorem dX5_howMany_26 : decode cX5_howMany 26 = .ok (.istore_n 1, 1) := by decide +kernel
theorem dX5_howMany_27 : decode cX5_howMany 27 = .ok (.iinc 2 1, 3) := by decide +kernel
theorem dX5_howMany_30 : decode cX5_howMany 30 = .ok (.goto (-26), 3) := by decide +kernel
theorem dX5_howMany_33 : decode cX5_howMany 33 = .ok (.iload_n 1, 1) := by decide +kernel
theorem dX5_howMany_34 : decode cX5_howMany 34 = .ok (.ireturn, 1) := by decide +kernel
end
section
theorem dX6_init_0 : decode cX6_init 0 = .ok (.aload_n 0, 1) := by decide +kernel
theorem dX6_init_1 : decode cX6_init 1 = .ok (.invokespecial 3, 3) := by decide +kernel
theorem dX6_init_4 : decode cX6_init 4 = .ok (.aload_n 0, 1) := by decide +kernel
theorem dX6_init_5 : decode cX6_init 5 = .ok (.bipush 90, 2) := by decide +kernel
theorem dX6_init_7 : decode cX6_init 7 = .ok (.newarray .int, 2) := by decide +kernel
theorem dX6_init_9 : decode cX6_init 9 = .ok (.putfield 9, 3) := by decide +kernel
theorem dX6_init_12 : decode cX6_init 12 = .ok (.return_, 1) := by decide +kernel
theorem dX6_takes_0 : decode cX6_takes 0 = .ok (.aload_n 0, 1) := by decide +kernel
theorem dX6_takes_1 : decode cX6_takes 1 = .ok (.getfield 15, 3) := by decide +kernel
theorem dX6_takes_4 : decode cX6_takes 4 = .ok (.bipush 90, 2) := by decide +kernel
theorem dX6_takes_6 : decode cX6_takes 6 = .ok (.if_icmp .lt 5, 3) := by decide +kernel
theorem dX6_takes_9 : decode cX6_takes 9 = .ok (.iconst 0, 1) := by decide +kernel
theorem dX6_takes_10 : decode cX6_takes 10 = .ok (.ireturn, 1) := by decide +kernel
theorem dX6_takes_11 : decode cX6_takes 11 = .ok (.aload_n 0, 1) := by decide +kernel
theorem dX6_takes_12 : decode cX6_takes 12 = .ok (.getfield 9, 3) := by decide +kernel
theorem dX6_takes_15 : decode cX6_takes 15 = .ok (.aload_n 0, 1) := by decide +kernel
theorem dX6_takes_16 : decode cX6_takes 16 = .ok (.getfield 15, 3) := by decide +kernel
theorem dX6_takes_19 : decode cX6_takes 19 = .ok (.iload_n 1, 1) := by decide +kernel
theorem dX6_takes_20 : decode cX6_takes 20 = .ok (.iastore, 1) := by decide +kernel
theorem dX6_takes_21 : decode cX6_takes 21 = .ok (.aload_n 0, 1) := by decide +kernel
theorem dX6_takes_22 : decode cX6_takes 22 = .ok (.dup, 1) := by decide +kernel
theorem dX6_takes_23 : decode cX6_takes 23 = .ok (.getfield 15, 3) := by decide +kernel
theorem dX6_takes_26 : decode cX6_takes 26 = .ok (.iconst 1, 1) := by decide +kernel
theorem dX6_takes_27 : decode cX6_takes 27 = .ok (.iadd, 1) := by decide +kernel
theorem dX6_takes_28 : decode cX6_takes 28 = .ok (.putfield 15, 3) := by decide +kernel
theorem dX6_takes_31 : decode cX6_takes 31 = .ok (.iconst 1, 1) := by decide +kernel
theorem dX6_takes_32 : decode cX6_takes 32 = .ok (.ireturn, 1) := by decide +kernel
theorem dX6_tells_0 : decode cX6_tells 0 = .ok (.aload_n 0, 1) := by decide +kernel
theorem dX6_tells_1 : decode cX6_tells 1 = .ok (.iconst 0, 1) := by decide +kernel
theorem dX6_tells_2 : decode cX6_tells 2 = .ok (.putfield 19, 3) := by decide +kernel
theorem dX6_tells_5 : decode cX6_tells 5 = .ok (.aload_n 1, 1) := by decide +kernel
theorem dX6_tells_6 : decode cX6_tells 6 = .ok (.invokevirtual 22, 3) := by decide +kernel
theorem dX6_tells_9 : decode cX6_tells 9 = .ok (.aload_n 0, 1) := by decide +kernel
theorem dX6_tells_10 : decode cX6_tells 10 = .ok (.bipush 107, 2) := by decide +kernel
theorem dX6_tells_12 : decode cX6_tells 12 = .ok (.invokevirtual 27, 3) := by decide +kernel
theorem dX6_tells_15 : decode cX6_tells 15 = .ok (.ifCond .eq 13, 3) := by decide +kernel
theorem dX6_tells_18 : decode cX6_tells 18 = .ok (.aload_n 0, 1) := by decide +kernel
theorem dX6_tells_19 : decode cX6_tells 19 = .ok (.iconst 0, 1) := by decide +kernel
theorem dX6_tells_20 : decode cX6_tells 20 = .ok (.bipush 8, 2) := by decide +kernel
theorem dX6_tells_22 : decode cX6_tells 22 = .ok (.invokevirtual 31, 3) := by decide +kernel
theorem dX6_tells_25 : decode cX6_tells 25 = .ok (.ifCond .ne 5, 3) := by decide +kernel
theorem dX6_tells_28 : decode cX6_tells 28 = .ok (.iconst 0, 1) := by decide +kernel
theorem dX6_tells_29 : decode cX6_tells 29 = .ok (.ireturn, 1) := by decide +kernel
theorem dX6_tells_30 : decode cX6_tells 30 = .ok (.aload_n 1, 1) := by decide +kernel
theorem dX6_tells_31 : decode cX6_tells 31 = .ok (.aload_n 0, 1) := by decide +kernel
theorem dX6_tells_32 : decode cX6_tells 32 = .ok (.getfield 35, 3) := by decide +kernel
theorem dX6_tells_35 : decode cX6_tells 35 = .ok (.putfield 38, 3) := by decide +kernel
theorem dX6_tells_38 : decode cX6_tells 38 = .ok (.aload_n 0, 1) := by decide +kernel
theorem dX6_tells_39 : decode cX6_tells 39 = .ok (.bipush 59, 2) := by decide +kernel
theorem dX6_tells_41 : decode cX6_tells 41 = .ok (.invokevirtual 27, 3) := by decide +kernel
theorem dX6_tells_44 : decode cX6_tells 44 = .ok (.ifCond .ne 5, 3) := by decide +kernel
theorem dX6_tells_47 : decode cX6_tells 47 = .ok (.iconst 0, 1) := by decide +kernel
theorem dX6_tells_48 : decode cX6_tells 48 = .ok (.ireturn, 1) := by decide +kernel
theorem dX6_tells_49 : decode cX6_tells 49 = .ok (.iconst 0, 1) := by decide +kernel
theorem dX6_tells_50 : decode cX6_tells 50 = .ok (.istore_n 2, 1) := by decide +kernel
theorem dX6_tells_51 : decode cX6_tells 51 = .ok (.iload_n 2, 1) := by decide +kernel
theorem dX6_tells_52 : decode cX6_tells 52 = .ok (.bipush 8, 2) := by decide +kernel
theorem dX6_tells_54 : decode cX6_tells 54 = .ok (.if_icmp .gt 36, 3) := by decide +kernel
theorem dX6_tells_57 : decode cX6_tells 57 = .ok (.iload_n 2, 1) := by decide +kernel
theorem dX6_tells_58 : decode cX6_tells 58 = .ok (.ifCond .le 16, 3) := by decide +kernel
theorem dX6_tells_61 : decode cX6_tells 61 = .ok (.aload_n 0, 1) := by decide +kernel
theorem dX6_tells_62 : decode cX6_tells 62 = .ok (.getfield 19, 3) := by decide +kernel
theorem dX6_tells_65 : decode cX6_tells 65 = .ok (.aload_n 0, 1) := by decide +kernel
theorem dX6_tells_66 : decode cX6_tells 66 = .ok (.getfield 15, 3) := by decide +kernel
theorem dX6_tells_69 : decode cX6_tells 69 = .ok (.if_icmp .ne 5, 3) := by decide +kernel
theorem dX6_tells_72 : decode cX6_tells 72 = .ok (.iconst 1, 1) := by decide +kernel
theorem dX6_tells_73 : decode cX6_tells 73 = .ok (.ireturn, 1) := by decide +kernel
theorem dX6_tells_74 : decode cX6_tells 74 = .ok (.aload_n 0, 1) := by decide +kernel
theorem dX6_tells_75 : decode cX6_tells 75 = .ok (.aload_n 1, 1) := by decide +kernel
theorem dX6_tells_76 : decode cX6_tells 76 = .ok (.invokevirtual 41, 3) := by decide +kernel
theorem dX6_tells_79 : decode cX6_tells 79 = .ok (.ifCond .ne 5, 3) := by decide +kernel
theorem dX6_tells_82 : decode cX6_tells 82 = .ok (.iconst 0, 1) := by decide +kernel
theorem dX6_tells_83 : decode cX6_tells 83 = .ok (.ireturn, 1) := by decide +kernel
theorem dX6_tells_84 : decode cX6_tells 84 = .ok (.iinc 2 1, 3) := by decide +kernel
theorem dX6_tells_87 : decode cX6_tells 87 = .ok (.goto (-36), 3) := by decide +kernel
theorem dX6_tells_90 : decode cX6_tells 90 = .ok (.iconst 0, 1) := by decide +kernel
theorem dX6_tells_91 : decode cX6_tells 91 = .ok (.ireturn, 1) := by decide +kernel
theorem dX6_tellsJar_0 : decode cX6_tellsJar 0 = .ok (.aload_n 0, 1) := by decide +kernel
theorem dX6_tellsJar_1 : decode cX6_tellsJar 1 = .ok (.getfield 19, 3) := by decide +kernel
theorem dX6_tellsJar_4 : decode cX6_tellsJar 4 = .ok (.aload_n 0, 1) := by decide +kernel
theorem dX6_tellsJar_5 : decode cX6_tellsJar 5 = .ok (.getfield 15, 3) := by decide +kernel
theorem dX6_tellsJar_8 : decode cX6_tellsJar 8 = .ok (.if_icmp .ge 18, 3) := by decide +kernel
theorem dX6_tellsJar_11 : decode cX6_tellsJar 11 = .ok (.aload_n 0, 1) := by decide +kernel
theorem dX6_tellsJar_12 : decode cX6_tellsJar 12 = .ok (.getfield 9, 3) := by decide +kernel
theorem dX6_tellsJar_15 : decode cX6_tellsJar 15 = .ok (.aload_n 0, 1) := by decide +kernel
theorem dX6_tellsJar_16 : decode cX6_tellsJar 16 = .ok (.getfield 19, 3) := by decide +kernel
theorem dX6_tellsJar_19 : decode cX6_tellsJar 19 = .ok (.iaload, 1) := by decide +kernel
theorem dX6_tellsJar_20 : decode cX6_tellsJar 20 = .ok (.invokestatic 45, 3) := by decide +kernel
theorem dX6_tellsJar_23 : decode cX6_tellsJar 23 = .ok (.goto 4, 3) := by decide +kernel
theorem dX6_tellsJar_26 : decode cX6_tellsJar 26 = .ok (.iconst 0, 1) := by decide +kernel
theorem dX6_tellsJar_27 : decode cX6_tellsJar 27 = .ok (.istore_n 2, 1) := by decide +kernel
theorem dX6_tellsJar_28 : decode cX6_tellsJar 28 = .ok (.iload_n 2, 1) := by decide +kernel
theorem dX6_tellsJar_29 : decode cX6_tellsJar 29 = .ok (.ifCond .ne 9, 3) := by decide +kernel
theorem dX6_tellsJar_32 : decode cX6_tellsJar 32 = .ok (.aload_n 0, 1) := by decide +kernel
theorem dX6_tellsJar_33 : decode cX6_tellsJar 33 = .ok (.iconst 1, 1) := by decide +kernel
theorem dX6_tellsJar_34 : decode cX6_tellsJar 34 = .ok (.invokevirtual 49, 3) := by decide +kernel
theorem dX6_tellsJar_37 : decode cX6_tellsJar 37 = .ok (.ireturn, 1) := by decide +kernel
theorem dX6_tellsJar_38 : decode cX6_tellsJar 38 = .ok (.aload_n 1, 1) := by decide +kernel
theorem dX6_tellsJar_39 : decode cX6_tellsJar 39 = .ok (.getfield 52, 3) := by decide +kernel
theorem dX6_tellsJar_42 : decode cX6_tellsJar 42 = .ok (.bipush 8, 2) := by decide +kernel
theorem dX6_tellsJar_44 : decode cX6_tellsJar 44 = .ok (.if_icmp .lt 9, 3) := by decide +kernel
theorem dX6_tellsJar_47 : decode cX6_tellsJar 47 = .ok (.aload_n 0, 1) := by decide +kernel
theorem dX6_tellsJar_48 : decode cX6_tellsJar 48 = .ok (.iconst 3, 1) := by decide +kernel
theorem dX6_tellsJar_49 : decode cX6_tellsJar 49 = .ok (.invokevirtual 49, 3) := by decide +kernel
theorem dX6_tellsJar_52 : decode cX6_tellsJar 52 = .ok (.ireturn, 1) := by decide +kernel
theorem dX6_tellsJar_53 : decode cX6_tellsJar 53 = .ok (.aload_n 0, 1) := by decide +kernel
theorem dX6_tellsJar_54 : decode cX6_tellsJar 54 = .ok (.dup, 1) := by decide +kernel
theorem dX6_tellsJar_55 : decode cX6_tellsJar 55 = .ok (.getfield 19, 3) := by decide +kernel
theorem dX6_tellsJar_58 : decode cX6_tellsJar 58 = .ok (.iconst 1, 1) := by decide +kernel
theorem dX6_tellsJar_59 : decode cX6_tellsJar 59 = .ok (.iadd, 1) := by decide +kernel
theorem dX6_tellsJar_60 : decode cX6_tellsJar 60 = .ok (.putfield 19, 3) := by decide +kernel
theorem dX6_tellsJar_63 : decode cX6_tellsJar 63 = .ok (.aload_n 0, 1) := by decide +kernel
theorem dX6_tellsJar_64 : decode cX6_tellsJar 64 = .ok (.iconst 0, 1) := by decide +kernel
theorem dX6_tellsJar_65 : decode cX6_tellsJar 65 = .ok (.bipush 11, 2) := by decide +kernel
theorem dX6_tellsJar_67 : decode cX6_tellsJar 67 = .ok (.invokevirtual 31, 3) := by decide +kernel
theorem dX6_tellsJar_70 : decode cX6_tellsJar 70 = .ok (.ifCond .ne 5, 3) := by decide +kernel
theorem dX6_tellsJar_73 : decode cX6_tellsJar 73 = .ok (.iconst 0, 1) := by decide +kernel
theorem dX6_tellsJar_74 : decode cX6_tellsJar 74 = .ok (.ireturn, 1) := by decide +kernel
theorem dX6_tellsJar_75 : decode cX6_tellsJar 75 = .ok (.aload_n 0, 1) := by decide +kernel
theorem dX6_tellsJar_76 : decode cX6_tellsJar 76 = .ok (.getfield 35, 3) := by decide +kernel
theorem dX6_tellsJar_79 : decode cX6_tellsJar 79 = .ok (.istore_n 3, 1) := by decide +kernel
theorem dX6_tellsJar_80 : decode cX6_tellsJar 80 = .ok (.aload_n 0, 1) := by decide +kernel
theorem dX6_tellsJar_81 : decode cX6_tellsJar 81 = .ok (.bipush 44, 2) := by decide +kernel
theorem dX6_tellsJar_83 : decode cX6_tellsJar 83 = .ok (.invokevirtual 27, 3) := by decide +kernel
theorem dX6_tellsJar_86 : decode cX6_tellsJar 86 = .ok (.ifCond .eq 13, 3) := by decide +kernel
theorem dX6_tellsJar_89 : decode cX6_tellsJar 89 = .ok (.aload_n 0, 1) := by decide +kernel
theorem dX6_tellsJar_90 : decode cX6_tellsJar 90 = .ok (.iconst 1, 1) := by decide +kernel
theorem dX6_tellsJar_91 : decode cX6_tellsJar 91 = .ok (.bipush 60, 2) := by decide +kernel
theorem dX6_tellsJar_93 : decode cX6_tellsJar 93 = .ok (.invokevirtual 31, 3) := by decide +kernel
theorem dX6_tellsJar_96 : decode cX6_tellsJar 96 = .ok (.ifCond .ne 5, 3) := by decide +kernel
theorem dX6_tellsJar_99 : decode cX6_tellsJar 99 = .ok (.iconst 0, 1) := by decide +kernel
theorem dX6_tellsJar_100 : decode cX6_tellsJar 100 = .ok (.ireturn, 1) := by decide +kernel
theorem dX6_tellsJar_101 : decode cX6_tellsJar 101 = .ok (.aload_n 0, 1) := by decide +kernel
theorem dX6_tellsJar_102 : decode cX6_tellsJar 102 = .ok (.getfield 35, 3) := by decide +kernel
theorem dX6_tellsJar_105 : decode cX6_tellsJar 105 = .ok (.istore 4, 2) := by decide +kernel
theorem dX6_tellsJar_107 : decode cX6_tellsJar 107 = .ok (.aload_n 0, 1) := by decide +kernel
theorem dX6_tellsJar_108 : decode cX6_tellsJar 108 = .ok (.bipush 59, 2) := by decide +kernel
theorem dX6_tellsJar_110 : decode cX6_tellsJar 110 = .ok (.invokevirtual 27, 3) := by decide +kernel
theorem dX6_tellsJar_113 : decode cX6_tellsJar 113 = .ok (.ifCond .ne 5, 3) := by decide +kernel
theorem dX6_tellsJar_116 : decode cX6_tellsJar 116 = .ok (.iconst 0, 1) := by decide +kernel
theorem dX6_tellsJar_117 : decode cX6_tellsJar 117 = .ok (.ireturn, 1) := by decide +kernel
theorem dX6_tellsJar_118 : decode cX6_tellsJar 118 = .ok (.aload_n 1, 1) := by decide +kernel
theorem dX6_tellsJar_119 : decode cX6_tellsJar 119 = .ok (.iload_n 2, 1) := by decide +kernel
theorem dX6_tellsJar_120 : decode cX6_tellsJar 120 = .ok (.iload_n 3, 1) := by decide +kernel
theorem dX6_tellsJar_121 : decode cX6_tellsJar 121 = .ok (.iload 4, 2) := by decide +kernel
theorem dX6_tellsJar_123 : decode cX6_tellsJar 123 = .ok (.invokevirtual 55, 3) := by decide +kernel
theorem dX6_tellsJar_126 : decode cX6_tellsJar 126 = .ok (.iconst 1, 1) := by decide +kernel
theorem dX6_tellsJar_127 : decode cX6_tellsJar 127 = .ok (.ireturn, 1) := by decide +kernel
theorem dX6_kindOf_0 : decode cX6_kindOf 0 = .ok (.iload_n 0, 1) := by decide +kernel
theorem dX6_kindOf_1 : decode cX6_kindOf 1 = .ok (.lookupswitch 61 #[(99, 59), (103, 51), (104, 55), (115, 57), (116, 53)], 51) := by decide +kernel
theorem dX6_kindOf_52 : decode cX6_kindOf 52 = .ok (.iconst 1, 1) := by decide +kernel
theorem dX6_kindOf_53 : decode cX6_kindOf 53 = .ok (.ireturn, 1) := by decide +kernel
theorem dX6_kindOf_54 : decode cX6_kindOf 54 = .ok (.iconst 2, 1) := by decide +kernel
theorem dX6_kindOf_55 : decode cX6_kindOf 55 = .ok (.ireturn, 1) := by decide +kernel
theorem dX6_kindOf_56 : decode cX6_kindOf 56 = .ok (.iconst 3, 1) := by decide +kernel
theorem dX6_kindOf_57 : decode cX6_kindOf 57 = .ok (.ireturn, 1) := by decide +kernel
theorem dX6_kindOf_58 : decode cX6_kindOf 58 = .ok (.iconst 4, 1) := by decide +kernel
theorem dX6_kindOf_59 : decode cX6_kindOf 59 = .ok (.ireturn, 1) := by decide +kernel
theorem dX6_kindOf_60 : decode cX6_kindOf 60 = .ok (.iconst 5, 1) := by decide +kernel
theorem dX6_kindOf_61 : decode cX6_kindOf 61 = .ok (.ireturn, 1) := by decide +kernel
theorem dX6_kindOf_62 : decode cX6_kindOf 62 = .ok (.iconst 0, 1) := by decide +kernel
theorem dX6_kindOf_63 : decode cX6_kindOf 63 = .ok (.ireturn, 1) := by decide +kernel
theorem dX6_passes_0 : decode cX6_passes 0 = .ok (.aload_n 0, 1) := by decide +kernel
theorem dX6_passes_1 : decode cX6_passes 1 = .ok (.getfield 19, 3) := by decide +kernel
theorem dX6_passes_4 : decode cX6_passes 4 = .ok (.aload_n 0, 1) := by decide +kernel
theorem dX6_passes_5 : decode cX6_passes 5 = .ok (.getfield 15, 3) := by decide +kernel
theorem dX6_passes_8 : decode cX6_passes 8 = .ok (.if_icmp .ge 16, 3) := by decide +kernel
theorem dX6_passes_11 : decode cX6_passes 11 = .ok (.aload_n 0, 1) := by decide +kernel
theorem dX6_passes_12 : decode cX6_passes 12 = .ok (.getfield 9, 3) := by decide +kernel
theorem dX6_passes_15 : decode cX6_passes 15 = .ok (.aload_n 0, 1) := by decide +kernel
theorem dX6_passes_16 : decode cX6_passes 16 = .ok (.getfield 19, 3) := by decide +kernel
theorem dX6_passes_19 : decode cX6_passes 19 = .ok (.iaload, 1) := by decide +kernel
theorem dX6_passes_20 : decode cX6_passes 20 = .ok (.iload_n 1, 1) := by decide +kernel
theorem dX6_passes_21 : decode cX6_passes 21 = .ok (.if_icmp .eq 9, 3) := by decide +kernel
theorem dX6_passes_24 : decode cX6_passes 24 = .ok (.aload_n 0, 1) := by decide +kernel
theorem dX6_passes_25 : decode cX6_passes 25 = .ok (.iconst 1, 1) := by decide +kernel
theorem dX6_passes_26 : decode cX6_passes 26 = .ok (.invokevirtual 49, 3) := by decide +kernel
theorem dX6_passes_29 : decode cX6_passes 29 = .ok (.ireturn, 1) := by decide +kernel
theorem dX6_passes_30 : decode cX6_passes 30 = .ok (.aload_n 0, 1) := by decide +kernel
theorem dX6_passes_31 : decode cX6_passes 31 = .ok (.dup, 1) := by decide +kernel
theorem dX6_passes_32 : decode cX6_passes 32 = .ok (.getfield 19, 3) := by decide +kernel
theorem dX6_passes_35 : decode cX6_passes 35 = .ok (.iconst 1, 1) := by decide +kernel
theorem dX6_passes_36 : decode cX6_passes 36 = .ok (.iadd, 1) := by decide +kernel
theorem dX6_passes_37 : decode cX6_passes 37 = .ok (.putfield 19, 3) := by decide +kernel
theorem dX6_passes_40 : decode cX6_passes 40 = .ok (.iconst 1, 1) := by decide +kernel
theorem dX6_passes_41 : decode cX6_passes 41 = .ok (.ireturn, 1) := by decide +kernel
theorem dX6_numbers_0 : decode cX6_numbers 0 = .ok (.aload_n 0, 1) := by decide +kernel
theorem dX6_numbers_1 : decode cX6_numbers 1 = .ok (.invokevirtual 59, 3) := by decide +kernel
theorem dX6_numbers_4 : decode cX6_numbers 4 = .ok (.istore_n 3, 1) := by decide +kernel
theorem dX6_numbers_5 : decode cX6_numbers 5 = .ok (.iload_n 3, 1) := by decide +kernel
theorem dX6_numbers_6 : decode cX6_numbers 6 = .ok (.iconst 1, 1) := by decide +kernel
theorem dX6_numbers_7 : decode cX6_numbers 7 = .ok (.iconst 2, 1) := by decide +kernel
theorem dX6_numbers_8 : decode cX6_numbers 8 = .ok (.invokestatic 63, 3) := by decide +kernel
theorem dX6_numbers_11 : decode cX6_numbers 11 = .ok (.ifCond .ne 9, 3) := by decide +kernel
theorem dX6_numbers_14 : decode cX6_numbers 14 = .ok (.aload_n 0, 1) := by decide +kernel
theorem dX6_numbers_15 : decode cX6_numbers 15 = .ok (.iconst 1, 1) := by decide +kernel
theorem dX6_numbers_16 : decode cX6_numbers 16 = .ok (.invokevirtual 49, 3) := by decide +kernel
theorem dX6_numbers_19 : decode cX6_numbers 19 = .ok (.ireturn, 1) := by decide +kernel
theorem dX6_numbers_20 : decode cX6_numbers 20 = .ok (.aload_n 0, 1) := by decide +kernel
theorem dX6_numbers_21 : decode cX6_numbers 21 = .ok (.iconst 0, 1) := by decide +kernel
theorem dX6_numbers_22 : decode cX6_numbers 22 = .ok (.putfield 35, 3) := by decide +kernel
theorem dX6_numbers_25 : decode cX6_numbers 25 = .ok (.iconst 0, 1) := by decide +kernel
theorem dX6_numbers_26 : decode cX6_numbers 26 = .ok (.istore 4, 2) := by decide +kernel
theorem dX6_numbers_28 : decode cX6_numbers 28 = .ok (.iload 4, 2) := by decide +kernel
theorem dX6_numbers_30 : decode cX6_numbers 30 = .ok (.iload_n 3, 1) := by decide +kernel
theorem dX6_numbers_31 : decode cX6_numbers 31 = .ok (.if_icmp .ge 36, 3) := by decide +kernel
theorem dX6_numbers_34 : decode cX6_numbers 34 = .ok (.aload_n 0, 1) := by decide +kernel
theorem dX6_numbers_35 : decode cX6_numbers 35 = .ok (.aload_n 0, 1) := by decide +kernel
theorem dX6_numbers_36 : decode cX6_numbers 36 = .ok (.getfield 35, 3) := by decide +kernel
theorem dX6_numbers_39 : decode cX6_numbers 39 = .ok (.bipush 10, 2) := by decide +kernel
theorem dX6_numbers_41 : decode cX6_numbers 41 = .ok (.imul, 1) := by decide +kernel
theorem dX6_numbers_42 : decode cX6_numbers 42 = .ok (.aload_n 0, 1) := by decide +kernel
theorem dX6_numbers_43 : decode cX6_numbers 43 = .ok (.getfield 9, 3) := by decide +kernel
theorem dX6_numbers_46 : decode cX6_numbers 46 = .ok (.aload_n 0, 1) := by decide +kernel
theorem dX6_numbers_47 : decode cX6_numbers 47 = .ok (.getfield 19, 3) := by decide +kernel
theorem dX6_numbers_50 : decode cX6_numbers 50 = .ok (.iload 4, 2) := by decide +kernel
theorem dX6_numbers_52 : decode cX6_numbers 52 = .ok (.iadd, 1) := by decide +kernel
theorem dX6_numbers_53 : decode cX6_numbers 53 = .ok (.iaload, 1) := by decide +kernel
theorem dX6_numbers_54 : decode cX6_numbers 54 = .ok (.iadd, 1) := by decide +kernel
theorem dX6_numbers_55 : decode cX6_numbers 55 = .ok (.bipush 48, 2) := by decide +kernel
theorem dX6_numbers_57 : decode cX6_numbers 57 = .ok (.isub, 1) := by decide +kernel
theorem dX6_numbers_58 : decode cX6_numbers 58 = .ok (.putfield 35, 3) := by decide +kernel
theorem dX6_numbers_61 : decode cX6_numbers 61 = .ok (.iinc 4 1, 3) := by decide +kernel
theorem dX6_numbers_64 : decode cX6_numbers 64 = .ok (.goto (-36), 3) := by decide +kernel
theorem dX6_numbers_67 : decode cX6_numbers 67 = .ok (.aload_n 0, 1) := by decide +kernel
theorem dX6_numbers_68 : decode cX6_numbers 68 = .ok (.getfield 35, 3) := by decide +kernel
theorem dX6_numbers_71 : decode cX6_numbers 71 = .ok (.iload_n 1, 1) := by decide +kernel
theorem dX6_numbers_72 : decode cX6_numbers 72 = .ok (.iload_n 2, 1) := by decide +kernel
theorem dX6_numbers_73 : decode cX6_numbers 73 = .ok (.invokestatic 63, 3) := by decide +kernel
theorem dX6_numbers_76 : decode cX6_numbers 76 = .ok (.ifCond .ne 9, 3) := by decide +kernel
theorem dX6_numbers_79 : decode cX6_numbers 79 = .ok (.aload_n 0, 1) := by decide +kernel
theorem dX6_numbers_80 : decode cX6_numbers 80 = .ok (.iconst 2, 1) := by decide +kernel
theorem dX6_numbers_81 : decode cX6_numbers 81 = .ok (.invokevirtual 49, 3) := by decide +kernel
theorem dX6_numbers_84 : decode cX6_numbers 84 = .ok (.ireturn, 1) := by decide +kernel
theorem dX6_numbers_85 : decode cX6_numbers 85 = .ok (.aload_n 0, 1) := by decide +kernel
theorem dX6_numbers_86 : decode cX6_numbers 86 = .ok (.dup, 1) := by decide +kernel
theorem dX6_numbers_87 : decode cX6_numbers 87 = .ok (.getfield 19, 3) := by decide +kernel
theorem dX6_numbers_90 : decode cX6_numbers 90 = .ok (.iload_n 3, 1) := by decide +kernel
theorem dX6_numbers_91 : decode cX6_numbers 91 = .ok (.iadd, 1) := by decide +kernel
theorem dX6_numbers_92 : decode cX6_numbers 92 = .ok (.putfield 19, 3) := by decide +kernel
theorem dX6_numbers_95 : decode cX6_numbers 95 = .ok (.iconst 1, 1) := by decide +kernel
theorem dX6_numbers_96 : decode cX6_numbers 96 = .ok (.ireturn, 1) := by decide +kernel
theorem dX6_figures_0 : decode cX6_figures 0 = .ok (.iconst 0, 1) := by decide +kernel
theorem dX6_figures_1 : decode cX6_figures 1 = .ok (.istore_n 1, 1) := by decide +kernel
theorem dX6_figures_2 : decode cX6_figures 2 = .ok (.aload_n 0, 1) := by decide +kernel
theorem dX6_figures_3 : decode cX6_figures 3 = .ok (.getfield 19, 3) := by decide +kernel
theorem dX6_figures_6 : decode cX6_figures 6 = .ok (.iload_n 1, 1) := by decide +kernel
theorem dX6_figures_7 : decode cX6_figures 7 = .ok (.iadd, 1) := by decide +kernel
theorem dX6_figures_8 : decode cX6_figures 8 = .ok (.aload_n 0, 1) := by decide +kernel
theorem dX6_figures_9 : decode cX6_figures 9 = .ok (.getfield 15, 3) := by decide +kernel
theorem dX6_figures_12 : decode cX6_figures 12 = .ok (.if_icmp .ge 30, 3) := by decide +kernel
theorem dX6_figures_15 : decode cX6_figures 15 = .ok (.aload_n 0, 1) := by decide +kernel
theorem dX6_figures_16 : decode cX6_figures 16 = .ok (.getfield 9, 3) := by decide +kernel
theorem dX6_figures_19 : decode cX6_figures 19 = .ok (.aload_n 0, 1) := by decide +kernel
theorem dX6_figures_20 : decode cX6_figures 20 = .ok (.getfield 19, 3) := by decide +kernel
theorem dX6_figures_23 : decode cX6_figures 23 = .ok (.iload_n 1, 1) := by decide +kernel
theorem dX6_figures_24 : decode cX6_figures 24 = .ok (.iadd, 1) := by decide +kernel
theorem dX6_figures_25 : decode cX6_figures 25 = .ok (.iaload, 1) := by decide +kernel
theorem dX6_figures_26 : decode cX6_figures 26 = .ok (.bipush 48, 2) := by decide +kernel
theorem dX6_figures_28 : decode cX6_figures 28 = .ok (.bipush 57, 2) := by decide +kernel
theorem dX6_figures_30 : decode cX6_figures 30 = .ok (.invokestatic 63, 3) := by decide +kernel
theorem dX6_figures_33 : decode cX6_figures 33 = .ok (.ifCond .eq 9, 3) := by decide +kernel
theorem dX6_figures_36 : decode cX6_figures 36 = .ok (.iinc 1 1, 3) := by decide +kernel
theorem dX6_figures_39 : decode cX6_figures 39 = .ok (.goto (-37), 3) := by decide +kernel
theorem dX6_figures_42 : decode cX6_figures 42 = .ok (.iload_n 1, 1) := by decide +kernel
theorem dX6_figures_43 : decode cX6_figures 43 = .ok (.ireturn, 1) := by decide +kernel
theorem dX6_fails_0 : decode cX6_fails 0 = .ok (.aload_n 0, 1) := by decide +kernel
theorem dX6_fails_1 : decode cX6_fails 1 = .ok (.iload_n 1, 1) := by decide +kernel
theorem dX6_fails_2 : decode cX6_fails 2 = .ok (.putfield 67, 3) := by decide +kernel
theorem dX6_fails_5 : decode cX6_fails 5 = .ok (.iconst 0, 1) := by decide +kernel
theorem dX6_fails_6 : decode cX6_fails 6 = .ok (.ireturn, 1) := by decide +kernel
end
section
theorem dX7_init_0 : decode cX7_init 0 = .ok (.aload_n 0, 1) := by decide +kernel
theorem dX7_init_1 : decode cX7_init 1 = .ok (.invokespecial 1, 3) := by decide +kernel
theorem dX7_init_4 : decode cX7_init 4 = .ok (.aload_n 0, 1) := by decide +kernel
theorem dX7_init_5 : decode cX7_init 5 = .ok (.new 7, 3) := by decide +kernel
theorem dX7_init_8 : decode cX7_init 8 = .ok (.dup, 1) := by decide +kernel
theorem dX7_init_9 : decode cX7_init 9 = .ok (.invokespecial 9, 3) := by decide +kernel
theorem dX7_init_12 : decode cX7_init 12 = .ok (.putfield 10, 3) := by decide +kernel
theorem dX7_init_15 : decode cX7_init 15 = .ok (.aload_n 0, 1) := by decide +kernel
theorem dX7_init_16 : decode cX7_init 16 = .ok (.new 16, 3) := by decide +kernel
theorem dX7_init_19 : decode cX7_init 19 = .ok (.dup, 1) := by decide +kernel
theorem dX7_init_20 : decode cX7_init 20 = .ok (.invokespecial 18, 3) := by decide +kernel
theorem dX7_init_23 : decode cX7_init 23 = .ok (.putfield 19, 3) := by decide +kernel
theorem dX7_init_26 : decode cX7_init 26 = .ok (.aload_n 0, 1) := by decide +kernel
theorem dX7_init_27 : decode cX7_init 27 = .ok (.new 23, 3) := by decide +kernel
theorem dX7_init_30 : decode cX7_init 30 = .ok (.dup, 1) := by decide +kernel
theorem dX7_init_31 : decode cX7_init 31 = .ok (.invokespecial 25, 3) := by decide +kernel
theorem dX7_init_34 : decode cX7_init 34 = .ok (.putfield 26, 3) := by decide +kernel
theorem dX7_init_37 : decode cX7_init 37 = .ok (.aload_n 0, 1) := by decide +kernel
theorem dX7_init_38 : decode cX7_init 38 = .ok (.new 23, 3) := by decide +kernel
theorem dX7_init_41 : decode cX7_init 41 = .ok (.dup, 1) := by decide +kernel
theorem dX7_init_42 : decode cX7_init 42 = .ok (.invokespecial 25, 3) := by decide +kernel
theorem dX7_init_45 : decode cX7_init 45 = .ok (.putfield 30, 3) := by decide +kernel
theorem dX7_init_48 : decode cX7_init 48 = .ok (.aload_n 0, 1) := by decide +kernel
theorem dX7_init_49 : decode cX7_init 49 = .ok (.new 33, 3) := by decide +kernel
theorem dX7_init_52 : decode cX7_init 52 = .ok (.dup, 1) := by decide +kernel
theorem dX7_init_53 : decode cX7_init 53 = .ok (.invokespecial 35, 3) := by decide +kernel
theorem dX7_init_56 : decode cX7_init 56 = .ok (.putfield 36, 3) := by decide +kernel
theorem dX7_init_59 : decode cX7_init 59 = .ok (.aload_n 0, 1) := by decide +kernel
theorem dX7_init_60 : decode cX7_init 60 = .ok (.new 40, 3) := by decide +kernel
theorem dX7_init_63 : decode cX7_init 63 = .ok (.dup, 1) := by decide +kernel
theorem dX7_init_64 : decode cX7_init 64 = .ok (.invokespecial 42, 3) := by decide +kernel
theorem dX7_init_67 : decode cX7_init 67 = .ok (.putfield 43, 3) := by decide +kernel
theorem dX7_init_70 : decode cX7_init 70 = .ok (.aload_n 0, 1) := by decide +kernel
theorem dX7_init_71 : decode cX7_init 71 = .ok (.new 47, 3) := by decide +kernel
theorem dX7_init_74 : decode cX7_init 74 = .ok (.dup, 1) := by decide +kernel
theorem dX7_init_75 : decode cX7_init 75 = .ok (.invokespecial 49, 3) := by decide +kernel
theorem dX7_init_78 : decode cX7_init 78 = .ok (.putfield 50, 3) := by decide +kernel
theorem dX7_init_81 : decode cX7_init 81 = .ok (.aload_n 0, 1) := by decide +kernel
theorem dX7_init_82 : decode cX7_init 82 = .ok (.iconst 2, 1) := by decide +kernel
theorem dX7_init_83 : decode cX7_init 83 = .ok (.anewarray 23, 3) := by decide +kernel
theorem dX7_init_86 : decode cX7_init 86 = .ok (.putfield 54, 3) := by decide +kernel
theorem dX7_init_89 : decode cX7_init 89 = .ok (.return_, 1) := by decide +kernel
theorem dX7_row_0 : decode cX7_row 0 = .ok (.iload_n 1, 1) := by decide +kernel
theorem dX7_row_1 : decode cX7_row 1 = .ok (.invokestatic 58, 3) := by decide +kernel
theorem dX7_row_4 : decode cX7_row 4 = .ok (.ifCond .eq 18, 3) := by decide +kernel
theorem dX7_row_7 : decode cX7_row 7 = .ok (.iload_n 2, 1) := by decide +kernel
theorem dX7_row_8 : decode cX7_row 8 = .ok (.iconst 0, 1) := by decide +kernel
theorem dX7_row_9 : decode cX7_row 9 = .ok (.iconst 2, 1) := by decide +kernel
theorem dX7_row_10 : decode cX7_row 10 = .ok (.invokestatic 62, 3) := by decide +kernel
theorem dX7_row_13 : decode cX7_row 13 = .ok (.ifCond .eq 9, 3) := by decide +kernel
theorem dX7_row_16 : decode cX7_row 16 = .ok (.iload_n 3, 1) := by decide +kernel
theorem dX7_row_17 : decode cX7_row 17 = .ok (.bipush 40, 2) := by decide +kernel
theorem dX7_row_19 : decode cX7_row 19 = .ok (.if_icmp .le 6, 3) := by decide +kernel
theorem dX7_row_22 : decode cX7_row 22 = .ok (.ldc 66, 2) := by decide +kernel
theorem dX7_row_24 : decode cX7_row 24 = .ok (.ireturn, 1) := by decide +kernel
theorem dX7_row_25 : decode cX7_row 25 = .ok (.iload_n 3, 1) := by decide +kernel
theorem dX7_row_26 : decode cX7_row 26 = .ok (.ifCond .ge 9, 3) := by decide +kernel
theorem dX7_row_29 : decode cX7_row 29 = .ok (.aload_n 0, 1) := by decide +kernel
theorem dX7_row_30 : decode cX7_row 30 = .ok (.iconst 4, 1) := by decide +kernel
theorem dX7_row_31 : decode cX7_row 31 = .ok (.invokevirtual 67, 3) := by decide +kernel
theorem dX7_row_34 : decode cX7_row 34 = .ok (.ireturn, 1) := by decide +kernel
theorem dX7_row_35 : decode cX7_row 35 = .ok (.aload_n 0, 1) := by decide +kernel
theorem dX7_row_36 : decode cX7_row 36 = .ok (.getfield 10, 3) := by decide +kernel
theorem dX7_row_39 : decode cX7_row 39 = .ok (.iload_n 1, 1) := by decide +kernel
theorem dX7_row_40 : decode cX7_row 40 = .ok (.iload_n 2, 1) := by decide +kernel
theorem dX7_row_41 : decode cX7_row 41 = .ok (.iload_n 3, 1) := by decide +kernel
theorem dX7_row_42 : decode cX7_row 42 = .ok (.invokevirtual 71, 3) := by decide +kernel
theorem dX7_row_45 : decode cX7_row 45 = .ok (.aload_n 0, 1) := by decide +kernel
theorem dX7_row_46 : decode cX7_row 46 = .ok (.iload_n 3, 1) := by decide +kernel
theorem dX7_row_47 : decode cX7_row 47 = .ok (.invokevirtual 75, 3) := by decide +kernel
theorem dX7_row_50 : decode cX7_row 50 = .ok (.ireturn, 1) := by decide +kernel
theorem dX7_set_0 : decode cX7_set 0 = .ok (.iload_n 1, 1) := by decide +kernel
theorem dX7_set_1 : decode cX7_set 1 = .ok (.invokestatic 58, 3) := by decide +kernel
theorem dX7_set_4 : decode cX7_set 4 = .ok (.ifCond .ne 6, 3) := by decide +kernel
theorem dX7_set_7 : decode cX7_set 7 = .ok (.ldc 66, 2) := by decide +kernel
theorem dX7_set_9 : decode cX7_set 9 = .ok (.ireturn, 1) := by decide +kernel
theorem dX7_set_10 : decode cX7_set 10 = .ok (.aload_n 0, 1) := by decide +kernel
theorem dX7_set_11 : decode cX7_set 11 = .ok (.getfield 10, 3) := by decide +kernel
theorem dX7_set_14 : decode cX7_set 14 = .ok (.iload_n 1, 1) := by decide +kernel
theorem dX7_set_15 : decode cX7_set 15 = .ok (.iload_n 2, 1) := by decide +kernel
theorem dX7_set_16 : decode cX7_set 16 = .ok (.iconst 1, 1) := by decide +kernel
theorem dX7_set_17 : decode cX7_set 17 = .ok (.invokevirtual 78, 3) := by decide +kernel
theorem dX7_set_20 : decode cX7_set 20 = .ok (.istore 4, 2) := by decide +kernel
theorem dX7_set_22 : decode cX7_set 22 = .ok (.iload 4, 2) := by decide +kernel
theorem dX7_set_24 : decode cX7_set 24 = .ok (.ifCond .eq 10, 3) := by decide +kernel
theorem dX7_set_27 : decode cX7_set 27 = .ok (.aload_n 0, 1) := by decide +kernel
theorem dX7_set_28 : decode cX7_set 28 = .ok (.iload 4, 2) := by decide +kernel
theorem dX7_set_30 : decode cX7_set 30 = .ok (.invokevirtual 67, 3) := by decide +kernel
theorem dX7_set_33 : decode cX7_set 33 = .ok (.ireturn, 1) := by decide +kernel
theorem dX7_set_34 : decode cX7_set 34 = .ok (.aload_n 0, 1) := by decide +kernel
theorem dX7_set_35 : decode cX7_set 35 = .ok (.aload_n 0, 1) := by decide +kernel
theorem dX7_set_36 : decode cX7_set 36 = .ok (.getfield 10, 3) := by decide +kernel
theorem dX7_set_39 : decode cX7_set 39 = .ok (.iload_n 1, 1) := by decide +kernel
theorem dX7_set_40 : decode cX7_set 40 = .ok (.iload_n 2, 1) := by decide +kernel
theorem dX7_set_41 : decode cX7_set 41 = .ok (.iload_n 3, 1) := by decide +kernel
theorem dX7_set_42 : decode cX7_set 42 = .ok (.invokevirtual 82, 3) := by decide +kernel
theorem dX7_set_45 : decode cX7_set 45 = .ok (.invokevirtual 75, 3) := by decide +kernel
theorem dX7_set_48 : decode cX7_set 48 = .ok (.ireturn, 1) := by decide +kernel
theorem dX7_copy_0 : decode cX7_copy 0 = .ok (.iload_n 1, 1) := by decide +kernel
theorem dX7_copy_1 : decode cX7_copy 1 = .ok (.invokestatic 58, 3) := by decide +kernel
theorem dX7_copy_4 : decode cX7_copy 4 = .ok (.ifCond .eq 10, 3) := by decide +kernel
theorem dX7_copy_7 : decode cX7_copy 7 = .ok (.iload_n 3, 1) := by decide +kernel
theorem dX7_copy_8 : decode cX7_copy 8 = .ok (.invokestatic 58, 3) := by decide +kernel
theorem dX7_copy_11 : decode cX7_copy 11 = .ok (.ifCond .ne 6, 3) := by decide +kernel
theorem dX7_copy_14 : decode cX7_copy 14 = .ok (.ldc 66, 2) := by decide +kernel
theorem dX7_copy_16 : decode cX7_copy 16 = .ok (.ireturn, 1) := by decide +kernel
theorem dX7_copy_17 : decode cX7_copy 17 = .ok (.aload_n 0, 1) := by decide +kernel
theorem dX7_copy_18 : decode cX7_copy 18 = .ok (.getfield 10, 3) := by decide +kernel
theorem dX7_copy_21 : decode cX7_copy 21 = .ok (.getfield 85, 3) := by decide +kernel
theorem dX7_copy_24 : decode cX7_copy 24 = .ok (.iload_n 1, 1) := by decide +kernel
theorem dX7_copy_25 : decode cX7_copy 25 = .ok (.baload, 1) := by decide +kernel
theorem dX7_copy_26 : decode cX7_copy 26 = .ok (.ifCond .eq 15, 3) := by decide +kernel
theorem dX7_copy_29 : decode cX7_copy 29 = .ok (.aload_n 0, 1) := by decide +kernel
theorem dX7_copy_30 : decode cX7_copy 30 = .ok (.getfield 10, 3) := by decide +kernel
theorem dX7_copy_33 : decode cX7_copy 33 = .ok (.getfield 85, 3) := by decide +kernel
theorem dX7_copy_36 : decode cX7_copy 36 = .ok (.iload_n 3, 1) := by decide +kernel
theorem dX7_copy_37 : decode cX7_copy 37 = .ok (.baload, 1) := by decide +kernel
theorem dX7_copy_38 : decode cX7_copy 38 = .ok (.ifCond .ne 9, 3) := by decide +kernel
theorem dX7_copy_41 : decode cX7_copy 41 = .ok (.aload_n 0, 1) := by decide +kernel
theorem dX7_copy_42 : decode cX7_copy 42 = .ok (.iconst 1, 1) := by decide +kernel
theorem dX7_copy_43 : decode cX7_copy 43 = .ok (.invokevirtual 67, 3) := by decide +kernel
theorem dX7_copy_46 : decode cX7_copy 46 = .ok (.ireturn, 1) := by decide +kernel
theorem dX7_copy_47 : decode cX7_copy 47 = .ok (.aload_n 0, 1) := by decide +kernel
theorem dX7_copy_48 : decode cX7_copy 48 = .ok (.getfield 10, 3) := by decide +kernel
theorem dX7_copy_51 : decode cX7_copy 51 = .ok (.getfield 89, 3) := by decide +kernel
theorem dX7_copy_54 : decode cX7_copy 54 = .ok (.iload_n 1, 1) := by decide +kernel
theorem dX7_copy_55 : decode cX7_copy 55 = .ok (.iaload, 1) := by decide +kernel
theorem dX7_copy_56 : decode cX7_copy 56 = .ok (.aload_n 0, 1) := by decide +kernel
theorem dX7_copy_57 : decode cX7_copy 57 = .ok (.getfield 10, 3) := by decide +kernel
theorem dX7_copy_60 : decode cX7_copy 60 = .ok (.getfield 89, 3) := by decide +kernel
theorem dX7_copy_63 : decode cX7_copy 63 = .ok (.iload_n 3, 1) := by decide +kernel
theorem dX7_copy_64 : decode cX7_copy 64 = .ok (.iaload, 1) := by decide +kernel
theorem dX7_copy_65 : decode cX7_copy 65 = .ok (.if_icmp .eq 9, 3) := by decide +kernel
theorem dX7_copy_68 : decode cX7_copy 68 = .ok (.aload_n 0, 1) := by decide +kernel
theorem dX7_copy_69 : decode cX7_copy 69 = .ok (.iconst 5, 1) := by decide +kernel
theorem dX7_copy_70 : decode cX7_copy 70 = .ok (.invokevirtual 67, 3) := by decide +kernel
theorem dX7_copy_73 : decode cX7_copy 73 = .ok (.ireturn, 1) := by decide +kernel
theorem dX7_copy_74 : decode cX7_copy 74 = .ok (.aload_n 0, 1) := by decide +kernel
theorem dX7_copy_75 : decode cX7_copy 75 = .ok (.getfield 10, 3) := by decide +kernel
theorem dX7_copy_78 : decode cX7_copy 78 = .ok (.iload_n 1, 1) := by decide +kernel
theorem dX7_copy_79 : decode cX7_copy 79 = .ok (.iload_n 2, 1) := by decide +kernel
theorem dX7_copy_80 : decode cX7_copy 80 = .ok (.iload 5, 2) := by decide +kernel
theorem dX7_copy_82 : decode cX7_copy 82 = .ok (.invokevirtual 93, 3) := by decide +kernel
theorem dX7_copy_85 : decode cX7_copy 85 = .ok (.ifCond .eq 18, 3) := by decide +kernel
theorem dX7_copy_88 : decode cX7_copy 88 = .ok (.aload_n 0, 1) := by decide +kernel
theorem dX7_copy_89 : decode cX7_copy 89 = .ok (.getfield 10, 3) := by decide +kernel
theorem dX7_copy_92 : decode cX7_copy 92 = .ok (.iload_n 3, 1) := by decide +kernel
theorem dX7_copy_93 : decode cX7_copy 93 = .ok (.iload 4, 2) := by decide +kernel
theorem dX7_copy_95 : decode cX7_copy 95 = .ok (.iload 5, 2) := by decide +kernel
theorem dX7_copy_97 : decode cX7_copy 97 = .ok (.invokevirtual 93, 3) := by decide +kernel
theorem dX7_copy_100 : decode cX7_copy 100 = .ok (.ifCond .ne 9, 3) := by decide +kernel
theorem dX7_copy_103 : decode cX7_copy 103 = .ok (.aload_n 0, 1) := by decide +kernel
theorem dX7_copy_104 : decode cX7_copy 104 = .ok (.iconst 2, 1) := by decide +kernel
theorem dX7_copy_105 : decode cX7_copy 105 = .ok (.invokevirtual 67, 3) := by decide +kernel
theorem dX7_copy_108 : decode cX7_copy 108 = .ok (.ireturn, 1) := by decide +kernel
theorem dX7_copy_109 : decode cX7_copy 109 = .ok (.aload_n 0, 1) := by decide +kernel
theorem dX7_copy_110 : decode cX7_copy 110 = .ok (.getfield 10, 3) := by decide +kernel
theorem dX7_copy_113 : decode cX7_copy 113 = .ok (.getfield 96, 3) := by decide +kernel
theorem dX7_copy_116 : decode cX7_copy 116 = .ok (.iload_n 1, 1) := by decide +kernel
theorem dX7_copy_117 : decode cX7_copy 117 = .ok (.aaload, 1) := by decide +kernel
theorem dX7_copy_118 : decode cX7_copy 118 = .ok (.iload_n 2, 1) := by decide +kernel
theorem dX7_copy_119 : decode cX7_copy 119 = .ok (.aload_n 0, 1) := by decide +kernel
theorem dX7_copy_120 : decode cX7_copy 120 = .ok (.getfield 10, 3) := by decide +kernel
theorem dX7_copy_123 : decode cX7_copy 123 = .ok (.getfield 96, 3) := by decide +kernel
theorem dX7_copy_126 : decode cX7_copy 126 = .ok (.iload_n 3, 1) := by decide +kernel
theorem dX7_copy_127 : decode cX7_copy 127 = .ok (.aaload, 1) := by decide +kernel
theorem dX7_copy_128 : decode cX7_copy 128 = .ok (.iload 4, 2) := by decide +kernel
theorem dX7_copy_130 : decode cX7_copy 130 = .ok (.iload 5, 2) := by decide +kernel
theorem dX7_copy_132 : decode cX7_copy 132 = .ok (.invokestatic 100, 3) := by decide +kernel
theorem dX7_copy_135 : decode cX7_copy 135 = .ok (.aload_n 0, 1) := by decide +kernel
theorem dX7_copy_136 : decode cX7_copy 136 = .ok (.iload 5, 2) := by decide +kernel
theorem dX7_copy_138 : decode cX7_copy 138 = .ok (.invokevirtual 75, 3) := by decide +kernel
theorem dX7_copy_141 : decode cX7_copy 141 = .ok (.ireturn, 1) := by decide +kernel
theorem dX7_drop_0 : decode cX7_drop 0 = .ok (.iload_n 1, 1) := by decide +kernel
theorem dX7_drop_1 : decode cX7_drop 1 = .ok (.invokestatic 58, 3) := by decide +kernel
theorem dX7_drop_4 : decode cX7_drop 4 = .ok (.ifCond .ne 6, 3) := by decide +kernel
theorem dX7_drop_7 : decode cX7_drop 7 = .ok (.ldc 66, 2) := by decide +kernel
theorem dX7_drop_9 : decode cX7_drop 9 = .ok (.ireturn, 1) := by decide +kernel
theorem dX7_drop_10 : decode cX7_drop 10 = .ok (.aload_n 0, 1) := by decide +kernel
theorem dX7_drop_11 : decode cX7_drop 11 = .ok (.getfield 10, 3) := by decide +kernel
theorem dX7_drop_14 : decode cX7_drop 14 = .ok (.getfield 85, 3) := by decide +kernel
theorem dX7_drop_17 : decode cX7_drop 17 = .ok (.iload_n 1, 1) := by decide +kernel
theorem dX7_drop_18 : decode cX7_drop 18 = .ok (.baload, 1) := by decide +kernel
theorem dX7_drop_19 : decode cX7_drop 19 = .ok (.ifCond .ne 9, 3) := by decide +kernel
theorem dX7_drop_22 : decode cX7_drop 22 = .ok (.aload_n 0, 1) := by decide +kernel
theorem dX7_drop_23 : decode cX7_drop 23 = .ok (.iconst 1, 1) := by decide +kernel
theorem dX7_drop_24 : decode cX7_drop 24 = .ok (.invokevirtual 67, 3) := by decide +kernel
theorem dX7_drop_27 : decode cX7_drop 27 = .ok (.ireturn, 1) := by decide +kernel
theorem dX7_drop_28 : decode cX7_drop 28 = .ok (.aload_n 0, 1) := by decide +kernel
theorem dX7_drop_29 : decode cX7_drop 29 = .ok (.getfield 10, 3) := by decide +kernel
theorem dX7_drop_32 : decode cX7_drop 32 = .ok (.getfield 85, 3) := by decide +kernel
theorem dX7_drop_35 : decode cX7_drop 35 = .ok (.iload_n 1, 1) := by decide +kernel
theorem dX7_drop_36 : decode cX7_drop 36 = .ok (.iconst 0, 1) := by decide +kernel
theorem dX7_drop_37 : decode cX7_drop 37 = .ok (.bastore, 1) := by decide +kernel
theorem dX7_drop_38 : decode cX7_drop 38 = .ok (.aload_n 0, 1) := by decide +kernel
theorem dX7_drop_39 : decode cX7_drop 39 = .ok (.aload_n 0, 1) := by decide +kernel
theorem dX7_drop_40 : decode cX7_drop 40 = .ok (.getfield 10, 3) := by decide +kernel
theorem dX7_drop_43 : decode cX7_drop 43 = .ok (.getfield 106, 3) := by decide +kernel
theorem dX7_drop_46 : decode cX7_drop 46 = .ok (.iload_n 1, 1) := by decide +kernel
theorem dX7_drop_47 : decode cX7_drop 47 = .ok (.iaload, 1) := by decide +kernel
theorem dX7_drop_48 : decode cX7_drop 48 = .ok (.invokevirtual 75, 3) := by decide +kernel
theorem dX7_drop_51 : decode cX7_drop 51 = .ok (.ireturn, 1) := by decide +kernel
theorem dX7_feed_0 : decode cX7_feed 0 = .ok (.iload_n 1, 1) := by decide +kernel
theorem dX7_feed_1 : decode cX7_feed 1 = .ok (.iconst 0, 1) := by decide +kernel
theorem dX7_feed_2 : decode cX7_feed 2 = .ok (.sipush 255, 3) := by decide +kernel
theorem dX7_feed_5 : decode cX7_feed 5 = .ok (.invokestatic 62, 3) := by decide +kernel
theorem dX7_feed_8 : decode cX7_feed 8 = .ok (.ifCond .ne 6, 3) := by decide +kernel
theorem dX7_feed_11 : decode cX7_feed 11 = .ok (.ldc 66, 2) := by decide +kernel
theorem dX7_feed_13 : decode cX7_feed 13 = .ok (.ireturn, 1) := by decide +kernel
theorem dX7_feed_14 : decode cX7_feed 14 = .ok (.aload_n 0, 1) := by decide +kernel
theorem dX7_feed_15 : decode cX7_feed 15 = .ok (.getfield 19, 3) := by decide +kernel
theorem dX7_feed_18 : decode cX7_feed 18 = .ok (.iload_n 1, 1) := by decide +kernel
theorem dX7_feed_19 : decode cX7_feed 19 = .ok (.invokevirtual 109, 3) := by decide +kernel
theorem dX7_feed_22 : decode cX7_feed 22 = .ok (.ifCond .eq 13, 3) := by decide +kernel
theorem dX7_feed_25 : decode cX7_feed 25 = .ok (.aload_n 0, 1) := by decide +kernel
theorem dX7_feed_26 : decode cX7_feed 26 = .ok (.getfield 19, 3) := by decide +kernel
theorem dX7_feed_29 : decode cX7_feed 29 = .ok (.getfield 112, 3) := by decide +kernel
theorem dX7_feed_32 : decode cX7_feed 32 = .ok (.goto 5, 3) := by decide +kernel
theorem dX7_feed_35 : decode cX7_feed 35 = .ok (.ldc 116, 2) := by decide +kernel
theorem dX7_feed_37 : decode cX7_feed 37 = .ok (.ireturn, 1) := by decide +kernel
theorem dX7_cellar_0 : decode cX7_cellar 0 = .ok (.aload_n 0, 1) := by decide +kernel
theorem dX7_cellar_1 : decode cX7_cellar 1 = .ok (.getfield 19, 3) := by decide +kernel
theorem dX7_cellar_4 : decode cX7_cellar 4 = .ok (.aload_n 0, 1) := by decide +kernel
theorem dX7_cellar_5 : decode cX7_cellar 5 = .ok (.getfield 30, 3) := by decide +kernel
theorem dX7_cellar_8 : decode cX7_cellar 8 = .ok (.invokevirtual 117, 3) := by decide +kernel
theorem dX7_cellar_11 : decode cX7_cellar 11 = .ok (.istore_n 1, 1) := by decide +kernel
theorem dX7_cellar_12 : decode cX7_cellar 12 = .ok (.aload_n 0, 1) := by decide +kernel
theorem dX7_cellar_13 : decode cX7_cellar 13 = .ok (.getfield 19, 3) := by decide +kernel
theorem dX7_cellar_16 : decode cX7_cellar 16 = .ok (.iconst 0, 1) := by decide +kernel
theorem dX7_cellar_17 : decode cX7_cellar 17 = .ok (.putfield 112, 3) := by decide +kernel
theorem dX7_cellar_20 : decode cX7_cellar 20 = .ok (.iload_n 1, 1) := by decide +kernel
theorem dX7_cellar_21 : decode cX7_cellar 21 = .ok (.ifCond .ne 25, 3) := by decide +kernel
theorem dX7_cellar_24 : decode cX7_cellar 24 = .ok (.aload_n 0, 1) := by decide +kernel
theorem dX7_cellar_25 : decode cX7_cellar 25 = .ok (.aload_n 0, 1) := by decide +kernel
theorem dX7_cellar_26 : decode cX7_cellar 26 = .ok (.getfield 19, 3) := by decide +kernel
theorem dX7_cellar_29 : decode cX7_cellar 29 = .ok (.getfield 121, 3) := by decide +kernel
theorem dX7_cellar_32 : decode cX7_cellar 32 = .ok (.putfield 124, 3) := by decide +kernel
theorem dX7_cellar_35 : decode cX7_cellar 35 = .ok (.ldc 127, 2) := by decide +kernel
theorem dX7_cellar_37 : decode cX7_cellar 37 = .ok (.aload_n 0, 1) := by decide +kernel
theorem dX7_cellar_38 : decode cX7_cellar 38 = .ok (.getfield 19, 3) := by decide +kernel
theorem dX7_cellar_41 : decode cX7_cellar 41 = .ok (.getfield 128, 3) := by decide +kernel
theorem dX7_cellar_44 : decode cX7_cellar 44 = .ok (.isub, 1) := by decide +kernel
theorem dX7_cellar_45 : decode cX7_cellar 45 = .ok (.ireturn, 1) := by decide +kernel
theorem dX7_cellar_46 : decode cX7_cellar 46 = .ok (.aload_n 0, 1) := by decide +kernel
theorem dX7_cellar_47 : decode cX7_cellar 47 = .ok (.getfield 26, 3) := by decide +kernel
theorem dX7_cellar_50 : decode cX7_cellar 50 = .ok (.aload_n 0, 1) := by decide +kernel
theorem dX7_cellar_51 : decode cX7_cellar 51 = .ok (.getfield 30, 3) := by decide +kernel
theorem dX7_cellar_54 : decode cX7_cellar 54 = .ok (.invokevirtual 131, 3) := by decide +kernel
theorem dX7_cellar_57 : decode cX7_cellar 57 = .ok (.aload_n 0, 1) := by decide +kernel
theorem dX7_cellar_58 : decode cX7_cellar 58 = .ok (.getfield 36, 3) := by decide +kernel
theorem dX7_cellar_61 : decode cX7_cellar 61 = .ok (.invokevirtual 135, 3) := by decide +kernel
theorem dX7_cellar_64 : decode cX7_cellar 64 = .ok (.aload_n 0, 1) := by decide +kernel
theorem dX7_cellar_65 : decode cX7_cellar 65 = .ok (.getfield 26, 3) := by decide +kernel
theorem dX7_cellar_68 : decode cX7_cellar 68 = .ok (.getfield 138, 3) := by decide +kernel
theorem dX7_cellar_71 : decode cX7_cellar 71 = .ok (.ireturn, 1) := by decide +kernel
theorem dX7_fault_0 : decode cX7_fault 0 = .ok (.aload_n 0, 1) := by decide +kernel
theorem dX7_fault_1 : decode cX7_fault 1 = .ok (.getfield 124, 3) := by decide +kernel
theorem dX7_fault_4 : decode cX7_fault 4 = .ok (.ireturn, 1) := by decide +kernel
theorem dX7_undo_0 : decode cX7_undo 0 = .ok (.aload_n 0, 1) := by decide +kernel
theorem dX7_undo_1 : decode cX7_undo 1 = .ok (.getfield 36, 3) := by decide +kernel
theorem dX7_undo_4 : decode cX7_undo 4 = .ok (.aload_n 0, 1) := by decide +kernel
theorem dX7_undo_5 : decode cX7_undo 5 = .ok (.getfield 26, 3) := by decide +kernel
theorem dX7_undo_8 : decode cX7_undo 8 = .ok (.invokevirtual 141, 3) := by decide +kernel
theorem dX7_undo_11 : decode cX7_undo 11 = .ok (.ifCond .eq 13, 3) := by decide +kernel
theorem dX7_undo_14 : decode cX7_undo 14 = .ok (.aload_n 0, 1) := by decide +kernel
theorem dX7_undo_15 : decode cX7_undo 15 = .ok (.getfield 36, 3) := by decide +kernel
theorem dX7_undo_18 : decode cX7_undo 18 = .ok (.getfield 144, 3) := by decide +kernel
theorem dX7_undo_21 : decode cX7_undo 21 = .ok (.goto 5, 3) := by decide +kernel
theorem dX7_undo_24 : decode cX7_undo 24 = .ok (.ldc 145, 2) := by decide +kernel
theorem dX7_undo_26 : decode cX7_undo 26 = .ok (.ireturn, 1) := by decide +kernel
theorem dX7_years_0 : decode cX7_years 0 = .ok (.aload_n 0, 1) := by decide +kernel
theorem dX7_years_1 : decode cX7_years 1 = .ok (.invokevirtual 146, 3) := by decide +kernel
theorem dX7_years_4 : decode cX7_years 4 = .ok (.ifCond .eq 6, 3) := by decide +kernel
theorem dX7_years_7 : decode cX7_years 7 = .ok (.ldc 145, 2) := by decide +kernel
theorem dX7_years_9 : decode cX7_years 9 = .ok (.ireturn, 1) := by decide +kernel
theorem dX7_years_10 : decode cX7_years 10 = .ok (.iload_n 1, 1) := by decide +kernel
theorem dX7_years_11 : decode cX7_years 11 = .ok (.iconst 1, 1) := by decide +kernel
theorem dX7_years_12 : decode cX7_years 12 = .ok (.bipush 24, 2) := by decide +kernel
theorem dX7_years_14 : decode cX7_years 14 = .ok (.invokestatic 62, 3) := by decide +kernel
theorem dX7_years_17 : decode cX7_years 17 = .ok (.ifCond .ne 6, 3) := by decide +kernel
theorem dX7_years_20 : decode cX7_years 20 = .ok (.ldc 66, 2) := by decide +kernel
theorem dX7_years_22 : decode cX7_years 22 = .ok (.ireturn, 1) := by decide +kernel
theorem dX7_years_23 : decode cX7_years 23 = .ok (.aload_n 0, 1) := by decide +kernel
theorem dX7_years_24 : decode cX7_years 24 = .ok (.getfield 26, 3) := by decide +kernel
theorem dX7_years_27 : decode cX7_years 27 = .ok (.getfield 150, 3) := by decide +kernel
theorem dX7_years_30 : decode cX7_years 30 = .ok (.iload_n 1, 1) := by decide +kernel
theorem dX7_years_31 : decode cX7_years 31 = .ok (.iadd, 1) := by decide +kernel
theorem dX7_years_32 : decode cX7_years 32 = .ok (.sipush 999, 3) := by decide +kernel
theorem dX7_years_35 : decode cX7_years 35 = .ok (.if_icmp .le 6, 3) := by decide +kernel
theorem dX7_years_38 : decode cX7_years 38 = .ok (.ldc 116, 2) := by decide +kernel
theorem dX7_years_40 : decode cX7_years 40 = .ok (.ireturn, 1) := by decide +kernel
theorem dX7_years_41 : decode cX7_years 41 = .ok (.iconst 0, 1) := by decide +kernel
theorem dX7_years_42 : decode cX7_years 42 = .ok (.istore_n 2, 1) := by decide +kernel
theorem dX7_years_43 : decode cX7_years 43 = .ok (.iload_n 2, 1) := by decide +kernel
theorem dX7_years_44 : decode cX7_years 44 = .ok (.iload_n 1, 1) := by decide +kernel
theorem dX7_years_45 : decode cX7_years 45 = .ok (.if_icmp .ge 27, 3) := by decide +kernel
theorem dX7_years_48 : decode cX7_years 48 = .ok (.aload_n 0, 1) := by decide +kernel
theorem dX7_years_49 : decode cX7_years 49 = .ok (.getfield 36, 3) := by decide +kernel
theorem dX7_years_52 : decode cX7_years 52 = .ok (.aload_n 0, 1) := by decide +kernel
theorem dX7_years_53 : decode cX7_years 53 = .ok (.getfield 26, 3) := by decide +kernel
theorem dX7_years_56 : decode cX7_years 56 = .ok (.invokevirtual 153, 3) := by decide +kernel
theorem dX7_years_59 : decode cX7_years 59 = .ok (.aload_n 0, 1) := by decide +kernel
theorem dX7_years_60 : decode cX7_years 60 = .ok (.getfield 26, 3) := by decide +kernel
theorem dX7_years_63 : decode cX7_years 63 = .ok (.invokevirtual 156, 3) := by decide +kernel
theorem dX7_years_66 : decode cX7_years 66 = .ok (.iinc 2 1, 3) := by decide +kernel
theorem dX7_years_69 : decode cX7_years 69 = .ok (.goto (-26), 3) := by decide +kernel
theorem dX7_years_72 : decode cX7_years 72 = .ok (.aload_n 0, 1) := by decide +kernel
theorem dX7_years_73 : decode cX7_years 73 = .ok (.getfield 26, 3) := by decide +kernel
theorem dX7_years_76 : decode cX7_years 76 = .ok (.iconst 0, 1) := by decide +kernel
theorem dX7_years_77 : decode cX7_years 77 = .ok (.invokevirtual 159, 3) := by decide +kernel
theorem dX7_years_80 : decode cX7_years 80 = .ok (.ireturn, 1) := by decide +kernel
theorem dX7_sneeze_0 : decode cX7_sneeze 0 = .ok (.aload_n 0, 1) := by decide +kernel
theorem dX7_sneeze_1 : decode cX7_sneeze 1 = .ok (.iload_n 1, 1) := by decide +kernel
theorem dX7_sneeze_2 : decode cX7_sneeze 2 = .ok (.iload_n 2, 1) := by decide +kernel
theorem dX7_sneeze_3 : decode cX7_sneeze 3 = .ok (.invokevirtual 162, 3) := by decide +kernel
theorem dX7_sneeze_6 : decode cX7_sneeze 6 = .ok (.ifCond .ne 6, 3) := by decide +kernel
theorem dX7_sneeze_9 : decode cX7_sneeze 9 = .ok (.ldc 66, 2) := by decide +kernel
theorem dX7_sneeze_11 : decode cX7_sneeze 11 = .ok (.ireturn, 1) := by decide +kernel
theorem dX7_sneeze_12 : decode cX7_sneeze 12 = .ok (.aload_n 0, 1) := by decide +kernel
theorem dX7_sneeze_13 : decode cX7_sneeze 13 = .ok (.getfield 43, 3) := by decide +kernel
theorem dX7_sneeze_16 : decode cX7_sneeze 16 = .ok (.aload_n 0, 1) := by decide +kernel
theorem dX7_sneeze_17 : decode cX7_sneeze 17 = .ok (.getfield 26, 3) := by decide +kernel
theorem dX7_sneeze_20 : decode cX7_sneeze 20 = .ok (.iload_n 1, 1) := by decide +kernel
theorem dX7_sneeze_21 : decode cX7_sneeze 21 = .ok (.iload_n 2, 1) := by decide +kernel
theorem dX7_sneeze_22 : decode cX7_sneeze 22 = .ok (.invokevirtual 166, 3) := by decide +kernel
theorem dX7_sneeze_25 : decode cX7_sneeze 25 = .ok (.istore_n 3, 1) := by decide +kernel
theorem dX7_sneeze_26 : decode cX7_sneeze 26 = .ok (.aload_n 0, 1) := by decide +kernel
theorem dX7_sneeze_27 : decode cX7_sneeze 27 = .ok (.getfield 36, 3) := by decide +kernel
theorem dX7_sneeze_30 : decode cX7_sneeze 30 = .ok (.aload_n 0, 1) := by decide +kernel
theorem dX7_sneeze_31 : decode cX7_sneeze 31 = .ok (.getfield 26, 3) := by decide +kernel
theorem dX7_sneeze_34 : decode cX7_sneeze 34 = .ok (.invokevirtual 153, 3) := by decide +kernel
theorem dX7_sneeze_37 : decode cX7_sneeze 37 = .ok (.aload_n 0, 1) := by decide +kernel
theorem dX7_sneeze_38 : decode cX7_sneeze 38 = .ok (.getfield 26, 3) := by decide +kernel
theorem dX7_sneeze_41 : decode cX7_sneeze 41 = .ok (.iload_n 3, 1) := by decide +kernel
theorem dX7_sneeze_42 : decode cX7_sneeze 42 = .ok (.invokevirtual 170, 3) := by decide +kernel
theorem dX7_sneeze_45 : decode cX7_sneeze 45 = .ok (.iload_n 3, 1) := by decide +kernel
theorem dX7_sneeze_46 : decode cX7_sneeze 46 = .ok (.ireturn, 1) := by decide +kernel
theorem dX7_open_0 : decode cX7_open 0 = .ok (.aload_n 0, 1) := by decide +kernel
theorem dX7_open_1 : decode cX7_open 1 = .ok (.iload_n 1, 1) := by decide +kernel
theorem dX7_open_2 : decode cX7_open 2 = .ok (.invokevirtual 174, 3) := by decide +kernel
theorem dX7_open_5 : decode cX7_open 5 = .ok (.ifCond .ne 6, 3) := by decide +kernel
theorem dX7_open_8 : decode cX7_open 8 = .ok (.ldc 66, 2) := by decide +kernel
theorem dX7_open_10 : decode cX7_open 10 = .ok (.ireturn, 1) := by decide +kernel
theorem dX7_open_11 : decode cX7_open 11 = .ok (.aload_n 0, 1) := by decide +kernel
theorem dX7_open_12 : decode cX7_open 12 = .ok (.getfield 26, 3) := by decide +kernel
theorem dX7_open_15 : decode cX7_open 15 = .ok (.getfield 177, 3) := by decide +kernel
theorem dX7_open_18 : decode cX7_open 18 = .ok (.iload_n 1, 1) := by decide +kernel
theorem dX7_open_19 : decode cX7_open 19 = .ok (.iaload, 1) := by decide +kernel
theorem dX7_open_20 : decode cX7_open 20 = .ok (.ifCond .eq 6, 3) := by decide +kernel
theorem dX7_open_23 : decode cX7_open 23 = .ok (.ldc 145, 2) := by decide +kernel
theorem dX7_open_25 : decode cX7_open 25 = .ok (.ireturn, 1) := by decide +kernel
theorem dX7_open_26 : decode cX7_open 26 = .ok (.aload_n 0, 1) := by decide +kernel
theorem dX7_open_27 : decode cX7_open 27 = .ok (.getfield 36, 3) := by decide +kernel
theorem dX7_open_30 : decode cX7_open 30 = .ok (.aload_n 0, 1) := by decide +kernel
theorem dX7_open_31 : decode cX7_open 31 = .ok (.getfield 26, 3) := by decide +kernel
theorem dX7_open_34 : decode cX7_open 34 = .ok (.invokevirtual 153, 3) := by decide +kernel
theorem dX7_open_37 : decode cX7_open 37 = .ok (.aload_n 0, 1) := by decide +kernel
theorem dX7_open_38 : decode cX7_open 38 = .ok (.getfield 26, 3) := by decide +kernel
theorem dX7_open_41 : decode cX7_open 41 = .ok (.getfield 177, 3) := by decide +kernel
theorem dX7_open_44 : decode cX7_open 44 = .ok (.iload_n 1, 1) := by decide +kernel
theorem dX7_open_45 : decode cX7_open 45 = .ok (.iconst 3, 1) := by decide +kernel
theorem dX7_open_46 : decode cX7_open 46 = .ok (.iastore, 1) := by decide +kernel
theorem dX7_open_47 : decode cX7_open 47 = .ok (.aload_n 0, 1) := by decide +kernel
theorem dX7_open_48 : decode cX7_open 48 = .ok (.getfield 26, 3) := by decide +kernel
theorem dX7_open_51 : decode cX7_open 51 = .ok (.getfield 180, 3) := by decide +kernel
theorem dX7_open_54 : decode cX7_open 54 = .ok (.iload_n 1, 1) := by decide +kernel
theorem dX7_open_55 : decode cX7_open 55 = .ok (.iaload, 1) := by decide +kernel
theorem dX7_open_56 : decode cX7_open 56 = .ok (.ireturn, 1) := by decide +kernel
theorem dX7_change_0 : decode cX7_change 0 = .ok (.aload_n 0, 1) := by decide +kernel
theorem dX7_change_1 : decode cX7_change 1 = .ok (.iload_n 1, 1) := by decide +kernel
theorem dX7_change_2 : decode cX7_change 2 = .ok (.invokevirtual 174, 3) := by decide +kernel
theorem dX7_change_5 : decode cX7_change 5 = .ok (.ifCond .eq 16, 3) := by decide +kernel
theorem dX7_change_8 : decode cX7_change 8 = .ok (.aload_n 0, 1) := by decide +kernel
theorem dX7_change_9 : decode cX7_change 9 = .ok (.iload_n 2, 1) := by decide +kernel
theorem dX7_change_10 : decode cX7_change 10 = .ok (.invokevirtual 174, 3) := by decide +kernel
theorem dX7_change_13 : decode cX7_change 13 = .ok (.ifCond .eq 8, 3) := by decide +kernel
theorem dX7_change_16 : decode cX7_change 16 = .ok (.iload_n 1, 1) := by decide +kernel
theorem dX7_change_17 : decode cX7_change 17 = .ok (.iload_n 2, 1) := by decide +kernel
theorem dX7_change_18 : decode cX7_change 18 = .ok (.if_icmp .ne 6, 3) := by decide +kernel
theorem dX7_change_21 : decode cX7_change 21 = .ok (.ldc 66, 2) := by decide +kernel
theorem dX7_change_23 : decode cX7_change 23 = .ok (.ireturn, 1) := by decide +kernel
theorem dX7_change_24 : decode cX7_change 24 = .ok (.aload_n 0, 1) := by decide +kernel
theorem dX7_change_25 : decode cX7_change 25 = .ok (.getfield 36, 3) := by decide +kernel
theorem dX7_change_28 : decode cX7_change 28 = .ok (.aload_n 0, 1) := by decide +kernel
theorem dX7_change_29 : decode cX7_change 29 = .ok (.getfield 26, 3) := by decide +kernel
theorem dX7_change_32 : decode cX7_change 32 = .ok (.invokevirtual 153, 3) := by decide +kernel
theorem dX7_change_35 : decode cX7_change 35 = .ok (.aload_n 0, 1) := by decide +kernel
theorem dX7_change_36 : decode cX7_change 36 = .ok (.getfield 26, 3) := by decide +kernel
theorem dX7_change_39 : decode cX7_change 39 = .ok (.iload_n 1, 1) := by decide +kernel
theorem dX7_change_40 : decode cX7_change 40 = .ok (.iload_n 2, 1) := by decide +kernel
theorem dX7_change_41 : decode cX7_change 41 = .ok (.invokevirtual 183, 3) := by decide +kernel
theorem dX7_change_44 : decode cX7_change 44 = .ok (.aload_n 0, 1) := by decide +kernel
theorem dX7_change_45 : decode cX7_change 45 = .ok (.getfield 26, 3) := by decide +kernel
theorem dX7_change_48 : decode cX7_change 48 = .ok (.getfield 187, 3) := by decide +kernel
theorem dX7_change_51 : decode cX7_change 51 = .ok (.iload_n 1, 1) := by decide +kernel
theorem dX7_change_52 : decode cX7_change 52 = .ok (.iaload, 1) := by decide +kernel
theorem dX7_change_53 : decode cX7_change 53 = .ok (.ireturn, 1) := by decide +kernel
theorem dX7_seal_0 : decode cX7_seal 0 = .ok (.aload_n 0, 1) := by decide +kernel
theorem dX7_seal_1 : decode cX7_seal 1 = .ok (.iload_n 1, 1) := by decide +kernel
theorem dX7_seal_2 : decode cX7_seal 2 = .ok (.invokevirtual 174, 3) := by decide +kernel
theorem dX7_seal_5 : decode cX7_seal 5 = .ok (.ifCond .eq 20, 3) := by decide +kernel
theorem dX7_seal_8 : decode cX7_seal 8 = .ok (.iload_n 2, 1) := by decide +kernel
theorem dX7_seal_9 : decode cX7_seal 9 = .ok (.invokestatic 190, 3) := by decide +kernel
theorem dX7_seal_12 : decode cX7_seal 12 = .ok (.ifCond .eq 13, 3) := by decide +kernel
theorem dX7_seal_15 : decode cX7_seal 15 = .ok (.iload_n 3, 1) := by decide +kernel
theorem dX7_seal_16 : decode cX7_seal 16 = .ok (.iconst 1, 1) := by decide +kernel
theorem dX7_seal_17 : decode cX7_seal 17 = .ok (.bipush 60, 2) := by decide +kernel
theorem dX7_seal_19 : decode cX7_seal 19 = .ok (.invokestatic 62, 3) := by decide +kernel
theorem dX7_seal_22 : decode cX7_seal 22 = .ok (.ifCond .ne 6, 3) := by decide +kernel
theorem dX7_seal_25 : decode cX7_seal 25 = .ok (.ldc 66, 2) := by decide +kernel
theorem dX7_seal_27 : decode cX7_seal 27 = .ok (.ireturn, 1) := by decide +kernel
theorem dX7_seal_28 : decode cX7_seal 28 = .ok (.aload_n 0, 1) := by decide +kernel
theorem dX7_seal_29 : decode cX7_seal 29 = .ok (.getfield 26, 3) := by decide +kernel
theorem dX7_seal_32 : decode cX7_seal 32 = .ok (.getfield 177, 3) := by decide +kernel
theorem dX7_seal_35 : decode cX7_seal 35 = .ok (.iload_n 1, 1) := by decide +kernel
theorem dX7_seal_36 : decode cX7_seal 36 = .ok (.iaload, 1) := by decide +kernel
theorem dX7_seal_37 : decode cX7_seal 37 = .ok (.ifCond .ne 6, 3) := by decide +kernel
theorem dX7_seal_40 : decode cX7_seal 40 = .ok (.ldc 145, 2) := by decide +kernel
theorem dX7_seal_42 : decode cX7_seal 42 = .ok (.ireturn, 1) := by decide +kernel
theorem dX7_seal_43 : decode cX7_seal 43 = .ok (.aload_n 0, 1) := by decide +kernel
theorem dX7_seal_44 : decode cX7_seal 44 = .ok (.getfield 36, 3) := by decide +kernel
theorem dX7_seal_47 : decode cX7_seal 47 = .ok (.aload_n 0, 1) := by decide +kernel
theorem dX7_seal_48 : decode cX7_seal 48 = .ok (.getfield 26, 3) := by decide +kernel
theorem dX7_seal_51 : decode cX7_seal 51 = .ok (.invokevirtual 153, 3) := by decide +kernel
theorem dX7_seal_54 : decode cX7_seal 54 = .ok (.aload_n 0, 1) := by decide +kernel
theorem dX7_seal_55 : decode cX7_seal 55 = .ok (.getfield 26, 3) := by decide +kernel
theorem dX7_seal_58 : decode cX7_seal 58 = .ok (.getfield 177, 3) := by decide +kernel
theorem dX7_seal_61 : decode cX7_seal 61 = .ok (.iload_n 1, 1) := by decide +kernel
theorem dX7_seal_62 : decode cX7_seal 62 = .ok (.iconst 0, 1) := by decide +kernel
theorem dX7_seal_63 : decode cX7_seal 63 = .ok (.iastore, 1) := by decide +kernel
theorem dX7_seal_64 : decode cX7_seal 64 = .ok (.aload_n 0, 1) := by decide +kernel
theorem dX7_seal_65 : decode cX7_seal 65 = .ok (.getfield 26, 3) := by decide +kernel
theorem dX7_seal_68 : decode cX7_seal 68 = .ok (.getfield 180, 3) := by decide +kernel
theorem dX7_seal_71 : decode cX7_seal 71 = .ok (.iload_n 1, 1) := by decide +kernel
theorem dX7_seal_72 : decode cX7_seal 72 = .ok (.iload_n 2, 1) := by decide +kernel
theorem dX7_seal_73 : decode cX7_seal 73 = .ok (.iastore, 1) := by decide +kernel
theorem dX7_seal_74 : decode cX7_seal 74 = .ok (.aload_n 0, 1) := by decide +kernel
theorem dX7_seal_75 : decode cX7_seal 75 = .ok (.getfield 26, 3) := by decide +kernel
theorem dX7_seal_78 : decode cX7_seal 78 = .ok (.getfield 193, 3) := by decide +kernel
theorem dX7_seal_81 : decode cX7_seal 81 = .ok (.iload_n 1, 1) := by decide +kernel
theorem dX7_seal_82 : decode cX7_seal 82 = .ok (.iload_n 3, 1) := by decide +kernel
theorem dX7_seal_83 : decode cX7_seal 83 = .ok (.iastore, 1) := by decide +kernel
theorem dX7_seal_84 : decode cX7_seal 84 = .ok (.aload_n 0, 1) := by decide +kernel
theorem dX7_seal_85 : decode cX7_seal 85 = .ok (.getfield 26, 3) := by decide +kernel
theorem dX7_seal_88 : decode cX7_seal 88 = .ok (.iconst 0, 1) := by decide +kernel
theorem dX7_seal_89 : decode cX7_seal 89 = .ok (.invokevirtual 159, 3) := by decide +kernel
theorem dX7_seal_92 : decode cX7_seal 92 = .ok (.ireturn, 1) := by decide +kernel
theorem dX7_reach_0 : decode cX7_reach 0 = .ok (.aload_n 0, 1) := by decide +kernel
theorem dX7_reach_1 : decode cX7_reach 1 = .ok (.invokevirtual 146, 3) := by decide +kernel
theorem dX7_reach_4 : decode cX7_reach 4 = .ok (.ifCond .eq 6, 3) := by decide +kernel
theorem dX7_reach_7 : decode cX7_reach 7 = .ok (.ldc 145, 2) := by decide +kernel
theorem dX7_reach_9 : decode cX7_reach 9 = .ok (.ireturn, 1) := by decide +kernel
theorem dX7_reach_10 : decode cX7_reach 10 = .ok (.iload_n 1, 1) := by decide +kernel
theorem dX7_reach_11 : decode cX7_reach 11 = .ok (.iconst 0, 1) := by decide +kernel
theorem dX7_reach_12 : decode cX7_reach 12 = .ok (.bipush 8, 2) := by decide +kernel
theorem dX7_reach_14 : decode cX7_reach 14 = .ok (.invokestatic 62, 3) := by decide +kernel
theorem dX7_reach_17 : decode cX7_reach 17 = .ok (.ifCond .ne 6, 3) := by decide +kernel
theorem dX7_reach_20 : decode cX7_reach 20 = .ok (.ldc 66, 2) := by decide +kernel
theorem dX7_reach_22 : decode cX7_reach 22 = .ok (.ireturn, 1) := by decide +kernel
theorem dX7_reach_23 : decode cX7_reach 23 = .ok (.aload_n 0, 1) := by decide +kernel
theorem dX7_reach_24 : decode cX7_reach 24 = .ok (.getfield 26, 3) := by decide +kernel
theorem dX7_reach_27 : decode cX7_reach 27 = .ok (.getfield 196, 3) := by decide +kernel
theorem dX7_reach_30 : decode cX7_reach 30 = .ok (.istore_n 2, 1) := by decide +kernel
theorem dX7_reach_31 : decode cX7_reach 31 = .ok (.aload_n 0, 1) := by decide +kernel
theorem dX7_reach_32 : decode cX7_reach 32 = .ok (.getfield 36, 3) := by decide +kernel
theorem dX7_reach_35 : decode cX7_reach 35 = .ok (.aload_n 0, 1) := by decide +kernel
theorem dX7_reach_36 : decode cX7_reach 36 = .ok (.getfield 26, 3) := by decide +kernel
theorem dX7_reach_39 : decode cX7_reach 39 = .ok (.invokevirtual 153, 3) := by decide +kernel
theorem dX7_reach_42 : decode cX7_reach 42 = .ok (.aload_n 0, 1) := by decide +kernel
theorem dX7_reach_43 : decode cX7_reach 43 = .ok (.getfield 26, 3) := by decide +kernel
theorem dX7_reach_46 : decode cX7_reach 46 = .ok (.iload_n 1, 1) := by decide +kernel
theorem dX7_reach_47 : decode cX7_reach 47 = .ok (.putfield 196, 3) := by decide +kernel
theorem dX7_reach_50 : decode cX7_reach 50 = .ok (.iload_n 2, 1) := by decide +kernel
theorem dX7_reach_51 : decode cX7_reach 51 = .ok (.ireturn, 1) := by decide +kernel
theorem dX7_jar_0 : decode cX7_jar 0 = .ok (.aload_n 0, 1) := by decide +kernel
theorem dX7_jar_1 : decode cX7_jar 1 = .ok (.iload_n 1, 1) := by decide +kernel
theorem dX7_jar_2 : decode cX7_jar 2 = .ok (.invokevirtual 174, 3) := by decide +kernel
theorem dX7_jar_5 : decode cX7_jar 5 = .ok (.ifCond .ne 6, 3) := by decide +kernel
theorem dX7_jar_8 : decode cX7_jar 8 = .ok (.ldc 66, 2) := by decide +kernel
theorem dX7_jar_10 : decode cX7_jar 10 = .ok (.ireturn, 1) := by decide +kernel
theorem dX7_jar_11 : decode cX7_jar 11 = .ok (.iload_n 2, 1) := by decide +kernel
theorem dX7_jar_12 : decode cX7_jar 12 = .ok (.tableswitch 72 0 3 #[32, 42, 52, 62], 32) := by decide +kernel
theorem dX7_jar_44 : decode cX7_jar 44 = .ok (.aload_n 0, 1) := by decide +kernel
theorem dX7_jar_45 : decode cX7_jar 45 = .ok (.getfield 26, 3) := by decide +kernel
theorem dX7_jar_48 : decode cX7_jar 48 = .ok (.getfield 180, 3) := by decide +kernel
theorem dX7_jar_51 : decode cX7_jar 51 = .ok (.iload_n 1, 1) := by decide +kernel
theorem dX7_jar_52 : decode cX7_jar 52 = .ok (.iaload, 1) := by decide +kernel
theorem dX7_jar_53 : decode cX7_jar 53 = .ok (.ireturn, 1) := by decide +kernel
theorem dX7_jar_54 : decode cX7_jar 54 = .ok (.aload_n 0, 1) := by decide +kernel
theorem dX7_jar_55 : decode cX7_jar 55 = .ok (.getfield 26, 3) := by decide +kernel
theorem dX7_jar_58 : decode cX7_jar 58 = .ok (.getfield 193, 3) := by decide +kernel
theorem dX7_jar_61 : decode cX7_jar 61 = .ok (.iload_n 1, 1) := by decide +kernel
theorem dX7_jar_62 : decode cX7_jar 62 = .ok (.iaload, 1) := by decide +kernel
theorem dX7_jar_63 : decode cX7_jar 63 = .ok (.ireturn, 1) := by decide +kernel
theorem dX7_jar_64 : decode cX7_jar 64 = .ok (.aload_n 0, 1) := by decide +kernel
theorem dX7_jar_65 : decode cX7_jar 65 = .ok (.getfield 26, 3) := by decide +kernel
theorem dX7_jar_68 : decode cX7_jar 68 = .ok (.getfield 187, 3) := by decide +kernel
theorem dX7_jar_71 : decode cX7_jar 71 = .ok (.iload_n 1, 1) := by decide +kernel
theorem dX7_jar_72 : decode cX7_jar 72 = .ok (.iaload, 1) := by decide +kernel
theorem dX7_jar_73 : decode cX7_jar 73 = .ok (.ireturn, 1) := by decide +kernel
theorem dX7_jar_74 : decode cX7_jar 74 = .ok (.aload_n 0, 1) := by decide +kernel
theorem dX7_jar_75 : decode cX7_jar 75 = .ok (.getfield 26, 3) := by decide +kernel
theorem dX7_jar_78 : decode cX7_jar 78 = .ok (.getfield 177, 3) := by decide +kernel
theorem dX7_jar_81 : decode cX7_jar 81 = .ok (.iload_n 1, 1) := by decide +kernel
theorem dX7_jar_82 : decode cX7_jar 82 = .ok (.iaload, 1) := by decide +kernel
theorem dX7_jar_83 : decode cX7_jar 83 = .ok (.ireturn, 1) := by decide +kernel
theorem dX7_jar_84 : decode cX7_jar 84 = .ok (.ldc 66, 2) := by decide +kernel
theorem dX7_jar_86 : decode cX7_jar 86 = .ok (.ireturn, 1) := by decide +kernel
theorem dX7_stand_0 : decode cX7_stand 0 = .ok (.aload_n 0, 1) := by decide +kernel
theorem dX7_stand_1 : decode cX7_stand 1 = .ok (.invokevirtual 146, 3) := by decide +kernel
theorem dX7_stand_4 : decode cX7_stand 4 = .ok (.ifCond .eq 6, 3) := by decide +kernel
theorem dX7_stand_7 : decode cX7_stand 7 = .ok (.ldc 145, 2) := by decide +kernel
theorem dX7_stand_9 : decode cX7_stand 9 = .ok (.ireturn, 1) := by decide +kernel
theorem dX7_stand_10 : decode cX7_stand 10 = .ok (.iload_n 1, 1) := by decide +kernel
theorem dX7_stand_11 : decode cX7_stand 11 = .ok (.iconst 0, 1) := by decide +kernel
theorem dX7_stand_12 : decode cX7_stand 12 = .ok (.iconst 3, 1) := by decide +kernel
theorem dX7_stand_13 : decode cX7_stand 13 = .ok (.invokestatic 62, 3) := by decide +kernel
theorem dX7_stand_16 : decode cX7_stand 16 = .ok (.ifCond .eq 14, 3) := by decide +kernel
theorem dX7_stand_19 : decode cX7_stand 19 = .ok (.aload_n 0, 1) := by decide +kernel
theorem dX7_stand_20 : decode cX7_stand 20 = .ok (.getfield 26, 3) := by decide +kernel
theorem dX7_stand_23 : decode cX7_stand 23 = .ok (.iload_n 1, 1) := by decide +kernel
theorem dX7_stand_24 : decode cX7_stand 24 = .ok (.invokevirtual 159, 3) := by decide +kernel
theorem dX7_stand_27 : decode cX7_stand 27 = .ok (.goto 5, 3) := by decide +kernel
theorem dX7_stand_30 : decode cX7_stand 30 = .ok (.ldc 66, 2) := by decide +kernel
theorem dX7_stand_32 : decode cX7_stand 32 = .ok (.ireturn, 1) := by decide +kernel
theorem dX7_chain_0 : decode cX7_chain 0 = .ok (.aload_n 0, 1) := by decide +kernel
theorem dX7_chain_1 : decode cX7_chain 1 = .ok (.iload_n 1, 1) := by decide +kernel
theorem dX7_chain_2 : decode cX7_chain 2 = .ok (.iload_n 2, 1) := by decide +kernel
theorem dX7_chain_3 : decode cX7_chain 3 = .ok (.invokevirtual 162, 3) := by decide +kernel
theorem dX7_chain_6 : decode cX7_chain 6 = .ok (.ifCond .eq 10, 3) := by decide +kernel
theorem dX7_chain_9 : decode cX7_chain 9 = .ok (.iload_n 3, 1) := by decide +kernel
theorem dX7_chain_10 : decode cX7_chain 10 = .ok (.invokestatic 199, 3) := by decide +kernel
theorem dX7_chain_13 : decode cX7_chain 13 = .ok (.ifCond .ne 6, 3) := by decide +kernel
theorem dX7_chain_16 : decode cX7_chain 16 = .ok (.ldc 66, 2) := by decide +kernel
theorem dX7_chain_18 : decode cX7_chain 18 = .ok (.ireturn, 1) := by decide +kernel
theorem dX7_chain_19 : decode cX7_chain 19 = .ok (.aload_n 0, 1) := by decide +kernel
theorem dX7_chain_20 : decode cX7_chain 20 = .ok (.getfield 43, 3) := by decide +kernel
theorem dX7_chain_23 : decode cX7_chain 23 = .ok (.aload_n 0, 1) := by decide +kernel
theorem dX7_chain_24 : decode cX7_chain 24 = .ok (.getfield 26, 3) := by decide +kernel
theorem dX7_chain_27 : decode cX7_chain 27 = .ok (.iload_n 1, 1) := by decide +kernel
theorem dX7_chain_28 : decode cX7_chain 28 = .ok (.iload_n 2, 1) := by decide +kernel
theorem dX7_chain_29 : decode cX7_chain 29 = .ok (.invokevirtual 166, 3) := by decide +kernel
theorem dX7_chain_32 : decode cX7_chain 32 = .ok (.istore 4, 2) := by decide +kernel
theorem dX7_chain_34 : decode cX7_chain 34 = .ok (.iload_n 3, 1) := by decide +kernel
theorem dX7_chain_35 : decode cX7_chain 35 = .ok (.ifCond .ne 8, 3) := by decide +kernel
theorem dX7_chain_38 : decode cX7_chain 38 = .ok (.iload 4, 2) := by decide +kernel
theorem dX7_chain_40 : decode cX7_chain 40 = .ok (.goto 13, 3) := by decide +kernel
theorem dX7_chain_43 : decode cX7_chain 43 = .ok (.aload_n 0, 1) := by decide +kernel
theorem dX7_chain_44 : decode cX7_chain 44 = .ok (.getfield 43, 3) := by decide +kernel
theorem dX7_chain_47 : decode cX7_chain 47 = .ok (.getfield 202, 3) := by decide +kernel
theorem dX7_chain_50 : decode cX7_chain 50 = .ok (.getfield 206, 3) := by decide +kernel
theorem dX7_chain_53 : decode cX7_chain 53 = .ok (.ireturn, 1) := by decide +kernel
theorem dX7_worst_0 : decode cX7_worst 0 = .ok (.aload_n 0, 1) := by decide +kernel
theorem dX7_worst_1 : decode cX7_worst 1 = .ok (.invokevirtual 146, 3) := by decide +kernel
theorem dX7_worst_4 : decode cX7_worst 4 = .ok (.ifCond .eq 6, 3) := by decide +kernel
theorem dX7_worst_7 : decode cX7_worst 7 = .ok (.ldc 145, 2) := by decide +kernel
theorem dX7_worst_9 : decode cX7_worst 9 = .ok (.ireturn, 1) := by decide +kernel
theorem dX7_worst_10 : decode cX7_worst 10 = .ok (.iload_n 1, 1) := by decide +kernel
theorem dX7_worst_11 : decode cX7_worst 11 = .ok (.invokestatic 199, 3) := by decide +kernel
theorem dX7_worst_14 : decode cX7_worst 14 = .ok (.ifCond .ne 6, 3) := by decide +kernel
theorem dX7_worst_17 : decode cX7_worst 17 = .ok (.ldc 66, 2) := by decide +kernel
theorem dX7_worst_19 : decode cX7_worst 19 = .ok (.ireturn, 1) := by decide +kernel
theorem dX7_worst_20 : decode cX7_worst 20 = .ok (.aload_n 0, 1) := by decide +kernel
theorem dX7_worst_21 : decode cX7_worst 21 = .ok (.getfield 43, 3) := by decide +kernel
theorem dX7_worst_24 : decode cX7_worst 24 = .ok (.aload_n 0, 1) := by decide +kernel
theorem dX7_worst_25 : decode cX7_worst 25 = .ok (.getfield 26, 3) := by decide +kernel
theorem dX7_worst_28 : decode cX7_worst 28 = .ok (.invokevirtual 211, 3) := by decide +kernel
theorem dX7_worst_31 : decode cX7_worst 31 = .ok (.iload_n 1, 1) := by decide +kernel
theorem dX7_worst_32 : decode cX7_worst 32 = .ok (.ifCond .ne 13, 3) := by decide +kernel
theorem dX7_worst_35 : decode cX7_worst 35 = .ok (.aload_n 0, 1) := by decide +kernel
theorem dX7_worst_36 : decode cX7_worst 36 = .ok (.getfield 43, 3) := by decide +kernel
theorem dX7_worst_39 : decode cX7_worst 39 = .ok (.getfield 214, 3) := by decide +kernel
theorem dX7_worst_42 : decode cX7_worst 42 = .ok (.goto 10, 3) := by decide +kernel
theorem dX7_worst_45 : decode cX7_worst 45 = .ok (.aload_n 0, 1) := by decide +kernel
theorem dX7_worst_46 : decode cX7_worst 46 = .ok (.getfield 43, 3) := by decide +kernel
theorem dX7_worst_49 : decode cX7_worst 49 = .ok (.getfield 217, 3) := by decide +kernel
theorem dX7_worst_52 : decode cX7_worst 52 = .ok (.ireturn, 1) := by decide +kernel
theorem dX7_when_0 : decode cX7_when 0 = .ok (.aload_n 0, 1) := by decide +kernel
theorem dX7_when_1 : decode cX7_when 1 = .ok (.iload_n 1, 1) := by decide +kernel
theorem dX7_when_2 : decode cX7_when 2 = .ok (.invokevirtual 174, 3) := by decide +kernel
theorem dX7_when_5 : decode cX7_when 5 = .ok (.ifCond .ne 6, 3) := by decide +kernel
theorem dX7_when_8 : decode cX7_when 8 = .ok (.ldc 66, 2) := by decide +kernel
theorem dX7_when_10 : decode cX7_when 10 = .ok (.ireturn, 1) := by decide +kernel
theorem dX7_when_11 : decode cX7_when 11 = .ok (.aload_n 0, 1) := by decide +kernel
theorem dX7_when_12 : decode cX7_when 12 = .ok (.getfield 26, 3) := by decide +kernel
theorem dX7_when_15 : decode cX7_when 15 = .ok (.getfield 177, 3) := by decide +kernel
theorem dX7_when_18 : decode cX7_when 18 = .ok (.iload_n 1, 1) := by decide +kernel
theorem dX7_when_19 : decode cX7_when 19 = .ok (.iaload, 1) := by decide +kernel
theorem dX7_when_20 : decode cX7_when 20 = .ok (.lookupswitch 40 #[(0, 28), (2, 38)], 28) := by decide +kernel
theorem dX7_when_48 : decode cX7_when 48 = .ok (.aload_n 0, 1) := by decide +kernel
theorem dX7_when_49 : decode cX7_when 49 = .ok (.getfield 26, 3) := by decide +kernel
theorem dX7_when_52 : decode cX7_when 52 = .ok (.getfield 193, 3) := by decide +kernel
theorem dX7_when_55 : decode cX7_when 55 = .ok (.iload_n 1, 1) := by decide +kernel
theorem dX7_when_56 : decode cX7_when 56 = .ok (.iaload, 1) := by decide +kernel
theorem dX7_when_57 : decode cX7_when 57 = .ok (.ireturn, 1) := by decide +kernel
theorem dX7_when_58 : decode cX7_when 58 = .ok (.iconst 0, 1) := by decide +kernel
theorem dX7_when_59 : decode cX7_when 59 = .ok (.ireturn, 1) := by decide +kernel
theorem dX7_when_60 : decode cX7_when 60 = .ok (.ldc 220, 2) := by decide +kernel
theorem dX7_when_62 : decode cX7_when 62 = .ok (.ireturn, 1) := by decide +kernel
theorem dX7_kept_0 : decode cX7_kept 0 = .ok (.aload_n 0, 1) := by decide +kernel
theorem dX7_kept_1 : decode cX7_kept 1 = .ok (.invokevirtual 146, 3) := by decide +kernel
theorem dX7_kept_4 : decode cX7_kept 4 = .ok (.ifCond .eq 6, 3) := by decide +kernel
theorem dX7_kept_7 : decode cX7_kept 7 = .ok (.ldc 145, 2) := by decide +kernel
theorem dX7_kept_9 : decode cX7_kept 9 = .ok (.ireturn, 1) := by decide +kernel
theorem dX7_kept_10 : decode cX7_kept 10 = .ok (.iload_n 1, 1) := by decide +kernel
theorem dX7_kept_11 : decode cX7_kept 11 = .ok (.iconst 0, 1) := by decide +kernel
theorem dX7_kept_12 : decode cX7_kept 12 = .ok (.bipush 60, 2) := by decide +kernel
theorem dX7_kept_14 : decode cX7_kept 14 = .ok (.invokestatic 62, 3) := by decide +kernel
theorem dX7_kept_17 : decode cX7_kept 17 = .ok (.ifCond .eq 14, 3) := by decide +kernel
theorem dX7_kept_20 : decode cX7_kept 20 = .ok (.aload_n 0, 1) := by decide +kernel
theorem dX7_kept_21 : decode cX7_kept 21 = .ok (.getfield 26, 3) := by decide +kernel
theorem dX7_kept_24 : decode cX7_kept 24 = .ok (.iload_n 1, 1) := by decide +kernel
theorem dX7_kept_25 : decode cX7_kept 25 = .ok (.invokevirtual 221, 3) := by decide +kernel
theorem dX7_kept_28 : decode cX7_kept 28 = .ok (.goto 5, 3) := by decide +kernel
theorem dX7_kept_31 : decode cX7_kept 31 = .ok (.ldc 66, 2) := by decide +kernel
theorem dX7_kept_33 : decode cX7_kept 33 = .ok (.ireturn, 1) := by decide +kernel
theorem dX7_guard_0 : decode cX7_guard 0 = .ok (.aload_n 0, 1) := by decide +kernel
theorem dX7_guard_1 : decode cX7_guard 1 = .ok (.iload_n 1, 1) := by decide +kernel
theorem dX7_guard_2 : decode cX7_guard 2 = .ok (.iload_n 2, 1) := by decide +kernel
theorem dX7_guard_3 : decode cX7_guard 3 = .ok (.invokevirtual 162, 3) := by decide +kernel
theorem dX7_guard_6 : decode cX7_guard 6 = .ok (.ifCond .eq 21, 3) := by decide +kernel
theorem dX7_guard_9 : decode cX7_guard 9 = .ok (.iload_n 3, 1) := by decide +kernel
theorem dX7_guard_10 : decode cX7_guard 10 = .ok (.iconst 0, 1) := by decide +kernel
theorem dX7_guard_11 : decode cX7_guard 11 = .ok (.bipush 8, 2) := by decide +kernel
theorem dX7_guard_13 : decode cX7_guard 13 = .ok (.invokestatic 62, 3) := by decide +kernel
theorem dX7_guard_16 : decode cX7_guard 16 = .ok (.ifCond .eq 11, 3) := by decide +kernel
theorem dX7_guard_19 : decode cX7_guard 19 = .ok (.iload 4, 2) := by decide +kernel
theorem dX7_guard_21 : decode cX7_guard 21 = .ok (.invokestatic 199, 3) := by decide +kernel
theorem dX7_guard_24 : decode cX7_guard 24 = .ok (.ifCond .ne 6, 3) := by decide +kernel
theorem dX7_guard_27 : decode cX7_guard 27 = .ok (.ldc 66, 2) := by decide +kernel
theorem dX7_guard_29 : decode cX7_guard 29 = .ok (.ireturn, 1) := by decide +kernel
theorem dX7_guard_30 : decode cX7_guard 30 = .ok (.aload_n 0, 1) := by decide +kernel
theorem dX7_guard_31 : decode cX7_guard 31 = .ok (.getfield 43, 3) := by decide +kernel
theorem dX7_guard_34 : decode cX7_guard 34 = .ok (.aload_n 0, 1) := by decide +kernel
theorem dX7_guard_35 : decode cX7_guard 35 = .ok (.getfield 26, 3) := by decide +kernel
theorem dX7_guard_38 : decode cX7_guard 38 = .ok (.iload_n 1, 1) := by decide +kernel
theorem dX7_guard_39 : decode cX7_guard 39 = .ok (.iload_n 2, 1) := by decide +kernel
theorem dX7_guard_40 : decode cX7_guard 40 = .ok (.iload_n 3, 1) := by decide +kernel
theorem dX7_guard_41 : decode cX7_guard 41 = .ok (.invokevirtual 224, 3) := by decide +kernel
theorem dX7_guard_44 : decode cX7_guard 44 = .ok (.iload 4, 2) := by decide +kernel
theorem dX7_guard_46 : decode cX7_guard 46 = .ok (.ifCond .ne 13, 3) := by decide +kernel
theorem dX7_guard_49 : decode cX7_guard 49 = .ok (.aload_n 0, 1) := by decide +kernel
theorem dX7_guard_50 : decode cX7_guard 50 = .ok (.getfield 43, 3) := by decide +kernel
theorem dX7_guard_53 : decode cX7_guard 53 = .ok (.getfield 217, 3) := by decide +kernel
theorem dX7_guard_56 : decode cX7_guard 56 = .ok (.goto 10, 3) := by decide +kernel
theorem dX7_guard_59 : decode cX7_guard 59 = .ok (.aload_n 0, 1) := by decide +kernel
theorem dX7_guard_60 : decode cX7_guard 60 = .ok (.getfield 43, 3) := by decide +kernel
theorem dX7_guard_63 : decode cX7_guard 63 = .ok (.getfield 214, 3) := by decide +kernel
theorem dX7_guard_66 : decode cX7_guard 66 = .ok (.ireturn, 1) := by decide +kernel
theorem dX7_changes_0 : decode cX7_changes 0 = .ok (.aload_n 0, 1) := by decide +kernel
theorem dX7_changes_1 : decode cX7_changes 1 = .ok (.invokevirtual 146, 3) := by decide +kernel
theorem dX7_changes_4 : decode cX7_changes 4 = .ok (.ifCond .eq 6, 3) := by decide +kernel
theorem dX7_changes_7 : decode cX7_changes 7 = .ok (.ldc 145, 2) := by decide +kernel
theorem dX7_changes_9 : decode cX7_changes 9 = .ok (.ireturn, 1) := by decide +kernel
theorem dX7_changes_10 : decode cX7_changes 10 = .ok (.iload_n 1, 1) := by decide +kernel
theorem dX7_changes_11 : decode cX7_changes 11 = .ok (.invokestatic 199, 3) := by decide +kernel
theorem dX7_changes_14 : decode cX7_changes 14 = .ok (.ifCond .ne 6, 3) := by decide +kernel
theorem dX7_changes_17 : decode cX7_changes 17 = .ok (.ldc 66, 2) := by decide +kernel
theorem dX7_changes_19 : decode cX7_changes 19 = .ok (.ireturn, 1) := by decide +kernel
theorem dX7_changes_20 : decode cX7_changes 20 = .ok (.aload_n 0, 1) := by decide +kernel
theorem dX7_changes_21 : decode cX7_changes 21 = .ok (.getfield 43, 3) := by decide +kernel
theorem dX7_changes_24 : decode cX7_changes 24 = .ok (.aload_n 0, 1) := by decide +kernel
theorem dX7_changes_25 : decode cX7_changes 25 = .ok (.getfield 26, 3) := by decide +kernel
theorem dX7_changes_28 : decode cX7_changes 28 = .ok (.invokevirtual 228, 3) := by decide +kernel
theorem dX7_changes_31 : decode cX7_changes 31 = .ok (.iload_n 1, 1) := by decide +kernel
theorem dX7_changes_32 : decode cX7_changes 32 = .ok (.ifCond .ne 13, 3) := by decide +kernel
theorem dX7_changes_35 : decode cX7_changes 35 = .ok (.aload_n 0, 1) := by decide +kernel
theorem dX7_changes_36 : decode cX7_changes 36 = .ok (.getfield 43, 3) := by decide +kernel
theorem dX7_changes_39 : decode cX7_changes 39 = .ok (.getfield 214, 3) := by decide +kernel
theorem dX7_changes_42 : decode cX7_changes 42 = .ok (.goto 10, 3) := by decide +kernel
theorem dX7_changes_45 : decode cX7_changes 45 = .ok (.aload_n 0, 1) := by decide +kernel
theorem dX7_changes_46 : decode cX7_changes 46 = .ok (.getfield 43, 3) := by decide +kernel
theorem dX7_changes_49 : decode cX7_changes 49 = .ok (.getfield 217, 3) := by decide +kernel
theorem dX7_changes_52 : decode cX7_changes 52 = .ok (.ireturn, 1) := by decide +kernel
theorem dX7_tuned_0 : decode cX7_tuned 0 = .ok (.aload_n 0, 1) := by decide +kernel
theorem dX7_tuned_1 : decode cX7_tuned 1 = .ok (.iload_n 1, 1) := by decide +kernel
theorem dX7_tuned_2 : decode cX7_tuned 2 = .ok (.invokevirtual 174, 3) := by decide +kernel
theorem dX7_tuned_5 : decode cX7_tuned 5 = .ok (.ifCond .eq 10, 3) := by decide +kernel
theorem dX7_tuned_8 : decode cX7_tuned 8 = .ok (.iload_n 2, 1) := by decide +kernel
theorem dX7_tuned_9 : decode cX7_tuned 9 = .ok (.invokestatic 199, 3) := by decide +kernel
theorem dX7_tuned_12 : decode cX7_tuned 12 = .ok (.ifCond .ne 6, 3) := by decide +kernel
theorem dX7_tuned_15 : decode cX7_tuned 15 = .ok (.ldc 66, 2) := by decide +kernel
theorem dX7_tuned_17 : decode cX7_tuned 17 = .ok (.ireturn, 1) := by decide +kernel
theorem dX7_tuned_18 : decode cX7_tuned 18 = .ok (.aload_n 0, 1) := by decide +kernel
theorem dX7_tuned_19 : decode cX7_tuned 19 = .ok (.getfield 43, 3) := by decide +kernel
theorem dX7_tuned_22 : decode cX7_tuned 22 = .ok (.aload_n 0, 1) := by decide +kernel
theorem dX7_tuned_23 : decode cX7_tuned 23 = .ok (.getfield 26, 3) := by decide +kernel
theorem dX7_tuned_26 : decode cX7_tuned 26 = .ok (.iload_n 1, 1) := by decide +kernel
theorem dX7_tuned_27 : decode cX7_tuned 27 = .ok (.invokevirtual 231, 3) := by decide +kernel
theorem dX7_tuned_30 : decode cX7_tuned 30 = .ok (.iload_n 2, 1) := by decide +kernel
theorem dX7_tuned_31 : decode cX7_tuned 31 = .ok (.ifCond .ne 13, 3) := by decide +kernel
theorem dX7_tuned_34 : decode cX7_tuned 34 = .ok (.aload_n 0, 1) := by decide +kernel
theorem dX7_tuned_35 : decode cX7_tuned 35 = .ok (.getfield 43, 3) := by decide +kernel
theorem dX7_tuned_38 : decode cX7_tuned 38 = .ok (.getfield 214, 3) := by decide +kernel
theorem dX7_tuned_41 : decode cX7_tuned 41 = .ok (.goto 10, 3) := by decide +kernel
theorem dX7_tuned_44 : decode cX7_tuned 44 = .ok (.aload_n 0, 1) := by decide +kernel
theorem dX7_tuned_45 : decode cX7_tuned 45 = .ok (.getfield 43, 3) := by decide +kernel
theorem dX7_tuned_48 : decode cX7_tuned 48 = .ok (.getfield 217, 3) := by decide +kernel
theorem dX7_tuned_51 : decode cX7_tuned 51 = .ok (.ireturn, 1) := by decide +kernel
theorem dX7_spared_0 : decode cX7_spared 0 = .ok (.aload_n 0, 1) := by decide +kernel
theorem dX7_spared_1 : decode cX7_spared 1 = .ok (.invokevirtual 146, 3) := by decide +kernel
theorem dX7_spared_4 : decode cX7_spared 4 = .ok (.ifCond .eq 6, 3) := by decide +kernel
theorem dX7_spared_7 : decode cX7_spared 7 = .ok (.ldc 145, 2) := by decide +kernel
theorem dX7_spared_9 : decode cX7_spared 9 = .ok (.ireturn, 1) := by decide +kernel
theorem dX7_spared_10 : decode cX7_spared 10 = .ok (.iload_n 1, 1) := by decide +kernel
theorem dX7_spared_11 : decode cX7_spared 11 = .ok (.invokestatic 199, 3) := by decide +kernel
theorem dX7_spared_14 : decode cX7_spared 14 = .ok (.ifCond .ne 6, 3) := by decide +kernel
theorem dX7_spared_17 : decode cX7_spared 17 = .ok (.ldc 66, 2) := by decide +kernel
theorem dX7_spared_19 : decode cX7_spared 19 = .ok (.ireturn, 1) := by decide +kernel
theorem dX7_spared_20 : decode cX7_spared 20 = .ok (.aload_n 0, 1) := by decide +kernel
theorem dX7_spared_21 : decode cX7_spared 21 = .ok (.getfield 43, 3) := by decide +kernel
theorem dX7_spared_24 : decode cX7_spared 24 = .ok (.aload_n 0, 1) := by decide +kernel
theorem dX7_spared_25 : decode cX7_spared 25 = .ok (.getfield 26, 3) := by decide +kernel
theorem dX7_spared_28 : decode cX7_spared 28 = .ok (.invokevirtual 235, 3) := by decide +kernel
theorem dX7_spared_31 : decode cX7_spared 31 = .ok (.iload_n 1, 1) := by decide +kernel
theorem dX7_spared_32 : decode cX7_spared 32 = .ok (.ifCond .ne 13, 3) := by decide +kernel
theorem dX7_spared_35 : decode cX7_spared 35 = .ok (.aload_n 0, 1) := by decide +kernel
theorem dX7_spared_36 : decode cX7_spared 36 = .ok (.getfield 43, 3) := by decide +kernel
theorem dX7_spared_39 : decode cX7_spared 39 = .ok (.getfield 214, 3) := by decide +kernel
theorem dX7_spared_42 : decode cX7_spared 42 = .ok (.goto 10, 3) := by decide +kernel
theorem dX7_spared_45 : decode cX7_spared 45 = .ok (.aload_n 0, 1) := by decide +kernel
theorem dX7_spared_46 : decode cX7_spared 46 = .ok (.getfield 43, 3) := by decide +kernel
theorem dX7_spared_49 : decode cX7_spared 49 = .ok (.getfield 217, 3) := by decide +kernel
theorem dX7_spared_52 : decode cX7_spared 52 = .ok (.ireturn, 1) := by decide +kernel
theorem dX7_alike_0 : decode cX7_alike 0 = .ok (.aload_n 0, 1) := by decide +kernel
theorem dX7_alike_1 : decode cX7_alike 1 = .ok (.invokevirtual 146, 3) := by decide +kernel
theorem dX7_alike_4 : decode cX7_alike 4 = .ok (.ifCond .eq 6, 3) := by decide +kernel
theorem dX7_alike_7 : decode cX7_alike 7 = .ok (.ldc 145, 2) := by decide +kernel
theorem dX7_alike_9 : decode cX7_alike 9 = .ok (.ireturn, 1) := by decide +kernel
theorem dX7_alike_10 : decode cX7_alike 10 = .ok (.iload_n 1, 1) := by decide +kernel
theorem dX7_alike_11 : decode cX7_alike 11 = .ok (.invokestatic 199, 3) := by decide +kernel
theorem dX7_alike_14 : decode cX7_alike 14 = .ok (.ifCond .ne 6, 3) := by decide +kernel
theorem dX7_alike_17 : decode cX7_alike 17 = .ok (.ldc 66, 2) := by decide +kernel
theorem dX7_alike_19 : decode cX7_alike 19 = .ok (.ireturn, 1) := by decide +kernel
theorem dX7_alike_20 : decode cX7_alike 20 = .ok (.aload_n 0, 1) := by decide +kernel
theorem dX7_alike_21 : decode cX7_alike 21 = .ok (.getfield 43, 3) := by decide +kernel
theorem dX7_alike_24 : decode cX7_alike 24 = .ok (.aload_n 0, 1) := by decide +kernel
theorem dX7_alike_25 : decode cX7_alike 25 = .ok (.getfield 26, 3) := by decide +kernel
theorem dX7_alike_28 : decode cX7_alike 28 = .ok (.invokevirtual 238, 3) := by decide +kernel
theorem dX7_alike_31 : decode cX7_alike 31 = .ok (.iload_n 1, 1) := by decide +kernel
theorem dX7_alike_32 : decode cX7_alike 32 = .ok (.ifCond .ne 13, 3) := by decide +kernel
theorem dX7_alike_35 : decode cX7_alike 35 = .ok (.aload_n 0, 1) := by decide +kernel
theorem dX7_alike_36 : decode cX7_alike 36 = .ok (.getfield 43, 3) := by decide +kernel
theorem dX7_alike_39 : decode cX7_alike 39 = .ok (.getfield 217, 3) := by decide +kernel
theorem dX7_alike_42 : decode cX7_alike 42 = .ok (.goto 10, 3) := by decide +kernel
theorem dX7_alike_45 : decode cX7_alike 45 = .ok (.aload_n 0, 1) := by decide +kernel
theorem dX7_alike_46 : decode cX7_alike 46 = .ok (.getfield 43, 3) := by decide +kernel
theorem dX7_alike_49 : decode cX7_alike 49 = .ok (.getfield 214, 3) := by decide +kernel
theorem dX7_alike_52 : decode cX7_alike 52 = .ok (.ireturn, 1) := by decide +kernel
theorem dX7_song_0 : decode cX7_song 0 = .ok (.aload_n 0, 1) := by decide +kernel
theorem dX7_song_1 : decode cX7_song 1 = .ok (.invokevirtual 146, 3) := by decide +kernel
theorem dX7_song_4 : decode cX7_song 4 = .ok (.ifCond .eq 6, 3) := by decide +kernel
theorem dX7_song_7 : decode cX7_song 7 = .ok (.ldc 145, 2) := by decide +kernel
theorem dX7_song_9 : decode cX7_song 9 = .ok (.ireturn, 1) := by decide +kernel
theorem dX7_song_10 : decode cX7_song 10 = .ok (.iload_n 1, 1) := by decide +kernel
theorem dX7_song_11 : decode cX7_song 11 = .ok (.invokestatic 199, 3) := by decide +kernel
theorem dX7_song_14 : decode cX7_song 14 = .ok (.ifCond .eq 21, 3) := by decide +kernel
theorem dX7_song_17 : decode cX7_song 17 = .ok (.iload_n 2, 1) := by decide +kernel
theorem dX7_song_18 : decode cX7_song 18 = .ok (.invokestatic 58, 3) := by decide +kernel
theorem dX7_song_21 : decode cX7_song 21 = .ok (.ifCond .eq 14, 3) := by decide +kernel
theorem dX7_song_24 : decode cX7_song 24 = .ok (.iload 4, 2) := by decide +kernel
theorem dX7_song_26 : decode cX7_song 26 = .ok (.iconst 1, 1) := by decide +kernel
theorem dX7_song_27 : decode cX7_song 27 = .ok (.bipush 12, 2) := by decide +kernel
theorem dX7_song_29 : decode cX7_song 29 = .ok (.invokestatic 62, 3) := by decide +kernel
theorem dX7_song_32 : decode cX7_song 32 = .ok (.ifCond .ne 6, 3) := by decide +kernel
theorem dX7_song_35 : decode cX7_song 35 = .ok (.ldc 66, 2) := by decide +kernel
theorem dX7_song_37 : decode cX7_song 37 = .ok (.ireturn, 1) := by decide +kernel
theorem dX7_song_38 : decode cX7_song 38 = .ok (.aload_n 0, 1) := by decide +kernel
theorem dX7_song_39 : decode cX7_song 39 = .ok (.getfield 10, 3) := by decide +kernel
theorem dX7_song_42 : decode cX7_song 42 = .ok (.iload_n 2, 1) := by decide +kernel
theorem dX7_song_43 : decode cX7_song 43 = .ok (.iload_n 3, 1) := by decide +kernel
theorem dX7_song_44 : decode cX7_song 44 = .ok (.iload 4, 2) := by decide +kernel
theorem dX7_song_46 : decode cX7_song 46 = .ok (.invokevirtual 78, 3) := by decide +kernel
theorem dX7_song_49 : decode cX7_song 49 = .ok (.istore 5, 2) := by decide +kernel
theorem dX7_song_51 : decode cX7_song 51 = .ok (.iload 5, 2) := by decide +kernel
theorem dX7_song_53 : decode cX7_song 53 = .ok (.ifCond .ne 20, 3) := by decide +kernel
theorem dX7_song_56 : decode cX7_song 56 = .ok (.aload_n 0, 1) := by decide +kernel
theorem dX7_song_57 : decode cX7_song 57 = .ok (.getfield 10, 3) := by decide +kernel
theorem dX7_song_60 : decode cX7_song 60 = .ok (.iload_n 2, 1) := by decide +kernel
theorem dX7_song_61 : decode cX7_song 61 = .ok (.iload_n 3, 1) := by decide +kernel
theorem dX7_song_62 : decode cX7_song 62 = .ok (.iload 4, 2) := by decide +kernel
theorem dX7_song_64 : decode cX7_song 64 = .ok (.invokevirtual 241, 3) := by decide +kernel
theorem dX7_song_67 : decode cX7_song 67 = .ok (.ifCond .ne 6, 3) := by decide +kernel
theorem dX7_song_70 : decode cX7_song 70 = .ok (.iconst 3, 1) := by decide +kernel
theorem dX7_song_71 : decode cX7_song 71 = .ok (.istore 5, 2) := by decide +kernel
theorem dX7_song_73 : decode cX7_song 73 = .ok (.iload 5, 2) := by decide +kernel
theorem dX7_song_75 : decode cX7_song 75 = .ok (.ifCond .eq 10, 3) := by decide +kernel
theorem dX7_song_78 : decode cX7_song 78 = .ok (.aload_n 0, 1) := by decide +kernel
theorem dX7_song_79 : decode cX7_song 79 = .ok (.iload 5, 2) := by decide +kernel
theorem dX7_song_81 : decode cX7_song 81 = .ok (.invokevirtual 67, 3) := by decide +kernel
theorem dX7_song_84 : decode cX7_song 84 = .ok (.ireturn, 1) := by decide +kernel
theorem dX7_song_85 : decode cX7_song 85 = .ok (.aload_n 0, 1) := by decide +kernel
theorem dX7_song_86 : decode cX7_song 86 = .ok (.getfield 43, 3) := by decide +kernel
theorem dX7_song_89 : decode cX7_song 89 = .ok (.aload_n 0, 1) := by decide +kernel
theorem dX7_song_90 : decode cX7_song 90 = .ok (.getfield 26, 3) := by decide +kernel
theorem dX7_song_93 : decode cX7_song 93 = .ok (.aload_n 0, 1) := by decide +kernel
theorem dX7_song_94 : decode cX7_song 94 = .ok (.getfield 10, 3) := by decide +kernel
theorem dX7_song_97 : decode cX7_song 97 = .ok (.getfield 96, 3) := by decide +kernel
theorem dX7_song_100 : decode cX7_song 100 = .ok (.iload_n 2, 1) := by decide +kernel
theorem dX7_song_101 : decode cX7_song 101 = .ok (.aaload, 1) := by decide +kernel
theorem dX7_song_102 : decode cX7_song 102 = .ok (.iload_n 3, 1) := by decide +kernel
theorem dX7_song_103 : decode cX7_song 103 = .ok (.iload 4, 2) := by decide +kernel
theorem dX7_song_105 : decode cX7_song 105 = .ok (.invokevirtual 244, 3) := by decide +kernel
theorem dX7_song_108 : decode cX7_song 108 = .ok (.aload_n 0, 1) := by decide +kernel
theorem dX7_song_109 : decode cX7_song 109 = .ok (.iload_n 1, 1) := by decide +kernel
theorem dX7_song_110 : decode cX7_song 110 = .ok (.ifCond .ne 13, 3) := by decide +kernel
theorem dX7_song_113 : decode cX7_song 113 = .ok (.aload_n 0, 1) := by decide +kernel
theorem dX7_song_114 : decode cX7_song 114 = .ok (.getfield 43, 3) := by decide +kernel
theorem dX7_song_117 : decode cX7_song 117 = .ok (.getfield 214, 3) := by decide +kernel
theorem dX7_song_120 : decode cX7_song 120 = .ok (.goto 10, 3) := by decide +kernel
theorem dX7_song_123 : decode cX7_song 123 = .ok (.aload_n 0, 1) := by decide +kernel
theorem dX7_song_124 : decode cX7_song 124 = .ok (.getfield 43, 3) := by decide +kernel
theorem dX7_song_127 : decode cX7_song 127 = .ok (.getfield 217, 3) := by decide +kernel
theorem dX7_song_130 : decode cX7_song 130 = .ok (.invokevirtual 75, 3) := by decide +kernel
theorem dX7_song_133 : decode cX7_song 133 = .ok (.ireturn, 1) := by decide +kernel
theorem dX7_who_0 : decode cX7_who 0 = .ok (.aload_n 0, 1) := by decide +kernel
theorem dX7_who_1 : decode cX7_who 1 = .ok (.iload_n 1, 1) := by decide +kernel
theorem dX7_who_2 : decode cX7_who 2 = .ok (.invokevirtual 174, 3) := by decide +kernel
theorem dX7_who_5 : decode cX7_who 5 = .ok (.ifCond .eq 37, 3) := by decide +kernel
theorem dX7_who_8 : decode cX7_who 8 = .ok (.iload_n 2, 1) := by decide +kernel
theorem dX7_who_9 : decode cX7_who 9 = .ok (.invokestatic 199, 3) := by decide +kernel
theorem dX7_who_12 : decode cX7_who 12 = .ok (.ifCond .eq 30, 3) := by decide +kernel
theorem dX7_who_15 : decode cX7_who 15 = .ok (.aload_n 0, 1) := by decide +kernel
theorem dX7_who_16 : decode cX7_who 16 = .ok (.iload_n 3, 1) := by decide +kernel
theorem dX7_who_17 : decode cX7_who 17 = .ok (.invokevirtual 248, 3) := by decide +kernel
theorem dX7_who_20 : decode cX7_who 20 = .ok (.ifCond .eq 22, 3) := by decide +kernel
theorem dX7_who_23 : decode cX7_who 23 = .ok (.iload 4, 2) := by decide +kernel
theorem dX7_who_25 : decode cX7_who 25 = .ok (.invokestatic 58, 3) := by decide +kernel
theorem dX7_who_28 : decode cX7_who 28 = .ok (.ifCond .eq 14, 3) := by decide +kernel
theorem dX7_who_31 : decode cX7_who 31 = .ok (.iload 6, 2) := by decide +kernel
theorem dX7_who_33 : decode cX7_who 33 = .ok (.iconst 1, 1) := by decide +kernel
theorem dX7_who_34 : decode cX7_who 34 = .ok (.bipush 12, 2) := by decide +kernel
theorem dX7_who_36 : decode cX7_who 36 = .ok (.invokestatic 62, 3) := by decide +kernel
theorem dX7_who_39 : decode cX7_who 39 = .ok (.ifCond .ne 6, 3) := by decide +kernel
theorem dX7_who_42 : decode cX7_who 42 = .ok (.ldc 66, 2) := by decide +kernel
theorem dX7_who_44 : decode cX7_who 44 = .ok (.ireturn, 1) := by decide +kernel
theorem dX7_who_45 : decode cX7_who 45 = .ok (.aload_n 0, 1) := by decide +kernel
theorem dX7_who_46 : decode cX7_who 46 = .ok (.getfield 10, 3) := by decide +kernel
theorem dX7_who_49 : decode cX7_who 49 = .ok (.iload 4, 2) := by decide +kernel
theorem dX7_who_51 : decode cX7_who 51 = .ok (.iload 5, 2) := by decide +kernel
theorem dX7_who_53 : decode cX7_who 53 = .ok (.iload 6, 2) := by decide +kernel
theorem dX7_who_55 : decode cX7_who 55 = .ok (.invokevirtual 78, 3) := by decide +kernel
theorem dX7_who_58 : decode cX7_who 58 = .ok (.istore 7, 2) := by decide +kernel
theorem dX7_who_60 : decode cX7_who 60 = .ok (.iload 7, 2) := by decide +kernel
theorem dX7_who_62 : decode cX7_who 62 = .ok (.ifCond .eq 10, 3) := by decide +kernel
theorem dX7_who_65 : decode cX7_who 65 = .ok (.aload_n 0, 1) := by decide +kernel
theorem dX7_who_66 : decode cX7_who 66 = .ok (.iload 7, 2) := by decide +kernel
theorem dX7_who_68 : decode cX7_who 68 = .ok (.invokevirtual 67, 3) := by decide +kernel
theorem dX7_who_71 : decode cX7_who 71 = .ok (.ireturn, 1) := by decide +kernel
theorem dX7_who_72 : decode cX7_who 72 = .ok (.iload_n 2, 1) := by decide +kernel
theorem dX7_who_73 : decode cX7_who 73 = .ok (.ifCond .ne 35, 3) := by decide +kernel
theorem dX7_who_76 : decode cX7_who 76 = .ok (.aload_n 0, 1) := by decide +kernel
theorem dX7_who_77 : decode cX7_who 77 = .ok (.aload_n 0, 1) := by decide +kernel
theorem dX7_who_78 : decode cX7_who 78 = .ok (.getfield 43, 3) := by decide +kernel
theorem dX7_who_81 : decode cX7_who 81 = .ok (.aload_n 0, 1) := by decide +kernel
theorem dX7_who_82 : decode cX7_who 82 = .ok (.getfield 26, 3) := by decide +kernel
theorem dX7_who_85 : decode cX7_who 85 = .ok (.iload_n 1, 1) := by decide +kernel
theorem dX7_who_86 : decode cX7_who 86 = .ok (.iload_n 3, 1) := by decide +kernel
theorem dX7_who_87 : decode cX7_who 87 = .ok (.aload_n 0, 1) := by decide +kernel
theorem dX7_who_88 : decode cX7_who 88 = .ok (.getfield 10, 3) := by decide +kernel
theorem dX7_who_91 : decode cX7_who 91 = .ok (.getfield 96, 3) := by decide +kernel
theorem dX7_who_94 : decode cX7_who 94 = .ok (.iload 4, 2) := by decide +kernel
theorem dX7_who_96 : decode cX7_who 96 = .ok (.aaload, 1) := by decide +kernel
theorem dX7_who_97 : decode cX7_who 97 = .ok (.iload 5, 2) := by decide +kernel
theorem dX7_who_99 : decode cX7_who 99 = .ok (.iload 6, 2) := by decide +kernel
theorem dX7_who_101 : decode cX7_who 101 = .ok (.invokevirtual 251, 3) := by decide +kernel
theorem dX7_who_104 : decode cX7_who 104 = .ok (.invokevirtual 75, 3) := by decide +kernel
theorem dX7_who_107 : decode cX7_who 107 = .ok (.ireturn, 1) := by decide +kernel
theorem dX7_who_108 : decode cX7_who 108 = .ok (.aload_n 0, 1) := by decide +kernel
theorem dX7_who_109 : decode cX7_who 109 = .ok (.aload_n 0, 1) := by decide +kernel
theorem dX7_who_110 : decode cX7_who 110 = .ok (.getfield 43, 3) := by decide +kernel
theorem dX7_who_113 : decode cX7_who 113 = .ok (.aload_n 0, 1) := by decide +kernel
theorem dX7_who_114 : decode cX7_who 114 = .ok (.getfield 26, 3) := by decide +kernel
theorem dX7_who_117 : decode cX7_who 117 = .ok (.iload_n 1, 1) := by decide +kernel
theorem dX7_who_118 : decode cX7_who 118 = .ok (.iload_n 3, 1) := by decide +kernel
theorem dX7_who_119 : decode cX7_who 119 = .ok (.aload_n 0, 1) := by decide +kernel
theorem dX7_who_120 : decode cX7_who 120 = .ok (.getfield 10, 3) := by decide +kernel
theorem dX7_who_123 : decode cX7_who 123 = .ok (.getfield 96, 3) := by decide +kernel
theorem dX7_who_126 : decode cX7_who 126 = .ok (.iload 4, 2) := by decide +kernel
theorem dX7_who_128 : decode cX7_who 128 = .ok (.aaload, 1) := by decide +kernel
theorem dX7_who_129 : decode cX7_who 129 = .ok (.iload 5, 2) := by decide +kernel
theorem dX7_who_131 : decode cX7_who 131 = .ok (.iload 6, 2) := by decide +kernel
theorem dX7_who_133 : decode cX7_who 133 = .ok (.invokevirtual 255, 3) := by decide +kernel
theorem dX7_who_136 : decode cX7_who 136 = .ok (.invokevirtual 75, 3) := by decide +kernel
theorem dX7_who_139 : decode cX7_who 139 = .ok (.ireturn, 1) := by decide +kernel
theorem dX7_reaches_0 : decode cX7_reaches 0 = .ok (.aload_n 0, 1) := by decide +kernel
theorem dX7_reaches_1 : decode cX7_reaches 1 = .ok (.iload_n 1, 1) := by decide +kernel
theorem dX7_reaches_2 : decode cX7_reaches 2 = .ok (.invokevirtual 248, 3) := by decide +kernel
theorem dX7_reaches_5 : decode cX7_reaches 5 = .ok (.ifCond .eq 21, 3) := by decide +kernel
theorem dX7_reaches_8 : decode cX7_reaches 8 = .ok (.iload_n 2, 1) := by decide +kernel
theorem dX7_reaches_9 : decode cX7_reaches 9 = .ok (.invokestatic 58, 3) := by decide +kernel
theorem dX7_reaches_12 : decode cX7_reaches 12 = .ok (.ifCond .eq 14, 3) := by decide +kernel
theorem dX7_reaches_15 : decode cX7_reaches 15 = .ok (.iload 4, 2) := by decide +kernel
theorem dX7_reaches_17 : decode cX7_reaches 17 = .ok (.iconst 1, 1) := by decide +kernel
theorem dX7_reaches_18 : decode cX7_reaches 18 = .ok (.bipush 12, 2) := by decide +kernel
theorem dX7_reaches_20 : decode cX7_reaches 20 = .ok (.invokestatic 62, 3) := by decide +kernel
theorem dX7_reaches_23 : decode cX7_reaches 23 = .ok (.ifCond .ne 6, 3) := by decide +kernel
theorem dX7_reaches_26 : decode cX7_reaches 26 = .ok (.ldc 66, 2) := by decide +kernel
theorem dX7_reaches_28 : decode cX7_reaches 28 = .ok (.ireturn, 1) := by decide +kernel
theorem dX7_reaches_29 : decode cX7_reaches 29 = .ok (.aload_n 0, 1) := by decide +kernel
end
section
theorem dX7_reaches_30 : decode cX7_reaches 30 = .ok (.getfield 10, 3) := by decide +kernel
theorem dX7_reaches_33 : decode cX7_reaches 33 = .ok (.iload_n 2, 1) := by decide +kernel
theorem dX7_reaches_34 : decode cX7_reaches 34 = .ok (.iload_n 3, 1) := by decide +kernel
theorem dX7_reaches_35 : decode cX7_reaches 35 = .ok (.iload 4, 2) := by decide +kernel
theorem dX7_reaches_37 : decode cX7_reaches 37 = .ok (.invokevirtual 78, 3) := by decide +kernel
theorem dX7_reaches_40 : decode cX7_reaches 40 = .ok (.istore 5, 2) := by decide +kernel
theorem dX7_reaches_42 : decode cX7_reaches 42 = .ok (.iload 5, 2) := by decide +kernel
theorem dX7_reaches_44 : decode cX7_reaches 44 = .ok (.ifCond .eq 10, 3) := by decide +kernel
theorem dX7_reaches_47 : decode cX7_reaches 47 = .ok (.aload_n 0, 1) := by decide +kernel
theorem dX7_reaches_48 : decode cX7_reaches 48 = .ok (.iload 5, 2) := by decide +kernel
theorem dX7_reaches_50 : decode cX7_reaches 50 = .ok (.invokevirtual 67, 3) := by decide +kernel
theorem dX7_reaches_53 : decode cX7_reaches 53 = .ok (.ireturn, 1) := by decide +kernel
theorem dX7_reaches_54 : decode cX7_reaches 54 = .ok (.aload_n 0, 1) := by decide +kernel
theorem dX7_reaches_55 : decode cX7_reaches 55 = .ok (.aload_n 0, 1) := by decide +kernel
theorem dX7_reaches_56 : decode cX7_reaches 56 = .ok (.getfield 43, 3) := by decide +kernel
theorem dX7_reaches_59 : decode cX7_reaches 59 = .ok (.aload_n 0, 1) := by decide +kernel
theorem dX7_reaches_60 : decode cX7_reaches 60 = .ok (.getfield 26, 3) := by decide +kernel
theorem dX7_reaches_63 : decode cX7_reaches 63 = .ok (.iload_n 1, 1) := by decide +kernel
theorem dX7_reaches_64 : decode cX7_reaches 64 = .ok (.aload_n 0, 1) := by decide +kernel
theorem dX7_reaches_65 : decode cX7_reaches 65 = .ok (.getfield 10, 3) := by decide +kernel
theorem dX7_reaches_68 : decode cX7_reaches 68 = .ok (.getfield 96, 3) := by decide +kernel
theorem dX7_reaches_71 : decode cX7_reaches 71 = .ok (.iload_n 2, 1) := by decide +kernel
theorem dX7_reaches_72 : decode cX7_reaches 72 = .ok (.aaload, 1) := by decide +kernel
theorem dX7_reaches_73 : decode cX7_reaches 73 = .ok (.iload_n 3, 1) := by decide +kernel
theorem dX7_reaches_74 : decode cX7_reaches 74 = .ok (.iload 4, 2) := by decide +kernel
theorem dX7_reaches_76 : decode cX7_reaches 76 = .ok (.invokevirtual 258, 3) := by decide +kernel
theorem dX7_reaches_79 : decode cX7_reaches 79 = .ok (.invokevirtual 75, 3) := by decide +kernel
theorem dX7_reaches_82 : decode cX7_reaches 82 = .ok (.ireturn, 1) := by decide +kernel
theorem dX7_mould_0 : decode cX7_mould 0 = .ok (.aload_n 0, 1) := by decide +kernel
theorem dX7_mould_1 : decode cX7_mould 1 = .ok (.iload_n 1, 1) := by decide +kernel
theorem dX7_mould_2 : decode cX7_mould 2 = .ok (.invokevirtual 174, 3) := by decide +kernel
theorem dX7_mould_5 : decode cX7_mould 5 = .ok (.ifCond .eq 31, 3) := by decide +kernel
theorem dX7_mould_8 : decode cX7_mould 8 = .ok (.aload_n 0, 1) := by decide +kernel
theorem dX7_mould_9 : decode cX7_mould 9 = .ok (.iload_n 2, 1) := by decide +kernel
theorem dX7_mould_10 : decode cX7_mould 10 = .ok (.iload_n 3, 1) := by decide +kernel
theorem dX7_mould_11 : decode cX7_mould 11 = .ok (.invokevirtual 162, 3) := by decide +kernel
theorem dX7_mould_14 : decode cX7_mould 14 = .ok (.ifCond .eq 22, 3) := by decide +kernel
theorem dX7_mould_17 : decode cX7_mould 17 = .ok (.iload 4, 2) := by decide +kernel
theorem dX7_mould_19 : decode cX7_mould 19 = .ok (.iconst 0, 1) := by decide +kernel
theorem dX7_mould_20 : decode cX7_mould 20 = .ok (.bipush 10, 2) := by decide +kernel
theorem dX7_mould_22 : decode cX7_mould 22 = .ok (.invokestatic 62, 3) := by decide +kernel
theorem dX7_mould_25 : decode cX7_mould 25 = .ok (.ifCond .eq 11, 3) := by decide +kernel
theorem dX7_mould_28 : decode cX7_mould 28 = .ok (.iload 5, 2) := by decide +kernel
theorem dX7_mould_30 : decode cX7_mould 30 = .ok (.invokestatic 199, 3) := by decide +kernel
theorem dX7_mould_33 : decode cX7_mould 33 = .ok (.ifCond .ne 7, 3) := by decide +kernel
theorem dX7_mould_36 : decode cX7_mould 36 = .ok (.ldc2_w 262, 3) := by decide +kernel
theorem dX7_mould_39 : decode cX7_mould 39 = .ok (.lreturn, 1) := by decide +kernel
theorem dX7_mould_40 : decode cX7_mould 40 = .ok (.aload_n 0, 1) := by decide +kernel
theorem dX7_mould_41 : decode cX7_mould 41 = .ok (.getfield 43, 3) := by decide +kernel
theorem dX7_mould_44 : decode cX7_mould 44 = .ok (.aload_n 0, 1) := by decide +kernel
theorem dX7_mould_45 : decode cX7_mould 45 = .ok (.getfield 26, 3) := by decide +kernel
theorem dX7_mould_48 : decode cX7_mould 48 = .ok (.iload_n 1, 1) := by decide +kernel
theorem dX7_mould_49 : decode cX7_mould 49 = .ok (.iload_n 2, 1) := by decide +kernel
theorem dX7_mould_50 : decode cX7_mould 50 = .ok (.iload_n 3, 1) := by decide +kernel
theorem dX7_mould_51 : decode cX7_mould 51 = .ok (.iload 4, 2) := by decide +kernel
theorem dX7_mould_53 : decode cX7_mould 53 = .ok (.invokevirtual 264, 3) := by decide +kernel
theorem dX7_mould_56 : decode cX7_mould 56 = .ok (.iload 5, 2) := by decide +kernel
theorem dX7_mould_58 : decode cX7_mould 58 = .ok (.ifCond .ne 13, 3) := by decide +kernel
theorem dX7_mould_61 : decode cX7_mould 61 = .ok (.aload_n 0, 1) := by decide +kernel
theorem dX7_mould_62 : decode cX7_mould 62 = .ok (.getfield 43, 3) := by decide +kernel
theorem dX7_mould_65 : decode cX7_mould 65 = .ok (.getfield 268, 3) := by decide +kernel
theorem dX7_mould_68 : decode cX7_mould 68 = .ok (.goto 10, 3) := by decide +kernel
theorem dX7_mould_71 : decode cX7_mould 71 = .ok (.aload_n 0, 1) := by decide +kernel
theorem dX7_mould_72 : decode cX7_mould 72 = .ok (.getfield 43, 3) := by decide +kernel
theorem dX7_mould_75 : decode cX7_mould 75 = .ok (.getfield 272, 3) := by decide +kernel
theorem dX7_mould_78 : decode cX7_mould 78 = .ok (.lreturn, 1) := by decide +kernel
theorem dX7_drawn_0 : decode cX7_drawn 0 = .ok (.aload_n 0, 1) := by decide +kernel
theorem dX7_drawn_1 : decode cX7_drawn 1 = .ok (.invokevirtual 146, 3) := by decide +kernel
theorem dX7_drawn_4 : decode cX7_drawn 4 = .ok (.ifCond .eq 6, 3) := by decide +kernel
theorem dX7_drawn_7 : decode cX7_drawn 7 = .ok (.ldc 145, 2) := by decide +kernel
theorem dX7_drawn_9 : decode cX7_drawn 9 = .ok (.ireturn, 1) := by decide +kernel
theorem dX7_drawn_10 : decode cX7_drawn 10 = .ok (.iload_n 1, 1) := by decide +kernel
theorem dX7_drawn_11 : decode cX7_drawn 11 = .ok (.iconst 0, 1) := by decide +kernel
theorem dX7_drawn_12 : decode cX7_drawn 12 = .ok (.bipush 60, 2) := by decide +kernel
theorem dX7_drawn_14 : decode cX7_drawn 14 = .ok (.invokestatic 62, 3) := by decide +kernel
theorem dX7_drawn_17 : decode cX7_drawn 17 = .ok (.ifCond .eq 21, 3) := by decide +kernel
theorem dX7_drawn_20 : decode cX7_drawn 20 = .ok (.iload_n 2, 1) := by decide +kernel
theorem dX7_drawn_21 : decode cX7_drawn 21 = .ok (.iconst 1, 1) := by decide +kernel
theorem dX7_drawn_22 : decode cX7_drawn 22 = .ok (.ldc_w 275, 3) := by decide +kernel
theorem dX7_drawn_25 : decode cX7_drawn 25 = .ok (.invokestatic 62, 3) := by decide +kernel
theorem dX7_drawn_28 : decode cX7_drawn 28 = .ok (.ifCond .eq 10, 3) := by decide +kernel
theorem dX7_drawn_31 : decode cX7_drawn 31 = .ok (.iload_n 3, 1) := by decide +kernel
theorem dX7_drawn_32 : decode cX7_drawn 32 = .ok (.invokestatic 199, 3) := by decide +kernel
theorem dX7_drawn_35 : decode cX7_drawn 35 = .ok (.ifCond .ne 6, 3) := by decide +kernel
theorem dX7_drawn_38 : decode cX7_drawn 38 = .ok (.ldc 66, 2) := by decide +kernel
theorem dX7_drawn_40 : decode cX7_drawn 40 = .ok (.ireturn, 1) := by decide +kernel
theorem dX7_drawn_41 : decode cX7_drawn 41 = .ok (.aload_n 0, 1) := by decide +kernel
theorem dX7_drawn_42 : decode cX7_drawn 42 = .ok (.getfield 43, 3) := by decide +kernel
theorem dX7_drawn_45 : decode cX7_drawn 45 = .ok (.aload_n 0, 1) := by decide +kernel
theorem dX7_drawn_46 : decode cX7_drawn 46 = .ok (.getfield 26, 3) := by decide +kernel
theorem dX7_drawn_49 : decode cX7_drawn 49 = .ok (.iload_n 1, 1) := by decide +kernel
theorem dX7_drawn_50 : decode cX7_drawn 50 = .ok (.iload_n 2, 1) := by decide +kernel
theorem dX7_drawn_51 : decode cX7_drawn 51 = .ok (.invokevirtual 276, 3) := by decide +kernel
theorem dX7_drawn_54 : decode cX7_drawn 54 = .ok (.iload_n 3, 1) := by decide +kernel
theorem dX7_drawn_55 : decode cX7_drawn 55 = .ok (.ifCond .ne 13, 3) := by decide +kernel
theorem dX7_drawn_58 : decode cX7_drawn 58 = .ok (.aload_n 0, 1) := by decide +kernel
theorem dX7_drawn_59 : decode cX7_drawn 59 = .ok (.getfield 43, 3) := by decide +kernel
theorem dX7_drawn_62 : decode cX7_drawn 62 = .ok (.getfield 214, 3) := by decide +kernel
theorem dX7_drawn_65 : decode cX7_drawn 65 = .ok (.goto 10, 3) := by decide +kernel
theorem dX7_drawn_68 : decode cX7_drawn 68 = .ok (.aload_n 0, 1) := by decide +kernel
theorem dX7_drawn_69 : decode cX7_drawn 69 = .ok (.getfield 43, 3) := by decide +kernel
theorem dX7_drawn_72 : decode cX7_drawn 72 = .ok (.getfield 217, 3) := by decide +kernel
theorem dX7_drawn_75 : decode cX7_drawn 75 = .ok (.ireturn, 1) := by decide +kernel
theorem dX7_image_0 : decode cX7_image 0 = .ok (.iload_n 1, 1) := by decide +kernel
theorem dX7_image_1 : decode cX7_image 1 = .ok (.iconst 0, 1) := by decide +kernel
theorem dX7_image_2 : decode cX7_image 2 = .ok (.iconst 1, 1) := by decide +kernel
theorem dX7_image_3 : decode cX7_image 3 = .ok (.invokestatic 62, 3) := by decide +kernel
theorem dX7_image_6 : decode cX7_image 6 = .ok (.ifCond .ne 6, 3) := by decide +kernel
theorem dX7_image_9 : decode cX7_image 9 = .ok (.ldc 66, 2) := by decide +kernel
theorem dX7_image_11 : decode cX7_image 11 = .ok (.ireturn, 1) := by decide +kernel
theorem dX7_image_12 : decode cX7_image 12 = .ok (.aload_n 0, 1) := by decide +kernel
theorem dX7_image_13 : decode cX7_image 13 = .ok (.invokevirtual 146, 3) := by decide +kernel
theorem dX7_image_16 : decode cX7_image 16 = .ok (.ifCond .eq 6, 3) := by decide +kernel
theorem dX7_image_19 : decode cX7_image 19 = .ok (.ldc 145, 2) := by decide +kernel
theorem dX7_image_21 : decode cX7_image 21 = .ok (.ireturn, 1) := by decide +kernel
theorem dX7_image_22 : decode cX7_image 22 = .ok (.aload_n 0, 1) := by decide +kernel
theorem dX7_image_23 : decode cX7_image 23 = .ok (.getfield 54, 3) := by decide +kernel
theorem dX7_image_26 : decode cX7_image 26 = .ok (.iload_n 1, 1) := by decide +kernel
theorem dX7_image_27 : decode cX7_image 27 = .ok (.aaload, 1) := by decide +kernel
theorem dX7_image_28 : decode cX7_image 28 = .ok (.ifnonnull 16, 3) := by decide +kernel
theorem dX7_image_31 : decode cX7_image 31 = .ok (.aload_n 0, 1) := by decide +kernel
theorem dX7_image_32 : decode cX7_image 32 = .ok (.getfield 54, 3) := by decide +kernel
theorem dX7_image_35 : decode cX7_image 35 = .ok (.iload_n 1, 1) := by decide +kernel
theorem dX7_image_36 : decode cX7_image 36 = .ok (.new 23, 3) := by decide +kernel
theorem dX7_image_39 : decode cX7_image 39 = .ok (.dup, 1) := by decide +kernel
theorem dX7_image_40 : decode cX7_image 40 = .ok (.invokespecial 25, 3) := by decide +kernel
theorem dX7_image_43 : decode cX7_image 43 = .ok (.aastore, 1) := by decide +kernel
theorem dX7_image_44 : decode cX7_image 44 = .ok (.aload_n 0, 1) := by decide +kernel
theorem dX7_image_45 : decode cX7_image 45 = .ok (.getfield 54, 3) := by decide +kernel
theorem dX7_image_48 : decode cX7_image 48 = .ok (.iload_n 1, 1) := by decide +kernel
theorem dX7_image_49 : decode cX7_image 49 = .ok (.aaload, 1) := by decide +kernel
theorem dX7_image_50 : decode cX7_image 50 = .ok (.aload_n 0, 1) := by decide +kernel
theorem dX7_image_51 : decode cX7_image 51 = .ok (.getfield 26, 3) := by decide +kernel
theorem dX7_image_54 : decode cX7_image 54 = .ok (.invokevirtual 131, 3) := by decide +kernel
theorem dX7_image_57 : decode cX7_image 57 = .ok (.iconst 1, 1) := by decide +kernel
theorem dX7_image_58 : decode cX7_image 58 = .ok (.ireturn, 1) := by decide +kernel
theorem dX7_restore_0 : decode cX7_restore 0 = .ok (.iload_n 1, 1) := by decide +kernel
theorem dX7_restore_1 : decode cX7_restore 1 = .ok (.iconst 0, 1) := by decide +kernel
theorem dX7_restore_2 : decode cX7_restore 2 = .ok (.iconst 1, 1) := by decide +kernel
theorem dX7_restore_3 : decode cX7_restore 3 = .ok (.invokestatic 62, 3) := by decide +kernel
theorem dX7_restore_6 : decode cX7_restore 6 = .ok (.ifCond .ne 6, 3) := by decide +kernel
theorem dX7_restore_9 : decode cX7_restore 9 = .ok (.ldc 66, 2) := by decide +kernel
theorem dX7_restore_11 : decode cX7_restore 11 = .ok (.ireturn, 1) := by decide +kernel
theorem dX7_restore_12 : decode cX7_restore 12 = .ok (.aload_n 0, 1) := by decide +kernel
theorem dX7_restore_13 : decode cX7_restore 13 = .ok (.getfield 54, 3) := by decide +kernel
theorem dX7_restore_16 : decode cX7_restore 16 = .ok (.iload_n 1, 1) := by decide +kernel
theorem dX7_restore_17 : decode cX7_restore 17 = .ok (.aaload, 1) := by decide +kernel
theorem dX7_restore_18 : decode cX7_restore 18 = .ok (.ifnonnull 6, 3) := by decide +kernel
theorem dX7_restore_21 : decode cX7_restore 21 = .ok (.ldc 145, 2) := by decide +kernel
theorem dX7_restore_23 : decode cX7_restore 23 = .ok (.ireturn, 1) := by decide +kernel
theorem dX7_restore_24 : decode cX7_restore 24 = .ok (.aload_n 0, 1) := by decide +kernel
theorem dX7_restore_25 : decode cX7_restore 25 = .ok (.getfield 26, 3) := by decide +kernel
theorem dX7_restore_28 : decode cX7_restore 28 = .ok (.aload_n 0, 1) := by decide +kernel
theorem dX7_restore_29 : decode cX7_restore 29 = .ok (.getfield 54, 3) := by decide +kernel
theorem dX7_restore_32 : decode cX7_restore 32 = .ok (.iload_n 1, 1) := by decide +kernel
theorem dX7_restore_33 : decode cX7_restore 33 = .ok (.aaload, 1) := by decide +kernel
theorem dX7_restore_34 : decode cX7_restore 34 = .ok (.invokevirtual 131, 3) := by decide +kernel
theorem dX7_restore_37 : decode cX7_restore 37 = .ok (.aload_n 0, 1) := by decide +kernel
theorem dX7_restore_38 : decode cX7_restore 38 = .ok (.getfield 36, 3) := by decide +kernel
theorem dX7_restore_41 : decode cX7_restore 41 = .ok (.invokevirtual 135, 3) := by decide +kernel
theorem dX7_restore_44 : decode cX7_restore 44 = .ok (.iconst 1, 1) := by decide +kernel
theorem dX7_restore_45 : decode cX7_restore 45 = .ok (.ireturn, 1) := by decide +kernel
theorem dX7_kind_0 : decode cX7_kind 0 = .ok (.aload_n 0, 1) := by decide +kernel
theorem dX7_kind_1 : decode cX7_kind 1 = .ok (.iload_n 1, 1) := by decide +kernel
theorem dX7_kind_2 : decode cX7_kind 2 = .ok (.invokevirtual 174, 3) := by decide +kernel
theorem dX7_kind_5 : decode cX7_kind 5 = .ok (.ifCond .eq 15, 3) := by decide +kernel
theorem dX7_kind_8 : decode cX7_kind 8 = .ok (.aload_n 0, 1) := by decide +kernel
theorem dX7_kind_9 : decode cX7_kind 9 = .ok (.getfield 26, 3) := by decide +kernel
theorem dX7_kind_12 : decode cX7_kind 12 = .ok (.getfield 280, 3) := by decide +kernel
theorem dX7_kind_15 : decode cX7_kind 15 = .ok (.iload_n 1, 1) := by decide +kernel
theorem dX7_kind_16 : decode cX7_kind 16 = .ok (.iaload, 1) := by decide +kernel
theorem dX7_kind_17 : decode cX7_kind 17 = .ok (.goto 5, 3) := by decide +kernel
theorem dX7_kind_20 : decode cX7_kind 20 = .ok (.ldc 66, 2) := by decide +kernel
theorem dX7_kind_22 : decode cX7_kind 22 = .ok (.ireturn, 1) := by decide +kernel
theorem dX7_as_0 : decode cX7_as 0 = .ok (.aload_n 0, 1) := by decide +kernel
theorem dX7_as_1 : decode cX7_as 1 = .ok (.iload_n 1, 1) := by decide +kernel
theorem dX7_as_2 : decode cX7_as 2 = .ok (.invokevirtual 174, 3) := by decide +kernel
theorem dX7_as_5 : decode cX7_as 5 = .ok (.ifCond .eq 12, 3) := by decide +kernel
theorem dX7_as_8 : decode cX7_as 8 = .ok (.iload_n 2, 1) := by decide +kernel
theorem dX7_as_9 : decode cX7_as 9 = .ok (.iconst 0, 1) := by decide +kernel
theorem dX7_as_10 : decode cX7_as 10 = .ok (.iconst 5, 1) := by decide +kernel
theorem dX7_as_11 : decode cX7_as 11 = .ok (.invokestatic 62, 3) := by decide +kernel
theorem dX7_as_14 : decode cX7_as 14 = .ok (.ifCond .ne 6, 3) := by decide +kernel
theorem dX7_as_17 : decode cX7_as 17 = .ok (.ldc 66, 2) := by decide +kernel
theorem dX7_as_19 : decode cX7_as 19 = .ok (.ireturn, 1) := by decide +kernel
theorem dX7_as_20 : decode cX7_as 20 = .ok (.aload_n 0, 1) := by decide +kernel
theorem dX7_as_21 : decode cX7_as 21 = .ok (.getfield 26, 3) := by decide +kernel
theorem dX7_as_24 : decode cX7_as 24 = .ok (.getfield 280, 3) := by decide +kernel
theorem dX7_as_27 : decode cX7_as 27 = .ok (.iload_n 1, 1) := by decide +kernel
theorem dX7_as_28 : decode cX7_as 28 = .ok (.iaload, 1) := by decide +kernel
theorem dX7_as_29 : decode cX7_as 29 = .ok (.iload_n 2, 1) := by decide +kernel
theorem dX7_as_30 : decode cX7_as 30 = .ok (.invokestatic 283, 3) := by decide +kernel
theorem dX7_as_33 : decode cX7_as 33 = .ok (.ifCond .eq 11, 3) := by decide +kernel
theorem dX7_as_36 : decode cX7_as 36 = .ok (.aload_n 0, 1) := by decide +kernel
theorem dX7_as_37 : decode cX7_as 37 = .ok (.iload_n 1, 1) := by decide +kernel
theorem dX7_as_38 : decode cX7_as 38 = .ok (.invokevirtual 75, 3) := by decide +kernel
theorem dX7_as_41 : decode cX7_as 41 = .ok (.goto 8, 3) := by decide +kernel
theorem dX7_as_44 : decode cX7_as 44 = .ok (.aload_n 0, 1) := by decide +kernel
theorem dX7_as_45 : decode cX7_as 45 = .ok (.iconst 3, 1) := by decide +kernel
theorem dX7_as_46 : decode cX7_as 46 = .ok (.invokevirtual 67, 3) := by decide +kernel
theorem dX7_as_49 : decode cX7_as 49 = .ok (.ireturn, 1) := by decide +kernel
theorem dX7_ask_0 : decode cX7_ask 0 = .ok (.aload_n 0, 1) := by decide +kernel
theorem dX7_ask_1 : decode cX7_ask 1 = .ok (.iload_n 1, 1) := by decide +kernel
theorem dX7_ask_2 : decode cX7_ask 2 = .ok (.invokevirtual 174, 3) := by decide +kernel
theorem dX7_ask_5 : decode cX7_ask 5 = .ok (.ifCond .eq 10, 3) := by decide +kernel
theorem dX7_ask_8 : decode cX7_ask 8 = .ok (.iload_n 2, 1) := by decide +kernel
theorem dX7_ask_9 : decode cX7_ask 9 = .ok (.invokestatic 199, 3) := by decide +kernel
theorem dX7_ask_12 : decode cX7_ask 12 = .ok (.ifCond .ne 6, 3) := by decide +kernel
theorem dX7_ask_15 : decode cX7_ask 15 = .ok (.ldc 66, 2) := by decide +kernel
theorem dX7_ask_17 : decode cX7_ask 17 = .ok (.ireturn, 1) := by decide +kernel
theorem dX7_ask_18 : decode cX7_ask 18 = .ok (.aload_n 0, 1) := by decide +kernel
theorem dX7_ask_19 : decode cX7_ask 19 = .ok (.getfield 50, 3) := by decide +kernel
theorem dX7_ask_22 : decode cX7_ask 22 = .ok (.aload_n 0, 1) := by decide +kernel
theorem dX7_ask_23 : decode cX7_ask 23 = .ok (.getfield 26, 3) := by decide +kernel
theorem dX7_ask_26 : decode cX7_ask 26 = .ok (.iload_n 1, 1) := by decide +kernel
theorem dX7_ask_27 : decode cX7_ask 27 = .ok (.iload_n 2, 1) := by decide +kernel
theorem dX7_ask_28 : decode cX7_ask 28 = .ok (.invokevirtual 286, 3) := by decide +kernel
theorem dX7_ask_31 : decode cX7_ask 31 = .ok (.ireturn, 1) := by decide +kernel
theorem dX7_trace_0 : decode cX7_trace 0 = .ok (.iload_n 1, 1) := by decide +kernel
theorem dX7_trace_1 : decode cX7_trace 1 = .ok (.iconst 0, 1) := by decide +kernel
theorem dX7_trace_2 : decode cX7_trace 2 = .ok (.aload_n 0, 1) := by decide +kernel
theorem dX7_trace_3 : decode cX7_trace 3 = .ok (.getfield 50, 3) := by decide +kernel
theorem dX7_trace_6 : decode cX7_trace 6 = .ok (.getfield 289, 3) := by decide +kernel
theorem dX7_trace_9 : decode cX7_trace 9 = .ok (.iconst 1, 1) := by decide +kernel
theorem dX7_trace_10 : decode cX7_trace 10 = .ok (.isub, 1) := by decide +kernel
theorem dX7_trace_11 : decode cX7_trace 11 = .ok (.invokestatic 62, 3) := by decide +kernel
theorem dX7_trace_14 : decode cX7_trace 14 = .ok (.ifCond .eq 15, 3) := by decide +kernel
theorem dX7_trace_17 : decode cX7_trace 17 = .ok (.aload_n 0, 1) := by decide +kernel
theorem dX7_trace_18 : decode cX7_trace 18 = .ok (.getfield 50, 3) := by decide +kernel
theorem dX7_trace_21 : decode cX7_trace 21 = .ok (.getfield 290, 3) := by decide +kernel
theorem dX7_trace_24 : decode cX7_trace 24 = .ok (.iload_n 1, 1) := by decide +kernel
theorem dX7_trace_25 : decode cX7_trace 25 = .ok (.iaload, 1) := by decide +kernel
theorem dX7_trace_26 : decode cX7_trace 26 = .ok (.goto 5, 3) := by decide +kernel
theorem dX7_trace_29 : decode cX7_trace 29 = .ok (.ldc 220, 2) := by decide +kernel
theorem dX7_trace_31 : decode cX7_trace 31 = .ok (.ireturn, 1) := by decide +kernel
theorem dX7_count_0 : decode cX7_count 0 = .ok (.iload_n 1, 1) := by decide +kernel
theorem dX7_count_1 : decode cX7_count 1 = .ok (.tableswitch 119 0 7 #[47, 55, 63, 71, 79, 91, 103, 111], 47) := by decide +kernel
theorem dX7_count_48 : decode cX7_count 48 = .ok (.aload_n 0, 1) := by decide +kernel
theorem dX7_count_49 : decode cX7_count 49 = .ok (.getfield 10, 3) := by decide +kernel
theorem dX7_count_52 : decode cX7_count 52 = .ok (.invokevirtual 293, 3) := by decide +kernel
theorem dX7_count_55 : decode cX7_count 55 = .ok (.ireturn, 1) := by decide +kernel
theorem dX7_count_56 : decode cX7_count 56 = .ok (.aload_n 0, 1) := by decide +kernel
theorem dX7_count_57 : decode cX7_count 57 = .ok (.getfield 26, 3) := by decide +kernel
theorem dX7_count_60 : decode cX7_count 60 = .ok (.getfield 138, 3) := by decide +kernel
theorem dX7_count_63 : decode cX7_count 63 = .ok (.ireturn, 1) := by decide +kernel
theorem dX7_count_64 : decode cX7_count 64 = .ok (.aload_n 0, 1) := by decide +kernel
theorem dX7_count_65 : decode cX7_count 65 = .ok (.getfield 26, 3) := by decide +kernel
theorem dX7_count_68 : decode cX7_count 68 = .ok (.getfield 150, 3) := by decide +kernel
theorem dX7_count_71 : decode cX7_count 71 = .ok (.ireturn, 1) := by decide +kernel
theorem dX7_count_72 : decode cX7_count 72 = .ok (.aload_n 0, 1) := by decide +kernel
theorem dX7_count_73 : decode cX7_count 73 = .ok (.getfield 26, 3) := by decide +kernel
theorem dX7_count_76 : decode cX7_count 76 = .ok (.getfield 196, 3) := by decide +kernel
theorem dX7_count_79 : decode cX7_count 79 = .ok (.ireturn, 1) := by decide +kernel
theorem dX7_count_80 : decode cX7_count 80 = .ok (.aload_n 0, 1) := by decide +kernel
theorem dX7_count_81 : decode cX7_count 81 = .ok (.getfield 26, 3) := by decide +kernel
theorem dX7_count_84 : decode cX7_count 84 = .ok (.iconst 0, 1) := by decide +kernel
theorem dX7_count_85 : decode cX7_count 85 = .ok (.invokevirtual 159, 3) := by decide +kernel
theorem dX7_count_88 : decode cX7_count 88 = .ok (.invokestatic 296, 3) := by decide +kernel
theorem dX7_count_91 : decode cX7_count 91 = .ok (.ireturn, 1) := by decide +kernel
theorem dX7_count_92 : decode cX7_count 92 = .ok (.aload_n 0, 1) := by decide +kernel
theorem dX7_count_93 : decode cX7_count 93 = .ok (.getfield 26, 3) := by decide +kernel
theorem dX7_count_96 : decode cX7_count 96 = .ok (.iconst 1, 1) := by decide +kernel
theorem dX7_count_97 : decode cX7_count 97 = .ok (.invokevirtual 159, 3) := by decide +kernel
theorem dX7_count_100 : decode cX7_count 100 = .ok (.invokestatic 296, 3) := by decide +kernel
theorem dX7_count_103 : decode cX7_count 103 = .ok (.ireturn, 1) := by decide +kernel
theorem dX7_count_104 : decode cX7_count 104 = .ok (.aload_n 0, 1) := by decide +kernel
theorem dX7_count_105 : decode cX7_count 105 = .ok (.getfield 36, 3) := by decide +kernel
theorem dX7_count_108 : decode cX7_count 108 = .ok (.getfield 144, 3) := by decide +kernel
theorem dX7_count_111 : decode cX7_count 111 = .ok (.ireturn, 1) := by decide +kernel
theorem dX7_count_112 : decode cX7_count 112 = .ok (.aload_n 0, 1) := by decide +kernel
theorem dX7_count_113 : decode cX7_count 113 = .ok (.getfield 19, 3) := by decide +kernel
theorem dX7_count_116 : decode cX7_count 116 = .ok (.getfield 112, 3) := by decide +kernel
theorem dX7_count_119 : decode cX7_count 119 = .ok (.ireturn, 1) := by decide +kernel
theorem dX7_count_120 : decode cX7_count 120 = .ok (.ldc 66, 2) := by decide +kernel
theorem dX7_count_122 : decode cX7_count 122 = .ok (.ireturn, 1) := by decide +kernel
theorem dX7_status_0 : decode cX7_status 0 = .ok (.aload_n 0, 1) := by decide +kernel
theorem dX7_status_1 : decode cX7_status 1 = .ok (.getfield 301, 3) := by decide +kernel
theorem dX7_status_4 : decode cX7_status 4 = .ok (.ireturn, 1) := by decide +kernel
theorem dX7_found_0 : decode cX7_found 0 = .ok (.aload_n 0, 1) := by decide +kernel
theorem dX7_found_1 : decode cX7_found 1 = .ok (.iload_n 1, 1) := by decide +kernel
theorem dX7_found_2 : decode cX7_found 2 = .ok (.putfield 301, 3) := by decide +kernel
theorem dX7_found_5 : decode cX7_found 5 = .ok (.ldc_w 304, 3) := by decide +kernel
theorem dX7_found_8 : decode cX7_found 8 = .ok (.iload_n 1, 1) := by decide +kernel
theorem dX7_found_9 : decode cX7_found 9 = .ok (.isub, 1) := by decide +kernel
theorem dX7_found_10 : decode cX7_found 10 = .ok (.ireturn, 1) := by decide +kernel
theorem dX7_fine_0 : decode cX7_fine 0 = .ok (.aload_n 0, 1) := by decide +kernel
theorem dX7_fine_1 : decode cX7_fine 1 = .ok (.iconst 0, 1) := by decide +kernel
theorem dX7_fine_2 : decode cX7_fine 2 = .ok (.putfield 301, 3) := by decide +kernel
theorem dX7_fine_5 : decode cX7_fine 5 = .ok (.iload_n 1, 1) := by decide +kernel
theorem dX7_fine_6 : decode cX7_fine 6 = .ok (.ireturn, 1) := by decide +kernel
theorem dX7_noCellar_0 : decode cX7_noCellar 0 = .ok (.aload_n 0, 1) := by decide +kernel
theorem dX7_noCellar_1 : decode cX7_noCellar 1 = .ok (.getfield 26, 3) := by decide +kernel
theorem dX7_noCellar_4 : decode cX7_noCellar 4 = .ok (.getfield 138, 3) := by decide +kernel
theorem dX7_noCellar_7 : decode cX7_noCellar 7 = .ok (.ifCond .ne 7, 3) := by decide +kernel
theorem dX7_noCellar_10 : decode cX7_noCellar 10 = .ok (.iconst 1, 1) := by decide +kernel
theorem dX7_noCellar_11 : decode cX7_noCellar 11 = .ok (.goto 4, 3) := by decide +kernel
theorem dX7_noCellar_14 : decode cX7_noCellar 14 = .ok (.iconst 0, 1) := by decide +kernel
theorem dX7_noCellar_15 : decode cX7_noCellar 15 = .ok (.ireturn, 1) := by decide +kernel
theorem dX7_isJar_0 : decode cX7_isJar 0 = .ok (.iload_n 1, 1) := by decide +kernel
theorem dX7_isJar_1 : decode cX7_isJar 1 = .ok (.iconst 0, 1) := by decide +kernel
theorem dX7_isJar_2 : decode cX7_isJar 2 = .ok (.aload_n 0, 1) := by decide +kernel
theorem dX7_isJar_3 : decode cX7_isJar 3 = .ok (.getfield 26, 3) := by decide +kernel
theorem dX7_isJar_6 : decode cX7_isJar 6 = .ok (.getfield 138, 3) := by decide +kernel
theorem dX7_isJar_9 : decode cX7_isJar 9 = .ok (.iconst 1, 1) := by decide +kernel
theorem dX7_isJar_10 : decode cX7_isJar 10 = .ok (.isub, 1) := by decide +kernel
theorem dX7_isJar_11 : decode cX7_isJar 11 = .ok (.invokestatic 62, 3) := by decide +kernel
theorem dX7_isJar_14 : decode cX7_isJar 14 = .ok (.ireturn, 1) := by decide +kernel
theorem dX7_isPlace_0 : decode cX7_isPlace 0 = .ok (.iload_n 1, 1) := by decide +kernel
theorem dX7_isPlace_1 : decode cX7_isPlace 1 = .ok (.iconst 0, 1) := by decide +kernel
theorem dX7_isPlace_2 : decode cX7_isPlace 2 = .ok (.aload_n 0, 1) := by decide +kernel
theorem dX7_isPlace_3 : decode cX7_isPlace 3 = .ok (.getfield 26, 3) := by decide +kernel
theorem dX7_isPlace_6 : decode cX7_isPlace 6 = .ok (.getfield 138, 3) := by decide +kernel
theorem dX7_isPlace_9 : decode cX7_isPlace 9 = .ok (.iconst 1, 1) := by decide +kernel
theorem dX7_isPlace_10 : decode cX7_isPlace 10 = .ok (.isub, 1) := by decide +kernel
theorem dX7_isPlace_11 : decode cX7_isPlace 11 = .ok (.invokestatic 62, 3) := by decide +kernel
theorem dX7_isPlace_14 : decode cX7_isPlace 14 = .ok (.ireturn, 1) := by decide +kernel
theorem dX7_isSneeze_0 : decode cX7_isSneeze 0 = .ok (.iload_n 1, 1) := by decide +kernel
theorem dX7_isSneeze_1 : decode cX7_isSneeze 1 = .ok (.invokestatic 190, 3) := by decide +kernel
theorem dX7_isSneeze_4 : decode cX7_isSneeze 4 = .ok (.ifCond .eq 15, 3) := by decide +kernel
theorem dX7_isSneeze_7 : decode cX7_isSneeze 7 = .ok (.aload_n 0, 1) := by decide +kernel
theorem dX7_isSneeze_8 : decode cX7_isSneeze 8 = .ok (.iload_n 2, 1) := by decide +kernel
theorem dX7_isSneeze_9 : decode cX7_isSneeze 9 = .ok (.invokevirtual 248, 3) := by decide +kernel
theorem dX7_isSneeze_12 : decode cX7_isSneeze 12 = .ok (.ifCond .eq 7, 3) := by decide +kernel
theorem dX7_isSneeze_15 : decode cX7_isSneeze 15 = .ok (.iconst 1, 1) := by decide +kernel
theorem dX7_isSneeze_16 : decode cX7_isSneeze 16 = .ok (.goto 4, 3) := by decide +kernel
theorem dX7_isSneeze_19 : decode cX7_isSneeze 19 = .ok (.iconst 0, 1) := by decide +kernel
theorem dX7_isSneeze_20 : decode cX7_isSneeze 20 = .ok (.ireturn, 1) := by decide +kernel
theorem dX7_isNote_0 : decode cX7_isNote 0 = .ok (.iload_n 0, 1) := by decide +kernel
theorem dX7_isNote_1 : decode cX7_isNote 1 = .ok (.iconst 0, 1) := by decide +kernel
theorem dX7_isNote_2 : decode cX7_isNote 2 = .ok (.bipush 11, 2) := by decide +kernel
theorem dX7_isNote_4 : decode cX7_isNote 4 = .ok (.invokestatic 62, 3) := by decide +kernel
theorem dX7_isNote_7 : decode cX7_isNote 7 = .ok (.ireturn, 1) := by decide +kernel
theorem dX7_isRow_0 : decode cX7_isRow 0 = .ok (.iload_n 0, 1) := by decide +kernel
theorem dX7_isRow_1 : decode cX7_isRow 1 = .ok (.iconst 0, 1) := by decide +kernel
theorem dX7_isRow_2 : decode cX7_isRow 2 = .ok (.bipush 7, 2) := by decide +kernel
theorem dX7_isRow_4 : decode cX7_isRow 4 = .ok (.invokestatic 62, 3) := by decide +kernel
theorem dX7_isRow_7 : decode cX7_isRow 7 = .ok (.ireturn, 1) := by decide +kernel
theorem dX7_isHalf_0 : decode cX7_isHalf 0 = .ok (.iload_n 0, 1) := by decide +kernel
theorem dX7_isHalf_1 : decode cX7_isHalf 1 = .ok (.iconst 0, 1) := by decide +kernel
theorem dX7_isHalf_2 : decode cX7_isHalf 2 = .ok (.iconst 1, 1) := by decide +kernel
theorem dX7_isHalf_3 : decode cX7_isHalf 3 = .ok (.invokestatic 62, 3) := by decide +kernel
theorem dX7_isHalf_6 : decode cX7_isHalf 6 = .ok (.ireturn, 1) := by decide +kernel
theorem dX7_within_0 : decode cX7_within 0 = .ok (.iload_n 0, 1) := by decide +kernel
theorem dX7_within_1 : decode cX7_within 1 = .ok (.iload_n 1, 1) := by decide +kernel
theorem dX7_within_2 : decode cX7_within 2 = .ok (.if_icmp .lt 12, 3) := by decide +kernel
theorem dX7_within_5 : decode cX7_within 5 = .ok (.iload_n 0, 1) := by decide +kernel
theorem dX7_within_6 : decode cX7_within 6 = .ok (.iload_n 2, 1) := by decide +kernel
theorem dX7_within_7 : decode cX7_within 7 = .ok (.if_icmp .gt 7, 3) := by decide +kernel
theorem dX7_within_10 : decode cX7_within 10 = .ok (.iconst 1, 1) := by decide +kernel
theorem dX7_within_11 : decode cX7_within 11 = .ok (.goto 4, 3) := by decide +kernel
theorem dX7_within_14 : decode cX7_within 14 = .ok (.iconst 0, 1) := by decide +kernel
theorem dX7_within_15 : decode cX7_within 15 = .ok (.ireturn, 1) := by decide +kernel
theorem dX7_has_0 : decode cX7_has 0 = .ok (.iload_n 0, 1) := by decide +kernel
theorem dX7_has_1 : decode cX7_has 1 = .ok (.iload_n 1, 1) := by decide +kernel
theorem dX7_has_2 : decode cX7_has 2 = .ok (.ishr, 1) := by decide +kernel
theorem dX7_has_3 : decode cX7_has 3 = .ok (.iconst 1, 1) := by decide +kernel
theorem dX7_has_4 : decode cX7_has 4 = .ok (.iand, 1) := by decide +kernel
theorem dX7_has_5 : decode cX7_has 5 = .ok (.ifCond .eq 7, 3) := by decide +kernel
theorem dX7_has_8 : decode cX7_has 8 = .ok (.iconst 1, 1) := by decide +kernel
theorem dX7_has_9 : decode cX7_has 9 = .ok (.goto 4, 3) := by decide +kernel
theorem dX7_has_12 : decode cX7_has 12 = .ok (.iconst 0, 1) := by decide +kernel
theorem dX7_has_13 : decode cX7_has 13 = .ok (.ireturn, 1) := by decide +kernel
theorem dX7_isA_0 : decode cX7_isA 0 = .ok (.iload_n 0, 1) := by decide +kernel
theorem dX7_isA_1 : decode cX7_isA 1 = .ok (.istore_n 2, 1) := by decide +kernel
theorem dX7_isA_2 : decode cX7_isA 2 = .ok (.iconst 0, 1) := by decide +kernel
theorem dX7_isA_3 : decode cX7_isA 3 = .ok (.istore_n 3, 1) := by decide +kernel
theorem dX7_isA_4 : decode cX7_isA 4 = .ok (.iload_n 3, 1) := by decide +kernel
theorem dX7_isA_5 : decode cX7_isA 5 = .ok (.bipush 6, 2) := by decide +kernel
theorem dX7_isA_7 : decode cX7_isA 7 = .ok (.if_icmp .ge 31, 3) := by decide +kernel
theorem dX7_isA_10 : decode cX7_isA 10 = .ok (.iload_n 2, 1) := by decide +kernel
theorem dX7_isA_11 : decode cX7_isA 11 = .ok (.iconst 0, 1) := by decide +kernel
theorem dX7_isA_12 : decode cX7_isA 12 = .ok (.iconst 5, 1) := by decide +kernel
theorem dX7_isA_13 : decode cX7_isA 13 = .ok (.invokestatic 62, 3) := by decide +kernel
theorem dX7_isA_16 : decode cX7_isA 16 = .ok (.ifCond .eq 22, 3) := by decide +kernel
theorem dX7_isA_19 : decode cX7_isA 19 = .ok (.iload_n 2, 1) := by decide +kernel
theorem dX7_isA_20 : decode cX7_isA 20 = .ok (.iload_n 1, 1) := by decide +kernel
theorem dX7_isA_21 : decode cX7_isA 21 = .ok (.if_icmp .ne 5, 3) := by decide +kernel
theorem dX7_isA_24 : decode cX7_isA 24 = .ok (.iconst 1, 1) := by decide +kernel
theorem dX7_isA_25 : decode cX7_isA 25 = .ok (.ireturn, 1) := by decide +kernel
theorem dX7_isA_26 : decode cX7_isA 26 = .ok (.getstatic 305, 3) := by decide +kernel
theorem dX7_isA_29 : decode cX7_isA 29 = .ok (.iload_n 2, 1) := by decide +kernel
theorem dX7_isA_30 : decode cX7_isA 30 = .ok (.iaload, 1) := by decide +kernel
theorem dX7_isA_31 : decode cX7_isA 31 = .ok (.istore_n 2, 1) := by decide +kernel
theorem dX7_isA_32 : decode cX7_isA 32 = .ok (.iinc 3 1, 3) := by decide +kernel
theorem dX7_isA_35 : decode cX7_isA 35 = .ok (.goto (-31), 3) := by decide +kernel
theorem dX7_isA_38 : decode cX7_isA 38 = .ok (.iconst 0, 1) := by decide +kernel
theorem dX7_isA_39 : decode cX7_isA 39 = .ok (.ireturn, 1) := by decide +kernel
end
section
theorem dX8_init_0 : decode cX8_init 0 = .ok (.aload_n 0, 1) := by decide +kernel
theorem dX8_init_1 : decode cX8_init 1 = .ok (.invokespecial 1, 3) := by decide +kernel
theorem dX8_init_4 : decode cX8_init 4 = .ok (.aload_n 0, 1) := by decide +kernel
theorem dX8_init_5 : decode cX8_init 5 = .ok (.bipush 8, 2) := by decide +kernel
theorem dX8_init_7 : decode cX8_init 7 = .ok (.newarray .int, 2) := by decide +kernel
theorem dX8_init_9 : decode cX8_init 9 = .ok (.dup, 1) := by decide +kernel
theorem dX8_init_10 : decode cX8_init 10 = .ok (.iconst 0, 1) := by decide +kernel
theorem dX8_init_11 : decode cX8_init 11 = .ok (.iconst (-1), 1) := by decide +kernel
theorem dX8_init_12 : decode cX8_init 12 = .ok (.iastore, 1) := by decide +kernel
theorem dX8_init_13 : decode cX8_init 13 = .ok (.dup, 1) := by decide +kernel
theorem dX8_init_14 : decode cX8_init 14 = .ok (.iconst 1, 1) := by decide +kernel
theorem dX8_init_15 : decode cX8_init 15 = .ok (.iconst (-1), 1) := by decide +kernel
theorem dX8_init_16 : decode cX8_init 16 = .ok (.iastore, 1) := by decide +kernel
theorem dX8_init_17 : decode cX8_init 17 = .ok (.dup, 1) := by decide +kernel
theorem dX8_init_18 : decode cX8_init 18 = .ok (.iconst 2, 1) := by decide +kernel
theorem dX8_init_19 : decode cX8_init 19 = .ok (.iconst (-1), 1) := by decide +kernel
theorem dX8_init_20 : decode cX8_init 20 = .ok (.iastore, 1) := by decide +kernel
theorem dX8_init_21 : decode cX8_init 21 = .ok (.dup, 1) := by decide +kernel
theorem dX8_init_22 : decode cX8_init 22 = .ok (.iconst 3, 1) := by decide +kernel
theorem dX8_init_23 : decode cX8_init 23 = .ok (.iconst (-1), 1) := by decide +kernel
theorem dX8_init_24 : decode cX8_init 24 = .ok (.iastore, 1) := by decide +kernel
theorem dX8_init_25 : decode cX8_init 25 = .ok (.dup, 1) := by decide +kernel
theorem dX8_init_26 : decode cX8_init 26 = .ok (.iconst 4, 1) := by decide +kernel
theorem dX8_init_27 : decode cX8_init 27 = .ok (.iconst (-1), 1) := by decide +kernel
theorem dX8_init_28 : decode cX8_init 28 = .ok (.iastore, 1) := by decide +kernel
theorem dX8_init_29 : decode cX8_init 29 = .ok (.dup, 1) := by decide +kernel
theorem dX8_init_30 : decode cX8_init 30 = .ok (.iconst 5, 1) := by decide +kernel
theorem dX8_init_31 : decode cX8_init 31 = .ok (.iconst (-1), 1) := by decide +kernel
theorem dX8_init_32 : decode cX8_init 32 = .ok (.iastore, 1) := by decide +kernel
theorem dX8_init_33 : decode cX8_init 33 = .ok (.dup, 1) := by decide +kernel
theorem dX8_init_34 : decode cX8_init 34 = .ok (.bipush 6, 2) := by decide +kernel
theorem dX8_init_36 : decode cX8_init 36 = .ok (.iconst (-1), 1) := by decide +kernel
theorem dX8_init_37 : decode cX8_init 37 = .ok (.iastore, 1) := by decide +kernel
theorem dX8_init_38 : decode cX8_init 38 = .ok (.dup, 1) := by decide +kernel
theorem dX8_init_39 : decode cX8_init 39 = .ok (.bipush 7, 2) := by decide +kernel
theorem dX8_init_41 : decode cX8_init 41 = .ok (.iconst (-1), 1) := by decide +kernel
theorem dX8_init_42 : decode cX8_init 42 = .ok (.iastore, 1) := by decide +kernel
theorem dX8_init_43 : decode cX8_init 43 = .ok (.putfield 7, 3) := by decide +kernel
theorem dX8_init_46 : decode cX8_init 46 = .ok (.aload_n 0, 1) := by decide +kernel
theorem dX8_init_47 : decode cX8_init 47 = .ok (.bipush 8, 2) := by decide +kernel
theorem dX8_init_49 : decode cX8_init 49 = .ok (.newarray .int, 2) := by decide +kernel
theorem dX8_init_51 : decode cX8_init 51 = .ok (.putfield 13, 3) := by decide +kernel
theorem dX8_init_54 : decode cX8_init 54 = .ok (.aload_n 0, 1) := by decide +kernel
theorem dX8_init_55 : decode cX8_init 55 = .ok (.sipush 320, 3) := by decide +kernel
theorem dX8_init_58 : decode cX8_init 58 = .ok (.newarray .int, 2) := by decide +kernel
theorem dX8_init_60 : decode cX8_init 60 = .ok (.putfield 16, 3) := by decide +kernel
theorem dX8_init_63 : decode cX8_init 63 = .ok (.aload_n 0, 1) := by decide +kernel
theorem dX8_init_64 : decode cX8_init 64 = .ok (.bipush 43, 2) := by decide +kernel
theorem dX8_init_66 : decode cX8_init 66 = .ok (.newarray .int, 2) := by decide +kernel
theorem dX8_init_68 : decode cX8_init 68 = .ok (.putfield 19, 3) := by decide +kernel
theorem dX8_init_71 : decode cX8_init 71 = .ok (.aload_n 0, 1) := by decide +kernel
theorem dX8_init_72 : decode cX8_init 72 = .ok (.bipush 43, 2) := by decide +kernel
theorem dX8_init_74 : decode cX8_init 74 = .ok (.newarray .int, 2) := by decide +kernel
theorem dX8_init_76 : decode cX8_init 76 = .ok (.putfield 22, 3) := by decide +kernel
theorem dX8_init_79 : decode cX8_init 79 = .ok (.aload_n 0, 1) := by decide +kernel
theorem dX8_init_80 : decode cX8_init 80 = .ok (.bipush 43, 2) := by decide +kernel
theorem dX8_init_82 : decode cX8_init 82 = .ok (.newarray .int, 2) := by decide +kernel
theorem dX8_init_84 : decode cX8_init 84 = .ok (.putfield 25, 3) := by decide +kernel
theorem dX8_init_87 : decode cX8_init 87 = .ok (.aload_n 0, 1) := by decide +kernel
theorem dX8_init_88 : decode cX8_init 88 = .ok (.sipush 1032, 3) := by decide +kernel
theorem dX8_init_91 : decode cX8_init 91 = .ok (.newarray .int, 2) := by decide +kernel
theorem dX8_init_93 : decode cX8_init 93 = .ok (.putfield 28, 3) := by decide +kernel
theorem dX8_init_96 : decode cX8_init 96 = .ok (.aload_n 0, 1) := by decide +kernel
theorem dX8_init_97 : decode cX8_init 97 = .ok (.bipush 90, 2) := by decide +kernel
theorem dX8_init_99 : decode cX8_init 99 = .ok (.newarray .int, 2) := by decide +kernel
theorem dX8_init_101 : decode cX8_init 101 = .ok (.putfield 31, 3) := by decide +kernel
theorem dX8_init_104 : decode cX8_init 104 = .ok (.aload_n 0, 1) := by decide +kernel
theorem dX8_init_105 : decode cX8_init 105 = .ok (.bipush 8, 2) := by decide +kernel
theorem dX8_init_107 : decode cX8_init 107 = .ok (.newarray .int, 2) := by decide +kernel
theorem dX8_init_109 : decode cX8_init 109 = .ok (.putfield 34, 3) := by decide +kernel
theorem dX8_init_112 : decode cX8_init 112 = .ok (.aload_n 0, 1) := by decide +kernel
theorem dX8_init_113 : decode cX8_init 113 = .ok (.bipush 8, 2) := by decide +kernel
theorem dX8_init_115 : decode cX8_init 115 = .ok (.newarray .int, 2) := by decide +kernel
theorem dX8_init_117 : decode cX8_init 117 = .ok (.putfield 37, 3) := by decide +kernel
theorem dX8_init_120 : decode cX8_init 120 = .ok (.aload_n 0, 1) := by decide +kernel
theorem dX8_init_121 : decode cX8_init 121 = .ok (.iconst 2, 1) := by decide +kernel
theorem dX8_init_122 : decode cX8_init 122 = .ok (.newarray .boolean, 2) := by decide +kernel
theorem dX8_init_124 : decode cX8_init 124 = .ok (.putfield 40, 3) := by decide +kernel
theorem dX8_init_127 : decode cX8_init 127 = .ok (.aload_n 0, 1) := by decide +kernel
theorem dX8_init_128 : decode cX8_init 128 = .ok (.bipush 86, 2) := by decide +kernel
theorem dX8_init_130 : decode cX8_init 130 = .ok (.newarray .int, 2) := by decide +kernel
theorem dX8_init_132 : decode cX8_init 132 = .ok (.putfield 44, 3) := by decide +kernel
theorem dX8_init_135 : decode cX8_init 135 = .ok (.aload_n 0, 1) := by decide +kernel
theorem dX8_init_136 : decode cX8_init 136 = .ok (.bipush 16, 2) := by decide +kernel
theorem dX8_init_138 : decode cX8_init 138 = .ok (.newarray .int, 2) := by decide +kernel
theorem dX8_init_140 : decode cX8_init 140 = .ok (.putfield 47, 3) := by decide +kernel
theorem dX8_init_143 : decode cX8_init 143 = .ok (.return_, 1) := by decide +kernel
theorem dX8_in_0 : decode cX8_in 0 = .ok (.lload_n 0, 1) := by decide +kernel
theorem dX8_in_1 : decode cX8_in 1 = .ok (.lload_n 2, 1) := by decide +kernel
theorem dX8_in_2 : decode cX8_in 2 = .ok (.lcmp, 1) := by decide +kernel
theorem dX8_in_3 : decode cX8_in 3 = .ok (.ifCond .lt 14, 3) := by decide +kernel
theorem dX8_in_6 : decode cX8_in 6 = .ok (.lload_n 0, 1) := by decide +kernel
theorem dX8_in_7 : decode cX8_in 7 = .ok (.lload 4, 2) := by decide +kernel
theorem dX8_in_9 : decode cX8_in 9 = .ok (.lcmp, 1) := by decide +kernel
theorem dX8_in_10 : decode cX8_in 10 = .ok (.ifCond .gt 7, 3) := by decide +kernel
theorem dX8_in_13 : decode cX8_in 13 = .ok (.iconst 1, 1) := by decide +kernel
theorem dX8_in_14 : decode cX8_in 14 = .ok (.goto 4, 3) := by decide +kernel
theorem dX8_in_17 : decode cX8_in 17 = .ok (.iconst 0, 1) := by decide +kernel
theorem dX8_in_18 : decode cX8_in 18 = .ok (.ireturn, 1) := by decide +kernel
theorem dX8_finding_0 : decode cX8_finding 0 = .ok (.aload_n 0, 1) := by decide +kernel
theorem dX8_finding_1 : decode cX8_finding 1 = .ok (.iload_n 1, 1) := by decide +kernel
theorem dX8_finding_2 : decode cX8_finding 2 = .ok (.putfield 54, 3) := by decide +kernel
theorem dX8_finding_5 : decode cX8_finding 5 = .ok (.ldc 57, 2) := by decide +kernel
theorem dX8_finding_7 : decode cX8_finding 7 = .ok (.iload_n 1, 1) := by decide +kernel
theorem dX8_finding_8 : decode cX8_finding 8 = .ok (.isub, 1) := by decide +kernel
theorem dX8_finding_9 : decode cX8_finding 9 = .ok (.ireturn, 1) := by decide +kernel
theorem dX8_isRow_0 : decode cX8_isRow 0 = .ok (.iload_n 0, 1) := by decide +kernel
theorem dX8_isRow_1 : decode cX8_isRow 1 = .ok (.i2l, 1) := by decide +kernel
theorem dX8_isRow_2 : decode cX8_isRow 2 = .ok (.lconst 0, 1) := by decide +kernel
theorem dX8_isRow_3 : decode cX8_isRow 3 = .ok (.ldc2_w 58, 3) := by decide +kernel
theorem dX8_isRow_6 : decode cX8_isRow 6 = .ok (.invokestatic 60, 3) := by decide +kernel
theorem dX8_isRow_9 : decode cX8_isRow 9 = .ok (.ireturn, 1) := by decide +kernel
theorem dX8_row_0 : decode cX8_row 0 = .ok (.aload_n 0, 1) := by decide +kernel
theorem dX8_row_1 : decode cX8_row 1 = .ok (.iconst 0, 1) := by decide +kernel
theorem dX8_row_2 : decode cX8_row 2 = .ok (.putfield 50, 3) := by decide +kernel
theorem dX8_row_5 : decode cX8_row 5 = .ok (.iload_n 1, 1) := by decide +kernel
theorem dX8_row_6 : decode cX8_row 6 = .ok (.invokestatic 64, 3) := by decide +kernel
theorem dX8_row_9 : decode cX8_row 9 = .ok (.ifCond .eq 21, 3) := by decide +kernel
theorem dX8_row_12 : decode cX8_row 12 = .ok (.iload_n 2, 1) := by decide +kernel
theorem dX8_row_13 : decode cX8_row 13 = .ok (.i2l, 1) := by decide +kernel
theorem dX8_row_14 : decode cX8_row 14 = .ok (.lconst 0, 1) := by decide +kernel
theorem dX8_row_15 : decode cX8_row 15 = .ok (.ldc2_w 68, 3) := by decide +kernel
theorem dX8_row_18 : decode cX8_row 18 = .ok (.invokestatic 60, 3) := by decide +kernel
theorem dX8_row_21 : decode cX8_row 21 = .ok (.ifCond .eq 9, 3) := by decide +kernel
theorem dX8_row_24 : decode cX8_row 24 = .ok (.iload_n 3, 1) := by decide +kernel
theorem dX8_row_25 : decode cX8_row 25 = .ok (.bipush 40, 2) := by decide +kernel
theorem dX8_row_27 : decode cX8_row 27 = .ok (.if_icmp .le 6, 3) := by decide +kernel
theorem dX8_row_30 : decode cX8_row 30 = .ok (.ldc 70, 2) := by decide +kernel
theorem dX8_row_32 : decode cX8_row 32 = .ok (.ireturn, 1) := by decide +kernel
theorem dX8_row_33 : decode cX8_row 33 = .ok (.aload_n 0, 1) := by decide +kernel
theorem dX8_row_34 : decode cX8_row 34 = .ok (.iconst 0, 1) := by decide +kernel
theorem dX8_row_35 : decode cX8_row 35 = .ok (.putfield 54, 3) := by decide +kernel
theorem dX8_row_38 : decode cX8_row 38 = .ok (.iload_n 3, 1) := by decide +kernel
theorem dX8_row_39 : decode cX8_row 39 = .ok (.ifCond .ge 9, 3) := by decide +kernel
theorem dX8_row_42 : decode cX8_row 42 = .ok (.aload_n 0, 1) := by decide +kernel
theorem dX8_row_43 : decode cX8_row 43 = .ok (.iconst 4, 1) := by decide +kernel
theorem dX8_row_44 : decode cX8_row 44 = .ok (.invokevirtual 71, 3) := by decide +kernel
theorem dX8_row_47 : decode cX8_row 47 = .ok (.ireturn, 1) := by decide +kernel
theorem dX8_row_48 : decode cX8_row 48 = .ok (.aload_n 0, 1) := by decide +kernel
theorem dX8_row_49 : decode cX8_row 49 = .ok (.getfield 7, 3) := by decide +kernel
theorem dX8_row_52 : decode cX8_row 52 = .ok (.iload_n 1, 1) := by decide +kernel
theorem dX8_row_53 : decode cX8_row 53 = .ok (.iload_n 2, 1) := by decide +kernel
theorem dX8_row_54 : decode cX8_row 54 = .ok (.iastore, 1) := by decide +kernel
theorem dX8_row_55 : decode cX8_row 55 = .ok (.aload_n 0, 1) := by decide +kernel
theorem dX8_row_56 : decode cX8_row 56 = .ok (.getfield 13, 3) := by decide +kernel
theorem dX8_row_59 : decode cX8_row 59 = .ok (.iload_n 1, 1) := by decide +kernel
theorem dX8_row_60 : decode cX8_row 60 = .ok (.iload_n 3, 1) := by decide +kernel
theorem dX8_row_61 : decode cX8_row 61 = .ok (.iastore, 1) := by decide +kernel
theorem dX8_row_62 : decode cX8_row 62 = .ok (.iconst 0, 1) := by decide +kernel
theorem dX8_row_63 : decode cX8_row 63 = .ok (.istore 4, 2) := by decide +kernel
theorem dX8_row_65 : decode cX8_row 65 = .ok (.iload 4, 2) := by decide +kernel
theorem dX8_row_67 : decode cX8_row 67 = .ok (.bipush 40, 2) := by decide +kernel
theorem dX8_row_69 : decode cX8_row 69 = .ok (.if_icmp .ge 22, 3) := by decide +kernel
theorem dX8_row_72 : decode cX8_row 72 = .ok (.aload_n 0, 1) := by decide +kernel
theorem dX8_row_73 : decode cX8_row 73 = .ok (.getfield 16, 3) := by decide +kernel
theorem dX8_row_76 : decode cX8_row 76 = .ok (.bipush 40, 2) := by decide +kernel
theorem dX8_row_78 : decode cX8_row 78 = .ok (.iload_n 1, 1) := by decide +kernel
theorem dX8_row_79 : decode cX8_row 79 = .ok (.imul, 1) := by decide +kernel
theorem dX8_row_80 : decode cX8_row 80 = .ok (.iload 4, 2) := by decide +kernel
theorem dX8_row_82 : decode cX8_row 82 = .ok (.iadd, 1) := by decide +kernel
theorem dX8_row_83 : decode cX8_row 83 = .ok (.iconst 0, 1) := by decide +kernel
theorem dX8_row_84 : decode cX8_row 84 = .ok (.iastore, 1) := by decide +kernel
theorem dX8_row_85 : decode cX8_row 85 = .ok (.iinc 4 1, 3) := by decide +kernel
theorem dX8_row_88 : decode cX8_row 88 = .ok (.goto (-23), 3) := by decide +kernel
theorem dX8_row_91 : decode cX8_row 91 = .ok (.iload_n 3, 1) := by decide +kernel
theorem dX8_row_92 : decode cX8_row 92 = .ok (.ireturn, 1) := by decide +kernel
theorem dX8_set_0 : decode cX8_set 0 = .ok (.aload_n 0, 1) := by decide +kernel
theorem dX8_set_1 : decode cX8_set 1 = .ok (.iconst 0, 1) := by decide +kernel
theorem dX8_set_2 : decode cX8_set 2 = .ok (.putfield 50, 3) := by decide +kernel
theorem dX8_set_5 : decode cX8_set 5 = .ok (.iload_n 1, 1) := by decide +kernel
theorem dX8_set_6 : decode cX8_set 6 = .ok (.invokestatic 64, 3) := by decide +kernel
theorem dX8_set_9 : decode cX8_set 9 = .ok (.ifCond .ne 6, 3) := by decide +kernel
theorem dX8_set_12 : decode cX8_set 12 = .ok (.ldc 70, 2) := by decide +kernel
theorem dX8_set_14 : decode cX8_set 14 = .ok (.ireturn, 1) := by decide +kernel
theorem dX8_set_15 : decode cX8_set 15 = .ok (.aload_n 0, 1) := by decide +kernel
theorem dX8_set_16 : decode cX8_set 16 = .ok (.iconst 0, 1) := by decide +kernel
theorem dX8_set_17 : decode cX8_set 17 = .ok (.putfield 54, 3) := by decide +kernel
theorem dX8_set_20 : decode cX8_set 20 = .ok (.aload_n 0, 1) := by decide +kernel
theorem dX8_set_21 : decode cX8_set 21 = .ok (.getfield 7, 3) := by decide +kernel
theorem dX8_set_24 : decode cX8_set 24 = .ok (.iload_n 1, 1) := by decide +kernel
theorem dX8_set_25 : decode cX8_set 25 = .ok (.iaload, 1) := by decide +kernel
theorem dX8_set_26 : decode cX8_set 26 = .ok (.ifCond .ge 9, 3) := by decide +kernel
theorem dX8_set_29 : decode cX8_set 29 = .ok (.aload_n 0, 1) := by decide +kernel
theorem dX8_set_30 : decode cX8_set 30 = .ok (.iconst 1, 1) := by decide +kernel
theorem dX8_set_31 : decode cX8_set 31 = .ok (.invokevirtual 71, 3) := by decide +kernel
theorem dX8_set_34 : decode cX8_set 34 = .ok (.ireturn, 1) := by decide +kernel
theorem dX8_set_35 : decode cX8_set 35 = .ok (.iload_n 2, 1) := by decide +kernel
theorem dX8_set_36 : decode cX8_set 36 = .ok (.i2l, 1) := by decide +kernel
theorem dX8_set_37 : decode cX8_set 37 = .ok (.lconst 0, 1) := by decide +kernel
theorem dX8_set_38 : decode cX8_set 38 = .ok (.aload_n 0, 1) := by decide +kernel
theorem dX8_set_39 : decode cX8_set 39 = .ok (.getfield 13, 3) := by decide +kernel
theorem dX8_set_42 : decode cX8_set 42 = .ok (.iload_n 1, 1) := by decide +kernel
theorem dX8_set_43 : decode cX8_set 43 = .ok (.iaload, 1) := by decide +kernel
theorem dX8_set_44 : decode cX8_set 44 = .ok (.iconst 1, 1) := by decide +kernel
theorem dX8_set_45 : decode cX8_set 45 = .ok (.isub, 1) := by decide +kernel
theorem dX8_set_46 : decode cX8_set 46 = .ok (.i2l, 1) := by decide +kernel
theorem dX8_set_47 : decode cX8_set 47 = .ok (.invokestatic 60, 3) := by decide +kernel
theorem dX8_set_50 : decode cX8_set 50 = .ok (.ifCond .ne 9, 3) := by decide +kernel
theorem dX8_set_53 : decode cX8_set 53 = .ok (.aload_n 0, 1) := by decide +kernel
theorem dX8_set_54 : decode cX8_set 54 = .ok (.iconst 2, 1) := by decide +kernel
theorem dX8_set_55 : decode cX8_set 55 = .ok (.invokevirtual 71, 3) := by decide +kernel
theorem dX8_set_58 : decode cX8_set 58 = .ok (.ireturn, 1) := by decide +kernel
theorem dX8_set_59 : decode cX8_set 59 = .ok (.aload_n 0, 1) := by decide +kernel
theorem dX8_set_60 : decode cX8_set 60 = .ok (.getfield 16, 3) := by decide +kernel
theorem dX8_set_63 : decode cX8_set 63 = .ok (.bipush 40, 2) := by decide +kernel
theorem dX8_set_65 : decode cX8_set 65 = .ok (.iload_n 1, 1) := by decide +kernel
theorem dX8_set_66 : decode cX8_set 66 = .ok (.imul, 1) := by decide +kernel
theorem dX8_set_67 : decode cX8_set 67 = .ok (.iload_n 2, 1) := by decide +kernel
theorem dX8_set_68 : decode cX8_set 68 = .ok (.iadd, 1) := by decide +kernel
theorem dX8_set_69 : decode cX8_set 69 = .ok (.aload_n 0, 1) := by decide +kernel
theorem dX8_set_70 : decode cX8_set 70 = .ok (.getfield 7, 3) := by decide +kernel
theorem dX8_set_73 : decode cX8_set 73 = .ok (.iload_n 1, 1) := by decide +kernel
theorem dX8_set_74 : decode cX8_set 74 = .ok (.iaload, 1) := by decide +kernel
theorem dX8_set_75 : decode cX8_set 75 = .ok (.ifCond .ne 8, 3) := by decide +kernel
theorem dX8_set_78 : decode cX8_set 78 = .ok (.iload_n 3, 1) := by decide +kernel
theorem dX8_set_79 : decode cX8_set 79 = .ok (.i2b, 1) := by decide +kernel
theorem dX8_set_80 : decode cX8_set 80 = .ok (.goto 19, 3) := by decide +kernel
theorem dX8_set_83 : decode cX8_set 83 = .ok (.aload_n 0, 1) := by decide +kernel
theorem dX8_set_84 : decode cX8_set 84 = .ok (.getfield 7, 3) := by decide +kernel
theorem dX8_set_87 : decode cX8_set 87 = .ok (.iload_n 1, 1) := by decide +kernel
theorem dX8_set_88 : decode cX8_set 88 = .ok (.iaload, 1) := by decide +kernel
theorem dX8_set_89 : decode cX8_set 89 = .ok (.iconst 1, 1) := by decide +kernel
theorem dX8_set_90 : decode cX8_set 90 = .ok (.if_icmp .ne 8, 3) := by decide +kernel
theorem dX8_set_93 : decode cX8_set 93 = .ok (.iload_n 3, 1) := by decide +kernel
theorem dX8_set_94 : decode cX8_set 94 = .ok (.i2s, 1) := by decide +kernel
theorem dX8_set_95 : decode cX8_set 95 = .ok (.goto 4, 3) := by decide +kernel
theorem dX8_set_98 : decode cX8_set 98 = .ok (.iload_n 3, 1) := by decide +kernel
theorem dX8_set_99 : decode cX8_set 99 = .ok (.iastore, 1) := by decide +kernel
theorem dX8_set_100 : decode cX8_set 100 = .ok (.aload_n 0, 1) := by decide +kernel
theorem dX8_set_101 : decode cX8_set 101 = .ok (.getfield 16, 3) := by decide +kernel
theorem dX8_set_104 : decode cX8_set 104 = .ok (.bipush 40, 2) := by decide +kernel
theorem dX8_set_106 : decode cX8_set 106 = .ok (.iload_n 1, 1) := by decide +kernel
theorem dX8_set_107 : decode cX8_set 107 = .ok (.imul, 1) := by decide +kernel
theorem dX8_set_108 : decode cX8_set 108 = .ok (.iload_n 2, 1) := by decide +kernel
theorem dX8_set_109 : decode cX8_set 109 = .ok (.iadd, 1) := by decide +kernel
theorem dX8_set_110 : decode cX8_set 110 = .ok (.iaload, 1) := by decide +kernel
theorem dX8_set_111 : decode cX8_set 111 = .ok (.ireturn, 1) := by decide +kernel
theorem dX8_copy_0 : decode cX8_copy 0 = .ok (.aload_n 0, 1) := by decide +kernel
theorem dX8_copy_1 : decode cX8_copy 1 = .ok (.iconst 0, 1) := by decide +kernel
theorem dX8_copy_2 : decode cX8_copy 2 = .ok (.putfield 50, 3) := by decide +kernel
theorem dX8_copy_5 : decode cX8_copy 5 = .ok (.iload_n 1, 1) := by decide +kernel
theorem dX8_copy_6 : decode cX8_copy 6 = .ok (.invokestatic 64, 3) := by decide +kernel
theorem dX8_copy_9 : decode cX8_copy 9 = .ok (.ifCond .eq 10, 3) := by decide +kernel
theorem dX8_copy_12 : decode cX8_copy 12 = .ok (.iload_n 3, 1) := by decide +kernel
theorem dX8_copy_13 : decode cX8_copy 13 = .ok (.invokestatic 64, 3) := by decide +kernel
theorem dX8_copy_16 : decode cX8_copy 16 = .ok (.ifCond .ne 6, 3) := by decide +kernel
theorem dX8_copy_19 : decode cX8_copy 19 = .ok (.ldc 70, 2) := by decide +kernel
theorem dX8_copy_21 : decode cX8_copy 21 = .ok (.ireturn, 1) := by decide +kernel
theorem dX8_copy_22 : decode cX8_copy 22 = .ok (.aload_n 0, 1) := by decide +kernel
theorem dX8_copy_23 : decode cX8_copy 23 = .ok (.iconst 0, 1) := by decide +kernel
theorem dX8_copy_24 : decode cX8_copy 24 = .ok (.putfield 54, 3) := by decide +kernel
theorem dX8_copy_27 : decode cX8_copy 27 = .ok (.aload_n 0, 1) := by decide +kernel
theorem dX8_copy_28 : decode cX8_copy 28 = .ok (.getfield 7, 3) := by decide +kernel
theorem dX8_copy_31 : decode cX8_copy 31 = .ok (.iload_n 1, 1) := by decide +kernel
theorem dX8_copy_32 : decode cX8_copy 32 = .ok (.iaload, 1) := by decide +kernel
theorem dX8_copy_33 : decode cX8_copy 33 = .ok (.ifCond .lt 12, 3) := by decide +kernel
theorem dX8_copy_36 : decode cX8_copy 36 = .ok (.aload_n 0, 1) := by decide +kernel
theorem dX8_copy_37 : decode cX8_copy 37 = .ok (.getfield 7, 3) := by decide +kernel
theorem dX8_copy_40 : decode cX8_copy 40 = .ok (.iload_n 3, 1) := by decide +kernel
theorem dX8_copy_41 : decode cX8_copy 41 = .ok (.iaload, 1) := by decide +kernel
theorem dX8_copy_42 : decode cX8_copy 42 = .ok (.ifCond .ge 9, 3) := by decide +kernel
theorem dX8_copy_45 : decode cX8_copy 45 = .ok (.aload_n 0, 1) := by decide +kernel
theorem dX8_copy_46 : decode cX8_copy 46 = .ok (.iconst 1, 1) := by decide +kernel
theorem dX8_copy_47 : decode cX8_copy 47 = .ok (.invokevirtual 71, 3) := by decide +kernel
theorem dX8_copy_50 : decode cX8_copy 50 = .ok (.ireturn, 1) := by decide +kernel
theorem dX8_copy_51 : decode cX8_copy 51 = .ok (.aload_n 0, 1) := by decide +kernel
theorem dX8_copy_52 : decode cX8_copy 52 = .ok (.getfield 7, 3) := by decide +kernel
theorem dX8_copy_55 : decode cX8_copy 55 = .ok (.iload_n 1, 1) := by decide +kernel
theorem dX8_copy_56 : decode cX8_copy 56 = .ok (.iaload, 1) := by decide +kernel
theorem dX8_copy_57 : decode cX8_copy 57 = .ok (.aload_n 0, 1) := by decide +kernel
theorem dX8_copy_58 : decode cX8_copy 58 = .ok (.getfield 7, 3) := by decide +kernel
theorem dX8_copy_61 : decode cX8_copy 61 = .ok (.iload_n 3, 1) := by decide +kernel
theorem dX8_copy_62 : decode cX8_copy 62 = .ok (.iaload, 1) := by decide +kernel
theorem dX8_copy_63 : decode cX8_copy 63 = .ok (.if_icmp .eq 9, 3) := by decide +kernel
theorem dX8_copy_66 : decode cX8_copy 66 = .ok (.aload_n 0, 1) := by decide +kernel
theorem dX8_copy_67 : decode cX8_copy 67 = .ok (.iconst 5, 1) := by decide +kernel
theorem dX8_copy_68 : decode cX8_copy 68 = .ok (.invokevirtual 71, 3) := by decide +kernel
theorem dX8_copy_71 : decode cX8_copy 71 = .ok (.ireturn, 1) := by decide +kernel
theorem dX8_copy_72 : decode cX8_copy 72 = .ok (.iload_n 2, 1) := by decide +kernel
theorem dX8_copy_73 : decode cX8_copy 73 = .ok (.ifCond .lt 48, 3) := by decide +kernel
theorem dX8_copy_76 : decode cX8_copy 76 = .ok (.iload 4, 2) := by decide +kernel
theorem dX8_copy_78 : decode cX8_copy 78 = .ok (.ifCond .lt 43, 3) := by decide +kernel
theorem dX8_copy_81 : decode cX8_copy 81 = .ok (.iload 5, 2) := by decide +kernel
theorem dX8_copy_83 : decode cX8_copy 83 = .ok (.ifCond .lt 38, 3) := by decide +kernel
theorem dX8_copy_86 : decode cX8_copy 86 = .ok (.iload_n 2, 1) := by decide +kernel
theorem dX8_copy_87 : decode cX8_copy 87 = .ok (.i2l, 1) := by decide +kernel
theorem dX8_copy_88 : decode cX8_copy 88 = .ok (.iload 5, 2) := by decide +kernel
theorem dX8_copy_90 : decode cX8_copy 90 = .ok (.i2l, 1) := by decide +kernel
theorem dX8_copy_91 : decode cX8_copy 91 = .ok (.ladd, 1) := by decide +kernel
theorem dX8_copy_92 : decode cX8_copy 92 = .ok (.aload_n 0, 1) := by decide +kernel
theorem dX8_copy_93 : decode cX8_copy 93 = .ok (.getfield 13, 3) := by decide +kernel
theorem dX8_copy_96 : decode cX8_copy 96 = .ok (.iload_n 1, 1) := by decide +kernel
theorem dX8_copy_97 : decode cX8_copy 97 = .ok (.iaload, 1) := by decide +kernel
theorem dX8_copy_98 : decode cX8_copy 98 = .ok (.i2l, 1) := by decide +kernel
theorem dX8_copy_99 : decode cX8_copy 99 = .ok (.lcmp, 1) := by decide +kernel
theorem dX8_copy_100 : decode cX8_copy 100 = .ok (.ifCond .gt 21, 3) := by decide +kernel
theorem dX8_copy_103 : decode cX8_copy 103 = .ok (.iload 4, 2) := by decide +kernel
theorem dX8_copy_105 : decode cX8_copy 105 = .ok (.i2l, 1) := by decide +kernel
theorem dX8_copy_106 : decode cX8_copy 106 = .ok (.iload 5, 2) := by decide +kernel
theorem dX8_copy_108 : decode cX8_copy 108 = .ok (.i2l, 1) := by decide +kernel
theorem dX8_copy_109 : decode cX8_copy 109 = .ok (.ladd, 1) := by decide +kernel
theorem dX8_copy_110 : decode cX8_copy 110 = .ok (.aload_n 0, 1) := by decide +kernel
theorem dX8_copy_111 : decode cX8_copy 111 = .ok (.getfield 13, 3) := by decide +kernel
theorem dX8_copy_114 : decode cX8_copy 114 = .ok (.iload_n 3, 1) := by decide +kernel
theorem dX8_copy_115 : decode cX8_copy 115 = .ok (.iaload, 1) := by decide +kernel
theorem dX8_copy_116 : decode cX8_copy 116 = .ok (.i2l, 1) := by decide +kernel
theorem dX8_copy_117 : decode cX8_copy 117 = .ok (.lcmp, 1) := by decide +kernel
theorem dX8_copy_118 : decode cX8_copy 118 = .ok (.ifCond .le 9, 3) := by decide +kernel
theorem dX8_copy_121 : decode cX8_copy 121 = .ok (.aload_n 0, 1) := by decide +kernel
theorem dX8_copy_122 : decode cX8_copy 122 = .ok (.iconst 2, 1) := by decide +kernel
theorem dX8_copy_123 : decode cX8_copy 123 = .ok (.invokevirtual 71, 3) := by decide +kernel
theorem dX8_copy_126 : decode cX8_copy 126 = .ok (.ireturn, 1) := by decide +kernel
theorem dX8_copy_127 : decode cX8_copy 127 = .ok (.iload_n 2, 1) := by decide +kernel
theorem dX8_copy_128 : decode cX8_copy 128 = .ok (.iload 4, 2) := by decide +kernel
theorem dX8_copy_130 : decode cX8_copy 130 = .ok (.if_icmp .lt 7, 3) := by decide +kernel
theorem dX8_copy_133 : decode cX8_copy 133 = .ok (.iconst 1, 1) := by decide +kernel
theorem dX8_copy_134 : decode cX8_copy 134 = .ok (.goto 4, 3) := by decide +kernel
theorem dX8_copy_137 : decode cX8_copy 137 = .ok (.iconst 0, 1) := by decide +kernel
theorem dX8_copy_138 : decode cX8_copy 138 = .ok (.istore 6, 2) := by decide +kernel
theorem dX8_copy_140 : decode cX8_copy 140 = .ok (.iconst 0, 1) := by decide +kernel
theorem dX8_copy_141 : decode cX8_copy 141 = .ok (.istore 7, 2) := by decide +kernel
theorem dX8_copy_143 : decode cX8_copy 143 = .ok (.iload 7, 2) := by decide +kernel
theorem dX8_copy_145 : decode cX8_copy 145 = .ok (.iload 5, 2) := by decide +kernel
theorem dX8_copy_147 : decode cX8_copy 147 = .ok (.if_icmp .ge 57, 3) := by decide +kernel
theorem dX8_copy_150 : decode cX8_copy 150 = .ok (.iload 6, 2) := by decide +kernel
theorem dX8_copy_152 : decode cX8_copy 152 = .ok (.ifCond .eq 8, 3) := by decide +kernel
theorem dX8_copy_155 : decode cX8_copy 155 = .ok (.iload 7, 2) := by decide +kernel
theorem dX8_copy_157 : decode cX8_copy 157 = .ok (.goto 10, 3) := by decide +kernel
theorem dX8_copy_160 : decode cX8_copy 160 = .ok (.iload 5, 2) := by decide +kernel
theorem dX8_copy_162 : decode cX8_copy 162 = .ok (.iconst 1, 1) := by decide +kernel
theorem dX8_copy_163 : decode cX8_copy 163 = .ok (.isub, 1) := by decide +kernel
theorem dX8_copy_164 : decode cX8_copy 164 = .ok (.iload 7, 2) := by decide +kernel
theorem dX8_copy_166 : decode cX8_copy 166 = .ok (.isub, 1) := by decide +kernel
theorem dX8_copy_167 : decode cX8_copy 167 = .ok (.istore 8, 2) := by decide +kernel
theorem dX8_copy_169 : decode cX8_copy 169 = .ok (.aload_n 0, 1) := by decide +kernel
theorem dX8_copy_170 : decode cX8_copy 170 = .ok (.getfield 16, 3) := by decide +kernel
theorem dX8_copy_173 : decode cX8_copy 173 = .ok (.bipush 40, 2) := by decide +kernel
theorem dX8_copy_175 : decode cX8_copy 175 = .ok (.iload_n 3, 1) := by decide +kernel
theorem dX8_copy_176 : decode cX8_copy 176 = .ok (.imul, 1) := by decide +kernel
theorem dX8_copy_177 : decode cX8_copy 177 = .ok (.iload 4, 2) := by decide +kernel
theorem dX8_copy_179 : decode cX8_copy 179 = .ok (.iadd, 1) := by decide +kernel
theorem dX8_copy_180 : decode cX8_copy 180 = .ok (.iload 8, 2) := by decide +kernel
theorem dX8_copy_182 : decode cX8_copy 182 = .ok (.iadd, 1) := by decide +kernel
theorem dX8_copy_183 : decode cX8_copy 183 = .ok (.aload_n 0, 1) := by decide +kernel
theorem dX8_copy_184 : decode cX8_copy 184 = .ok (.getfield 16, 3) := by decide +kernel
theorem dX8_copy_187 : decode cX8_copy 187 = .ok (.bipush 40, 2) := by decide +kernel
theorem dX8_copy_189 : decode cX8_copy 189 = .ok (.iload_n 1, 1) := by decide +kernel
theorem dX8_copy_190 : decode cX8_copy 190 = .ok (.imul, 1) := by decide +kernel
theorem dX8_copy_191 : decode cX8_copy 191 = .ok (.iload_n 2, 1) := by decide +kernel
theorem dX8_copy_192 : decode cX8_copy 192 = .ok (.iadd, 1) := by decide +kernel
theorem dX8_copy_193 : decode cX8_copy 193 = .ok (.iload 8, 2) := by decide +kernel
theorem dX8_copy_195 : decode cX8_copy 195 = .ok (.iadd, 1) := by decide +kernel
theorem dX8_copy_196 : decode cX8_copy 196 = .ok (.iaload, 1) := by decide +kernel
theorem dX8_copy_197 : decode cX8_copy 197 = .ok (.iastore, 1) := by decide +kernel
theorem dX8_copy_198 : decode cX8_copy 198 = .ok (.iinc 7 1, 3) := by decide +kernel
theorem dX8_copy_201 : decode cX8_copy 201 = .ok (.goto (-58), 3) := by decide +kernel
theorem dX8_copy_204 : decode cX8_copy 204 = .ok (.iload 5, 2) := by decide +kernel
theorem dX8_copy_206 : decode cX8_copy 206 = .ok (.ireturn, 1) := by decide +kernel
theorem dX8_drop_0 : decode cX8_drop 0 = .ok (.aload_n 0, 1) := by decide +kernel
theorem dX8_drop_1 : decode cX8_drop 1 = .ok (.iconst 0, 1) := by decide +kernel
theorem dX8_drop_2 : decode cX8_drop 2 = .ok (.putfield 50, 3) := by decide +kernel
theorem dX8_drop_5 : decode cX8_drop 5 = .ok (.iload_n 1, 1) := by decide +kernel
theorem dX8_drop_6 : decode cX8_drop 6 = .ok (.invokestatic 64, 3) := by decide +kernel
theorem dX8_drop_9 : decode cX8_drop 9 = .ok (.ifCond .ne 6, 3) := by decide +kernel
theorem dX8_drop_12 : decode cX8_drop 12 = .ok (.ldc 70, 2) := by decide +kernel
theorem dX8_drop_14 : decode cX8_drop 14 = .ok (.ireturn, 1) := by decide +kernel
theorem dX8_drop_15 : decode cX8_drop 15 = .ok (.aload_n 0, 1) := by decide +kernel
theorem dX8_drop_16 : decode cX8_drop 16 = .ok (.iconst 0, 1) := by decide +kernel
theorem dX8_drop_17 : decode cX8_drop 17 = .ok (.putfield 54, 3) := by decide +kernel
theorem dX8_drop_20 : decode cX8_drop 20 = .ok (.aload_n 0, 1) := by decide +kernel
theorem dX8_drop_21 : decode cX8_drop 21 = .ok (.getfield 7, 3) := by decide +kernel
theorem dX8_drop_24 : decode cX8_drop 24 = .ok (.iload_n 1, 1) := by decide +kernel
theorem dX8_drop_25 : decode cX8_drop 25 = .ok (.iaload, 1) := by decide +kernel
theorem dX8_drop_26 : decode cX8_drop 26 = .ok (.ifCond .ge 9, 3) := by decide +kernel
theorem dX8_drop_29 : decode cX8_drop 29 = .ok (.aload_n 0, 1) := by decide +kernel
theorem dX8_drop_30 : decode cX8_drop 30 = .ok (.iconst 1, 1) := by decide +kernel
theorem dX8_drop_31 : decode cX8_drop 31 = .ok (.invokevirtual 71, 3) := by decide +kernel
theorem dX8_drop_34 : decode cX8_drop 34 = .ok (.ireturn, 1) := by decide +kernel
theorem dX8_drop_35 : decode cX8_drop 35 = .ok (.aload_n 0, 1) := by decide +kernel
theorem dX8_drop_36 : decode cX8_drop 36 = .ok (.getfield 7, 3) := by decide +kernel
theorem dX8_drop_39 : decode cX8_drop 39 = .ok (.iload_n 1, 1) := by decide +kernel
theorem dX8_drop_40 : decode cX8_drop 40 = .ok (.iconst (-1), 1) := by decide +kernel
theorem dX8_drop_41 : decode cX8_drop 41 = .ok (.iastore, 1) := by decide +kernel
theorem dX8_drop_42 : decode cX8_drop 42 = .ok (.aload_n 0, 1) := by decide +kernel
theorem dX8_drop_43 : decode cX8_drop 43 = .ok (.getfield 13, 3) := by decide +kernel
theorem dX8_drop_46 : decode cX8_drop 46 = .ok (.iload_n 1, 1) := by decide +kernel
theorem dX8_drop_47 : decode cX8_drop 47 = .ok (.iaload, 1) := by decide +kernel
theorem dX8_drop_48 : decode cX8_drop 48 = .ok (.ireturn, 1) := by decide +kernel
theorem dX8_feed_0 : decode cX8_feed 0 = .ok (.aload_n 0, 1) := by decide +kernel
theorem dX8_feed_1 : decode cX8_feed 1 = .ok (.iconst 0, 1) := by decide +kernel
theorem dX8_feed_2 : decode cX8_feed 2 = .ok (.putfield 50, 3) := by decide +kernel
theorem dX8_feed_5 : decode cX8_feed 5 = .ok (.iload_n 1, 1) := by decide +kernel
theorem dX8_feed_6 : decode cX8_feed 6 = .ok (.i2l, 1) := by decide +kernel
theorem dX8_feed_7 : decode cX8_feed 7 = .ok (.lconst 0, 1) := by decide +kernel
theorem dX8_feed_8 : decode cX8_feed 8 = .ok (.ldc2_w 75, 3) := by decide +kernel
theorem dX8_feed_11 : decode cX8_feed 11 = .ok (.invokestatic 60, 3) := by decide +kernel
theorem dX8_feed_14 : decode cX8_feed 14 = .ok (.ifCond .ne 6, 3) := by decide +kernel
theorem dX8_feed_17 : decode cX8_feed 17 = .ok (.ldc 70, 2) := by decide +kernel
theorem dX8_feed_19 : decode cX8_feed 19 = .ok (.ireturn, 1) := by decide +kernel
theorem dX8_feed_20 : decode cX8_feed 20 = .ok (.aload_n 0, 1) := by decide +kernel
theorem dX8_feed_21 : decode cX8_feed 21 = .ok (.getfield 77, 3) := by decide +kernel
theorem dX8_feed_24 : decode cX8_feed 24 = .ok (.bipush 90, 2) := by decide +kernel
theorem dX8_feed_26 : decode cX8_feed 26 = .ok (.if_icmp .ne 6, 3) := by decide +kernel
theorem dX8_feed_29 : decode cX8_feed 29 = .ok (.ldc 80, 2) := by decide +kernel
theorem dX8_feed_31 : decode cX8_feed 31 = .ok (.ireturn, 1) := by decide +kernel
theorem dX8_feed_32 : decode cX8_feed 32 = .ok (.aload_n 0, 1) := by decide +kernel
theorem dX8_feed_33 : decode cX8_feed 33 = .ok (.getfield 31, 3) := by decide +kernel
theorem dX8_feed_36 : decode cX8_feed 36 = .ok (.aload_n 0, 1) := by decide +kernel
theorem dX8_feed_37 : decode cX8_feed 37 = .ok (.getfield 77, 3) := by decide +kernel
theorem dX8_feed_40 : decode cX8_feed 40 = .ok (.iload_n 1, 1) := by decide +kernel
theorem dX8_feed_41 : decode cX8_feed 41 = .ok (.iastore, 1) := by decide +kernel
theorem dX8_feed_42 : decode cX8_feed 42 = .ok (.aload_n 0, 1) := by decide +kernel
theorem dX8_feed_43 : decode cX8_feed 43 = .ok (.dup, 1) := by decide +kernel
theorem dX8_feed_44 : decode cX8_feed 44 = .ok (.getfield 77, 3) := by decide +kernel
theorem dX8_feed_47 : decode cX8_feed 47 = .ok (.iconst 1, 1) := by decide +kernel
theorem dX8_feed_48 : decode cX8_feed 48 = .ok (.iadd, 1) := by decide +kernel
theorem dX8_feed_49 : decode cX8_feed 49 = .ok (.putfield 77, 3) := by decide +kernel
theorem dX8_feed_52 : decode cX8_feed 52 = .ok (.aload_n 0, 1) := by decide +kernel
theorem dX8_feed_53 : decode cX8_feed 53 = .ok (.getfield 77, 3) := by decide +kernel
theorem dX8_feed_56 : decode cX8_feed 56 = .ok (.ireturn, 1) := by decide +kernel
theorem dX8_bad_0 : decode cX8_bad 0 = .ok (.aload_n 0, 1) := by decide +kernel
theorem dX8_bad_1 : decode cX8_bad 1 = .ok (.getfield 81, 3) := by decide +kernel
theorem dX8_bad_4 : decode cX8_bad 4 = .ok (.ifCond .ne 16, 3) := by decide +kernel
theorem dX8_bad_7 : decode cX8_bad 7 = .ok (.aload_n 0, 1) := by decide +kernel
theorem dX8_bad_8 : decode cX8_bad 8 = .ok (.iload_n 1, 1) := by decide +kernel
theorem dX8_bad_9 : decode cX8_bad 9 = .ok (.putfield 81, 3) := by decide +kernel
theorem dX8_bad_12 : decode cX8_bad 12 = .ok (.aload_n 0, 1) := by decide +kernel
theorem dX8_bad_13 : decode cX8_bad 13 = .ok (.aload_n 0, 1) := by decide +kernel
theorem dX8_bad_14 : decode cX8_bad 14 = .ok (.getfield 84, 3) := by decide +kernel
theorem dX8_bad_17 : decode cX8_bad 17 = .ok (.putfield 87, 3) := by decide +kernel
theorem dX8_bad_20 : decode cX8_bad 20 = .ok (.return_, 1) := by decide +kernel
theorem dX8_nextToken_0 : decode cX8_nextToken 0 = .ok (.aload_n 0, 1) := by decide +kernel
theorem dX8_nextToken_1 : decode cX8_nextToken 1 = .ok (.aload_n 0, 1) := by decide +kernel
theorem dX8_nextToken_2 : decode cX8_nextToken 2 = .ok (.getfield 90, 3) := by decide +kernel
theorem dX8_nextToken_5 : decode cX8_nextToken 5 = .ok (.putfield 84, 3) := by decide +kernel
theorem dX8_nextToken_8 : decode cX8_nextToken 8 = .ok (.aload_n 0, 1) := by decide +kernel
theorem dX8_nextToken_9 : decode cX8_nextToken 9 = .ok (.aload_n 0, 1) := by decide +kernel
theorem dX8_nextToken_10 : decode cX8_nextToken 10 = .ok (.getfield 90, 3) := by decide +kernel
theorem dX8_nextToken_13 : decode cX8_nextToken 13 = .ok (.aload_n 0, 1) := by decide +kernel
theorem dX8_nextToken_14 : decode cX8_nextToken 14 = .ok (.getfield 77, 3) := by decide +kernel
theorem dX8_nextToken_17 : decode cX8_nextToken 17 = .ok (.if_icmp .ge 15, 3) := by decide +kernel
theorem dX8_nextToken_20 : decode cX8_nextToken 20 = .ok (.aload_n 0, 1) := by decide +kernel
theorem dX8_nextToken_21 : decode cX8_nextToken 21 = .ok (.getfield 31, 3) := by decide +kernel
theorem dX8_nextToken_24 : decode cX8_nextToken 24 = .ok (.aload_n 0, 1) := by decide +kernel
theorem dX8_nextToken_25 : decode cX8_nextToken 25 = .ok (.getfield 90, 3) := by decide +kernel
theorem dX8_nextToken_28 : decode cX8_nextToken 28 = .ok (.iaload, 1) := by decide +kernel
theorem dX8_nextToken_29 : decode cX8_nextToken 29 = .ok (.goto 5, 3) := by decide +kernel
theorem dX8_nextToken_32 : decode cX8_nextToken 32 = .ok (.ldc 93, 2) := by decide +kernel
theorem dX8_nextToken_34 : decode cX8_nextToken 34 = .ok (.putfield 94, 3) := by decide +kernel
theorem dX8_nextToken_37 : decode cX8_nextToken 37 = .ok (.aload_n 0, 1) := by decide +kernel
theorem dX8_nextToken_38 : decode cX8_nextToken 38 = .ok (.aload_n 0, 1) := by decide +kernel
theorem dX8_nextToken_39 : decode cX8_nextToken 39 = .ok (.getfield 90, 3) := by decide +kernel
theorem dX8_nextToken_42 : decode cX8_nextToken 42 = .ok (.aload_n 0, 1) := by decide +kernel
theorem dX8_nextToken_43 : decode cX8_nextToken 43 = .ok (.getfield 77, 3) := by decide +kernel
theorem dX8_nextToken_46 : decode cX8_nextToken 46 = .ok (.if_icmp .ne 7, 3) := by decide +kernel
theorem dX8_nextToken_49 : decode cX8_nextToken 49 = .ok (.iconst 1, 1) := by decide +kernel
theorem dX8_nextToken_50 : decode cX8_nextToken 50 = .ok (.goto 68, 3) := by decide +kernel
theorem dX8_nextToken_53 : decode cX8_nextToken 53 = .ok (.aload_n 0, 1) := by decide +kernel
theorem dX8_nextToken_54 : decode cX8_nextToken 54 = .ok (.getfield 94, 3) := by decide +kernel
theorem dX8_nextToken_57 : decode cX8_nextToken 57 = .ok (.i2l, 1) := by decide +kernel
theorem dX8_nextToken_58 : decode cX8_nextToken 58 = .ok (.ldc2_w 97, 3) := by decide +kernel
theorem dX8_nextToken_61 : decode cX8_nextToken 61 = .ok (.ldc2_w 99, 3) := by decide +kernel
theorem dX8_nextToken_64 : decode cX8_nextToken 64 = .ok (.invokestatic 60, 3) := by decide +kernel
theorem dX8_nextToken_67 : decode cX8_nextToken 67 = .ok (.ifCond .eq 7, 3) := by decide +kernel
theorem dX8_nextToken_70 : decode cX8_nextToken 70 = .ok (.iconst 2, 1) := by decide +kernel
theorem dX8_nextToken_71 : decode cX8_nextToken 71 = .ok (.goto 47, 3) := by decide +kernel
theorem dX8_nextToken_74 : decode cX8_nextToken 74 = .ok (.aload_n 0, 1) := by decide +kernel
theorem dX8_nextToken_75 : decode cX8_nextToken 75 = .ok (.getfield 94, 3) := by decide +kernel
theorem dX8_nextToken_78 : decode cX8_nextToken 78 = .ok (.i2l, 1) := by decide +kernel
theorem dX8_nextToken_79 : decode cX8_nextToken 79 = .ok (.ldc2_w 101, 3) := by decide +kernel
theorem dX8_nextToken_82 : decode cX8_nextToken 82 = .ok (.ldc2_w 103, 3) := by decide +kernel
theorem dX8_nextToken_85 : decode cX8_nextToken 85 = .ok (.invokestatic 60, 3) := by decide +kernel
theorem dX8_nextToken_88 : decode cX8_nextToken 88 = .ok (.ifCond .eq 7, 3) := by decide +kernel
theorem dX8_nextToken_91 : decode cX8_nextToken 91 = .ok (.iconst 3, 1) := by decide +kernel
theorem dX8_nextToken_92 : decode cX8_nextToken 92 = .ok (.goto 26, 3) := by decide +kernel
theorem dX8_nextToken_95 : decode cX8_nextToken 95 = .ok (.aload_n 0, 1) := by decide +kernel
theorem dX8_nextToken_96 : decode cX8_nextToken 96 = .ok (.getfield 94, 3) := by decide +kernel
theorem dX8_nextToken_99 : decode cX8_nextToken 99 = .ok (.bipush 44, 2) := by decide +kernel
theorem dX8_nextToken_101 : decode cX8_nextToken 101 = .ok (.if_icmp .eq 12, 3) := by decide +kernel
theorem dX8_nextToken_104 : decode cX8_nextToken 104 = .ok (.aload_n 0, 1) := by decide +kernel
theorem dX8_nextToken_105 : decode cX8_nextToken 105 = .ok (.getfield 94, 3) := by decide +kernel
theorem dX8_nextToken_108 : decode cX8_nextToken 108 = .ok (.bipush 59, 2) := by decide +kernel
theorem dX8_nextToken_110 : decode cX8_nextToken 110 = .ok (.if_icmp .ne 7, 3) := by decide +kernel
theorem dX8_nextToken_113 : decode cX8_nextToken 113 = .ok (.iconst 4, 1) := by decide +kernel
theorem dX8_nextToken_114 : decode cX8_nextToken 114 = .ok (.goto 4, 3) := by decide +kernel
theorem dX8_nextToken_117 : decode cX8_nextToken 117 = .ok (.iconst 0, 1) := by decide +kernel
theorem dX8_nextToken_118 : decode cX8_nextToken 118 = .ok (.putfield 105, 3) := by decide +kernel
theorem dX8_nextToken_121 : decode cX8_nextToken 121 = .ok (.aload_n 0, 1) := by decide +kernel
theorem dX8_nextToken_122 : decode cX8_nextToken 122 = .ok (.dup, 1) := by decide +kernel
theorem dX8_nextToken_123 : decode cX8_nextToken 123 = .ok (.getfield 90, 3) := by decide +kernel
theorem dX8_nextToken_126 : decode cX8_nextToken 126 = .ok (.aload_n 0, 1) := by decide +kernel
theorem dX8_nextToken_127 : decode cX8_nextToken 127 = .ok (.getfield 90, 3) := by decide +kernel
theorem dX8_nextToken_130 : decode cX8_nextToken 130 = .ok (.aload_n 0, 1) := by decide +kernel
theorem dX8_nextToken_131 : decode cX8_nextToken 131 = .ok (.getfield 77, 3) := by decide +kernel
theorem dX8_nextToken_134 : decode cX8_nextToken 134 = .ok (.if_icmp .ge 7, 3) := by decide +kernel
theorem dX8_nextToken_137 : decode cX8_nextToken 137 = .ok (.iconst 1, 1) := by decide +kernel
theorem dX8_nextToken_138 : decode cX8_nextToken 138 = .ok (.goto 4, 3) := by decide +kernel
theorem dX8_nextToken_141 : decode cX8_nextToken 141 = .ok (.iconst 0, 1) := by decide +kernel
theorem dX8_nextToken_142 : decode cX8_nextToken 142 = .ok (.iadd, 1) := by decide +kernel
theorem dX8_nextToken_143 : decode cX8_nextToken 143 = .ok (.putfield 90, 3) := by decide +kernel
theorem dX8_nextToken_146 : decode cX8_nextToken 146 = .ok (.aload_n 0, 1) := by decide +kernel
theorem dX8_nextToken_147 : decode cX8_nextToken 147 = .ok (.getfield 105, 3) := by decide +kernel
theorem dX8_nextToken_150 : decode cX8_nextToken 150 = .ok (.iconst 3, 1) := by decide +kernel
theorem dX8_nextToken_151 : decode cX8_nextToken 151 = .ok (.if_icmp .ne 126, 3) := by decide +kernel
theorem dX8_nextToken_154 : decode cX8_nextToken 154 = .ok (.aload_n 0, 1) := by decide +kernel
theorem dX8_nextToken_155 : decode cX8_nextToken 155 = .ok (.dup, 1) := by decide +kernel
theorem dX8_nextToken_156 : decode cX8_nextToken 156 = .ok (.getfield 94, 3) := by decide +kernel
theorem dX8_nextToken_159 : decode cX8_nextToken 159 = .ok (.bipush 48, 2) := by decide +kernel
theorem dX8_nextToken_161 : decode cX8_nextToken 161 = .ok (.isub, 1) := by decide +kernel
theorem dX8_nextToken_162 : decode cX8_nextToken 162 = .ok (.putfield 94, 3) := by decide +kernel
theorem dX8_nextToken_165 : decode cX8_nextToken 165 = .ok (.aload_n 0, 1) := by decide +kernel
theorem dX8_nextToken_166 : decode cX8_nextToken 166 = .ok (.getfield 90, 3) := by decide +kernel
theorem dX8_nextToken_169 : decode cX8_nextToken 169 = .ok (.aload_n 0, 1) := by decide +kernel
theorem dX8_nextToken_170 : decode cX8_nextToken 170 = .ok (.getfield 77, 3) := by decide +kernel
theorem dX8_nextToken_173 : decode cX8_nextToken 173 = .ok (.if_icmp .ge 82, 3) := by decide +kernel
theorem dX8_nextToken_176 : decode cX8_nextToken 176 = .ok (.aload_n 0, 1) := by decide +kernel
theorem dX8_nextToken_177 : decode cX8_nextToken 177 = .ok (.getfield 31, 3) := by decide +kernel
theorem dX8_nextToken_180 : decode cX8_nextToken 180 = .ok (.aload_n 0, 1) := by decide +kernel
theorem dX8_nextToken_181 : decode cX8_nextToken 181 = .ok (.getfield 90, 3) := by decide +kernel
theorem dX8_nextToken_184 : decode cX8_nextToken 184 = .ok (.iaload, 1) := by decide +kernel
theorem dX8_nextToken_185 : decode cX8_nextToken 185 = .ok (.i2l, 1) := by decide +kernel
theorem dX8_nextToken_186 : decode cX8_nextToken 186 = .ok (.ldc2_w 101, 3) := by decide +kernel
theorem dX8_nextToken_189 : decode cX8_nextToken 189 = .ok (.ldc2_w 103, 3) := by decide +kernel
theorem dX8_nextToken_192 : decode cX8_nextToken 192 = .ok (.invokestatic 60, 3) := by decide +kernel
theorem dX8_nextToken_195 : decode cX8_nextToken 195 = .ok (.ifCond .eq 60, 3) := by decide +kernel
theorem dX8_nextToken_198 : decode cX8_nextToken 198 = .ok (.aload_n 0, 1) := by decide +kernel
theorem dX8_nextToken_199 : decode cX8_nextToken 199 = .ok (.aload_n 0, 1) := by decide +kernel
theorem dX8_nextToken_200 : decode cX8_nextToken 200 = .ok (.getfield 90, 3) := by decide +kernel
theorem dX8_nextToken_203 : decode cX8_nextToken 203 = .ok (.aload_n 0, 1) := by decide +kernel
theorem dX8_nextToken_204 : decode cX8_nextToken 204 = .ok (.getfield 84, 3) := by decide +kernel
theorem dX8_nextToken_207 : decode cX8_nextToken 207 = .ok (.isub, 1) := by decide +kernel
theorem dX8_nextToken_208 : decode cX8_nextToken 208 = .ok (.iconst 2, 1) := by decide +kernel
theorem dX8_nextToken_209 : decode cX8_nextToken 209 = .ok (.if_icmp .ge 26, 3) := by decide +kernel
theorem dX8_nextToken_212 : decode cX8_nextToken 212 = .ok (.bipush 10, 2) := by decide +kernel
theorem dX8_nextToken_214 : decode cX8_nextToken 214 = .ok (.aload_n 0, 1) := by decide +kernel
theorem dX8_nextToken_215 : decode cX8_nextToken 215 = .ok (.getfield 94, 3) := by decide +kernel
theorem dX8_nextToken_218 : decode cX8_nextToken 218 = .ok (.imul, 1) := by decide +kernel
theorem dX8_nextToken_219 : decode cX8_nextToken 219 = .ok (.aload_n 0, 1) := by decide +kernel
theorem dX8_nextToken_220 : decode cX8_nextToken 220 = .ok (.getfield 31, 3) := by decide +kernel
theorem dX8_nextToken_223 : decode cX8_nextToken 223 = .ok (.aload_n 0, 1) := by decide +kernel
theorem dX8_nextToken_224 : decode cX8_nextToken 224 = .ok (.getfield 90, 3) := by decide +kernel
theorem dX8_nextToken_227 : decode cX8_nextToken 227 = .ok (.iaload, 1) := by decide +kernel
theorem dX8_nextToken_228 : decode cX8_nextToken 228 = .ok (.iadd, 1) := by decide +kernel
theorem dX8_nextToken_229 : decode cX8_nextToken 229 = .ok (.bipush 48, 2) := by decide +kernel
theorem dX8_nextToken_231 : decode cX8_nextToken 231 = .ok (.isub, 1) := by decide +kernel
theorem dX8_nextToken_232 : decode cX8_nextToken 232 = .ok (.goto 7, 3) := by decide +kernel
theorem dX8_nextToken_235 : decode cX8_nextToken 235 = .ok (.aload_n 0, 1) := by decide +kernel
theorem dX8_nextToken_236 : decode cX8_nextToken 236 = .ok (.getfield 94, 3) := by decide +kernel
theorem dX8_nextToken_239 : decode cX8_nextToken 239 = .ok (.putfield 94, 3) := by decide +kernel
theorem dX8_nextToken_242 : decode cX8_nextToken 242 = .ok (.aload_n 0, 1) := by decide +kernel
theorem dX8_nextToken_243 : decode cX8_nextToken 243 = .ok (.dup, 1) := by decide +kernel
theorem dX8_nextToken_244 : decode cX8_nextToken 244 = .ok (.getfield 90, 3) := by decide +kernel
theorem dX8_nextToken_247 : decode cX8_nextToken 247 = .ok (.iconst 1, 1) := by decide +kernel
theorem dX8_nextToken_248 : decode cX8_nextToken 248 = .ok (.iadd, 1) := by decide +kernel
theorem dX8_nextToken_249 : decode cX8_nextToken 249 = .ok (.putfield 90, 3) := by decide +kernel
theorem dX8_nextToken_252 : decode cX8_nextToken 252 = .ok (.goto (-87), 3) := by decide +kernel
theorem dX8_nextToken_255 : decode cX8_nextToken 255 = .ok (.aload_n 0, 1) := by decide +kernel
theorem dX8_nextToken_256 : decode cX8_nextToken 256 = .ok (.aload_n 0, 1) := by decide +kernel
theorem dX8_nextToken_257 : decode cX8_nextToken 257 = .ok (.getfield 90, 3) := by decide +kernel
theorem dX8_nextToken_260 : decode cX8_nextToken 260 = .ok (.aload_n 0, 1) := by decide +kernel
theorem dX8_nextToken_261 : decode cX8_nextToken 261 = .ok (.getfield 84, 3) := by decide +kernel
theorem dX8_nextToken_264 : decode cX8_nextToken 264 = .ok (.isub, 1) := by decide +kernel
theorem dX8_nextToken_265 : decode cX8_nextToken 265 = .ok (.iconst 2, 1) := by decide +kernel
theorem dX8_nextToken_266 : decode cX8_nextToken 266 = .ok (.if_icmp .le 7, 3) := by decide +kernel
theorem dX8_nextToken_269 : decode cX8_nextToken 269 = .ok (.iconst 0, 1) := by decide +kernel
theorem dX8_nextToken_270 : decode cX8_nextToken 270 = .ok (.goto 4, 3) := by decide +kernel
theorem dX8_nextToken_273 : decode cX8_nextToken 273 = .ok (.iconst 3, 1) := by decide +kernel
theorem dX8_nextToken_274 : decode cX8_nextToken 274 = .ok (.putfield 105, 3) := by decide +kernel
theorem dX8_nextToken_277 : decode cX8_nextToken 277 = .ok (.return_, 1) := by decide +kernel
theorem dX8_must_0 : decode cX8_must 0 = .ok (.iload_n 1, 1) := by decide +kernel
theorem dX8_must_1 : decode cX8_must 1 = .ok (.ifCond .ne 8, 3) := by decide +kernel
theorem dX8_must_4 : decode cX8_must 4 = .ok (.aload_n 0, 1) := by decide +kernel
theorem dX8_must_5 : decode cX8_must 5 = .ok (.iconst 1, 1) := by decide +kernel
theorem dX8_must_6 : decode cX8_must 6 = .ok (.invokevirtual 108, 3) := by decide +kernel
theorem dX8_must_9 : decode cX8_must 9 = .ok (.aload_n 0, 1) := by decide +kernel
theorem dX8_must_10 : decode cX8_must 10 = .ok (.getfield 81, 3) := by decide +kernel
theorem dX8_must_13 : decode cX8_must 13 = .ok (.ifCond .ne 7, 3) := by decide +kernel
theorem dX8_must_16 : decode cX8_must 16 = .ok (.aload_n 0, 1) := by decide +kernel
theorem dX8_must_17 : decode cX8_must 17 = .ok (.invokevirtual 112, 3) := by decide +kernel
theorem dX8_must_20 : decode cX8_must 20 = .ok (.return_, 1) := by decide +kernel
theorem dX8_isLetter_0 : decode cX8_isLetter 0 = .ok (.aload_n 0, 1) := by decide +kernel
theorem dX8_isLetter_1 : decode cX8_isLetter 1 = .ok (.getfield 81, 3) := by decide +kernel
theorem dX8_isLetter_4 : decode cX8_isLetter 4 = .ok (.ifCond .ne 23, 3) := by decide +kernel
theorem dX8_isLetter_7 : decode cX8_isLetter 7 = .ok (.aload_n 0, 1) := by decide +kernel
theorem dX8_isLetter_8 : decode cX8_isLetter 8 = .ok (.getfield 105, 3) := by decide +kernel
theorem dX8_isLetter_11 : decode cX8_isLetter 11 = .ok (.iconst 2, 1) := by decide +kernel
theorem dX8_isLetter_12 : decode cX8_isLetter 12 = .ok (.if_icmp .ne 15, 3) := by decide +kernel
theorem dX8_isLetter_15 : decode cX8_isLetter 15 = .ok (.aload_n 0, 1) := by decide +kernel
theorem dX8_isLetter_16 : decode cX8_isLetter 16 = .ok (.getfield 94, 3) := by decide +kernel
theorem dX8_isLetter_19 : decode cX8_isLetter 19 = .ok (.iload_n 1, 1) := by decide +kernel
theorem dX8_isLetter_20 : decode cX8_isLetter 20 = .ok (.if_icmp .ne 7, 3) := by decide +kernel
theorem dX8_isLetter_23 : decode cX8_isLetter 23 = .ok (.iconst 1, 1) := by decide +kernel
theorem dX8_isLetter_24 : decode cX8_isLetter 24 = .ok (.goto 4, 3) := by decide +kernel
theorem dX8_isLetter_27 : decode cX8_isLetter 27 = .ok (.iconst 0, 1) := by decide +kernel
theorem dX8_isLetter_28 : decode cX8_isLetter 28 = .ok (.ireturn, 1) := by decide +kernel
theorem dX8_number_0 : decode cX8_number 0 = .ok (.aload_n 0, 1) := by decide +kernel
theorem dX8_number_1 : decode cX8_number 1 = .ok (.getfield 81, 3) := by decide +kernel
theorem dX8_number_4 : decode cX8_number 4 = .ok (.ifCond .ne 16, 3) := by decide +kernel
theorem dX8_number_7 : decode cX8_number 7 = .ok (.aload_n 0, 1) := by decide +kernel
theorem dX8_number_8 : decode cX8_number 8 = .ok (.getfield 105, 3) := by decide +kernel
theorem dX8_number_11 : decode cX8_number 11 = .ok (.iconst 3, 1) := by decide +kernel
theorem dX8_number_12 : decode cX8_number 12 = .ok (.if_icmp .eq 8, 3) := by decide +kernel
theorem dX8_number_15 : decode cX8_number 15 = .ok (.aload_n 0, 1) := by decide +kernel
theorem dX8_number_16 : decode cX8_number 16 = .ok (.iconst 1, 1) := by decide +kernel
theorem dX8_number_17 : decode cX8_number 17 = .ok (.invokevirtual 108, 3) := by decide +kernel
theorem dX8_number_20 : decode cX8_number 20 = .ok (.aload_n 0, 1) := by decide +kernel
theorem dX8_number_21 : decode cX8_number 21 = .ok (.getfield 81, 3) := by decide +kernel
theorem dX8_number_24 : decode cX8_number 24 = .ok (.ifCond .ne 23, 3) := by decide +kernel
theorem dX8_number_27 : decode cX8_number 27 = .ok (.aload_n 0, 1) := by decide +kernel
theorem dX8_number_28 : decode cX8_number 28 = .ok (.getfield 94, 3) := by decide +kernel
theorem dX8_number_31 : decode cX8_number 31 = .ok (.i2l, 1) := by decide +kernel
theorem dX8_number_32 : decode cX8_number 32 = .ok (.iload_n 1, 1) := by decide +kernel
theorem dX8_number_33 : decode cX8_number 33 = .ok (.i2l, 1) := by decide +kernel
theorem dX8_number_34 : decode cX8_number 34 = .ok (.iload_n 2, 1) := by decide +kernel
theorem dX8_number_35 : decode cX8_number 35 = .ok (.i2l, 1) := by decide +kernel
theorem dX8_number_36 : decode cX8_number 36 = .ok (.invokestatic 60, 3) := by decide +kernel
theorem dX8_number_39 : decode cX8_number 39 = .ok (.ifCond .ne 8, 3) := by decide +kernel
theorem dX8_number_42 : decode cX8_number 42 = .ok (.aload_n 0, 1) := by decide +kernel
theorem dX8_number_43 : decode cX8_number 43 = .ok (.iconst 2, 1) := by decide +kernel
theorem dX8_number_44 : decode cX8_number 44 = .ok (.invokevirtual 108, 3) := by decide +kernel
theorem dX8_number_47 : decode cX8_number 47 = .ok (.aload_n 0, 1) := by decide +kernel
theorem dX8_number_48 : decode cX8_number 48 = .ok (.getfield 81, 3) := by decide +kernel
theorem dX8_number_51 : decode cX8_number 51 = .ok (.ifCond .ne 10, 3) := by decide +kernel
theorem dX8_number_54 : decode cX8_number 54 = .ok (.aload_n 0, 1) := by decide +kernel
theorem dX8_number_55 : decode cX8_number 55 = .ok (.getfield 94, 3) := by decide +kernel
theorem dX8_number_58 : decode cX8_number 58 = .ok (.goto 4, 3) := by decide +kernel
theorem dX8_number_61 : decode cX8_number 61 = .ok (.iload_n 1, 1) := by decide +kernel
theorem dX8_number_62 : decode cX8_number 62 = .ok (.istore_n 3, 1) := by decide +kernel
theorem dX8_number_63 : decode cX8_number 63 = .ok (.aload_n 0, 1) := by decide +kernel
theorem dX8_number_64 : decode cX8_number 64 = .ok (.iconst 1, 1) := by decide +kernel
theorem dX8_number_65 : decode cX8_number 65 = .ok (.invokevirtual 115, 3) := by decide +kernel
theorem dX8_number_68 : decode cX8_number 68 = .ok (.iload_n 3, 1) := by decide +kernel
theorem dX8_number_69 : decode cX8_number 69 = .ok (.ireturn, 1) := by decide +kernel
theorem dX8_mustSign_0 : decode cX8_mustSign 0 = .ok (.aload_n 0, 1) := by decide +kernel
theorem dX8_mustSign_1 : decode cX8_mustSign 1 = .ok (.aload_n 0, 1) := by decide +kernel
theorem dX8_mustSign_2 : decode cX8_mustSign 2 = .ok (.getfield 105, 3) := by decide +kernel
theorem dX8_mustSign_5 : decode cX8_mustSign 5 = .ok (.iconst 4, 1) := by decide +kernel
theorem dX8_mustSign_6 : decode cX8_mustSign 6 = .ok (.if_icmp .ne 15, 3) := by decide +kernel
theorem dX8_mustSign_9 : decode cX8_mustSign 9 = .ok (.aload_n 0, 1) := by decide +kernel
theorem dX8_mustSign_10 : decode cX8_mustSign 10 = .ok (.getfield 94, 3) := by decide +kernel
theorem dX8_mustSign_13 : decode cX8_mustSign 13 = .ok (.iload_n 1, 1) := by decide +kernel
theorem dX8_mustSign_14 : decode cX8_mustSign 14 = .ok (.if_icmp .ne 7, 3) := by decide +kernel
theorem dX8_mustSign_17 : decode cX8_mustSign 17 = .ok (.iconst 1, 1) := by decide +kernel
theorem dX8_mustSign_18 : decode cX8_mustSign 18 = .ok (.goto 4, 3) := by decide +kernel
theorem dX8_mustSign_21 : decode cX8_mustSign 21 = .ok (.iconst 0, 1) := by decide +kernel
theorem dX8_mustSign_22 : decode cX8_mustSign 22 = .ok (.invokevirtual 115, 3) := by decide +kernel
theorem dX8_mustSign_25 : decode cX8_mustSign 25 = .ok (.return_, 1) := by decide +kernel
theorem dX8_begin_0 : decode cX8_begin 0 = .ok (.aload_n 0, 1) := by decide +kernel
theorem dX8_begin_1 : decode cX8_begin 1 = .ok (.iconst 0, 1) := by decide +kernel
theorem dX8_begin_2 : decode cX8_begin 2 = .ok (.putfield 90, 3) := by decide +kernel
theorem dX8_begin_5 : decode cX8_begin 5 = .ok (.aload_n 0, 1) := by decide +kernel
theorem dX8_begin_6 : decode cX8_begin 6 = .ok (.iconst 0, 1) := by decide +kernel
theorem dX8_begin_7 : decode cX8_begin 7 = .ok (.putfield 81, 3) := by decide +kernel
theorem dX8_begin_10 : decode cX8_begin 10 = .ok (.aload_n 0, 1) := by decide +kernel
theorem dX8_begin_11 : decode cX8_begin 11 = .ok (.invokevirtual 112, 3) := by decide +kernel
theorem dX8_begin_14 : decode cX8_begin 14 = .ok (.return_, 1) := by decide +kernel
theorem dX8_failed_0 : decode cX8_failed 0 = .ok (.aload_n 0, 1) := by decide +kernel
theorem dX8_failed_1 : decode cX8_failed 1 = .ok (.getfield 81, 3) := by decide +kernel
theorem dX8_failed_4 : decode cX8_failed 4 = .ok (.ifCond .ne 16, 3) := by decide +kernel
theorem dX8_failed_7 : decode cX8_failed 7 = .ok (.aload_n 0, 1) := by decide +kernel
theorem dX8_failed_8 : decode cX8_failed 8 = .ok (.getfield 105, 3) := by decide +kernel
theorem dX8_failed_11 : decode cX8_failed 11 = .ok (.iconst 1, 1) := by decide +kernel
theorem dX8_failed_12 : decode cX8_failed 12 = .ok (.if_icmp .eq 8, 3) := by decide +kernel
theorem dX8_failed_15 : decode cX8_failed 15 = .ok (.aload_n 0, 1) := by decide +kernel
theorem dX8_failed_16 : decode cX8_failed 16 = .ok (.iconst 1, 1) := by decide +kernel
theorem dX8_failed_17 : decode cX8_failed 17 = .ok (.invokevirtual 108, 3) := by decide +kernel
theorem dX8_failed_20 : decode cX8_failed 20 = .ok (.aload_n 0, 1) := by decide +kernel
theorem dX8_failed_21 : decode cX8_failed 21 = .ok (.iconst 0, 1) := by decide +kernel
theorem dX8_failed_22 : decode cX8_failed 22 = .ok (.putfield 77, 3) := by decide +kernel
theorem dX8_failed_25 : decode cX8_failed 25 = .ok (.aload_n 0, 1) := by decide +kernel
theorem dX8_failed_26 : decode cX8_failed 26 = .ok (.aload_n 0, 1) := by decide +kernel
theorem dX8_failed_27 : decode cX8_failed 27 = .ok (.getfield 81, 3) := by decide +kernel
theorem dX8_failed_30 : decode cX8_failed 30 = .ok (.ifCond .le 10, 3) := by decide +kernel
theorem dX8_failed_33 : decode cX8_failed 33 = .ok (.aload_n 0, 1) := by decide +kernel
theorem dX8_failed_34 : decode cX8_failed 34 = .ok (.getfield 81, 3) := by decide +kernel
theorem dX8_failed_37 : decode cX8_failed 37 = .ok (.goto 7, 3) := by decide +kernel
theorem dX8_failed_40 : decode cX8_failed 40 = .ok (.aload_n 0, 1) := by decide +kernel
theorem dX8_failed_41 : decode cX8_failed 41 = .ok (.getfield 119, 3) := by decide +kernel
theorem dX8_failed_44 : decode cX8_failed 44 = .ok (.putfield 119, 3) := by decide +kernel
theorem dX8_failed_47 : decode cX8_failed 47 = .ok (.aload_n 0, 1) := by decide +kernel
theorem dX8_failed_48 : decode cX8_failed 48 = .ok (.getfield 81, 3) := by decide +kernel
theorem dX8_failed_51 : decode cX8_failed 51 = .ok (.ifCond .le 7, 3) := by decide +kernel
theorem dX8_failed_54 : decode cX8_failed 54 = .ok (.iconst 1, 1) := by decide +kernel
theorem dX8_failed_55 : decode cX8_failed 55 = .ok (.goto 4, 3) := by decide +kernel
theorem dX8_failed_58 : decode cX8_failed 58 = .ok (.iconst 0, 1) := by decide +kernel
theorem dX8_failed_59 : decode cX8_failed 59 = .ok (.ireturn, 1) := by decide +kernel
theorem dX8_fault_0 : decode cX8_fault 0 = .ok (.aload_n 0, 1) := by decide +kernel
theorem dX8_fault_1 : decode cX8_fault 1 = .ok (.iconst 0, 1) := by decide +kernel
theorem dX8_fault_2 : decode cX8_fault 2 = .ok (.putfield 50, 3) := by decide +kernel
theorem dX8_fault_5 : decode cX8_fault 5 = .ok (.aload_n 0, 1) := by decide +kernel
theorem dX8_fault_6 : decode cX8_fault 6 = .ok (.getfield 119, 3) := by decide +kernel
theorem dX8_fault_9 : decode cX8_fault 9 = .ok (.ireturn, 1) := by decide +kernel
theorem dX8_kindBy_0 : decode cX8_kindBy 0 = .ok (.iload_n 0, 1) := by decide +kernel
theorem dX8_kindBy_1 : decode cX8_kindBy 1 = .ok (.bipush 103, 2) := by decide +kernel
theorem dX8_kindBy_3 : decode cX8_kindBy 3 = .ok (.if_icmp .ne 7, 3) := by decide +kernel
theorem dX8_kindBy_6 : decode cX8_kindBy 6 = .ok (.iconst 1, 1) := by decide +kernel
theorem dX8_kindBy_7 : decode cX8_kindBy 7 = .ok (.goto 45, 3) := by decide +kernel
theorem dX8_kindBy_10 : decode cX8_kindBy 10 = .ok (.iload_n 0, 1) := by decide +kernel
theorem dX8_kindBy_11 : decode cX8_kindBy 11 = .ok (.bipush 116, 2) := by decide +kernel
theorem dX8_kindBy_13 : decode cX8_kindBy 13 = .ok (.if_icmp .ne 7, 3) := by decide +kernel
theorem dX8_kindBy_16 : decode cX8_kindBy 16 = .ok (.iconst 2, 1) := by decide +kernel
theorem dX8_kindBy_17 : decode cX8_kindBy 17 = .ok (.goto 35, 3) := by decide +kernel
theorem dX8_kindBy_20 : decode cX8_kindBy 20 = .ok (.iload_n 0, 1) := by decide +kernel
theorem dX8_kindBy_21 : decode cX8_kindBy 21 = .ok (.bipush 104, 2) := by decide +kernel
theorem dX8_kindBy_23 : decode cX8_kindBy 23 = .ok (.if_icmp .ne 7, 3) := by decide +kernel
theorem dX8_kindBy_26 : decode cX8_kindBy 26 = .ok (.iconst 3, 1) := by decide +kernel
theorem dX8_kindBy_27 : decode cX8_kindBy 27 = .ok (.goto 25, 3) := by decide +kernel
theorem dX8_kindBy_30 : decode cX8_kindBy 30 = .ok (.iload_n 0, 1) := by decide +kernel
theorem dX8_kindBy_31 : decode cX8_kindBy 31 = .ok (.bipush 115, 2) := by decide +kernel
theorem dX8_kindBy_33 : decode cX8_kindBy 33 = .ok (.if_icmp .ne 7, 3) := by decide +kernel
theorem dX8_kindBy_36 : decode cX8_kindBy 36 = .ok (.iconst 4, 1) := by decide +kernel
theorem dX8_kindBy_37 : decode cX8_kindBy 37 = .ok (.goto 15, 3) := by decide +kernel
theorem dX8_kindBy_40 : decode cX8_kindBy 40 = .ok (.iload_n 0, 1) := by decide +kernel
theorem dX8_kindBy_41 : decode cX8_kindBy 41 = .ok (.bipush 99, 2) := by decide +kernel
theorem dX8_kindBy_43 : decode cX8_kindBy 43 = .ok (.if_icmp .ne 7, 3) := by decide +kernel
theorem dX8_kindBy_46 : decode cX8_kindBy 46 = .ok (.iconst 5, 1) := by decide +kernel
theorem dX8_kindBy_47 : decode cX8_kindBy 47 = .ok (.goto 5, 3) := by decide +kernel
theorem dX8_kindBy_50 : decode cX8_kindBy 50 = .ok (.ldc 93, 2) := by decide +kernel
theorem dX8_kindBy_52 : decode cX8_kindBy 52 = .ok (.ireturn, 1) := by decide +kernel
theorem dX8_isSort_0 : decode cX8_isSort 0 = .ok (.aload_n 0, 1) := by decide +kernel
theorem dX8_isSort_1 : decode cX8_isSort 1 = .ok (.getfield 81, 3) := by decide +kernel
theorem dX8_isSort_4 : decode cX8_isSort 4 = .ok (.ifCond .ne 27, 3) := by decide +kernel
theorem dX8_isSort_7 : decode cX8_isSort 7 = .ok (.aload_n 0, 1) := by decide +kernel
theorem dX8_isSort_8 : decode cX8_isSort 8 = .ok (.getfield 105, 3) := by decide +kernel
theorem dX8_isSort_11 : decode cX8_isSort 11 = .ok (.iconst 2, 1) := by decide +kernel
theorem dX8_isSort_12 : decode cX8_isSort 12 = .ok (.if_icmp .ne 19, 3) := by decide +kernel
theorem dX8_isSort_15 : decode cX8_isSort 15 = .ok (.aload_n 0, 1) := by decide +kernel
theorem dX8_isSort_16 : decode cX8_isSort 16 = .ok (.getfield 94, 3) := by decide +kernel
theorem dX8_isSort_19 : decode cX8_isSort 19 = .ok (.invokestatic 122, 3) := by decide +kernel
theorem dX8_isSort_22 : decode cX8_isSort 22 = .ok (.ldc 93, 2) := by decide +kernel
theorem dX8_isSort_24 : decode cX8_isSort 24 = .ok (.if_icmp .eq 7, 3) := by decide +kernel
theorem dX8_isSort_27 : decode cX8_isSort 27 = .ok (.iconst 1, 1) := by decide +kernel
theorem dX8_isSort_28 : decode cX8_isSort 28 = .ok (.goto 4, 3) := by decide +kernel
theorem dX8_isSort_31 : decode cX8_isSort 31 = .ok (.iconst 0, 1) := by decide +kernel
theorem dX8_isSort_32 : decode cX8_isSort 32 = .ok (.ireturn, 1) := by decide +kernel
theorem dX8_readJar_0 : decode cX8_readJar 0 = .ok (.aload_n 0, 1) := by decide +kernel
theorem dX8_readJar_1 : decode cX8_readJar 1 = .ok (.getfield 94, 3) := by decide +kernel
theorem dX8_readJar_4 : decode cX8_readJar 4 = .ok (.invokestatic 122, 3) := by decide +kernel
theorem dX8_readJar_7 : decode cX8_readJar 7 = .ok (.istore_n 1, 1) := by decide +kernel
theorem dX8_readJar_8 : decode cX8_readJar 8 = .ok (.aload_n 0, 1) := by decide +kernel
theorem dX8_readJar_9 : decode cX8_readJar 9 = .ok (.getfield 22, 3) := by decide +kernel
theorem dX8_readJar_12 : decode cX8_readJar 12 = .ok (.iconst 0, 1) := by decide +kernel
theorem dX8_readJar_13 : decode cX8_readJar 13 = .ok (.iaload, 1) := by decide +kernel
theorem dX8_readJar_14 : decode cX8_readJar 14 = .ok (.bipush 8, 2) := by decide +kernel
theorem dX8_readJar_16 : decode cX8_readJar 16 = .ok (.if_icmp .ne 8, 3) := by decide +kernel
theorem dX8_readJar_19 : decode cX8_readJar 19 = .ok (.aload_n 0, 1) := by decide +kernel
theorem dX8_readJar_20 : decode cX8_readJar 20 = .ok (.iconst 3, 1) := by decide +kernel
theorem dX8_readJar_21 : decode cX8_readJar 21 = .ok (.invokevirtual 108, 3) := by decide +kernel
theorem dX8_readJar_24 : decode cX8_readJar 24 = .ok (.aload_n 0, 1) := by decide +kernel
theorem dX8_readJar_25 : decode cX8_readJar 25 = .ok (.iconst 1, 1) := by decide +kernel
theorem dX8_readJar_26 : decode cX8_readJar 26 = .ok (.invokevirtual 115, 3) := by decide +kernel
theorem dX8_readJar_29 : decode cX8_readJar 29 = .ok (.aload_n 0, 1) := by decide +kernel
theorem dX8_readJar_30 : decode cX8_readJar 30 = .ok (.iconst 0, 1) := by decide +kernel
theorem dX8_readJar_31 : decode cX8_readJar 31 = .ok (.bipush 11, 2) := by decide +kernel
theorem dX8_readJar_33 : decode cX8_readJar 33 = .ok (.invokevirtual 125, 3) := by decide +kernel
theorem dX8_readJar_36 : decode cX8_readJar 36 = .ok (.istore_n 2, 1) := by decide +kernel
theorem dX8_readJar_37 : decode cX8_readJar 37 = .ok (.aload_n 0, 1) := by decide +kernel
theorem dX8_readJar_38 : decode cX8_readJar 38 = .ok (.bipush 44, 2) := by decide +kernel
theorem dX8_readJar_40 : decode cX8_readJar 40 = .ok (.invokevirtual 129, 3) := by decide +kernel
theorem dX8_readJar_43 : decode cX8_readJar 43 = .ok (.aload_n 0, 1) := by decide +kernel
theorem dX8_readJar_44 : decode cX8_readJar 44 = .ok (.iconst 1, 1) := by decide +kernel
theorem dX8_readJar_45 : decode cX8_readJar 45 = .ok (.bipush 60, 2) := by decide +kernel
theorem dX8_readJar_47 : decode cX8_readJar 47 = .ok (.invokevirtual 125, 3) := by decide +kernel
theorem dX8_readJar_50 : decode cX8_readJar 50 = .ok (.istore_n 3, 1) := by decide +kernel
theorem dX8_readJar_51 : decode cX8_readJar 51 = .ok (.aload_n 0, 1) := by decide +kernel
theorem dX8_readJar_52 : decode cX8_readJar 52 = .ok (.bipush 59, 2) := by decide +kernel
theorem dX8_readJar_54 : decode cX8_readJar 54 = .ok (.invokevirtual 129, 3) := by decide +kernel
theorem dX8_readJar_57 : decode cX8_readJar 57 = .ok (.aload_n 0, 1) := by decide +kernel
theorem dX8_readJar_58 : decode cX8_readJar 58 = .ok (.getfield 81, 3) := by decide +kernel
theorem dX8_readJar_61 : decode cX8_readJar 61 = .ok (.ifCond .ne 78, 3) := by decide +kernel
theorem dX8_readJar_64 : decode cX8_readJar 64 = .ok (.iconst 3, 1) := by decide +kernel
theorem dX8_readJar_65 : decode cX8_readJar 65 = .ok (.iconst 5, 1) := by decide +kernel
theorem dX8_readJar_66 : decode cX8_readJar 66 = .ok (.aload_n 0, 1) := by decide +kernel
theorem dX8_readJar_67 : decode cX8_readJar 67 = .ok (.getfield 22, 3) := by decide +kernel
theorem dX8_readJar_70 : decode cX8_readJar 70 = .ok (.iconst 0, 1) := by decide +kernel
theorem dX8_readJar_71 : decode cX8_readJar 71 = .ok (.iaload, 1) := by decide +kernel
theorem dX8_readJar_72 : decode cX8_readJar 72 = .ok (.imul, 1) := by decide +kernel
theorem dX8_readJar_73 : decode cX8_readJar 73 = .ok (.iadd, 1) := by decide +kernel
theorem dX8_readJar_74 : decode cX8_readJar 74 = .ok (.istore 4, 2) := by decide +kernel
theorem dX8_readJar_76 : decode cX8_readJar 76 = .ok (.aload_n 0, 1) := by decide +kernel
theorem dX8_readJar_77 : decode cX8_readJar 77 = .ok (.getfield 22, 3) := by decide +kernel
theorem dX8_readJar_80 : decode cX8_readJar 80 = .ok (.iload 4, 2) := by decide +kernel
theorem dX8_readJar_82 : decode cX8_readJar 82 = .ok (.iload_n 1, 1) := by decide +kernel
theorem dX8_readJar_83 : decode cX8_readJar 83 = .ok (.iastore, 1) := by decide +kernel
theorem dX8_readJar_84 : decode cX8_readJar 84 = .ok (.aload_n 0, 1) := by decide +kernel
theorem dX8_readJar_85 : decode cX8_readJar 85 = .ok (.getfield 22, 3) := by decide +kernel
theorem dX8_readJar_88 : decode cX8_readJar 88 = .ok (.iload 4, 2) := by decide +kernel
theorem dX8_readJar_90 : decode cX8_readJar 90 = .ok (.iconst 1, 1) := by decide +kernel
theorem dX8_readJar_91 : decode cX8_readJar 91 = .ok (.iadd, 1) := by decide +kernel
theorem dX8_readJar_92 : decode cX8_readJar 92 = .ok (.iload_n 2, 1) := by decide +kernel
theorem dX8_readJar_93 : decode cX8_readJar 93 = .ok (.iastore, 1) := by decide +kernel
theorem dX8_readJar_94 : decode cX8_readJar 94 = .ok (.aload_n 0, 1) := by decide +kernel
theorem dX8_readJar_95 : decode cX8_readJar 95 = .ok (.getfield 22, 3) := by decide +kernel
theorem dX8_readJar_98 : decode cX8_readJar 98 = .ok (.iload 4, 2) := by decide +kernel
theorem dX8_readJar_100 : decode cX8_readJar 100 = .ok (.iconst 2, 1) := by decide +kernel
theorem dX8_readJar_101 : decode cX8_readJar 101 = .ok (.iadd, 1) := by decide +kernel
theorem dX8_readJar_102 : decode cX8_readJar 102 = .ok (.iload_n 3, 1) := by decide +kernel
theorem dX8_readJar_103 : decode cX8_readJar 103 = .ok (.iastore, 1) := by decide +kernel
theorem dX8_readJar_104 : decode cX8_readJar 104 = .ok (.aload_n 0, 1) := by decide +kernel
theorem dX8_readJar_105 : decode cX8_readJar 105 = .ok (.getfield 22, 3) := by decide +kernel
theorem dX8_readJar_108 : decode cX8_readJar 108 = .ok (.iload 4, 2) := by decide +kernel
theorem dX8_readJar_110 : decode cX8_readJar 110 = .ok (.iconst 3, 1) := by decide +kernel
theorem dX8_readJar_111 : decode cX8_readJar 111 = .ok (.iadd, 1) := by decide +kernel
theorem dX8_readJar_112 : decode cX8_readJar 112 = .ok (.aload_n 0, 1) := by decide +kernel
theorem dX8_readJar_113 : decode cX8_readJar 113 = .ok (.getfield 22, 3) := by decide +kernel
theorem dX8_readJar_116 : decode cX8_readJar 116 = .ok (.iconst 0, 1) := by decide +kernel
theorem dX8_readJar_117 : decode cX8_readJar 117 = .ok (.iaload, 1) := by decide +kernel
theorem dX8_readJar_118 : decode cX8_readJar 118 = .ok (.iastore, 1) := by decide +kernel
theorem dX8_readJar_119 : decode cX8_readJar 119 = .ok (.aload_n 0, 1) := by decide +kernel
theorem dX8_readJar_120 : decode cX8_readJar 120 = .ok (.getfield 22, 3) := by decide +kernel
theorem dX8_readJar_123 : decode cX8_readJar 123 = .ok (.iload 4, 2) := by decide +kernel
theorem dX8_readJar_125 : decode cX8_readJar 125 = .ok (.iconst 4, 1) := by decide +kernel
theorem dX8_readJar_126 : decode cX8_readJar 126 = .ok (.iadd, 1) := by decide +kernel
theorem dX8_readJar_127 : decode cX8_readJar 127 = .ok (.iconst 0, 1) := by decide +kernel
theorem dX8_readJar_128 : decode cX8_readJar 128 = .ok (.iastore, 1) := by decide +kernel
theorem dX8_readJar_129 : decode cX8_readJar 129 = .ok (.aload_n 0, 1) := by decide +kernel
theorem dX8_readJar_130 : decode cX8_readJar 130 = .ok (.getfield 22, 3) := by decide +kernel
theorem dX8_readJar_133 : decode cX8_readJar 133 = .ok (.iconst 0, 1) := by decide +kernel
theorem dX8_readJar_134 : decode cX8_readJar 134 = .ok (.dup2, 1) := by decide +kernel
theorem dX8_readJar_135 : decode cX8_readJar 135 = .ok (.iaload, 1) := by decide +kernel
theorem dX8_readJar_136 : decode cX8_readJar 136 = .ok (.iconst 1, 1) := by decide +kernel
theorem dX8_readJar_137 : decode cX8_readJar 137 = .ok (.iadd, 1) := by decide +kernel
theorem dX8_readJar_138 : decode cX8_readJar 138 = .ok (.iastore, 1) := by decide +kernel
theorem dX8_readJar_139 : decode cX8_readJar 139 = .ok (.return_, 1) := by decide +kernel
theorem dX8_cellar_0 : decode cX8_cellar 0 = .ok (.aload_n 0, 1) := by decide +kernel
theorem dX8_cellar_1 : decode cX8_cellar 1 = .ok (.iconst 0, 1) := by decide +kernel
theorem dX8_cellar_2 : decode cX8_cellar 2 = .ok (.putfield 50, 3) := by decide +kernel
theorem dX8_cellar_5 : decode cX8_cellar 5 = .ok (.aload_n 0, 1) := by decide +kernel
theorem dX8_cellar_6 : decode cX8_cellar 6 = .ok (.invokevirtual 132, 3) := by decide +kernel
theorem dX8_cellar_9 : decode cX8_cellar 9 = .ok (.iconst 0, 1) := by decide +kernel
theorem dX8_cellar_10 : decode cX8_cellar 10 = .ok (.istore_n 1, 1) := by decide +kernel
theorem dX8_cellar_11 : decode cX8_cellar 11 = .ok (.iload_n 1, 1) := by decide +kernel
theorem dX8_cellar_12 : decode cX8_cellar 12 = .ok (.bipush 43, 2) := by decide +kernel
theorem dX8_cellar_14 : decode cX8_cellar 14 = .ok (.if_icmp .ge 16, 3) := by decide +kernel
theorem dX8_cellar_17 : decode cX8_cellar 17 = .ok (.aload_n 0, 1) := by decide +kernel
theorem dX8_cellar_18 : decode cX8_cellar 18 = .ok (.getfield 22, 3) := by decide +kernel
theorem dX8_cellar_21 : decode cX8_cellar 21 = .ok (.iload_n 1, 1) := by decide +kernel
theorem dX8_cellar_22 : decode cX8_cellar 22 = .ok (.iconst 0, 1) := by decide +kernel
theorem dX8_cellar_23 : decode cX8_cellar 23 = .ok (.iastore, 1) := by decide +kernel
theorem dX8_cellar_24 : decode cX8_cellar 24 = .ok (.iinc 1 1, 3) := by decide +kernel
theorem dX8_cellar_27 : decode cX8_cellar 27 = .ok (.goto (-16), 3) := by decide +kernel
theorem dX8_cellar_30 : decode cX8_cellar 30 = .ok (.aload_n 0, 1) := by decide +kernel
theorem dX8_cellar_31 : decode cX8_cellar 31 = .ok (.aload_n 0, 1) := by decide +kernel
theorem dX8_cellar_32 : decode cX8_cellar 32 = .ok (.bipush 107, 2) := by decide +kernel
theorem dX8_cellar_34 : decode cX8_cellar 34 = .ok (.invokevirtual 135, 3) := by decide +kernel
theorem dX8_cellar_37 : decode cX8_cellar 37 = .ok (.invokevirtual 115, 3) := by decide +kernel
theorem dX8_cellar_40 : decode cX8_cellar 40 = .ok (.aload_n 0, 1) := by decide +kernel
theorem dX8_cellar_41 : decode cX8_cellar 41 = .ok (.getfield 22, 3) := by decide +kernel
theorem dX8_cellar_44 : decode cX8_cellar 44 = .ok (.iconst 2, 1) := by decide +kernel
theorem dX8_cellar_45 : decode cX8_cellar 45 = .ok (.aload_n 0, 1) := by decide +kernel
theorem dX8_cellar_46 : decode cX8_cellar 46 = .ok (.iconst 0, 1) := by decide +kernel
theorem dX8_cellar_47 : decode cX8_cellar 47 = .ok (.bipush 8, 2) := by decide +kernel
theorem dX8_cellar_49 : decode cX8_cellar 49 = .ok (.invokevirtual 125, 3) := by decide +kernel
theorem dX8_cellar_52 : decode cX8_cellar 52 = .ok (.iastore, 1) := by decide +kernel
theorem dX8_cellar_53 : decode cX8_cellar 53 = .ok (.aload_n 0, 1) := by decide +kernel
theorem dX8_cellar_54 : decode cX8_cellar 54 = .ok (.bipush 59, 2) := by decide +kernel
theorem dX8_cellar_56 : decode cX8_cellar 56 = .ok (.invokevirtual 129, 3) := by decide +kernel
theorem dX8_cellar_59 : decode cX8_cellar 59 = .ok (.aload_n 0, 1) := by decide +kernel
theorem dX8_cellar_60 : decode cX8_cellar 60 = .ok (.invokevirtual 138, 3) := by decide +kernel
theorem dX8_cellar_63 : decode cX8_cellar 63 = .ok (.ifCond .ne 8, 3) := by decide +kernel
theorem dX8_cellar_66 : decode cX8_cellar 66 = .ok (.aload_n 0, 1) := by decide +kernel
theorem dX8_cellar_67 : decode cX8_cellar 67 = .ok (.iconst 1, 1) := by decide +kernel
theorem dX8_cellar_68 : decode cX8_cellar 68 = .ok (.invokevirtual 108, 3) := by decide +kernel
theorem dX8_cellar_71 : decode cX8_cellar 71 = .ok (.aload_n 0, 1) := by decide +kernel
theorem dX8_cellar_72 : decode cX8_cellar 72 = .ok (.invokevirtual 138, 3) := by decide +kernel
theorem dX8_cellar_75 : decode cX8_cellar 75 = .ok (.ifCond .eq 10, 3) := by decide +kernel
theorem dX8_cellar_78 : decode cX8_cellar 78 = .ok (.aload_n 0, 1) := by decide +kernel
theorem dX8_cellar_79 : decode cX8_cellar 79 = .ok (.invokevirtual 142, 3) := by decide +kernel
theorem dX8_cellar_82 : decode cX8_cellar 82 = .ok (.goto (-11), 3) := by decide +kernel
theorem dX8_cellar_85 : decode cX8_cellar 85 = .ok (.aload_n 0, 1) := by decide +kernel
theorem dX8_cellar_86 : decode cX8_cellar 86 = .ok (.invokevirtual 145, 3) := by decide +kernel
theorem dX8_cellar_89 : decode cX8_cellar 89 = .ok (.ifCond .eq 11, 3) := by decide +kernel
theorem dX8_cellar_92 : decode cX8_cellar 92 = .ok (.ldc 148, 2) := by decide +kernel
theorem dX8_cellar_94 : decode cX8_cellar 94 = .ok (.aload_n 0, 1) := by decide +kernel
theorem dX8_cellar_95 : decode cX8_cellar 95 = .ok (.getfield 87, 3) := by decide +kernel
theorem dX8_cellar_98 : decode cX8_cellar 98 = .ok (.isub, 1) := by decide +kernel
theorem dX8_cellar_99 : decode cX8_cellar 99 = .ok (.ireturn, 1) := by decide +kernel
theorem dX8_cellar_100 : decode cX8_cellar 100 = .ok (.aload_n 0, 1) := by decide +kernel
theorem dX8_cellar_101 : decode cX8_cellar 101 = .ok (.iconst 0, 1) := by decide +kernel
theorem dX8_cellar_102 : decode cX8_cellar 102 = .ok (.putfield 149, 3) := by decide +kernel
theorem dX8_cellar_105 : decode cX8_cellar 105 = .ok (.iconst 0, 1) := by decide +kernel
theorem dX8_cellar_106 : decode cX8_cellar 106 = .ok (.istore_n 1, 1) := by decide +kernel
theorem dX8_cellar_107 : decode cX8_cellar 107 = .ok (.iload_n 1, 1) := by decide +kernel
theorem dX8_cellar_108 : decode cX8_cellar 108 = .ok (.bipush 43, 2) := by decide +kernel
theorem dX8_cellar_110 : decode cX8_cellar 110 = .ok (.if_icmp .ge 21, 3) := by decide +kernel
theorem dX8_cellar_113 : decode cX8_cellar 113 = .ok (.aload_n 0, 1) := by decide +kernel
theorem dX8_cellar_114 : decode cX8_cellar 114 = .ok (.getfield 19, 3) := by decide +kernel
theorem dX8_cellar_117 : decode cX8_cellar 117 = .ok (.iload_n 1, 1) := by decide +kernel
theorem dX8_cellar_118 : decode cX8_cellar 118 = .ok (.aload_n 0, 1) := by decide +kernel
theorem dX8_cellar_119 : decode cX8_cellar 119 = .ok (.getfield 22, 3) := by decide +kernel
theorem dX8_cellar_122 : decode cX8_cellar 122 = .ok (.iload_n 1, 1) := by decide +kernel
theorem dX8_cellar_123 : decode cX8_cellar 123 = .ok (.iaload, 1) := by decide +kernel
theorem dX8_cellar_124 : decode cX8_cellar 124 = .ok (.iastore, 1) := by decide +kernel
theorem dX8_cellar_125 : decode cX8_cellar 125 = .ok (.iinc 1 1, 3) := by decide +kernel
theorem dX8_cellar_128 : decode cX8_cellar 128 = .ok (.goto (-21), 3) := by decide +kernel
theorem dX8_cellar_131 : decode cX8_cellar 131 = .ok (.aload_n 0, 1) := by decide +kernel
theorem dX8_cellar_132 : decode cX8_cellar 132 = .ok (.getfield 19, 3) := by decide +kernel
theorem dX8_cellar_135 : decode cX8_cellar 135 = .ok (.iconst 0, 1) := by decide +kernel
theorem dX8_cellar_136 : decode cX8_cellar 136 = .ok (.iaload, 1) := by decide +kernel
theorem dX8_cellar_137 : decode cX8_cellar 137 = .ok (.ireturn, 1) := by decide +kernel
end
section
theorem dX8_isThere_0 : decode cX8_isThere 0 = .ok (.aload_n 0, 1) := by decide +kernel
theorem dX8_isThere_1 : decode cX8_isThere 1 = .ok (.getfield 19, 3) := by decide +kernel
theorem dX8_isThere_4 : decode cX8_isThere 4 = .ok (.iconst 0, 1) := by decide +kernel
theorem dX8_isThere_5 : decode cX8_isThere 5 = .ok (.iaload, 1) := by decide +kernel
theorem dX8_isThere_6 : decode cX8_isThere 6 = .ok (.ifCond .le 7, 3) := by decide +kernel
theorem dX8_isThere_9 : decode cX8_isThere 9 = .ok (.iconst 1, 1) := by decide +kernel
theorem dX8_isThere_10 : decode cX8_isThere 10 = .ok (.goto 4, 3) := by decide +kernel
theorem dX8_isThere_13 : decode cX8_isThere 13 = .ok (.iconst 0, 1) := by decide +kernel
theorem dX8_isThere_14 : decode cX8_isThere 14 = .ok (.ireturn, 1) := by decide +kernel
theorem dX8_isJar_0 : decode cX8_isJar 0 = .ok (.iload_n 1, 1) := by decide +kernel
theorem dX8_isJar_1 : decode cX8_isJar 1 = .ok (.i2l, 1) := by decide +kernel
theorem dX8_isJar_2 : decode cX8_isJar 2 = .ok (.lconst 0, 1) := by decide +kernel
theorem dX8_isJar_3 : decode cX8_isJar 3 = .ok (.aload_n 0, 1) := by decide +kernel
theorem dX8_isJar_4 : decode cX8_isJar 4 = .ok (.getfield 19, 3) := by decide +kernel
theorem dX8_isJar_7 : decode cX8_isJar 7 = .ok (.iconst 0, 1) := by decide +kernel
theorem dX8_isJar_8 : decode cX8_isJar 8 = .ok (.iaload, 1) := by decide +kernel
theorem dX8_isJar_9 : decode cX8_isJar 9 = .ok (.iconst 1, 1) := by decide +kernel
theorem dX8_isJar_10 : decode cX8_isJar 10 = .ok (.isub, 1) := by decide +kernel
theorem dX8_isJar_11 : decode cX8_isJar 11 = .ok (.i2l, 1) := by decide +kernel
theorem dX8_isJar_12 : decode cX8_isJar 12 = .ok (.invokestatic 60, 3) := by decide +kernel
theorem dX8_isJar_15 : decode cX8_isJar 15 = .ok (.ireturn, 1) := by decide +kernel
theorem dX8_isNote_0 : decode cX8_isNote 0 = .ok (.lload_n 0, 1) := by decide +kernel
theorem dX8_isNote_1 : decode cX8_isNote 1 = .ok (.lconst 0, 1) := by decide +kernel
theorem dX8_isNote_2 : decode cX8_isNote 2 = .ok (.ldc2_w 152, 3) := by decide +kernel
theorem dX8_isNote_5 : decode cX8_isNote 5 = .ok (.invokestatic 60, 3) := by decide +kernel
theorem dX8_isNote_8 : decode cX8_isNote 8 = .ok (.ireturn, 1) := by decide +kernel
theorem dX8_bits_0 : decode cX8_bits 0 = .ok (.iconst 0, 1) := by decide +kernel
theorem dX8_bits_1 : decode cX8_bits 1 = .ok (.istore_n 1, 1) := by decide +kernel
theorem dX8_bits_2 : decode cX8_bits 2 = .ok (.iconst 0, 1) := by decide +kernel
theorem dX8_bits_3 : decode cX8_bits 3 = .ok (.istore_n 2, 1) := by decide +kernel
theorem dX8_bits_4 : decode cX8_bits 4 = .ok (.iload_n 2, 1) := by decide +kernel
theorem dX8_bits_5 : decode cX8_bits 5 = .ok (.bipush 8, 2) := by decide +kernel
theorem dX8_bits_7 : decode cX8_bits 7 = .ok (.if_icmp .ge 17, 3) := by decide +kernel
theorem dX8_bits_10 : decode cX8_bits 10 = .ok (.iload_n 1, 1) := by decide +kernel
theorem dX8_bits_11 : decode cX8_bits 11 = .ok (.iload_n 0, 1) := by decide +kernel
theorem dX8_bits_12 : decode cX8_bits 12 = .ok (.iload_n 2, 1) := by decide +kernel
theorem dX8_bits_13 : decode cX8_bits 13 = .ok (.ishr, 1) := by decide +kernel
theorem dX8_bits_14 : decode cX8_bits 14 = .ok (.iconst 1, 1) := by decide +kernel
theorem dX8_bits_15 : decode cX8_bits 15 = .ok (.iand, 1) := by decide +kernel
theorem dX8_bits_16 : decode cX8_bits 16 = .ok (.iadd, 1) := by decide +kernel
theorem dX8_bits_17 : decode cX8_bits 17 = .ok (.istore_n 1, 1) := by decide +kernel
theorem dX8_bits_18 : decode cX8_bits 18 = .ok (.iinc 2 1, 3) := by decide +kernel
theorem dX8_bits_21 : decode cX8_bits 21 = .ok (.goto (-17), 3) := by decide +kernel
theorem dX8_bits_24 : decode cX8_bits 24 = .ok (.iload_n 1, 1) := by decide +kernel
theorem dX8_bits_25 : decode cX8_bits 25 = .ok (.ireturn, 1) := by decide +kernel
theorem dX8_has_0 : decode cX8_has 0 = .ok (.iload_n 0, 1) := by decide +kernel
theorem dX8_has_1 : decode cX8_has 1 = .ok (.iload_n 1, 1) := by decide +kernel
theorem dX8_has_2 : decode cX8_has 2 = .ok (.ishr, 1) := by decide +kernel
theorem dX8_has_3 : decode cX8_has 3 = .ok (.iconst 1, 1) := by decide +kernel
theorem dX8_has_4 : decode cX8_has 4 = .ok (.iand, 1) := by decide +kernel
theorem dX8_has_5 : decode cX8_has 5 = .ok (.iconst 1, 1) := by decide +kernel
theorem dX8_has_6 : decode cX8_has 6 = .ok (.if_icmp .ne 7, 3) := by decide +kernel
theorem dX8_has_9 : decode cX8_has 9 = .ok (.iconst 1, 1) := by decide +kernel
theorem dX8_has_10 : decode cX8_has 10 = .ok (.goto 4, 3) := by decide +kernel
theorem dX8_has_13 : decode cX8_has 13 = .ok (.iconst 0, 1) := by decide +kernel
theorem dX8_has_14 : decode cX8_has 14 = .ok (.ireturn, 1) := by decide +kernel
theorem dX8_of_0 : decode cX8_of 0 = .ok (.aload_n 0, 1) := by decide +kernel
theorem dX8_of_1 : decode cX8_of 1 = .ok (.iconst 3, 1) := by decide +kernel
theorem dX8_of_2 : decode cX8_of 2 = .ok (.iconst 5, 1) := by decide +kernel
theorem dX8_of_3 : decode cX8_of 3 = .ok (.iload_n 1, 1) := by decide +kernel
theorem dX8_of_4 : decode cX8_of 4 = .ok (.imul, 1) := by decide +kernel
theorem dX8_of_5 : decode cX8_of 5 = .ok (.iadd, 1) := by decide +kernel
theorem dX8_of_6 : decode cX8_of 6 = .ok (.iload_n 2, 1) := by decide +kernel
theorem dX8_of_7 : decode cX8_of 7 = .ok (.iadd, 1) := by decide +kernel
theorem dX8_of_8 : decode cX8_of 8 = .ok (.iaload, 1) := by decide +kernel
theorem dX8_of_9 : decode cX8_of 9 = .ok (.ireturn, 1) := by decide +kernel
theorem dX8_be_0 : decode cX8_be 0 = .ok (.aload_n 0, 1) := by decide +kernel
theorem dX8_be_1 : decode cX8_be 1 = .ok (.iconst 3, 1) := by decide +kernel
theorem dX8_be_2 : decode cX8_be 2 = .ok (.iconst 5, 1) := by decide +kernel
theorem dX8_be_3 : decode cX8_be 3 = .ok (.iload_n 1, 1) := by decide +kernel
theorem dX8_be_4 : decode cX8_be 4 = .ok (.imul, 1) := by decide +kernel
theorem dX8_be_5 : decode cX8_be 5 = .ok (.iadd, 1) := by decide +kernel
theorem dX8_be_6 : decode cX8_be 6 = .ok (.iload_n 2, 1) := by decide +kernel
theorem dX8_be_7 : decode cX8_be 7 = .ok (.iadd, 1) := by decide +kernel
theorem dX8_be_8 : decode cX8_be 8 = .ok (.iload_n 3, 1) := by decide +kernel
theorem dX8_be_9 : decode cX8_be 9 = .ok (.iastore, 1) := by decide +kernel
theorem dX8_be_10 : decode cX8_be 10 = .ok (.return_, 1) := by decide +kernel
theorem dX8_those_0 : decode cX8_those 0 = .ok (.iconst 0, 1) := by decide +kernel
theorem dX8_those_1 : decode cX8_those 1 = .ok (.istore_n 2, 1) := by decide +kernel
theorem dX8_those_2 : decode cX8_those 2 = .ok (.iconst 0, 1) := by decide +kernel
theorem dX8_those_3 : decode cX8_those 3 = .ok (.istore_n 3, 1) := by decide +kernel
theorem dX8_those_4 : decode cX8_those 4 = .ok (.iload_n 3, 1) := by decide +kernel
theorem dX8_those_5 : decode cX8_those 5 = .ok (.aload_n 0, 1) := by decide +kernel
theorem dX8_those_6 : decode cX8_those 6 = .ok (.iconst 0, 1) := by decide +kernel
theorem dX8_those_7 : decode cX8_those 7 = .ok (.iaload, 1) := by decide +kernel
theorem dX8_those_8 : decode cX8_those 8 = .ok (.if_icmp .ge 29, 3) := by decide +kernel
theorem dX8_those_11 : decode cX8_those 11 = .ok (.iload_n 2, 1) := by decide +kernel
theorem dX8_those_12 : decode cX8_those 12 = .ok (.aload_n 0, 1) := by decide +kernel
theorem dX8_those_13 : decode cX8_those 13 = .ok (.iload_n 3, 1) := by decide +kernel
theorem dX8_those_14 : decode cX8_those 14 = .ok (.iconst 4, 1) := by decide +kernel
theorem dX8_those_15 : decode cX8_those 15 = .ok (.invokestatic 154, 3) := by decide +kernel
theorem dX8_those_18 : decode cX8_those 18 = .ok (.iload_n 1, 1) := by decide +kernel
theorem dX8_those_19 : decode cX8_those 19 = .ok (.if_icmp .ne 9, 3) := by decide +kernel
theorem dX8_those_22 : decode cX8_those 22 = .ok (.iconst 1, 1) := by decide +kernel
theorem dX8_those_23 : decode cX8_those 23 = .ok (.iload_n 3, 1) := by decide +kernel
theorem dX8_those_24 : decode cX8_those 24 = .ok (.ishl, 1) := by decide +kernel
theorem dX8_those_25 : decode cX8_those 25 = .ok (.goto 4, 3) := by decide +kernel
theorem dX8_those_28 : decode cX8_those 28 = .ok (.iconst 0, 1) := by decide +kernel
theorem dX8_those_29 : decode cX8_those 29 = .ok (.ior, 1) := by decide +kernel
theorem dX8_those_30 : decode cX8_those 30 = .ok (.istore_n 2, 1) := by decide +kernel
theorem dX8_those_31 : decode cX8_those 31 = .ok (.iinc 3 1, 3) := by decide +kernel
theorem dX8_those_34 : decode cX8_those 34 = .ok (.goto (-30), 3) := by decide +kernel
theorem dX8_those_37 : decode cX8_those 37 = .ok (.iload_n 2, 1) := by decide +kernel
theorem dX8_those_38 : decode cX8_those 38 = .ok (.ireturn, 1) := by decide +kernel
theorem dX8_apart_0 : decode cX8_apart 0 = .ok (.iload_n 0, 1) := by decide +kernel
theorem dX8_apart_1 : decode cX8_apart 1 = .ok (.iload_n 1, 1) := by decide +kernel
theorem dX8_apart_2 : decode cX8_apart 2 = .ok (.if_icmp .le 9, 3) := by decide +kernel
theorem dX8_apart_5 : decode cX8_apart 5 = .ok (.iload_n 0, 1) := by decide +kernel
theorem dX8_apart_6 : decode cX8_apart 6 = .ok (.iload_n 1, 1) := by decide +kernel
theorem dX8_apart_7 : decode cX8_apart 7 = .ok (.isub, 1) := by decide +kernel
theorem dX8_apart_8 : decode cX8_apart 8 = .ok (.goto 6, 3) := by decide +kernel
theorem dX8_apart_11 : decode cX8_apart 11 = .ok (.iload_n 1, 1) := by decide +kernel
theorem dX8_apart_12 : decode cX8_apart 12 = .ok (.iload_n 0, 1) := by decide +kernel
theorem dX8_apart_13 : decode cX8_apart 13 = .ok (.isub, 1) := by decide +kernel
theorem dX8_apart_14 : decode cX8_apart 14 = .ok (.istore_n 2, 1) := by decide +kernel
theorem dX8_apart_15 : decode cX8_apart 15 = .ok (.iload_n 2, 1) := by decide +kernel
theorem dX8_apart_16 : decode cX8_apart 16 = .ok (.bipush 6, 2) := by decide +kernel
theorem dX8_apart_18 : decode cX8_apart 18 = .ok (.if_icmp .le 10, 3) := by decide +kernel
theorem dX8_apart_21 : decode cX8_apart 21 = .ok (.bipush 12, 2) := by decide +kernel
theorem dX8_apart_23 : decode cX8_apart 23 = .ok (.iload_n 2, 1) := by decide +kernel
theorem dX8_apart_24 : decode cX8_apart 24 = .ok (.isub, 1) := by decide +kernel
theorem dX8_apart_25 : decode cX8_apart 25 = .ok (.goto 4, 3) := by decide +kernel
theorem dX8_apart_28 : decode cX8_apart 28 = .ok (.iload_n 2, 1) := by decide +kernel
theorem dX8_apart_29 : decode cX8_apart 29 = .ok (.ireturn, 1) := by decide +kernel
theorem dX8_gap_0 : decode cX8_gap 0 = .ok (.iload_n 0, 1) := by decide +kernel
theorem dX8_gap_1 : decode cX8_gap 1 = .ok (.iload_n 1, 1) := by decide +kernel
theorem dX8_gap_2 : decode cX8_gap 2 = .ok (.if_icmp .le 9, 3) := by decide +kernel
theorem dX8_gap_5 : decode cX8_gap 5 = .ok (.iload_n 0, 1) := by decide +kernel
theorem dX8_gap_6 : decode cX8_gap 6 = .ok (.iload_n 1, 1) := by decide +kernel
theorem dX8_gap_7 : decode cX8_gap 7 = .ok (.isub, 1) := by decide +kernel
theorem dX8_gap_8 : decode cX8_gap 8 = .ok (.goto 6, 3) := by decide +kernel
theorem dX8_gap_11 : decode cX8_gap 11 = .ok (.iload_n 1, 1) := by decide +kernel
theorem dX8_gap_12 : decode cX8_gap 12 = .ok (.iload_n 0, 1) := by decide +kernel
theorem dX8_gap_13 : decode cX8_gap 13 = .ok (.isub, 1) := by decide +kernel
theorem dX8_gap_14 : decode cX8_gap 14 = .ok (.ireturn, 1) := by decide +kernel
theorem dX8_setsOff_0 : decode cX8_setsOff 0 = .ok (.iconst 0, 1) := by decide +kernel
theorem dX8_setsOff_1 : decode cX8_setsOff 1 = .ok (.istore_n 3, 1) := by decide +kernel
theorem dX8_setsOff_2 : decode cX8_setsOff 2 = .ok (.iconst 0, 1) := by decide +kernel
theorem dX8_setsOff_3 : decode cX8_setsOff 3 = .ok (.istore 4, 2) := by decide +kernel
theorem dX8_setsOff_5 : decode cX8_setsOff 5 = .ok (.iconst 0, 1) := by decide +kernel
theorem dX8_setsOff_6 : decode cX8_setsOff 6 = .ok (.istore 5, 2) := by decide +kernel
theorem dX8_setsOff_8 : decode cX8_setsOff 8 = .ok (.iconst 0, 1) := by decide +kernel
theorem dX8_setsOff_9 : decode cX8_setsOff 9 = .ok (.istore 6, 2) := by decide +kernel
theorem dX8_setsOff_11 : decode cX8_setsOff 11 = .ok (.iconst 0, 1) := by decide +kernel
theorem dX8_setsOff_12 : decode cX8_setsOff 12 = .ok (.istore 7, 2) := by decide +kernel
theorem dX8_setsOff_14 : decode cX8_setsOff 14 = .ok (.iload 7, 2) := by decide +kernel
theorem dX8_setsOff_16 : decode cX8_setsOff 16 = .ok (.aload_n 1, 1) := by decide +kernel
theorem dX8_setsOff_17 : decode cX8_setsOff 17 = .ok (.iconst 0, 1) := by decide +kernel
theorem dX8_setsOff_18 : decode cX8_setsOff 18 = .ok (.iaload, 1) := by decide +kernel
theorem dX8_setsOff_19 : decode cX8_setsOff 19 = .ok (.if_icmp .ge 118, 3) := by decide +kernel
theorem dX8_setsOff_22 : decode cX8_setsOff 22 = .ok (.aload_n 0, 1) := by decide +kernel
theorem dX8_setsOff_23 : decode cX8_setsOff 23 = .ok (.getfield 34, 3) := by decide +kernel
theorem dX8_setsOff_26 : decode cX8_setsOff 26 = .ok (.iload 7, 2) := by decide +kernel
theorem dX8_setsOff_28 : decode cX8_setsOff 28 = .ok (.iaload, 1) := by decide +kernel
theorem dX8_setsOff_29 : decode cX8_setsOff 29 = .ok (.ldc 93, 2) := by decide +kernel
theorem dX8_setsOff_31 : decode cX8_setsOff 31 = .ok (.if_icmp .eq 100, 3) := by decide +kernel
theorem dX8_setsOff_34 : decode cX8_setsOff 34 = .ok (.iload 7, 2) := by decide +kernel
theorem dX8_setsOff_36 : decode cX8_setsOff 36 = .ok (.aload_n 1, 1) := by decide +kernel
theorem dX8_setsOff_37 : decode cX8_setsOff 37 = .ok (.iload_n 2, 1) := by decide +kernel
theorem dX8_setsOff_38 : decode cX8_setsOff 38 = .ok (.iconst 3, 1) := by decide +kernel
theorem dX8_setsOff_39 : decode cX8_setsOff 39 = .ok (.invokestatic 154, 3) := by decide +kernel
theorem dX8_setsOff_42 : decode cX8_setsOff 42 = .ok (.invokestatic 158, 3) := by decide +kernel
theorem dX8_setsOff_45 : decode cX8_setsOff 45 = .ok (.aload_n 1, 1) := by decide +kernel
theorem dX8_setsOff_46 : decode cX8_setsOff 46 = .ok (.iconst 2, 1) := by decide +kernel
theorem dX8_setsOff_47 : decode cX8_setsOff 47 = .ok (.iaload, 1) := by decide +kernel
theorem dX8_setsOff_48 : decode cX8_setsOff 48 = .ok (.if_icmp .gt 83, 3) := by decide +kernel
theorem dX8_setsOff_51 : decode cX8_setsOff 51 = .ok (.aload_n 0, 1) := by decide +kernel
theorem dX8_setsOff_52 : decode cX8_setsOff 52 = .ok (.getfield 34, 3) := by decide +kernel
theorem dX8_setsOff_55 : decode cX8_setsOff 55 = .ok (.iload 7, 2) := by decide +kernel
theorem dX8_setsOff_57 : decode cX8_setsOff 57 = .ok (.iaload, 1) := by decide +kernel
theorem dX8_setsOff_58 : decode cX8_setsOff 58 = .ok (.aload_n 1, 1) := by decide +kernel
theorem dX8_setsOff_59 : decode cX8_setsOff 59 = .ok (.iload_n 2, 1) := by decide +kernel
theorem dX8_setsOff_60 : decode cX8_setsOff 60 = .ok (.iconst 1, 1) := by decide +kernel
theorem dX8_setsOff_61 : decode cX8_setsOff 61 = .ok (.invokestatic 154, 3) := by decide +kernel
theorem dX8_setsOff_64 : decode cX8_setsOff 64 = .ok (.invokestatic 161, 3) := by decide +kernel
theorem dX8_setsOff_67 : decode cX8_setsOff 67 = .ok (.istore 8, 2) := by decide +kernel
theorem dX8_setsOff_69 : decode cX8_setsOff 69 = .ok (.iload_n 3, 1) := by decide +kernel
theorem dX8_setsOff_70 : decode cX8_setsOff 70 = .ok (.iload 8, 2) := by decide +kernel
theorem dX8_setsOff_72 : decode cX8_setsOff 72 = .ok (.ifCond .ne 7, 3) := by decide +kernel
theorem dX8_setsOff_75 : decode cX8_setsOff 75 = .ok (.iconst 1, 1) := by decide +kernel
theorem dX8_setsOff_76 : decode cX8_setsOff 76 = .ok (.goto 4, 3) := by decide +kernel
theorem dX8_setsOff_79 : decode cX8_setsOff 79 = .ok (.iconst 0, 1) := by decide +kernel
theorem dX8_setsOff_80 : decode cX8_setsOff 80 = .ok (.iadd, 1) := by decide +kernel
theorem dX8_setsOff_81 : decode cX8_setsOff 81 = .ok (.istore_n 3, 1) := by decide +kernel
theorem dX8_setsOff_82 : decode cX8_setsOff 82 = .ok (.iload 4, 2) := by decide +kernel
theorem dX8_setsOff_84 : decode cX8_setsOff 84 = .ok (.iload 8, 2) := by decide +kernel
theorem dX8_setsOff_86 : decode cX8_setsOff 86 = .ok (.iconst 1, 1) := by decide +kernel
theorem dX8_setsOff_87 : decode cX8_setsOff 87 = .ok (.if_icmp .gt 7, 3) := by decide +kernel
theorem dX8_setsOff_90 : decode cX8_setsOff 90 = .ok (.iconst 1, 1) := by decide +kernel
theorem dX8_setsOff_91 : decode cX8_setsOff 91 = .ok (.goto 4, 3) := by decide +kernel
theorem dX8_setsOff_94 : decode cX8_setsOff 94 = .ok (.iconst 0, 1) := by decide +kernel
theorem dX8_setsOff_95 : decode cX8_setsOff 95 = .ok (.iadd, 1) := by decide +kernel
theorem dX8_setsOff_96 : decode cX8_setsOff 96 = .ok (.istore 4, 2) := by decide +kernel
theorem dX8_setsOff_98 : decode cX8_setsOff 98 = .ok (.iload 5, 2) := by decide +kernel
theorem dX8_setsOff_100 : decode cX8_setsOff 100 = .ok (.iload 8, 2) := by decide +kernel
theorem dX8_setsOff_102 : decode cX8_setsOff 102 = .ok (.iconst 5, 1) := by decide +kernel
theorem dX8_setsOff_103 : decode cX8_setsOff 103 = .ok (.if_icmp .ne 7, 3) := by decide +kernel
theorem dX8_setsOff_106 : decode cX8_setsOff 106 = .ok (.iconst 1, 1) := by decide +kernel
theorem dX8_setsOff_107 : decode cX8_setsOff 107 = .ok (.goto 4, 3) := by decide +kernel
theorem dX8_setsOff_110 : decode cX8_setsOff 110 = .ok (.iconst 0, 1) := by decide +kernel
theorem dX8_setsOff_111 : decode cX8_setsOff 111 = .ok (.iadd, 1) := by decide +kernel
theorem dX8_setsOff_112 : decode cX8_setsOff 112 = .ok (.istore 5, 2) := by decide +kernel
theorem dX8_setsOff_114 : decode cX8_setsOff 114 = .ok (.iload 6, 2) := by decide +kernel
theorem dX8_setsOff_116 : decode cX8_setsOff 116 = .ok (.iload 8, 2) := by decide +kernel
theorem dX8_setsOff_118 : decode cX8_setsOff 118 = .ok (.bipush 6, 2) := by decide +kernel
theorem dX8_setsOff_120 : decode cX8_setsOff 120 = .ok (.if_icmp .ne 7, 3) := by decide +kernel
theorem dX8_setsOff_123 : decode cX8_setsOff 123 = .ok (.iconst 1, 1) := by decide +kernel
theorem dX8_setsOff_124 : decode cX8_setsOff 124 = .ok (.goto 4, 3) := by decide +kernel
theorem dX8_setsOff_127 : decode cX8_setsOff 127 = .ok (.iconst 0, 1) := by decide +kernel
theorem dX8_setsOff_128 : decode cX8_setsOff 128 = .ok (.iadd, 1) := by decide +kernel
theorem dX8_setsOff_129 : decode cX8_setsOff 129 = .ok (.istore 6, 2) := by decide +kernel
theorem dX8_setsOff_131 : decode cX8_setsOff 131 = .ok (.iinc 7 1, 3) := by decide +kernel
theorem dX8_setsOff_134 : decode cX8_setsOff 134 = .ok (.goto (-120), 3) := by decide +kernel
theorem dX8_setsOff_137 : decode cX8_setsOff 137 = .ok (.aload_n 1, 1) := by decide +kernel
theorem dX8_setsOff_138 : decode cX8_setsOff 138 = .ok (.iload_n 2, 1) := by decide +kernel
theorem dX8_setsOff_139 : decode cX8_setsOff 139 = .ok (.iconst 0, 1) := by decide +kernel
theorem dX8_setsOff_140 : decode cX8_setsOff 140 = .ok (.invokestatic 154, 3) := by decide +kernel
theorem dX8_setsOff_143 : decode cX8_setsOff 143 = .ok (.tableswitch 72 1 4 #[29, 39, 50, 61], 29) := by decide +kernel
theorem dX8_setsOff_172 : decode cX8_setsOff 172 = .ok (.iload_n 3, 1) := by decide +kernel
theorem dX8_setsOff_173 : decode cX8_setsOff 173 = .ok (.ifCond .le 7, 3) := by decide +kernel
theorem dX8_setsOff_176 : decode cX8_setsOff 176 = .ok (.iconst 1, 1) := by decide +kernel
theorem dX8_setsOff_177 : decode cX8_setsOff 177 = .ok (.goto 4, 3) := by decide +kernel
theorem dX8_setsOff_180 : decode cX8_setsOff 180 = .ok (.iconst 0, 1) := by decide +kernel
theorem dX8_setsOff_181 : decode cX8_setsOff 181 = .ok (.ireturn, 1) := by decide +kernel
theorem dX8_setsOff_182 : decode cX8_setsOff 182 = .ok (.iload 4, 2) := by decide +kernel
theorem dX8_setsOff_184 : decode cX8_setsOff 184 = .ok (.ifCond .le 7, 3) := by decide +kernel
theorem dX8_setsOff_187 : decode cX8_setsOff 187 = .ok (.iconst 1, 1) := by decide +kernel
theorem dX8_setsOff_188 : decode cX8_setsOff 188 = .ok (.goto 4, 3) := by decide +kernel
theorem dX8_setsOff_191 : decode cX8_setsOff 191 = .ok (.iconst 0, 1) := by decide +kernel
theorem dX8_setsOff_192 : decode cX8_setsOff 192 = .ok (.ireturn, 1) := by decide +kernel
theorem dX8_setsOff_193 : decode cX8_setsOff 193 = .ok (.iload_n 3, 1) := by decide +kernel
theorem dX8_setsOff_194 : decode cX8_setsOff 194 = .ok (.iconst 1, 1) := by decide +kernel
theorem dX8_setsOff_195 : decode cX8_setsOff 195 = .ok (.if_icmp .le 7, 3) := by decide +kernel
theorem dX8_setsOff_198 : decode cX8_setsOff 198 = .ok (.iconst 1, 1) := by decide +kernel
theorem dX8_setsOff_199 : decode cX8_setsOff 199 = .ok (.goto 4, 3) := by decide +kernel
theorem dX8_setsOff_202 : decode cX8_setsOff 202 = .ok (.iconst 0, 1) := by decide +kernel
theorem dX8_setsOff_203 : decode cX8_setsOff 203 = .ok (.ireturn, 1) := by decide +kernel
theorem dX8_setsOff_204 : decode cX8_setsOff 204 = .ok (.iload 5, 2) := by decide +kernel
theorem dX8_setsOff_206 : decode cX8_setsOff 206 = .ok (.ifCond .le 7, 3) := by decide +kernel
theorem dX8_setsOff_209 : decode cX8_setsOff 209 = .ok (.iconst 1, 1) := by decide +kernel
theorem dX8_setsOff_210 : decode cX8_setsOff 210 = .ok (.goto 4, 3) := by decide +kernel
theorem dX8_setsOff_213 : decode cX8_setsOff 213 = .ok (.iconst 0, 1) := by decide +kernel
theorem dX8_setsOff_214 : decode cX8_setsOff 214 = .ok (.ireturn, 1) := by decide +kernel
theorem dX8_setsOff_215 : decode cX8_setsOff 215 = .ok (.iload 5, 2) := by decide +kernel
theorem dX8_setsOff_217 : decode cX8_setsOff 217 = .ok (.ifCond .gt 8, 3) := by decide +kernel
theorem dX8_setsOff_220 : decode cX8_setsOff 220 = .ok (.iload 6, 2) := by decide +kernel
theorem dX8_setsOff_222 : decode cX8_setsOff 222 = .ok (.ifCond .le 7, 3) := by decide +kernel
theorem dX8_setsOff_225 : decode cX8_setsOff 225 = .ok (.iconst 1, 1) := by decide +kernel
theorem dX8_setsOff_226 : decode cX8_setsOff 226 = .ok (.goto 4, 3) := by decide +kernel
theorem dX8_setsOff_229 : decode cX8_setsOff 229 = .ok (.iconst 0, 1) := by decide +kernel
theorem dX8_setsOff_230 : decode cX8_setsOff 230 = .ok (.ireturn, 1) := by decide +kernel
theorem dX8_chainOf_0 : decode cX8_chainOf 0 = .ok (.iconst 0, 1) := by decide +kernel
theorem dX8_chainOf_1 : decode cX8_chainOf 1 = .ok (.istore 5, 2) := by decide +kernel
theorem dX8_chainOf_3 : decode cX8_chainOf 3 = .ok (.iload 5, 2) := by decide +kernel
theorem dX8_chainOf_5 : decode cX8_chainOf 5 = .ok (.bipush 8, 2) := by decide +kernel
theorem dX8_chainOf_7 : decode cX8_chainOf 7 = .ok (.if_icmp .ge 28, 3) := by decide +kernel
theorem dX8_chainOf_10 : decode cX8_chainOf 10 = .ok (.aload_n 0, 1) := by decide +kernel
theorem dX8_chainOf_11 : decode cX8_chainOf 11 = .ok (.getfield 34, 3) := by decide +kernel
theorem dX8_chainOf_14 : decode cX8_chainOf 14 = .ok (.iload 5, 2) := by decide +kernel
theorem dX8_chainOf_16 : decode cX8_chainOf 16 = .ok (.iload 5, 2) := by decide +kernel
theorem dX8_chainOf_18 : decode cX8_chainOf 18 = .ok (.iload_n 3, 1) := by decide +kernel
theorem dX8_chainOf_19 : decode cX8_chainOf 19 = .ok (.if_icmp .ne 7, 3) := by decide +kernel
theorem dX8_chainOf_22 : decode cX8_chainOf 22 = .ok (.iload_n 2, 1) := by decide +kernel
theorem dX8_chainOf_23 : decode cX8_chainOf 23 = .ok (.goto 5, 3) := by decide +kernel
theorem dX8_chainOf_26 : decode cX8_chainOf 26 = .ok (.ldc 93, 2) := by decide +kernel
theorem dX8_chainOf_28 : decode cX8_chainOf 28 = .ok (.iastore, 1) := by decide +kernel
theorem dX8_chainOf_29 : decode cX8_chainOf 29 = .ok (.iinc 5 1, 3) := by decide +kernel
theorem dX8_chainOf_32 : decode cX8_chainOf 32 = .ok (.goto (-29), 3) := by decide +kernel
theorem dX8_chainOf_35 : decode cX8_chainOf 35 = .ok (.iload 4, 2) := by decide +kernel
theorem dX8_chainOf_37 : decode cX8_chainOf 37 = .ok (.istore 5, 2) := by decide +kernel
theorem dX8_chainOf_39 : decode cX8_chainOf 39 = .ok (.iconst 1, 1) := by decide +kernel
theorem dX8_chainOf_40 : decode cX8_chainOf 40 = .ok (.istore 6, 2) := by decide +kernel
theorem dX8_chainOf_42 : decode cX8_chainOf 42 = .ok (.aload_n 0, 1) := by decide +kernel
theorem dX8_chainOf_43 : decode cX8_chainOf 43 = .ok (.iconst 0, 1) := by decide +kernel
theorem dX8_chainOf_44 : decode cX8_chainOf 44 = .ok (.putfield 164, 3) := by decide +kernel
theorem dX8_chainOf_47 : decode cX8_chainOf 47 = .ok (.iload 6, 2) := by decide +kernel
theorem dX8_chainOf_49 : decode cX8_chainOf 49 = .ok (.ifCond .eq 169, 3) := by decide +kernel
theorem dX8_chainOf_52 : decode cX8_chainOf 52 = .ok (.iconst 0, 1) := by decide +kernel
theorem dX8_chainOf_53 : decode cX8_chainOf 53 = .ok (.istore 7, 2) := by decide +kernel
theorem dX8_chainOf_55 : decode cX8_chainOf 55 = .ok (.iconst 0, 1) := by decide +kernel
theorem dX8_chainOf_56 : decode cX8_chainOf 56 = .ok (.istore 8, 2) := by decide +kernel
theorem dX8_chainOf_58 : decode cX8_chainOf 58 = .ok (.iload 8, 2) := by decide +kernel
theorem dX8_chainOf_60 : decode cX8_chainOf 60 = .ok (.bipush 8, 2) := by decide +kernel
theorem dX8_chainOf_62 : decode cX8_chainOf 62 = .ok (.if_icmp .ge 18, 3) := by decide +kernel
theorem dX8_chainOf_65 : decode cX8_chainOf 65 = .ok (.aload_n 0, 1) := by decide +kernel
theorem dX8_chainOf_66 : decode cX8_chainOf 66 = .ok (.getfield 37, 3) := by decide +kernel
theorem dX8_chainOf_69 : decode cX8_chainOf 69 = .ok (.iload 8, 2) := by decide +kernel
theorem dX8_chainOf_71 : decode cX8_chainOf 71 = .ok (.ldc 93, 2) := by decide +kernel
theorem dX8_chainOf_73 : decode cX8_chainOf 73 = .ok (.iastore, 1) := by decide +kernel
theorem dX8_chainOf_74 : decode cX8_chainOf 74 = .ok (.iinc 8 1, 3) := by decide +kernel
theorem dX8_chainOf_77 : decode cX8_chainOf 77 = .ok (.goto (-19), 3) := by decide +kernel
theorem dX8_chainOf_80 : decode cX8_chainOf 80 = .ok (.iconst 0, 1) := by decide +kernel
theorem dX8_chainOf_81 : decode cX8_chainOf 81 = .ok (.istore 8, 2) := by decide +kernel
theorem dX8_chainOf_83 : decode cX8_chainOf 83 = .ok (.iload 8, 2) := by decide +kernel
theorem dX8_chainOf_85 : decode cX8_chainOf 85 = .ok (.aload_n 1, 1) := by decide +kernel
theorem dX8_chainOf_86 : decode cX8_chainOf 86 = .ok (.iconst 0, 1) := by decide +kernel
theorem dX8_chainOf_87 : decode cX8_chainOf 87 = .ok (.iaload, 1) := by decide +kernel
theorem dX8_chainOf_88 : decode cX8_chainOf 88 = .ok (.if_icmp .ge 57, 3) := by decide +kernel
theorem dX8_chainOf_91 : decode cX8_chainOf 91 = .ok (.iload 5, 2) := by decide +kernel
theorem dX8_chainOf_93 : decode cX8_chainOf 93 = .ok (.iload 8, 2) := by decide +kernel
theorem dX8_chainOf_95 : decode cX8_chainOf 95 = .ok (.invokestatic 167, 3) := by decide +kernel
theorem dX8_chainOf_98 : decode cX8_chainOf 98 = .ok (.ifCond .eq 41, 3) := by decide +kernel
theorem dX8_chainOf_101 : decode cX8_chainOf 101 = .ok (.aload_n 0, 1) := by decide +kernel
theorem dX8_chainOf_102 : decode cX8_chainOf 102 = .ok (.aload_n 1, 1) := by decide +kernel
theorem dX8_chainOf_103 : decode cX8_chainOf 103 = .ok (.iload 8, 2) := by decide +kernel
theorem dX8_chainOf_105 : decode cX8_chainOf 105 = .ok (.invokevirtual 171, 3) := by decide +kernel
theorem dX8_chainOf_108 : decode cX8_chainOf 108 = .ok (.ifCond .eq 31, 3) := by decide +kernel
theorem dX8_chainOf_111 : decode cX8_chainOf 111 = .ok (.iload 7, 2) := by decide +kernel
theorem dX8_chainOf_113 : decode cX8_chainOf 113 = .ok (.iconst 1, 1) := by decide +kernel
theorem dX8_chainOf_114 : decode cX8_chainOf 114 = .ok (.iload 8, 2) := by decide +kernel
theorem dX8_chainOf_116 : decode cX8_chainOf 116 = .ok (.ishl, 1) := by decide +kernel
theorem dX8_chainOf_117 : decode cX8_chainOf 117 = .ok (.ior, 1) := by decide +kernel
theorem dX8_chainOf_118 : decode cX8_chainOf 118 = .ok (.istore 7, 2) := by decide +kernel
theorem dX8_chainOf_120 : decode cX8_chainOf 120 = .ok (.aload_n 0, 1) := by decide +kernel
theorem dX8_chainOf_121 : decode cX8_chainOf 121 = .ok (.getfield 37, 3) := by decide +kernel
theorem dX8_chainOf_124 : decode cX8_chainOf 124 = .ok (.aload_n 1, 1) := by decide +kernel
theorem dX8_chainOf_125 : decode cX8_chainOf 125 = .ok (.iload 8, 2) := by decide +kernel
theorem dX8_chainOf_127 : decode cX8_chainOf 127 = .ok (.iconst 3, 1) := by decide +kernel
theorem dX8_chainOf_128 : decode cX8_chainOf 128 = .ok (.invokestatic 154, 3) := by decide +kernel
theorem dX8_chainOf_131 : decode cX8_chainOf 131 = .ok (.aload_n 1, 1) := by decide +kernel
theorem dX8_chainOf_132 : decode cX8_chainOf 132 = .ok (.iload 8, 2) := by decide +kernel
theorem dX8_chainOf_134 : decode cX8_chainOf 134 = .ok (.iconst 1, 1) := by decide +kernel
theorem dX8_chainOf_135 : decode cX8_chainOf 135 = .ok (.invokestatic 154, 3) := by decide +kernel
theorem dX8_chainOf_138 : decode cX8_chainOf 138 = .ok (.iastore, 1) := by decide +kernel
theorem dX8_chainOf_139 : decode cX8_chainOf 139 = .ok (.iinc 8 1, 3) := by decide +kernel
theorem dX8_chainOf_142 : decode cX8_chainOf 142 = .ok (.goto (-59), 3) := by decide +kernel
theorem dX8_chainOf_145 : decode cX8_chainOf 145 = .ok (.iconst 0, 1) := by decide +kernel
theorem dX8_chainOf_146 : decode cX8_chainOf 146 = .ok (.istore 8, 2) := by decide +kernel
theorem dX8_chainOf_148 : decode cX8_chainOf 148 = .ok (.iload 8, 2) := by decide +kernel
theorem dX8_chainOf_150 : decode cX8_chainOf 150 = .ok (.bipush 8, 2) := by decide +kernel
theorem dX8_chainOf_152 : decode cX8_chainOf 152 = .ok (.if_icmp .ge 23, 3) := by decide +kernel
theorem dX8_chainOf_155 : decode cX8_chainOf 155 = .ok (.aload_n 0, 1) := by decide +kernel
theorem dX8_chainOf_156 : decode cX8_chainOf 156 = .ok (.getfield 34, 3) := by decide +kernel
theorem dX8_chainOf_159 : decode cX8_chainOf 159 = .ok (.iload 8, 2) := by decide +kernel
theorem dX8_chainOf_161 : decode cX8_chainOf 161 = .ok (.aload_n 0, 1) := by decide +kernel
theorem dX8_chainOf_162 : decode cX8_chainOf 162 = .ok (.getfield 37, 3) := by decide +kernel
theorem dX8_chainOf_165 : decode cX8_chainOf 165 = .ok (.iload 8, 2) := by decide +kernel
theorem dX8_chainOf_167 : decode cX8_chainOf 167 = .ok (.iaload, 1) := by decide +kernel
theorem dX8_chainOf_168 : decode cX8_chainOf 168 = .ok (.iastore, 1) := by decide +kernel
theorem dX8_chainOf_169 : decode cX8_chainOf 169 = .ok (.iinc 8 1, 3) := by decide +kernel
theorem dX8_chainOf_172 : decode cX8_chainOf 172 = .ok (.goto (-24), 3) := by decide +kernel
theorem dX8_chainOf_175 : decode cX8_chainOf 175 = .ok (.iload 5, 2) := by decide +kernel
theorem dX8_chainOf_177 : decode cX8_chainOf 177 = .ok (.iload 7, 2) := by decide +kernel
theorem dX8_chainOf_179 : decode cX8_chainOf 179 = .ok (.iconst (-1), 1) := by decide +kernel
theorem dX8_chainOf_180 : decode cX8_chainOf 180 = .ok (.ixor, 1) := by decide +kernel
theorem dX8_chainOf_181 : decode cX8_chainOf 181 = .ok (.iand, 1) := by decide +kernel
theorem dX8_chainOf_182 : decode cX8_chainOf 182 = .ok (.istore 5, 2) := by decide +kernel
theorem dX8_chainOf_184 : decode cX8_chainOf 184 = .ok (.iload 7, 2) := by decide +kernel
theorem dX8_chainOf_186 : decode cX8_chainOf 186 = .ok (.ifCond .eq 7, 3) := by decide +kernel
theorem dX8_chainOf_189 : decode cX8_chainOf 189 = .ok (.iconst 1, 1) := by decide +kernel
theorem dX8_chainOf_190 : decode cX8_chainOf 190 = .ok (.goto 4, 3) := by decide +kernel
theorem dX8_chainOf_193 : decode cX8_chainOf 193 = .ok (.iconst 0, 1) := by decide +kernel
theorem dX8_chainOf_194 : decode cX8_chainOf 194 = .ok (.istore 6, 2) := by decide +kernel
theorem dX8_chainOf_196 : decode cX8_chainOf 196 = .ok (.aload_n 0, 1) := by decide +kernel
theorem dX8_chainOf_197 : decode cX8_chainOf 197 = .ok (.dup, 1) := by decide +kernel
theorem dX8_chainOf_198 : decode cX8_chainOf 198 = .ok (.getfield 164, 3) := by decide +kernel
theorem dX8_chainOf_201 : decode cX8_chainOf 201 = .ok (.iload 6, 2) := by decide +kernel
theorem dX8_chainOf_203 : decode cX8_chainOf 203 = .ok (.ifCond .eq 7, 3) := by decide +kernel
theorem dX8_chainOf_206 : decode cX8_chainOf 206 = .ok (.iconst 1, 1) := by decide +kernel
theorem dX8_chainOf_207 : decode cX8_chainOf 207 = .ok (.goto 4, 3) := by decide +kernel
theorem dX8_chainOf_210 : decode cX8_chainOf 210 = .ok (.iconst 0, 1) := by decide +kernel
theorem dX8_chainOf_211 : decode cX8_chainOf 211 = .ok (.iadd, 1) := by decide +kernel
theorem dX8_chainOf_212 : decode cX8_chainOf 212 = .ok (.putfield 164, 3) := by decide +kernel
theorem dX8_chainOf_215 : decode cX8_chainOf 215 = .ok (.goto (-168), 3) := by decide +kernel
theorem dX8_chainOf_218 : decode cX8_chainOf 218 = .ok (.iload 4, 2) := by decide +kernel
theorem dX8_chainOf_220 : decode cX8_chainOf 220 = .ok (.iload 5, 2) := by decide +kernel
theorem dX8_chainOf_222 : decode cX8_chainOf 222 = .ok (.iconst (-1), 1) := by decide +kernel
theorem dX8_chainOf_223 : decode cX8_chainOf 223 = .ok (.ixor, 1) := by decide +kernel
theorem dX8_chainOf_224 : decode cX8_chainOf 224 = .ok (.iand, 1) := by decide +kernel
theorem dX8_chainOf_225 : decode cX8_chainOf 225 = .ok (.ireturn, 1) := by decide +kernel
theorem dX8_worstOf_0 : decode cX8_worstOf 0 = .ok (.iconst (-1), 1) := by decide +kernel
theorem dX8_worstOf_1 : decode cX8_worstOf 1 = .ok (.istore_n 2, 1) := by decide +kernel
theorem dX8_worstOf_2 : decode cX8_worstOf 2 = .ok (.aload_n 1, 1) := by decide +kernel
theorem dX8_worstOf_3 : decode cX8_worstOf 3 = .ok (.iconst 0, 1) := by decide +kernel
theorem dX8_worstOf_4 : decode cX8_worstOf 4 = .ok (.invokestatic 175, 3) := by decide +kernel
theorem dX8_worstOf_7 : decode cX8_worstOf 7 = .ok (.istore_n 3, 1) := by decide +kernel
theorem dX8_worstOf_8 : decode cX8_worstOf 8 = .ok (.iconst 0, 1) := by decide +kernel
theorem dX8_worstOf_9 : decode cX8_worstOf 9 = .ok (.istore 4, 2) := by decide +kernel
theorem dX8_worstOf_11 : decode cX8_worstOf 11 = .ok (.iload 4, 2) := by decide +kernel
theorem dX8_worstOf_13 : decode cX8_worstOf 13 = .ok (.bipush 12, 2) := by decide +kernel
theorem dX8_worstOf_15 : decode cX8_worstOf 15 = .ok (.if_icmp .ge 62, 3) := by decide +kernel
theorem dX8_worstOf_18 : decode cX8_worstOf 18 = .ok (.iconst 0, 1) := by decide +kernel
theorem dX8_worstOf_19 : decode cX8_worstOf 19 = .ok (.istore 5, 2) := by decide +kernel
theorem dX8_worstOf_21 : decode cX8_worstOf 21 = .ok (.iload 5, 2) := by decide +kernel
theorem dX8_worstOf_23 : decode cX8_worstOf 23 = .ok (.aload_n 1, 1) := by decide +kernel
theorem dX8_worstOf_24 : decode cX8_worstOf 24 = .ok (.iconst 0, 1) := by decide +kernel
theorem dX8_worstOf_25 : decode cX8_worstOf 25 = .ok (.iaload, 1) := by decide +kernel
theorem dX8_worstOf_26 : decode cX8_worstOf 26 = .ok (.if_icmp .ge 45, 3) := by decide +kernel
theorem dX8_worstOf_29 : decode cX8_worstOf 29 = .ok (.aload_n 0, 1) := by decide +kernel
theorem dX8_worstOf_30 : decode cX8_worstOf 30 = .ok (.aload_n 1, 1) := by decide +kernel
theorem dX8_worstOf_31 : decode cX8_worstOf 31 = .ok (.iload 4, 2) := by decide +kernel
theorem dX8_worstOf_33 : decode cX8_worstOf 33 = .ok (.iload 5, 2) := by decide +kernel
theorem dX8_worstOf_35 : decode cX8_worstOf 35 = .ok (.iload_n 3, 1) := by decide +kernel
theorem dX8_worstOf_36 : decode cX8_worstOf 36 = .ok (.invokevirtual 179, 3) := by decide +kernel
theorem dX8_worstOf_39 : decode cX8_worstOf 39 = .ok (.invokestatic 183, 3) := by decide +kernel
theorem dX8_worstOf_42 : decode cX8_worstOf 42 = .ok (.istore 6, 2) := by decide +kernel
theorem dX8_worstOf_44 : decode cX8_worstOf 44 = .ok (.iload 6, 2) := by decide +kernel
theorem dX8_worstOf_46 : decode cX8_worstOf 46 = .ok (.iload_n 2, 1) := by decide +kernel
theorem dX8_worstOf_47 : decode cX8_worstOf 47 = .ok (.if_icmp .le 18, 3) := by decide +kernel
theorem dX8_worstOf_50 : decode cX8_worstOf 50 = .ok (.iload 6, 2) := by decide +kernel
theorem dX8_worstOf_52 : decode cX8_worstOf 52 = .ok (.istore_n 2, 1) := by decide +kernel
theorem dX8_worstOf_53 : decode cX8_worstOf 53 = .ok (.aload_n 0, 1) := by decide +kernel
theorem dX8_worstOf_54 : decode cX8_worstOf 54 = .ok (.iload 4, 2) := by decide +kernel
theorem dX8_worstOf_56 : decode cX8_worstOf 56 = .ok (.putfield 186, 3) := by decide +kernel
theorem dX8_worstOf_59 : decode cX8_worstOf 59 = .ok (.aload_n 0, 1) := by decide +kernel
theorem dX8_worstOf_60 : decode cX8_worstOf 60 = .ok (.iload 5, 2) := by decide +kernel
theorem dX8_worstOf_62 : decode cX8_worstOf 62 = .ok (.putfield 189, 3) := by decide +kernel
theorem dX8_worstOf_65 : decode cX8_worstOf 65 = .ok (.iinc 5 1, 3) := by decide +kernel
theorem dX8_worstOf_68 : decode cX8_worstOf 68 = .ok (.goto (-47), 3) := by decide +kernel
theorem dX8_worstOf_71 : decode cX8_worstOf 71 = .ok (.iinc 4 1, 3) := by decide +kernel
theorem dX8_worstOf_74 : decode cX8_worstOf 74 = .ok (.goto (-63), 3) := by decide +kernel
theorem dX8_worstOf_77 : decode cX8_worstOf 77 = .ok (.iload_n 2, 1) := by decide +kernel
theorem dX8_worstOf_78 : decode cX8_worstOf 78 = .ok (.ireturn, 1) := by decide +kernel
theorem dX8_sneezes_0 : decode cX8_sneezes 0 = .ok (.aload_n 0, 1) := by decide +kernel
theorem dX8_sneezes_1 : decode cX8_sneezes 1 = .ok (.aload_n 1, 1) := by decide +kernel
theorem dX8_sneezes_2 : decode cX8_sneezes 2 = .ok (.iload_n 2, 1) := by decide +kernel
theorem dX8_sneezes_3 : decode cX8_sneezes 3 = .ok (.iload_n 3, 1) := by decide +kernel
theorem dX8_sneezes_4 : decode cX8_sneezes 4 = .ok (.aload_n 1, 1) := by decide +kernel
theorem dX8_sneezes_5 : decode cX8_sneezes 5 = .ok (.iconst 0, 1) := by decide +kernel
theorem dX8_sneezes_6 : decode cX8_sneezes 6 = .ok (.invokestatic 175, 3) := by decide +kernel
theorem dX8_sneezes_9 : decode cX8_sneezes 9 = .ok (.invokevirtual 179, 3) := by decide +kernel
theorem dX8_sneezes_12 : decode cX8_sneezes 12 = .ok (.istore 4, 2) := by decide +kernel
theorem dX8_sneezes_14 : decode cX8_sneezes 14 = .ok (.iconst 0, 1) := by decide +kernel
theorem dX8_sneezes_15 : decode cX8_sneezes 15 = .ok (.istore 5, 2) := by decide +kernel
theorem dX8_sneezes_17 : decode cX8_sneezes 17 = .ok (.iload 5, 2) := by decide +kernel
theorem dX8_sneezes_19 : decode cX8_sneezes 19 = .ok (.aload_n 1, 1) := by decide +kernel
theorem dX8_sneezes_20 : decode cX8_sneezes 20 = .ok (.iconst 0, 1) := by decide +kernel
theorem dX8_sneezes_21 : decode cX8_sneezes 21 = .ok (.iaload, 1) := by decide +kernel
theorem dX8_sneezes_22 : decode cX8_sneezes 22 = .ok (.if_icmp .ge 27, 3) := by decide +kernel
theorem dX8_sneezes_25 : decode cX8_sneezes 25 = .ok (.iload 4, 2) := by decide +kernel
theorem dX8_sneezes_27 : decode cX8_sneezes 27 = .ok (.iload 5, 2) := by decide +kernel
theorem dX8_sneezes_29 : decode cX8_sneezes 29 = .ok (.invokestatic 167, 3) := by decide +kernel
theorem dX8_sneezes_32 : decode cX8_sneezes 32 = .ok (.ifCond .eq 11, 3) := by decide +kernel
theorem dX8_sneezes_35 : decode cX8_sneezes 35 = .ok (.aload_n 1, 1) := by decide +kernel
theorem dX8_sneezes_36 : decode cX8_sneezes 36 = .ok (.iload 5, 2) := by decide +kernel
theorem dX8_sneezes_38 : decode cX8_sneezes 38 = .ok (.iconst 4, 1) := by decide +kernel
theorem dX8_sneezes_39 : decode cX8_sneezes 39 = .ok (.iconst 1, 1) := by decide +kernel
theorem dX8_sneezes_40 : decode cX8_sneezes 40 = .ok (.invokestatic 192, 3) := by decide +kernel
theorem dX8_sneezes_43 : decode cX8_sneezes 43 = .ok (.iinc 5 1, 3) := by decide +kernel
theorem dX8_sneezes_46 : decode cX8_sneezes 46 = .ok (.goto (-29), 3) := by decide +kernel
theorem dX8_sneezes_49 : decode cX8_sneezes 49 = .ok (.return_, 1) := by decide +kernel
theorem dX8_yearOf_0 : decode cX8_yearOf 0 = .ok (.iconst 0, 1) := by decide +kernel
theorem dX8_yearOf_1 : decode cX8_yearOf 1 = .ok (.istore_n 1, 1) := by decide +kernel
theorem dX8_yearOf_2 : decode cX8_yearOf 2 = .ok (.iload_n 1, 1) := by decide +kernel
theorem dX8_yearOf_3 : decode cX8_yearOf 3 = .ok (.aload_n 0, 1) := by decide +kernel
theorem dX8_yearOf_4 : decode cX8_yearOf 4 = .ok (.iconst 0, 1) := by decide +kernel
theorem dX8_yearOf_5 : decode cX8_yearOf 5 = .ok (.iaload, 1) := by decide +kernel
theorem dX8_yearOf_6 : decode cX8_yearOf 6 = .ok (.if_icmp .ge 52, 3) := by decide +kernel
theorem dX8_yearOf_9 : decode cX8_yearOf 9 = .ok (.aload_n 0, 1) := by decide +kernel
theorem dX8_yearOf_10 : decode cX8_yearOf 10 = .ok (.iload_n 1, 1) := by decide +kernel
theorem dX8_yearOf_11 : decode cX8_yearOf 11 = .ok (.iconst 4, 1) := by decide +kernel
theorem dX8_yearOf_12 : decode cX8_yearOf 12 = .ok (.invokestatic 154, 3) := by decide +kernel
theorem dX8_yearOf_15 : decode cX8_yearOf 15 = .ok (.ifCond .ne 37, 3) := by decide +kernel
theorem dX8_yearOf_18 : decode cX8_yearOf 18 = .ok (.aload_n 0, 1) := by decide +kernel
theorem dX8_yearOf_19 : decode cX8_yearOf 19 = .ok (.iload_n 1, 1) := by decide +kernel
theorem dX8_yearOf_20 : decode cX8_yearOf 20 = .ok (.iconst 2, 1) := by decide +kernel
theorem dX8_yearOf_21 : decode cX8_yearOf 21 = .ok (.aload_n 0, 1) := by decide +kernel
theorem dX8_yearOf_22 : decode cX8_yearOf 22 = .ok (.iload_n 1, 1) := by decide +kernel
theorem dX8_yearOf_23 : decode cX8_yearOf 23 = .ok (.iconst 2, 1) := by decide +kernel
theorem dX8_yearOf_24 : decode cX8_yearOf 24 = .ok (.invokestatic 154, 3) := by decide +kernel
theorem dX8_yearOf_27 : decode cX8_yearOf 27 = .ok (.iconst 1, 1) := by decide +kernel
theorem dX8_yearOf_28 : decode cX8_yearOf 28 = .ok (.isub, 1) := by decide +kernel
theorem dX8_yearOf_29 : decode cX8_yearOf 29 = .ok (.invokestatic 192, 3) := by decide +kernel
theorem dX8_yearOf_32 : decode cX8_yearOf 32 = .ok (.aload_n 0, 1) := by decide +kernel
theorem dX8_yearOf_33 : decode cX8_yearOf 33 = .ok (.iload_n 1, 1) := by decide +kernel
theorem dX8_yearOf_34 : decode cX8_yearOf 34 = .ok (.iconst 4, 1) := by decide +kernel
theorem dX8_yearOf_35 : decode cX8_yearOf 35 = .ok (.aload_n 0, 1) := by decide +kernel
theorem dX8_yearOf_36 : decode cX8_yearOf 36 = .ok (.iload_n 1, 1) := by decide +kernel
theorem dX8_yearOf_37 : decode cX8_yearOf 37 = .ok (.iconst 2, 1) := by decide +kernel
theorem dX8_yearOf_38 : decode cX8_yearOf 38 = .ok (.invokestatic 154, 3) := by decide +kernel
theorem dX8_yearOf_41 : decode cX8_yearOf 41 = .ok (.ifCond .ne 7, 3) := by decide +kernel
theorem dX8_yearOf_44 : decode cX8_yearOf 44 = .ok (.iconst 2, 1) := by decide +kernel
theorem dX8_yearOf_45 : decode cX8_yearOf 45 = .ok (.goto 4, 3) := by decide +kernel
theorem dX8_yearOf_48 : decode cX8_yearOf 48 = .ok (.iconst 0, 1) := by decide +kernel
theorem dX8_yearOf_49 : decode cX8_yearOf 49 = .ok (.invokestatic 192, 3) := by decide +kernel
theorem dX8_yearOf_52 : decode cX8_yearOf 52 = .ok (.iinc 1 1, 3) := by decide +kernel
theorem dX8_yearOf_55 : decode cX8_yearOf 55 = .ok (.goto (-53), 3) := by decide +kernel
theorem dX8_yearOf_58 : decode cX8_yearOf 58 = .ok (.aload_n 0, 1) := by decide +kernel
theorem dX8_yearOf_59 : decode cX8_yearOf 59 = .ok (.iconst 1, 1) := by decide +kernel
theorem dX8_yearOf_60 : decode cX8_yearOf 60 = .ok (.dup2, 1) := by decide +kernel
theorem dX8_yearOf_61 : decode cX8_yearOf 61 = .ok (.iaload, 1) := by decide +kernel
theorem dX8_yearOf_62 : decode cX8_yearOf 62 = .ok (.iconst 1, 1) := by decide +kernel
theorem dX8_yearOf_63 : decode cX8_yearOf 63 = .ok (.iadd, 1) := by decide +kernel
theorem dX8_yearOf_64 : decode cX8_yearOf 64 = .ok (.iastore, 1) := by decide +kernel
theorem dX8_yearOf_65 : decode cX8_yearOf 65 = .ok (.return_, 1) := by decide +kernel
theorem dX8_changePlaces_0 : decode cX8_changePlaces 0 = .ok (.aload_n 0, 1) := by decide +kernel
theorem dX8_changePlaces_1 : decode cX8_changePlaces 1 = .ok (.iload_n 1, 1) := by decide +kernel
theorem dX8_changePlaces_2 : decode cX8_changePlaces 2 = .ok (.iconst 3, 1) := by decide +kernel
theorem dX8_changePlaces_3 : decode cX8_changePlaces 3 = .ok (.invokestatic 154, 3) := by decide +kernel
theorem dX8_changePlaces_6 : decode cX8_changePlaces 6 = .ok (.istore_n 3, 1) := by decide +kernel
theorem dX8_changePlaces_7 : decode cX8_changePlaces 7 = .ok (.aload_n 0, 1) := by decide +kernel
theorem dX8_changePlaces_8 : decode cX8_changePlaces 8 = .ok (.iload_n 1, 1) := by decide +kernel
theorem dX8_changePlaces_9 : decode cX8_changePlaces 9 = .ok (.iconst 3, 1) := by decide +kernel
theorem dX8_changePlaces_10 : decode cX8_changePlaces 10 = .ok (.aload_n 0, 1) := by decide +kernel
theorem dX8_changePlaces_11 : decode cX8_changePlaces 11 = .ok (.iload_n 2, 1) := by decide +kernel
theorem dX8_changePlaces_12 : decode cX8_changePlaces 12 = .ok (.iconst 3, 1) := by decide +kernel
theorem dX8_changePlaces_13 : decode cX8_changePlaces 13 = .ok (.invokestatic 154, 3) := by decide +kernel
theorem dX8_changePlaces_16 : decode cX8_changePlaces 16 = .ok (.invokestatic 192, 3) := by decide +kernel
theorem dX8_changePlaces_19 : decode cX8_changePlaces 19 = .ok (.aload_n 0, 1) := by decide +kernel
theorem dX8_changePlaces_20 : decode cX8_changePlaces 20 = .ok (.iload_n 2, 1) := by decide +kernel
theorem dX8_changePlaces_21 : decode cX8_changePlaces 21 = .ok (.iconst 3, 1) := by decide +kernel
theorem dX8_changePlaces_22 : decode cX8_changePlaces 22 = .ok (.iload_n 3, 1) := by decide +kernel
theorem dX8_changePlaces_23 : decode cX8_changePlaces 23 = .ok (.invokestatic 192, 3) := by decide +kernel
theorem dX8_changePlaces_26 : decode cX8_changePlaces 26 = .ok (.return_, 1) := by decide +kernel
theorem dX8_layThen_0 : decode cX8_layThen 0 = .ok (.iconst 0, 1) := by decide +kernel
theorem dX8_layThen_1 : decode cX8_layThen 1 = .ok (.istore_n 1, 1) := by decide +kernel
theorem dX8_layThen_2 : decode cX8_layThen 2 = .ok (.iload_n 1, 1) := by decide +kernel
theorem dX8_layThen_3 : decode cX8_layThen 3 = .ok (.bipush 43, 2) := by decide +kernel
theorem dX8_layThen_5 : decode cX8_layThen 5 = .ok (.if_icmp .ge 21, 3) := by decide +kernel
theorem dX8_layThen_8 : decode cX8_layThen 8 = .ok (.aload_n 0, 1) := by decide +kernel
theorem dX8_layThen_9 : decode cX8_layThen 9 = .ok (.getfield 25, 3) := by decide +kernel
theorem dX8_layThen_12 : decode cX8_layThen 12 = .ok (.iload_n 1, 1) := by decide +kernel
theorem dX8_layThen_13 : decode cX8_layThen 13 = .ok (.aload_n 0, 1) := by decide +kernel
theorem dX8_layThen_14 : decode cX8_layThen 14 = .ok (.getfield 19, 3) := by decide +kernel
theorem dX8_layThen_17 : decode cX8_layThen 17 = .ok (.iload_n 1, 1) := by decide +kernel
theorem dX8_layThen_18 : decode cX8_layThen 18 = .ok (.iaload, 1) := by decide +kernel
theorem dX8_layThen_19 : decode cX8_layThen 19 = .ok (.iastore, 1) := by decide +kernel
theorem dX8_layThen_20 : decode cX8_layThen 20 = .ok (.iinc 1 1, 3) := by decide +kernel
theorem dX8_layThen_23 : decode cX8_layThen 23 = .ok (.goto (-21), 3) := by decide +kernel
theorem dX8_layThen_26 : decode cX8_layThen 26 = .ok (.return_, 1) := by decide +kernel
theorem dX8_keep_0 : decode cX8_keep 0 = .ok (.aload_n 0, 1) := by decide +kernel
theorem dX8_keep_1 : decode cX8_keep 1 = .ok (.getfield 149, 3) := by decide +kernel
theorem dX8_keep_4 : decode cX8_keep 4 = .ok (.bipush 24, 2) := by decide +kernel
theorem dX8_keep_6 : decode cX8_keep 6 = .ok (.if_icmp .ne 43, 3) := by decide +kernel
theorem dX8_keep_9 : decode cX8_keep 9 = .ok (.iconst 0, 1) := by decide +kernel
theorem dX8_keep_10 : decode cX8_keep 10 = .ok (.istore_n 1, 1) := by decide +kernel
theorem dX8_keep_11 : decode cX8_keep 11 = .ok (.iload_n 1, 1) := by decide +kernel
theorem dX8_keep_12 : decode cX8_keep 12 = .ok (.sipush 989, 3) := by decide +kernel
theorem dX8_keep_15 : decode cX8_keep 15 = .ok (.if_icmp .ge 24, 3) := by decide +kernel
theorem dX8_keep_18 : decode cX8_keep 18 = .ok (.aload_n 0, 1) := by decide +kernel
theorem dX8_keep_19 : decode cX8_keep 19 = .ok (.getfield 28, 3) := by decide +kernel
theorem dX8_keep_22 : decode cX8_keep 22 = .ok (.iload_n 1, 1) := by decide +kernel
theorem dX8_keep_23 : decode cX8_keep 23 = .ok (.aload_n 0, 1) := by decide +kernel
theorem dX8_keep_24 : decode cX8_keep 24 = .ok (.getfield 28, 3) := by decide +kernel
theorem dX8_keep_27 : decode cX8_keep 27 = .ok (.iload_n 1, 1) := by decide +kernel
theorem dX8_keep_28 : decode cX8_keep 28 = .ok (.bipush 43, 2) := by decide +kernel
theorem dX8_keep_30 : decode cX8_keep 30 = .ok (.iadd, 1) := by decide +kernel
theorem dX8_keep_31 : decode cX8_keep 31 = .ok (.iaload, 1) := by decide +kernel
theorem dX8_keep_32 : decode cX8_keep 32 = .ok (.iastore, 1) := by decide +kernel
theorem dX8_keep_33 : decode cX8_keep 33 = .ok (.iinc 1 1, 3) := by decide +kernel
theorem dX8_keep_36 : decode cX8_keep 36 = .ok (.goto (-25), 3) := by decide +kernel
theorem dX8_keep_39 : decode cX8_keep 39 = .ok (.aload_n 0, 1) := by decide +kernel
theorem dX8_keep_40 : decode cX8_keep 40 = .ok (.dup, 1) := by decide +kernel
theorem dX8_keep_41 : decode cX8_keep 41 = .ok (.getfield 149, 3) := by decide +kernel
theorem dX8_keep_44 : decode cX8_keep 44 = .ok (.iconst 1, 1) := by decide +kernel
theorem dX8_keep_45 : decode cX8_keep 45 = .ok (.isub, 1) := by decide +kernel
theorem dX8_keep_46 : decode cX8_keep 46 = .ok (.putfield 149, 3) := by decide +kernel
theorem dX8_keep_49 : decode cX8_keep 49 = .ok (.iconst 0, 1) := by decide +kernel
theorem dX8_keep_50 : decode cX8_keep 50 = .ok (.istore_n 1, 1) := by decide +kernel
theorem dX8_keep_51 : decode cX8_keep 51 = .ok (.iload_n 1, 1) := by decide +kernel
theorem dX8_keep_52 : decode cX8_keep 52 = .ok (.bipush 43, 2) := by decide +kernel
theorem dX8_keep_54 : decode cX8_keep 54 = .ok (.if_icmp .ge 29, 3) := by decide +kernel
theorem dX8_keep_57 : decode cX8_keep 57 = .ok (.aload_n 0, 1) := by decide +kernel
theorem dX8_keep_58 : decode cX8_keep 58 = .ok (.getfield 28, 3) := by decide +kernel
theorem dX8_keep_61 : decode cX8_keep 61 = .ok (.bipush 43, 2) := by decide +kernel
theorem dX8_keep_63 : decode cX8_keep 63 = .ok (.aload_n 0, 1) := by decide +kernel
theorem dX8_keep_64 : decode cX8_keep 64 = .ok (.getfield 149, 3) := by decide +kernel
theorem dX8_keep_67 : decode cX8_keep 67 = .ok (.imul, 1) := by decide +kernel
theorem dX8_keep_68 : decode cX8_keep 68 = .ok (.iload_n 1, 1) := by decide +kernel
theorem dX8_keep_69 : decode cX8_keep 69 = .ok (.iadd, 1) := by decide +kernel
theorem dX8_keep_70 : decode cX8_keep 70 = .ok (.aload_n 0, 1) := by decide +kernel
theorem dX8_keep_71 : decode cX8_keep 71 = .ok (.getfield 19, 3) := by decide +kernel
theorem dX8_keep_74 : decode cX8_keep 74 = .ok (.iload_n 1, 1) := by decide +kernel
theorem dX8_keep_75 : decode cX8_keep 75 = .ok (.iaload, 1) := by decide +kernel
theorem dX8_keep_76 : decode cX8_keep 76 = .ok (.iastore, 1) := by decide +kernel
theorem dX8_keep_77 : decode cX8_keep 77 = .ok (.iinc 1 1, 3) := by decide +kernel
theorem dX8_keep_80 : decode cX8_keep 80 = .ok (.goto (-29), 3) := by decide +kernel
theorem dX8_keep_83 : decode cX8_keep 83 = .ok (.aload_n 0, 1) := by decide +kernel
theorem dX8_keep_84 : decode cX8_keep 84 = .ok (.dup, 1) := by decide +kernel
theorem dX8_keep_85 : decode cX8_keep 85 = .ok (.getfield 149, 3) := by decide +kernel
theorem dX8_keep_88 : decode cX8_keep 88 = .ok (.iconst 1, 1) := by decide +kernel
theorem dX8_keep_89 : decode cX8_keep 89 = .ok (.iadd, 1) := by decide +kernel
theorem dX8_keep_90 : decode cX8_keep 90 = .ok (.putfield 149, 3) := by decide +kernel
theorem dX8_keep_93 : decode cX8_keep 93 = .ok (.return_, 1) := by decide +kernel
theorem dX8_years_0 : decode cX8_years 0 = .ok (.aload_n 0, 1) := by decide +kernel
theorem dX8_years_1 : decode cX8_years 1 = .ok (.iconst 0, 1) := by decide +kernel
theorem dX8_years_2 : decode cX8_years 2 = .ok (.putfield 50, 3) := by decide +kernel
theorem dX8_years_5 : decode cX8_years 5 = .ok (.aload_n 0, 1) := by decide +kernel
theorem dX8_years_6 : decode cX8_years 6 = .ok (.invokevirtual 196, 3) := by decide +kernel
theorem dX8_years_9 : decode cX8_years 9 = .ok (.ifCond .ne 6, 3) := by decide +kernel
theorem dX8_years_12 : decode cX8_years 12 = .ok (.ldc 199, 2) := by decide +kernel
theorem dX8_years_14 : decode cX8_years 14 = .ok (.ireturn, 1) := by decide +kernel
theorem dX8_years_15 : decode cX8_years 15 = .ok (.iload_n 1, 1) := by decide +kernel
theorem dX8_years_16 : decode cX8_years 16 = .ok (.i2l, 1) := by decide +kernel
theorem dX8_years_17 : decode cX8_years 17 = .ok (.lconst 1, 1) := by decide +kernel
theorem dX8_years_18 : decode cX8_years 18 = .ok (.ldc2_w 200, 3) := by decide +kernel
theorem dX8_years_21 : decode cX8_years 21 = .ok (.invokestatic 60, 3) := by decide +kernel
theorem dX8_years_24 : decode cX8_years 24 = .ok (.ifCond .ne 6, 3) := by decide +kernel
theorem dX8_years_27 : decode cX8_years 27 = .ok (.ldc 70, 2) := by decide +kernel
theorem dX8_years_29 : decode cX8_years 29 = .ok (.ireturn, 1) := by decide +kernel
theorem dX8_years_30 : decode cX8_years 30 = .ok (.aload_n 0, 1) := by decide +kernel
theorem dX8_years_31 : decode cX8_years 31 = .ok (.getfield 19, 3) := by decide +kernel
theorem dX8_years_34 : decode cX8_years 34 = .ok (.iconst 1, 1) := by decide +kernel
theorem dX8_years_35 : decode cX8_years 35 = .ok (.iaload, 1) := by decide +kernel
theorem dX8_years_36 : decode cX8_years 36 = .ok (.iload_n 1, 1) := by decide +kernel
theorem dX8_years_37 : decode cX8_years 37 = .ok (.iadd, 1) := by decide +kernel
theorem dX8_years_38 : decode cX8_years 38 = .ok (.sipush 999, 3) := by decide +kernel
theorem dX8_years_41 : decode cX8_years 41 = .ok (.if_icmp .le 6, 3) := by decide +kernel
theorem dX8_years_44 : decode cX8_years 44 = .ok (.ldc 80, 2) := by decide +kernel
theorem dX8_years_46 : decode cX8_years 46 = .ok (.ireturn, 1) := by decide +kernel
theorem dX8_years_47 : decode cX8_years 47 = .ok (.iconst 0, 1) := by decide +kernel
theorem dX8_years_48 : decode cX8_years 48 = .ok (.istore_n 2, 1) := by decide +kernel
theorem dX8_years_49 : decode cX8_years 49 = .ok (.iload_n 2, 1) := by decide +kernel
theorem dX8_years_50 : decode cX8_years 50 = .ok (.iload_n 1, 1) := by decide +kernel
theorem dX8_years_51 : decode cX8_years 51 = .ok (.if_icmp .ge 20, 3) := by decide +kernel
theorem dX8_years_54 : decode cX8_years 54 = .ok (.aload_n 0, 1) := by decide +kernel
theorem dX8_years_55 : decode cX8_years 55 = .ok (.invokevirtual 202, 3) := by decide +kernel
theorem dX8_years_58 : decode cX8_years 58 = .ok (.aload_n 0, 1) := by decide +kernel
theorem dX8_years_59 : decode cX8_years 59 = .ok (.getfield 19, 3) := by decide +kernel
theorem dX8_years_62 : decode cX8_years 62 = .ok (.invokestatic 205, 3) := by decide +kernel
theorem dX8_years_65 : decode cX8_years 65 = .ok (.iinc 2 1, 3) := by decide +kernel
theorem dX8_years_68 : decode cX8_years 68 = .ok (.goto (-19), 3) := by decide +kernel
theorem dX8_years_71 : decode cX8_years 71 = .ok (.aload_n 0, 1) := by decide +kernel
theorem dX8_years_72 : decode cX8_years 72 = .ok (.getfield 19, 3) := by decide +kernel
theorem dX8_years_75 : decode cX8_years 75 = .ok (.iconst 0, 1) := by decide +kernel
theorem dX8_years_76 : decode cX8_years 76 = .ok (.invokestatic 175, 3) := by decide +kernel
theorem dX8_years_79 : decode cX8_years 79 = .ok (.ireturn, 1) := by decide +kernel
theorem dX8_sneeze_0 : decode cX8_sneeze 0 = .ok (.aload_n 0, 1) := by decide +kernel
theorem dX8_sneeze_1 : decode cX8_sneeze 1 = .ok (.iconst 0, 1) := by decide +kernel
theorem dX8_sneeze_2 : decode cX8_sneeze 2 = .ok (.putfield 50, 3) := by decide +kernel
theorem dX8_sneeze_5 : decode cX8_sneeze 5 = .ok (.iload_n 1, 1) := by decide +kernel
theorem dX8_sneeze_6 : decode cX8_sneeze 6 = .ok (.i2l, 1) := by decide +kernel
theorem dX8_sneeze_7 : decode cX8_sneeze 7 = .ok (.invokestatic 209, 3) := by decide +kernel
theorem dX8_sneeze_10 : decode cX8_sneeze 10 = .ok (.ifCond .eq 11, 3) := by decide +kernel
theorem dX8_sneeze_13 : decode cX8_sneeze 13 = .ok (.aload_n 0, 1) := by decide +kernel
theorem dX8_sneeze_14 : decode cX8_sneeze 14 = .ok (.iload_n 2, 1) := by decide +kernel
theorem dX8_sneeze_15 : decode cX8_sneeze 15 = .ok (.invokevirtual 213, 3) := by decide +kernel
theorem dX8_sneeze_18 : decode cX8_sneeze 18 = .ok (.ifCond .ne 6, 3) := by decide +kernel
theorem dX8_sneeze_21 : decode cX8_sneeze 21 = .ok (.ldc 70, 2) := by decide +kernel
theorem dX8_sneeze_23 : decode cX8_sneeze 23 = .ok (.ireturn, 1) := by decide +kernel
theorem dX8_sneeze_24 : decode cX8_sneeze 24 = .ok (.aload_n 0, 1) := by decide +kernel
theorem dX8_sneeze_25 : decode cX8_sneeze 25 = .ok (.invokevirtual 202, 3) := by decide +kernel
theorem dX8_sneeze_28 : decode cX8_sneeze 28 = .ok (.aload_n 0, 1) := by decide +kernel
theorem dX8_sneeze_29 : decode cX8_sneeze 29 = .ok (.getfield 19, 3) := by decide +kernel
theorem dX8_sneeze_32 : decode cX8_sneeze 32 = .ok (.iconst 0, 1) := by decide +kernel
theorem dX8_sneeze_33 : decode cX8_sneeze 33 = .ok (.invokestatic 175, 3) := by decide +kernel
theorem dX8_sneeze_36 : decode cX8_sneeze 36 = .ok (.istore_n 3, 1) := by decide +kernel
theorem dX8_sneeze_37 : decode cX8_sneeze 37 = .ok (.aload_n 0, 1) := by decide +kernel
theorem dX8_sneeze_38 : decode cX8_sneeze 38 = .ok (.aload_n 0, 1) := by decide +kernel
theorem dX8_sneeze_39 : decode cX8_sneeze 39 = .ok (.getfield 19, 3) := by decide +kernel
theorem dX8_sneeze_42 : decode cX8_sneeze 42 = .ok (.iload_n 1, 1) := by decide +kernel
theorem dX8_sneeze_43 : decode cX8_sneeze 43 = .ok (.iload_n 2, 1) := by decide +kernel
theorem dX8_sneeze_44 : decode cX8_sneeze 44 = .ok (.invokevirtual 216, 3) := by decide +kernel
theorem dX8_sneeze_47 : decode cX8_sneeze 47 = .ok (.iload_n 3, 1) := by decide +kernel
theorem dX8_sneeze_48 : decode cX8_sneeze 48 = .ok (.aload_n 0, 1) := by decide +kernel
theorem dX8_sneeze_49 : decode cX8_sneeze 49 = .ok (.getfield 19, 3) := by decide +kernel
theorem dX8_sneeze_52 : decode cX8_sneeze 52 = .ok (.iconst 0, 1) := by decide +kernel
theorem dX8_sneeze_53 : decode cX8_sneeze 53 = .ok (.invokestatic 175, 3) := by decide +kernel
theorem dX8_sneeze_56 : decode cX8_sneeze 56 = .ok (.iconst (-1), 1) := by decide +kernel
theorem dX8_sneeze_57 : decode cX8_sneeze 57 = .ok (.ixor, 1) := by decide +kernel
theorem dX8_sneeze_58 : decode cX8_sneeze 58 = .ok (.iand, 1) := by decide +kernel
theorem dX8_sneeze_59 : decode cX8_sneeze 59 = .ok (.ireturn, 1) := by decide +kernel
theorem dX8_open_0 : decode cX8_open 0 = .ok (.aload_n 0, 1) := by decide +kernel
theorem dX8_open_1 : decode cX8_open 1 = .ok (.iconst 0, 1) := by decide +kernel
theorem dX8_open_2 : decode cX8_open 2 = .ok (.putfield 50, 3) := by decide +kernel
theorem dX8_open_5 : decode cX8_open 5 = .ok (.aload_n 0, 1) := by decide +kernel
theorem dX8_open_6 : decode cX8_open 6 = .ok (.iload_n 1, 1) := by decide +kernel
theorem dX8_open_7 : decode cX8_open 7 = .ok (.invokevirtual 213, 3) := by decide +kernel
theorem dX8_open_10 : decode cX8_open 10 = .ok (.ifCond .ne 6, 3) := by decide +kernel
theorem dX8_open_13 : decode cX8_open 13 = .ok (.ldc 70, 2) := by decide +kernel
theorem dX8_open_15 : decode cX8_open 15 = .ok (.ireturn, 1) := by decide +kernel
theorem dX8_open_16 : decode cX8_open 16 = .ok (.aload_n 0, 1) := by decide +kernel
theorem dX8_open_17 : decode cX8_open 17 = .ok (.getfield 19, 3) := by decide +kernel
theorem dX8_open_20 : decode cX8_open 20 = .ok (.iload_n 1, 1) := by decide +kernel
theorem dX8_open_21 : decode cX8_open 21 = .ok (.iconst 4, 1) := by decide +kernel
theorem dX8_open_22 : decode cX8_open 22 = .ok (.invokestatic 154, 3) := by decide +kernel
theorem dX8_open_25 : decode cX8_open 25 = .ok (.ifCond .eq 6, 3) := by decide +kernel
theorem dX8_open_28 : decode cX8_open 28 = .ok (.ldc 199, 2) := by decide +kernel
theorem dX8_open_30 : decode cX8_open 30 = .ok (.ireturn, 1) := by decide +kernel
theorem dX8_open_31 : decode cX8_open 31 = .ok (.aload_n 0, 1) := by decide +kernel
theorem dX8_open_32 : decode cX8_open 32 = .ok (.invokevirtual 202, 3) := by decide +kernel
theorem dX8_open_35 : decode cX8_open 35 = .ok (.aload_n 0, 1) := by decide +kernel
theorem dX8_open_36 : decode cX8_open 36 = .ok (.getfield 19, 3) := by decide +kernel
theorem dX8_open_39 : decode cX8_open 39 = .ok (.iload_n 1, 1) := by decide +kernel
theorem dX8_open_40 : decode cX8_open 40 = .ok (.iconst 4, 1) := by decide +kernel
theorem dX8_open_41 : decode cX8_open 41 = .ok (.iconst 3, 1) := by decide +kernel
theorem dX8_open_42 : decode cX8_open 42 = .ok (.invokestatic 192, 3) := by decide +kernel
theorem dX8_open_45 : decode cX8_open 45 = .ok (.aload_n 0, 1) := by decide +kernel
theorem dX8_open_46 : decode cX8_open 46 = .ok (.getfield 19, 3) := by decide +kernel
theorem dX8_open_49 : decode cX8_open 49 = .ok (.iload_n 1, 1) := by decide +kernel
theorem dX8_open_50 : decode cX8_open 50 = .ok (.iconst 1, 1) := by decide +kernel
theorem dX8_open_51 : decode cX8_open 51 = .ok (.invokestatic 154, 3) := by decide +kernel
theorem dX8_open_54 : decode cX8_open 54 = .ok (.ireturn, 1) := by decide +kernel
theorem dX8_change_0 : decode cX8_change 0 = .ok (.aload_n 0, 1) := by decide +kernel
theorem dX8_change_1 : decode cX8_change 1 = .ok (.iconst 0, 1) := by decide +kernel
theorem dX8_change_2 : decode cX8_change 2 = .ok (.putfield 50, 3) := by decide +kernel
theorem dX8_change_5 : decode cX8_change 5 = .ok (.aload_n 0, 1) := by decide +kernel
theorem dX8_change_6 : decode cX8_change 6 = .ok (.iload_n 1, 1) := by decide +kernel
theorem dX8_change_7 : decode cX8_change 7 = .ok (.invokevirtual 213, 3) := by decide +kernel
theorem dX8_change_10 : decode cX8_change 10 = .ok (.ifCond .eq 16, 3) := by decide +kernel
theorem dX8_change_13 : decode cX8_change 13 = .ok (.aload_n 0, 1) := by decide +kernel
theorem dX8_change_14 : decode cX8_change 14 = .ok (.iload_n 2, 1) := by decide +kernel
theorem dX8_change_15 : decode cX8_change 15 = .ok (.invokevirtual 213, 3) := by decide +kernel
theorem dX8_change_18 : decode cX8_change 18 = .ok (.ifCond .eq 8, 3) := by decide +kernel
theorem dX8_change_21 : decode cX8_change 21 = .ok (.iload_n 1, 1) := by decide +kernel
theorem dX8_change_22 : decode cX8_change 22 = .ok (.iload_n 2, 1) := by decide +kernel
theorem dX8_change_23 : decode cX8_change 23 = .ok (.if_icmp .ne 6, 3) := by decide +kernel
theorem dX8_change_26 : decode cX8_change 26 = .ok (.ldc 70, 2) := by decide +kernel
theorem dX8_change_28 : decode cX8_change 28 = .ok (.ireturn, 1) := by decide +kernel
theorem dX8_change_29 : decode cX8_change 29 = .ok (.aload_n 0, 1) := by decide +kernel
theorem dX8_change_30 : decode cX8_change 30 = .ok (.invokevirtual 202, 3) := by decide +kernel
theorem dX8_change_33 : decode cX8_change 33 = .ok (.aload_n 0, 1) := by decide +kernel
theorem dX8_change_34 : decode cX8_change 34 = .ok (.getfield 19, 3) := by decide +kernel
theorem dX8_change_37 : decode cX8_change 37 = .ok (.iload_n 1, 1) := by decide +kernel
theorem dX8_change_38 : decode cX8_change 38 = .ok (.iload_n 2, 1) := by decide +kernel
theorem dX8_change_39 : decode cX8_change 39 = .ok (.invokestatic 220, 3) := by decide +kernel
theorem dX8_change_42 : decode cX8_change 42 = .ok (.aload_n 0, 1) := by decide +kernel
theorem dX8_change_43 : decode cX8_change 43 = .ok (.getfield 19, 3) := by decide +kernel
theorem dX8_change_46 : decode cX8_change 46 = .ok (.iload_n 1, 1) := by decide +kernel
theorem dX8_change_47 : decode cX8_change 47 = .ok (.iconst 3, 1) := by decide +kernel
theorem dX8_change_48 : decode cX8_change 48 = .ok (.invokestatic 154, 3) := by decide +kernel
theorem dX8_change_51 : decode cX8_change 51 = .ok (.ireturn, 1) := by decide +kernel
theorem dX8_seal_0 : decode cX8_seal 0 = .ok (.aload_n 0, 1) := by decide +kernel
theorem dX8_seal_1 : decode cX8_seal 1 = .ok (.iconst 0, 1) := by decide +kernel
theorem dX8_seal_2 : decode cX8_seal 2 = .ok (.putfield 50, 3) := by decide +kernel
theorem dX8_seal_5 : decode cX8_seal 5 = .ok (.aload_n 0, 1) := by decide +kernel
theorem dX8_seal_6 : decode cX8_seal 6 = .ok (.iload_n 1, 1) := by decide +kernel
theorem dX8_seal_7 : decode cX8_seal 7 = .ok (.invokevirtual 213, 3) := by decide +kernel
theorem dX8_seal_10 : decode cX8_seal 10 = .ok (.ifCond .eq 23, 3) := by decide +kernel
theorem dX8_seal_13 : decode cX8_seal 13 = .ok (.iload_n 2, 1) := by decide +kernel
theorem dX8_seal_14 : decode cX8_seal 14 = .ok (.i2l, 1) := by decide +kernel
theorem dX8_seal_15 : decode cX8_seal 15 = .ok (.invokestatic 209, 3) := by decide +kernel
theorem dX8_seal_18 : decode cX8_seal 18 = .ok (.ifCond .eq 15, 3) := by decide +kernel
theorem dX8_seal_21 : decode cX8_seal 21 = .ok (.iload_n 3, 1) := by decide +kernel
theorem dX8_seal_22 : decode cX8_seal 22 = .ok (.i2l, 1) := by decide +kernel
theorem dX8_seal_23 : decode cX8_seal 23 = .ok (.lconst 1, 1) := by decide +kernel
theorem dX8_seal_24 : decode cX8_seal 24 = .ok (.ldc2_w 223, 3) := by decide +kernel
theorem dX8_seal_27 : decode cX8_seal 27 = .ok (.invokestatic 60, 3) := by decide +kernel
theorem dX8_seal_30 : decode cX8_seal 30 = .ok (.ifCond .ne 6, 3) := by decide +kernel
theorem dX8_seal_33 : decode cX8_seal 33 = .ok (.ldc 70, 2) := by decide +kernel
theorem dX8_seal_35 : decode cX8_seal 35 = .ok (.ireturn, 1) := by decide +kernel
theorem dX8_seal_36 : decode cX8_seal 36 = .ok (.aload_n 0, 1) := by decide +kernel
theorem dX8_seal_37 : decode cX8_seal 37 = .ok (.getfield 19, 3) := by decide +kernel
theorem dX8_seal_40 : decode cX8_seal 40 = .ok (.iload_n 1, 1) := by decide +kernel
theorem dX8_seal_41 : decode cX8_seal 41 = .ok (.iconst 4, 1) := by decide +kernel
theorem dX8_seal_42 : decode cX8_seal 42 = .ok (.invokestatic 154, 3) := by decide +kernel
theorem dX8_seal_45 : decode cX8_seal 45 = .ok (.ifCond .ne 6, 3) := by decide +kernel
theorem dX8_seal_48 : decode cX8_seal 48 = .ok (.ldc 199, 2) := by decide +kernel
theorem dX8_seal_50 : decode cX8_seal 50 = .ok (.ireturn, 1) := by decide +kernel
theorem dX8_seal_51 : decode cX8_seal 51 = .ok (.aload_n 0, 1) := by decide +kernel
theorem dX8_seal_52 : decode cX8_seal 52 = .ok (.invokevirtual 202, 3) := by decide +kernel
theorem dX8_seal_55 : decode cX8_seal 55 = .ok (.aload_n 0, 1) := by decide +kernel
theorem dX8_seal_56 : decode cX8_seal 56 = .ok (.getfield 19, 3) := by decide +kernel
theorem dX8_seal_59 : decode cX8_seal 59 = .ok (.iload_n 1, 1) := by decide +kernel
theorem dX8_seal_60 : decode cX8_seal 60 = .ok (.iconst 4, 1) := by decide +kernel
theorem dX8_seal_61 : decode cX8_seal 61 = .ok (.iconst 0, 1) := by decide +kernel
theorem dX8_seal_62 : decode cX8_seal 62 = .ok (.invokestatic 192, 3) := by decide +kernel
theorem dX8_seal_65 : decode cX8_seal 65 = .ok (.aload_n 0, 1) := by decide +kernel
theorem dX8_seal_66 : decode cX8_seal 66 = .ok (.getfield 19, 3) := by decide +kernel
theorem dX8_seal_69 : decode cX8_seal 69 = .ok (.iload_n 1, 1) := by decide +kernel
theorem dX8_seal_70 : decode cX8_seal 70 = .ok (.iconst 1, 1) := by decide +kernel
theorem dX8_seal_71 : decode cX8_seal 71 = .ok (.iload_n 2, 1) := by decide +kernel
theorem dX8_seal_72 : decode cX8_seal 72 = .ok (.invokestatic 192, 3) := by decide +kernel
theorem dX8_seal_75 : decode cX8_seal 75 = .ok (.aload_n 0, 1) := by decide +kernel
theorem dX8_seal_76 : decode cX8_seal 76 = .ok (.getfield 19, 3) := by decide +kernel
theorem dX8_seal_79 : decode cX8_seal 79 = .ok (.iload_n 1, 1) := by decide +kernel
theorem dX8_seal_80 : decode cX8_seal 80 = .ok (.iconst 2, 1) := by decide +kernel
theorem dX8_seal_81 : decode cX8_seal 81 = .ok (.iload_n 3, 1) := by decide +kernel
theorem dX8_seal_82 : decode cX8_seal 82 = .ok (.invokestatic 192, 3) := by decide +kernel
theorem dX8_seal_85 : decode cX8_seal 85 = .ok (.aload_n 0, 1) := by decide +kernel
theorem dX8_seal_86 : decode cX8_seal 86 = .ok (.getfield 19, 3) := by decide +kernel
theorem dX8_seal_89 : decode cX8_seal 89 = .ok (.iconst 0, 1) := by decide +kernel
theorem dX8_seal_90 : decode cX8_seal 90 = .ok (.invokestatic 175, 3) := by decide +kernel
theorem dX8_seal_93 : decode cX8_seal 93 = .ok (.ireturn, 1) := by decide +kernel
theorem dX8_reach_0 : decode cX8_reach 0 = .ok (.aload_n 0, 1) := by decide +kernel
theorem dX8_reach_1 : decode cX8_reach 1 = .ok (.iconst 0, 1) := by decide +kernel
theorem dX8_reach_2 : decode cX8_reach 2 = .ok (.putfield 50, 3) := by decide +kernel
theorem dX8_reach_5 : decode cX8_reach 5 = .ok (.aload_n 0, 1) := by decide +kernel
theorem dX8_reach_6 : decode cX8_reach 6 = .ok (.invokevirtual 196, 3) := by decide +kernel
theorem dX8_reach_9 : decode cX8_reach 9 = .ok (.ifCond .ne 6, 3) := by decide +kernel
theorem dX8_reach_12 : decode cX8_reach 12 = .ok (.ldc 199, 2) := by decide +kernel
theorem dX8_reach_14 : decode cX8_reach 14 = .ok (.ireturn, 1) := by decide +kernel
theorem dX8_reach_15 : decode cX8_reach 15 = .ok (.iload_n 1, 1) := by decide +kernel
theorem dX8_reach_16 : decode cX8_reach 16 = .ok (.i2l, 1) := by decide +kernel
theorem dX8_reach_17 : decode cX8_reach 17 = .ok (.lconst 0, 1) := by decide +kernel
theorem dX8_reach_18 : decode cX8_reach 18 = .ok (.ldc2_w 225, 3) := by decide +kernel
theorem dX8_reach_21 : decode cX8_reach 21 = .ok (.invokestatic 60, 3) := by decide +kernel
theorem dX8_reach_24 : decode cX8_reach 24 = .ok (.ifCond .ne 6, 3) := by decide +kernel
theorem dX8_reach_27 : decode cX8_reach 27 = .ok (.ldc 70, 2) := by decide +kernel
theorem dX8_reach_29 : decode cX8_reach 29 = .ok (.ireturn, 1) := by decide +kernel
theorem dX8_reach_30 : decode cX8_reach 30 = .ok (.aload_n 0, 1) := by decide +kernel
theorem dX8_reach_31 : decode cX8_reach 31 = .ok (.invokevirtual 202, 3) := by decide +kernel
theorem dX8_reach_34 : decode cX8_reach 34 = .ok (.aload_n 0, 1) := by decide +kernel
theorem dX8_reach_35 : decode cX8_reach 35 = .ok (.getfield 19, 3) := by decide +kernel
theorem dX8_reach_38 : decode cX8_reach 38 = .ok (.iconst 2, 1) := by decide +kernel
theorem dX8_reach_39 : decode cX8_reach 39 = .ok (.iaload, 1) := by decide +kernel
theorem dX8_reach_40 : decode cX8_reach 40 = .ok (.istore_n 2, 1) := by decide +kernel
theorem dX8_reach_41 : decode cX8_reach 41 = .ok (.aload_n 0, 1) := by decide +kernel
theorem dX8_reach_42 : decode cX8_reach 42 = .ok (.getfield 19, 3) := by decide +kernel
theorem dX8_reach_45 : decode cX8_reach 45 = .ok (.iconst 2, 1) := by decide +kernel
theorem dX8_reach_46 : decode cX8_reach 46 = .ok (.iload_n 1, 1) := by decide +kernel
theorem dX8_reach_47 : decode cX8_reach 47 = .ok (.iastore, 1) := by decide +kernel
theorem dX8_reach_48 : decode cX8_reach 48 = .ok (.iload_n 2, 1) := by decide +kernel
theorem dX8_reach_49 : decode cX8_reach 49 = .ok (.ireturn, 1) := by decide +kernel
theorem dX8_undo_0 : decode cX8_undo 0 = .ok (.aload_n 0, 1) := by decide +kernel
theorem dX8_undo_1 : decode cX8_undo 1 = .ok (.iconst 0, 1) := by decide +kernel
theorem dX8_undo_2 : decode cX8_undo 2 = .ok (.putfield 50, 3) := by decide +kernel
theorem dX8_undo_5 : decode cX8_undo 5 = .ok (.aload_n 0, 1) := by decide +kernel
theorem dX8_undo_6 : decode cX8_undo 6 = .ok (.getfield 149, 3) := by decide +kernel
theorem dX8_undo_9 : decode cX8_undo 9 = .ok (.ifCond .ne 6, 3) := by decide +kernel
theorem dX8_undo_12 : decode cX8_undo 12 = .ok (.ldc 199, 2) := by decide +kernel
theorem dX8_undo_14 : decode cX8_undo 14 = .ok (.ireturn, 1) := by decide +kernel
theorem dX8_undo_15 : decode cX8_undo 15 = .ok (.aload_n 0, 1) := by decide +kernel
theorem dX8_undo_16 : decode cX8_undo 16 = .ok (.dup, 1) := by decide +kernel
theorem dX8_undo_17 : decode cX8_undo 17 = .ok (.getfield 149, 3) := by decide +kernel
theorem dX8_undo_20 : decode cX8_undo 20 = .ok (.iconst 1, 1) := by decide +kernel
theorem dX8_undo_21 : decode cX8_undo 21 = .ok (.isub, 1) := by decide +kernel
theorem dX8_undo_22 : decode cX8_undo 22 = .ok (.putfield 149, 3) := by decide +kernel
theorem dX8_undo_25 : decode cX8_undo 25 = .ok (.iconst 0, 1) := by decide +kernel
theorem dX8_undo_26 : decode cX8_undo 26 = .ok (.istore_n 1, 1) := by decide +kernel
theorem dX8_undo_27 : decode cX8_undo 27 = .ok (.iload_n 1, 1) := by decide +kernel
theorem dX8_undo_28 : decode cX8_undo 28 = .ok (.bipush 43, 2) := by decide +kernel
theorem dX8_undo_30 : decode cX8_undo 30 = .ok (.if_icmp .ge 29, 3) := by decide +kernel
theorem dX8_undo_33 : decode cX8_undo 33 = .ok (.aload_n 0, 1) := by decide +kernel
theorem dX8_undo_34 : decode cX8_undo 34 = .ok (.getfield 19, 3) := by decide +kernel
theorem dX8_undo_37 : decode cX8_undo 37 = .ok (.iload_n 1, 1) := by decide +kernel
theorem dX8_undo_38 : decode cX8_undo 38 = .ok (.aload_n 0, 1) := by decide +kernel
theorem dX8_undo_39 : decode cX8_undo 39 = .ok (.getfield 28, 3) := by decide +kernel
theorem dX8_undo_42 : decode cX8_undo 42 = .ok (.bipush 43, 2) := by decide +kernel
theorem dX8_undo_44 : decode cX8_undo 44 = .ok (.aload_n 0, 1) := by decide +kernel
theorem dX8_undo_45 : decode cX8_undo 45 = .ok (.getfield 149, 3) := by decide +kernel
theorem dX8_undo_48 : decode cX8_undo 48 = .ok (.imul, 1) := by decide +kernel
theorem dX8_undo_49 : decode cX8_undo 49 = .ok (.iload_n 1, 1) := by decide +kernel
theorem dX8_undo_50 : decode cX8_undo 50 = .ok (.iadd, 1) := by decide +kernel
theorem dX8_undo_51 : decode cX8_undo 51 = .ok (.iaload, 1) := by decide +kernel
theorem dX8_undo_52 : decode cX8_undo 52 = .ok (.iastore, 1) := by decide +kernel
theorem dX8_undo_53 : decode cX8_undo 53 = .ok (.iinc 1 1, 3) := by decide +kernel
theorem dX8_undo_56 : decode cX8_undo 56 = .ok (.goto (-29), 3) := by decide +kernel
theorem dX8_undo_59 : decode cX8_undo 59 = .ok (.aload_n 0, 1) := by decide +kernel
theorem dX8_undo_60 : decode cX8_undo 60 = .ok (.getfield 149, 3) := by decide +kernel
theorem dX8_undo_63 : decode cX8_undo 63 = .ok (.ireturn, 1) := by decide +kernel
theorem dX8_jar_0 : decode cX8_jar 0 = .ok (.aload_n 0, 1) := by decide +kernel
theorem dX8_jar_1 : decode cX8_jar 1 = .ok (.iconst 0, 1) := by decide +kernel
theorem dX8_jar_2 : decode cX8_jar 2 = .ok (.putfield 50, 3) := by decide +kernel
theorem dX8_jar_5 : decode cX8_jar 5 = .ok (.aload_n 0, 1) := by decide +kernel
theorem dX8_jar_6 : decode cX8_jar 6 = .ok (.iload_n 1, 1) := by decide +kernel
theorem dX8_jar_7 : decode cX8_jar 7 = .ok (.invokevirtual 213, 3) := by decide +kernel
theorem dX8_jar_10 : decode cX8_jar 10 = .ok (.ifCond .eq 29, 3) := by decide +kernel
theorem dX8_jar_13 : decode cX8_jar 13 = .ok (.iload_n 2, 1) := by decide +kernel
theorem dX8_jar_14 : decode cX8_jar 14 = .ok (.i2l, 1) := by decide +kernel
theorem dX8_jar_15 : decode cX8_jar 15 = .ok (.lconst 0, 1) := by decide +kernel
theorem dX8_jar_16 : decode cX8_jar 16 = .ok (.ldc2_w 227, 3) := by decide +kernel
theorem dX8_jar_19 : decode cX8_jar 19 = .ok (.invokestatic 60, 3) := by decide +kernel
theorem dX8_jar_22 : decode cX8_jar 22 = .ok (.ifCond .eq 17, 3) := by decide +kernel
theorem dX8_jar_25 : decode cX8_jar 25 = .ok (.aload_n 0, 1) := by decide +kernel
theorem dX8_jar_26 : decode cX8_jar 26 = .ok (.getfield 19, 3) := by decide +kernel
theorem dX8_jar_29 : decode cX8_jar 29 = .ok (.iload_n 1, 1) := by decide +kernel
theorem dX8_jar_30 : decode cX8_jar 30 = .ok (.iload_n 2, 1) := by decide +kernel
theorem dX8_jar_31 : decode cX8_jar 31 = .ok (.iconst 1, 1) := by decide +kernel
theorem dX8_jar_32 : decode cX8_jar 32 = .ok (.iadd, 1) := by decide +kernel
theorem dX8_jar_33 : decode cX8_jar 33 = .ok (.invokestatic 154, 3) := by decide +kernel
theorem dX8_jar_36 : decode cX8_jar 36 = .ok (.goto 5, 3) := by decide +kernel
theorem dX8_jar_39 : decode cX8_jar 39 = .ok (.ldc 70, 2) := by decide +kernel
theorem dX8_jar_41 : decode cX8_jar 41 = .ok (.ireturn, 1) := by decide +kernel
theorem dX8_stand_0 : decode cX8_stand 0 = .ok (.aload_n 0, 1) := by decide +kernel
theorem dX8_stand_1 : decode cX8_stand 1 = .ok (.iconst 0, 1) := by decide +kernel
theorem dX8_stand_2 : decode cX8_stand 2 = .ok (.putfield 50, 3) := by decide +kernel
theorem dX8_stand_5 : decode cX8_stand 5 = .ok (.aload_n 0, 1) := by decide +kernel
theorem dX8_stand_6 : decode cX8_stand 6 = .ok (.invokevirtual 196, 3) := by decide +kernel
theorem dX8_stand_9 : decode cX8_stand 9 = .ok (.ifCond .ne 6, 3) := by decide +kernel
theorem dX8_stand_12 : decode cX8_stand 12 = .ok (.ldc 199, 2) := by decide +kernel
theorem dX8_stand_14 : decode cX8_stand 14 = .ok (.ireturn, 1) := by decide +kernel
theorem dX8_stand_15 : decode cX8_stand 15 = .ok (.iload_n 1, 1) := by decide +kernel
theorem dX8_stand_16 : decode cX8_stand 16 = .ok (.i2l, 1) := by decide +kernel
theorem dX8_stand_17 : decode cX8_stand 17 = .ok (.lconst 0, 1) := by decide +kernel
theorem dX8_stand_18 : decode cX8_stand 18 = .ok (.ldc2_w 227, 3) := by decide +kernel
theorem dX8_stand_21 : decode cX8_stand 21 = .ok (.invokestatic 60, 3) := by decide +kernel
theorem dX8_stand_24 : decode cX8_stand 24 = .ok (.ifCond .eq 14, 3) := by decide +kernel
theorem dX8_stand_27 : decode cX8_stand 27 = .ok (.aload_n 0, 1) := by decide +kernel
theorem dX8_stand_28 : decode cX8_stand 28 = .ok (.getfield 19, 3) := by decide +kernel
theorem dX8_stand_31 : decode cX8_stand 31 = .ok (.iload_n 1, 1) := by decide +kernel
theorem dX8_stand_32 : decode cX8_stand 32 = .ok (.invokestatic 175, 3) := by decide +kernel
theorem dX8_stand_35 : decode cX8_stand 35 = .ok (.goto 5, 3) := by decide +kernel
theorem dX8_stand_38 : decode cX8_stand 38 = .ok (.ldc 70, 2) := by decide +kernel
theorem dX8_stand_40 : decode cX8_stand 40 = .ok (.ireturn, 1) := by decide +kernel
theorem dX8_chain_0 : decode cX8_chain 0 = .ok (.aload_n 0, 1) := by decide +kernel
theorem dX8_chain_1 : decode cX8_chain 1 = .ok (.iconst 0, 1) := by decide +kernel
theorem dX8_chain_2 : decode cX8_chain 2 = .ok (.putfield 50, 3) := by decide +kernel
theorem dX8_chain_5 : decode cX8_chain 5 = .ok (.iload_n 1, 1) := by decide +kernel
theorem dX8_chain_6 : decode cX8_chain 6 = .ok (.i2l, 1) := by decide +kernel
theorem dX8_chain_7 : decode cX8_chain 7 = .ok (.invokestatic 209, 3) := by decide +kernel
theorem dX8_chain_10 : decode cX8_chain 10 = .ok (.ifCond .eq 21, 3) := by decide +kernel
theorem dX8_chain_13 : decode cX8_chain 13 = .ok (.aload_n 0, 1) := by decide +kernel
theorem dX8_chain_14 : decode cX8_chain 14 = .ok (.iload_n 2, 1) := by decide +kernel
theorem dX8_chain_15 : decode cX8_chain 15 = .ok (.invokevirtual 213, 3) := by decide +kernel
theorem dX8_chain_18 : decode cX8_chain 18 = .ok (.ifCond .eq 13, 3) := by decide +kernel
theorem dX8_chain_21 : decode cX8_chain 21 = .ok (.iload_n 3, 1) := by decide +kernel
theorem dX8_chain_22 : decode cX8_chain 22 = .ok (.i2l, 1) := by decide +kernel
theorem dX8_chain_23 : decode cX8_chain 23 = .ok (.lconst 0, 1) := by decide +kernel
theorem dX8_chain_24 : decode cX8_chain 24 = .ok (.lconst 1, 1) := by decide +kernel
theorem dX8_chain_25 : decode cX8_chain 25 = .ok (.invokestatic 60, 3) := by decide +kernel
theorem dX8_chain_28 : decode cX8_chain 28 = .ok (.ifCond .ne 6, 3) := by decide +kernel
theorem dX8_chain_31 : decode cX8_chain 31 = .ok (.ldc 70, 2) := by decide +kernel
theorem dX8_chain_33 : decode cX8_chain 33 = .ok (.ireturn, 1) := by decide +kernel
theorem dX8_chain_34 : decode cX8_chain 34 = .ok (.aload_n 0, 1) := by decide +kernel
theorem dX8_chain_35 : decode cX8_chain 35 = .ok (.aload_n 0, 1) := by decide +kernel
theorem dX8_chain_36 : decode cX8_chain 36 = .ok (.getfield 19, 3) := by decide +kernel
theorem dX8_chain_39 : decode cX8_chain 39 = .ok (.iload_n 1, 1) := by decide +kernel
theorem dX8_chain_40 : decode cX8_chain 40 = .ok (.iload_n 2, 1) := by decide +kernel
theorem dX8_chain_41 : decode cX8_chain 41 = .ok (.aload_n 0, 1) := by decide +kernel
end
section
theorem dX8_chain_42 : decode cX8_chain 42 = .ok (.getfield 19, 3) := by decide +kernel
theorem dX8_chain_45 : decode cX8_chain 45 = .ok (.iconst 0, 1) := by decide +kernel
theorem dX8_chain_46 : decode cX8_chain 46 = .ok (.invokestatic 175, 3) := by decide +kernel
theorem dX8_chain_49 : decode cX8_chain 49 = .ok (.invokevirtual 179, 3) := by decide +kernel
theorem dX8_chain_52 : decode cX8_chain 52 = .ok (.istore 4, 2) := by decide +kernel
theorem dX8_chain_54 : decode cX8_chain 54 = .ok (.iload_n 3, 1) := by decide +kernel
theorem dX8_chain_55 : decode cX8_chain 55 = .ok (.ifCond .ne 8, 3) := by decide +kernel
theorem dX8_chain_58 : decode cX8_chain 58 = .ok (.iload 4, 2) := by decide +kernel
theorem dX8_chain_60 : decode cX8_chain 60 = .ok (.goto 7, 3) := by decide +kernel
theorem dX8_chain_63 : decode cX8_chain 63 = .ok (.aload_n 0, 1) := by decide +kernel
theorem dX8_chain_64 : decode cX8_chain 64 = .ok (.getfield 164, 3) := by decide +kernel
theorem dX8_chain_67 : decode cX8_chain 67 = .ok (.ireturn, 1) := by decide +kernel
theorem dX8_worst_0 : decode cX8_worst 0 = .ok (.aload_n 0, 1) := by decide +kernel
theorem dX8_worst_1 : decode cX8_worst 1 = .ok (.iconst 0, 1) := by decide +kernel
theorem dX8_worst_2 : decode cX8_worst 2 = .ok (.putfield 50, 3) := by decide +kernel
theorem dX8_worst_5 : decode cX8_worst 5 = .ok (.aload_n 0, 1) := by decide +kernel
theorem dX8_worst_6 : decode cX8_worst 6 = .ok (.invokevirtual 196, 3) := by decide +kernel
theorem dX8_worst_9 : decode cX8_worst 9 = .ok (.ifCond .ne 6, 3) := by decide +kernel
theorem dX8_worst_12 : decode cX8_worst 12 = .ok (.ldc 199, 2) := by decide +kernel
theorem dX8_worst_14 : decode cX8_worst 14 = .ok (.ireturn, 1) := by decide +kernel
theorem dX8_worst_15 : decode cX8_worst 15 = .ok (.iload_n 1, 1) := by decide +kernel
theorem dX8_worst_16 : decode cX8_worst 16 = .ok (.i2l, 1) := by decide +kernel
theorem dX8_worst_17 : decode cX8_worst 17 = .ok (.lconst 0, 1) := by decide +kernel
theorem dX8_worst_18 : decode cX8_worst 18 = .ok (.lconst 1, 1) := by decide +kernel
theorem dX8_worst_19 : decode cX8_worst 19 = .ok (.invokestatic 60, 3) := by decide +kernel
theorem dX8_worst_22 : decode cX8_worst 22 = .ok (.ifCond .ne 6, 3) := by decide +kernel
theorem dX8_worst_25 : decode cX8_worst 25 = .ok (.ldc 70, 2) := by decide +kernel
theorem dX8_worst_27 : decode cX8_worst 27 = .ok (.ireturn, 1) := by decide +kernel
theorem dX8_worst_28 : decode cX8_worst 28 = .ok (.aload_n 0, 1) := by decide +kernel
theorem dX8_worst_29 : decode cX8_worst 29 = .ok (.aload_n 0, 1) := by decide +kernel
theorem dX8_worst_30 : decode cX8_worst 30 = .ok (.getfield 19, 3) := by decide +kernel
theorem dX8_worst_33 : decode cX8_worst 33 = .ok (.invokevirtual 229, 3) := by decide +kernel
theorem dX8_worst_36 : decode cX8_worst 36 = .ok (.istore_n 2, 1) := by decide +kernel
theorem dX8_worst_37 : decode cX8_worst 37 = .ok (.iload_n 1, 1) := by decide +kernel
theorem dX8_worst_38 : decode cX8_worst 38 = .ok (.ifCond .ne 18, 3) := by decide +kernel
theorem dX8_worst_41 : decode cX8_worst 41 = .ok (.bipush 100, 2) := by decide +kernel
theorem dX8_worst_43 : decode cX8_worst 43 = .ok (.aload_n 0, 1) := by decide +kernel
theorem dX8_worst_44 : decode cX8_worst 44 = .ok (.getfield 186, 3) := by decide +kernel
theorem dX8_worst_47 : decode cX8_worst 47 = .ok (.imul, 1) := by decide +kernel
theorem dX8_worst_48 : decode cX8_worst 48 = .ok (.aload_n 0, 1) := by decide +kernel
theorem dX8_worst_49 : decode cX8_worst 49 = .ok (.getfield 189, 3) := by decide +kernel
theorem dX8_worst_52 : decode cX8_worst 52 = .ok (.iadd, 1) := by decide +kernel
theorem dX8_worst_53 : decode cX8_worst 53 = .ok (.goto 4, 3) := by decide +kernel
theorem dX8_worst_56 : decode cX8_worst 56 = .ok (.iload_n 2, 1) := by decide +kernel
theorem dX8_worst_57 : decode cX8_worst 57 = .ok (.ireturn, 1) := by decide +kernel
theorem dX8_when_0 : decode cX8_when 0 = .ok (.aload_n 0, 1) := by decide +kernel
theorem dX8_when_1 : decode cX8_when 1 = .ok (.iconst 0, 1) := by decide +kernel
theorem dX8_when_2 : decode cX8_when 2 = .ok (.putfield 50, 3) := by decide +kernel
theorem dX8_when_5 : decode cX8_when 5 = .ok (.aload_n 0, 1) := by decide +kernel
theorem dX8_when_6 : decode cX8_when 6 = .ok (.iload_n 1, 1) := by decide +kernel
theorem dX8_when_7 : decode cX8_when 7 = .ok (.invokevirtual 213, 3) := by decide +kernel
theorem dX8_when_10 : decode cX8_when 10 = .ok (.ifCond .ne 6, 3) := by decide +kernel
theorem dX8_when_13 : decode cX8_when 13 = .ok (.ldc 70, 2) := by decide +kernel
theorem dX8_when_15 : decode cX8_when 15 = .ok (.ireturn, 1) := by decide +kernel
theorem dX8_when_16 : decode cX8_when 16 = .ok (.aload_n 0, 1) := by decide +kernel
theorem dX8_when_17 : decode cX8_when 17 = .ok (.getfield 19, 3) := by decide +kernel
theorem dX8_when_20 : decode cX8_when 20 = .ok (.iload_n 1, 1) := by decide +kernel
theorem dX8_when_21 : decode cX8_when 21 = .ok (.iconst 4, 1) := by decide +kernel
theorem dX8_when_22 : decode cX8_when 22 = .ok (.invokestatic 154, 3) := by decide +kernel
theorem dX8_when_25 : decode cX8_when 25 = .ok (.istore_n 2, 1) := by decide +kernel
theorem dX8_when_26 : decode cX8_when 26 = .ok (.iload_n 2, 1) := by decide +kernel
theorem dX8_when_27 : decode cX8_when 27 = .ok (.ifCond .ne 15, 3) := by decide +kernel
theorem dX8_when_30 : decode cX8_when 30 = .ok (.aload_n 0, 1) := by decide +kernel
theorem dX8_when_31 : decode cX8_when 31 = .ok (.getfield 19, 3) := by decide +kernel
theorem dX8_when_34 : decode cX8_when 34 = .ok (.iload_n 1, 1) := by decide +kernel
theorem dX8_when_35 : decode cX8_when 35 = .ok (.iconst 2, 1) := by decide +kernel
theorem dX8_when_36 : decode cX8_when 36 = .ok (.invokestatic 154, 3) := by decide +kernel
theorem dX8_when_39 : decode cX8_when 39 = .ok (.goto 14, 3) := by decide +kernel
theorem dX8_when_42 : decode cX8_when 42 = .ok (.iload_n 2, 1) := by decide +kernel
theorem dX8_when_43 : decode cX8_when 43 = .ok (.iconst 2, 1) := by decide +kernel
theorem dX8_when_44 : decode cX8_when 44 = .ok (.if_icmp .ne 7, 3) := by decide +kernel
theorem dX8_when_47 : decode cX8_when 47 = .ok (.iconst 0, 1) := by decide +kernel
theorem dX8_when_48 : decode cX8_when 48 = .ok (.goto 5, 3) := by decide +kernel
theorem dX8_when_51 : decode cX8_when 51 = .ok (.ldc 93, 2) := by decide +kernel
theorem dX8_when_53 : decode cX8_when 53 = .ok (.ireturn, 1) := by decide +kernel
theorem dX8_kept_0 : decode cX8_kept 0 = .ok (.aload_n 0, 1) := by decide +kernel
theorem dX8_kept_1 : decode cX8_kept 1 = .ok (.iconst 0, 1) := by decide +kernel
theorem dX8_kept_2 : decode cX8_kept 2 = .ok (.putfield 50, 3) := by decide +kernel
theorem dX8_kept_5 : decode cX8_kept 5 = .ok (.aload_n 0, 1) := by decide +kernel
theorem dX8_kept_6 : decode cX8_kept 6 = .ok (.invokevirtual 196, 3) := by decide +kernel
theorem dX8_kept_9 : decode cX8_kept 9 = .ok (.ifCond .ne 6, 3) := by decide +kernel
theorem dX8_kept_12 : decode cX8_kept 12 = .ok (.ldc 199, 2) := by decide +kernel
theorem dX8_kept_14 : decode cX8_kept 14 = .ok (.ireturn, 1) := by decide +kernel
theorem dX8_kept_15 : decode cX8_kept 15 = .ok (.iload_n 1, 1) := by decide +kernel
theorem dX8_kept_16 : decode cX8_kept 16 = .ok (.i2l, 1) := by decide +kernel
theorem dX8_kept_17 : decode cX8_kept 17 = .ok (.lconst 0, 1) := by decide +kernel
theorem dX8_kept_18 : decode cX8_kept 18 = .ok (.ldc2_w 223, 3) := by decide +kernel
theorem dX8_kept_21 : decode cX8_kept 21 = .ok (.invokestatic 60, 3) := by decide +kernel
theorem dX8_kept_24 : decode cX8_kept 24 = .ok (.ifCond .ne 6, 3) := by decide +kernel
theorem dX8_kept_27 : decode cX8_kept 27 = .ok (.ldc 70, 2) := by decide +kernel
theorem dX8_kept_29 : decode cX8_kept 29 = .ok (.ireturn, 1) := by decide +kernel
theorem dX8_kept_30 : decode cX8_kept 30 = .ok (.aload_n 0, 1) := by decide +kernel
theorem dX8_kept_31 : decode cX8_kept 31 = .ok (.invokevirtual 233, 3) := by decide +kernel
theorem dX8_kept_34 : decode cX8_kept 34 = .ok (.iconst 0, 1) := by decide +kernel
theorem dX8_kept_35 : decode cX8_kept 35 = .ok (.istore_n 2, 1) := by decide +kernel
theorem dX8_kept_36 : decode cX8_kept 36 = .ok (.iload_n 2, 1) := by decide +kernel
theorem dX8_kept_37 : decode cX8_kept 37 = .ok (.iload_n 1, 1) := by decide +kernel
theorem dX8_kept_38 : decode cX8_kept 38 = .ok (.if_icmp .ge 16, 3) := by decide +kernel
theorem dX8_kept_41 : decode cX8_kept 41 = .ok (.aload_n 0, 1) := by decide +kernel
theorem dX8_kept_42 : decode cX8_kept 42 = .ok (.getfield 25, 3) := by decide +kernel
theorem dX8_kept_45 : decode cX8_kept 45 = .ok (.invokestatic 205, 3) := by decide +kernel
theorem dX8_kept_48 : decode cX8_kept 48 = .ok (.iinc 2 1, 3) := by decide +kernel
theorem dX8_kept_51 : decode cX8_kept 51 = .ok (.goto (-15), 3) := by decide +kernel
theorem dX8_kept_54 : decode cX8_kept 54 = .ok (.aload_n 0, 1) := by decide +kernel
theorem dX8_kept_55 : decode cX8_kept 55 = .ok (.getfield 25, 3) := by decide +kernel
theorem dX8_kept_58 : decode cX8_kept 58 = .ok (.iconst 0, 1) := by decide +kernel
theorem dX8_kept_59 : decode cX8_kept 59 = .ok (.invokestatic 175, 3) := by decide +kernel
theorem dX8_kept_62 : decode cX8_kept 62 = .ok (.ireturn, 1) := by decide +kernel
theorem dX8_guard_0 : decode cX8_guard 0 = .ok (.aload_n 0, 1) := by decide +kernel
theorem dX8_guard_1 : decode cX8_guard 1 = .ok (.iconst 0, 1) := by decide +kernel
theorem dX8_guard_2 : decode cX8_guard 2 = .ok (.putfield 50, 3) := by decide +kernel
theorem dX8_guard_5 : decode cX8_guard 5 = .ok (.iload_n 1, 1) := by decide +kernel
theorem dX8_guard_6 : decode cX8_guard 6 = .ok (.i2l, 1) := by decide +kernel
theorem dX8_guard_7 : decode cX8_guard 7 = .ok (.invokestatic 209, 3) := by decide +kernel
theorem dX8_guard_10 : decode cX8_guard 10 = .ok (.ifCond .eq 34, 3) := by decide +kernel
theorem dX8_guard_13 : decode cX8_guard 13 = .ok (.aload_n 0, 1) := by decide +kernel
theorem dX8_guard_14 : decode cX8_guard 14 = .ok (.iload_n 2, 1) := by decide +kernel
theorem dX8_guard_15 : decode cX8_guard 15 = .ok (.invokevirtual 213, 3) := by decide +kernel
theorem dX8_guard_18 : decode cX8_guard 18 = .ok (.ifCond .eq 26, 3) := by decide +kernel
theorem dX8_guard_21 : decode cX8_guard 21 = .ok (.iload_n 3, 1) := by decide +kernel
theorem dX8_guard_22 : decode cX8_guard 22 = .ok (.i2l, 1) := by decide +kernel
theorem dX8_guard_23 : decode cX8_guard 23 = .ok (.lconst 0, 1) := by decide +kernel
theorem dX8_guard_24 : decode cX8_guard 24 = .ok (.ldc2_w 225, 3) := by decide +kernel
theorem dX8_guard_27 : decode cX8_guard 27 = .ok (.invokestatic 60, 3) := by decide +kernel
theorem dX8_guard_30 : decode cX8_guard 30 = .ok (.ifCond .eq 14, 3) := by decide +kernel
theorem dX8_guard_33 : decode cX8_guard 33 = .ok (.iload 4, 2) := by decide +kernel
theorem dX8_guard_35 : decode cX8_guard 35 = .ok (.i2l, 1) := by decide +kernel
theorem dX8_guard_36 : decode cX8_guard 36 = .ok (.lconst 0, 1) := by decide +kernel
theorem dX8_guard_37 : decode cX8_guard 37 = .ok (.lconst 1, 1) := by decide +kernel
theorem dX8_guard_38 : decode cX8_guard 38 = .ok (.invokestatic 60, 3) := by decide +kernel
theorem dX8_guard_41 : decode cX8_guard 41 = .ok (.ifCond .ne 6, 3) := by decide +kernel
theorem dX8_guard_44 : decode cX8_guard 44 = .ok (.ldc 70, 2) := by decide +kernel
theorem dX8_guard_46 : decode cX8_guard 46 = .ok (.ireturn, 1) := by decide +kernel
theorem dX8_guard_47 : decode cX8_guard 47 = .ok (.aload_n 0, 1) := by decide +kernel
theorem dX8_guard_48 : decode cX8_guard 48 = .ok (.getfield 19, 3) := by decide +kernel
theorem dX8_guard_51 : decode cX8_guard 51 = .ok (.iconst 0, 1) := by decide +kernel
theorem dX8_guard_52 : decode cX8_guard 52 = .ok (.invokestatic 175, 3) := by decide +kernel
theorem dX8_guard_55 : decode cX8_guard 55 = .ok (.istore 5, 2) := by decide +kernel
theorem dX8_guard_57 : decode cX8_guard 57 = .ok (.ldc 93, 2) := by decide +kernel
theorem dX8_guard_59 : decode cX8_guard 59 = .ok (.istore 6, 2) := by decide +kernel
theorem dX8_guard_61 : decode cX8_guard 61 = .ok (.iconst 0, 1) := by decide +kernel
theorem dX8_guard_62 : decode cX8_guard 62 = .ok (.istore 7, 2) := by decide +kernel
theorem dX8_guard_64 : decode cX8_guard 64 = .ok (.iload 7, 2) := by decide +kernel
theorem dX8_guard_66 : decode cX8_guard 66 = .ok (.iconst 1, 1) := by decide +kernel
theorem dX8_guard_67 : decode cX8_guard 67 = .ok (.aload_n 0, 1) := by decide +kernel
theorem dX8_guard_68 : decode cX8_guard 68 = .ok (.getfield 19, 3) := by decide +kernel
theorem dX8_guard_71 : decode cX8_guard 71 = .ok (.iconst 0, 1) := by decide +kernel
theorem dX8_guard_72 : decode cX8_guard 72 = .ok (.iaload, 1) := by decide +kernel
theorem dX8_guard_73 : decode cX8_guard 73 = .ok (.ishl, 1) := by decide +kernel
theorem dX8_guard_74 : decode cX8_guard 74 = .ok (.if_icmp .ge 79, 3) := by decide +kernel
theorem dX8_guard_77 : decode cX8_guard 77 = .ok (.iload 7, 2) := by decide +kernel
theorem dX8_guard_79 : decode cX8_guard 79 = .ok (.iload 5, 2) := by decide +kernel
theorem dX8_guard_81 : decode cX8_guard 81 = .ok (.iconst (-1), 1) := by decide +kernel
theorem dX8_guard_82 : decode cX8_guard 82 = .ok (.ixor, 1) := by decide +kernel
theorem dX8_guard_83 : decode cX8_guard 83 = .ok (.iand, 1) := by decide +kernel
theorem dX8_guard_84 : decode cX8_guard 84 = .ok (.ifCond .ne 27, 3) := by decide +kernel
theorem dX8_guard_87 : decode cX8_guard 87 = .ok (.iload 6, 2) := by decide +kernel
theorem dX8_guard_89 : decode cX8_guard 89 = .ok (.ldc 93, 2) := by decide +kernel
theorem dX8_guard_91 : decode cX8_guard 91 = .ok (.if_icmp .eq 16, 3) := by decide +kernel
theorem dX8_guard_94 : decode cX8_guard 94 = .ok (.iload 7, 2) := by decide +kernel
theorem dX8_guard_96 : decode cX8_guard 96 = .ok (.invokestatic 183, 3) := by decide +kernel
theorem dX8_guard_99 : decode cX8_guard 99 = .ok (.iload 6, 2) := by decide +kernel
theorem dX8_guard_101 : decode cX8_guard 101 = .ok (.invokestatic 183, 3) := by decide +kernel
theorem dX8_guard_104 : decode cX8_guard 104 = .ok (.if_icmp .ge 7, 3) := by decide +kernel
theorem dX8_guard_107 : decode cX8_guard 107 = .ok (.iconst 1, 1) := by decide +kernel
theorem dX8_guard_108 : decode cX8_guard 108 = .ok (.goto 4, 3) := by decide +kernel
theorem dX8_guard_111 : decode cX8_guard 111 = .ok (.iconst 0, 1) := by decide +kernel
theorem dX8_guard_112 : decode cX8_guard 112 = .ok (.istore 8, 2) := by decide +kernel
theorem dX8_guard_114 : decode cX8_guard 114 = .ok (.iload 8, 2) := by decide +kernel
theorem dX8_guard_116 : decode cX8_guard 116 = .ok (.ifCond .eq 31, 3) := by decide +kernel
theorem dX8_guard_119 : decode cX8_guard 119 = .ok (.aload_n 0, 1) := by decide +kernel
theorem dX8_guard_120 : decode cX8_guard 120 = .ok (.aload_n 0, 1) := by decide +kernel
theorem dX8_guard_121 : decode cX8_guard 121 = .ok (.getfield 19, 3) := by decide +kernel
theorem dX8_guard_124 : decode cX8_guard 124 = .ok (.iload_n 1, 1) := by decide +kernel
theorem dX8_guard_125 : decode cX8_guard 125 = .ok (.iload_n 2, 1) := by decide +kernel
theorem dX8_guard_126 : decode cX8_guard 126 = .ok (.iload 5, 2) := by decide +kernel
theorem dX8_guard_128 : decode cX8_guard 128 = .ok (.iload 7, 2) := by decide +kernel
theorem dX8_guard_130 : decode cX8_guard 130 = .ok (.iconst (-1), 1) := by decide +kernel
theorem dX8_guard_131 : decode cX8_guard 131 = .ok (.ixor, 1) := by decide +kernel
theorem dX8_guard_132 : decode cX8_guard 132 = .ok (.iand, 1) := by decide +kernel
theorem dX8_guard_133 : decode cX8_guard 133 = .ok (.invokevirtual 179, 3) := by decide +kernel
theorem dX8_guard_136 : decode cX8_guard 136 = .ok (.invokestatic 183, 3) := by decide +kernel
theorem dX8_guard_139 : decode cX8_guard 139 = .ok (.iload_n 3, 1) := by decide +kernel
theorem dX8_guard_140 : decode cX8_guard 140 = .ok (.if_icmp .gt 7, 3) := by decide +kernel
theorem dX8_guard_143 : decode cX8_guard 143 = .ok (.iload 7, 2) := by decide +kernel
theorem dX8_guard_145 : decode cX8_guard 145 = .ok (.istore 6, 2) := by decide +kernel
theorem dX8_guard_147 : decode cX8_guard 147 = .ok (.iinc 7 1, 3) := by decide +kernel
theorem dX8_guard_150 : decode cX8_guard 150 = .ok (.goto (-86), 3) := by decide +kernel
theorem dX8_guard_153 : decode cX8_guard 153 = .ok (.iload 4, 2) := by decide +kernel
theorem dX8_guard_155 : decode cX8_guard 155 = .ok (.ifCond .ne 11, 3) := by decide +kernel
theorem dX8_guard_158 : decode cX8_guard 158 = .ok (.iload 6, 2) := by decide +kernel
theorem dX8_guard_160 : decode cX8_guard 160 = .ok (.invokestatic 183, 3) := by decide +kernel
theorem dX8_guard_163 : decode cX8_guard 163 = .ok (.goto 5, 3) := by decide +kernel
theorem dX8_guard_166 : decode cX8_guard 166 = .ok (.iload 6, 2) := by decide +kernel
theorem dX8_guard_168 : decode cX8_guard 168 = .ok (.ireturn, 1) := by decide +kernel
theorem dX8_changes_0 : decode cX8_changes 0 = .ok (.aload_n 0, 1) := by decide +kernel
theorem dX8_changes_1 : decode cX8_changes 1 = .ok (.iconst 0, 1) := by decide +kernel
theorem dX8_changes_2 : decode cX8_changes 2 = .ok (.putfield 50, 3) := by decide +kernel
theorem dX8_changes_5 : decode cX8_changes 5 = .ok (.aload_n 0, 1) := by decide +kernel
theorem dX8_changes_6 : decode cX8_changes 6 = .ok (.invokevirtual 196, 3) := by decide +kernel
theorem dX8_changes_9 : decode cX8_changes 9 = .ok (.ifCond .ne 6, 3) := by decide +kernel
theorem dX8_changes_12 : decode cX8_changes 12 = .ok (.ldc 199, 2) := by decide +kernel
theorem dX8_changes_14 : decode cX8_changes 14 = .ok (.ireturn, 1) := by decide +kernel
theorem dX8_changes_15 : decode cX8_changes 15 = .ok (.iload_n 1, 1) := by decide +kernel
theorem dX8_changes_16 : decode cX8_changes 16 = .ok (.i2l, 1) := by decide +kernel
theorem dX8_changes_17 : decode cX8_changes 17 = .ok (.lconst 0, 1) := by decide +kernel
theorem dX8_changes_18 : decode cX8_changes 18 = .ok (.lconst 1, 1) := by decide +kernel
theorem dX8_changes_19 : decode cX8_changes 19 = .ok (.invokestatic 60, 3) := by decide +kernel
theorem dX8_changes_22 : decode cX8_changes 22 = .ok (.ifCond .ne 6, 3) := by decide +kernel
theorem dX8_changes_25 : decode cX8_changes 25 = .ok (.ldc 70, 2) := by decide +kernel
theorem dX8_changes_27 : decode cX8_changes 27 = .ok (.ireturn, 1) := by decide +kernel
theorem dX8_changes_28 : decode cX8_changes 28 = .ok (.aload_n 0, 1) := by decide +kernel
theorem dX8_changes_29 : decode cX8_changes 29 = .ok (.aload_n 0, 1) := by decide +kernel
theorem dX8_changes_30 : decode cX8_changes 30 = .ok (.getfield 19, 3) := by decide +kernel
theorem dX8_changes_33 : decode cX8_changes 33 = .ok (.invokevirtual 229, 3) := by decide +kernel
theorem dX8_changes_36 : decode cX8_changes 36 = .ok (.istore_n 2, 1) := by decide +kernel
theorem dX8_changes_37 : decode cX8_changes 37 = .ok (.ldc 93, 2) := by decide +kernel
theorem dX8_changes_39 : decode cX8_changes 39 = .ok (.istore_n 3, 1) := by decide +kernel
theorem dX8_changes_40 : decode cX8_changes 40 = .ok (.iconst 0, 1) := by decide +kernel
theorem dX8_changes_41 : decode cX8_changes 41 = .ok (.istore 4, 2) := by decide +kernel
theorem dX8_changes_43 : decode cX8_changes 43 = .ok (.iload 4, 2) := by decide +kernel
theorem dX8_changes_45 : decode cX8_changes 45 = .ok (.aload_n 0, 1) := by decide +kernel
theorem dX8_changes_46 : decode cX8_changes 46 = .ok (.getfield 19, 3) := by decide +kernel
theorem dX8_changes_49 : decode cX8_changes 49 = .ok (.iconst 0, 1) := by decide +kernel
theorem dX8_changes_50 : decode cX8_changes 50 = .ok (.iaload, 1) := by decide +kernel
theorem dX8_changes_51 : decode cX8_changes 51 = .ok (.if_icmp .ge 75, 3) := by decide +kernel
theorem dX8_changes_54 : decode cX8_changes 54 = .ok (.iload 4, 2) := by decide +kernel
theorem dX8_changes_56 : decode cX8_changes 56 = .ok (.iconst 1, 1) := by decide +kernel
theorem dX8_changes_57 : decode cX8_changes 57 = .ok (.iadd, 1) := by decide +kernel
theorem dX8_changes_58 : decode cX8_changes 58 = .ok (.istore 5, 2) := by decide +kernel
theorem dX8_changes_60 : decode cX8_changes 60 = .ok (.iload 5, 2) := by decide +kernel
theorem dX8_changes_62 : decode cX8_changes 62 = .ok (.aload_n 0, 1) := by decide +kernel
theorem dX8_changes_63 : decode cX8_changes 63 = .ok (.getfield 19, 3) := by decide +kernel
theorem dX8_changes_66 : decode cX8_changes 66 = .ok (.iconst 0, 1) := by decide +kernel
theorem dX8_changes_67 : decode cX8_changes 67 = .ok (.iaload, 1) := by decide +kernel
theorem dX8_changes_68 : decode cX8_changes 68 = .ok (.if_icmp .ge 52, 3) := by decide +kernel
theorem dX8_changes_71 : decode cX8_changes 71 = .ok (.aload_n 0, 1) := by decide +kernel
theorem dX8_changes_72 : decode cX8_changes 72 = .ok (.invokevirtual 233, 3) := by decide +kernel
theorem dX8_changes_75 : decode cX8_changes 75 = .ok (.aload_n 0, 1) := by decide +kernel
theorem dX8_changes_76 : decode cX8_changes 76 = .ok (.getfield 25, 3) := by decide +kernel
theorem dX8_changes_79 : decode cX8_changes 79 = .ok (.iload 4, 2) := by decide +kernel
theorem dX8_changes_81 : decode cX8_changes 81 = .ok (.iload 5, 2) := by decide +kernel
theorem dX8_changes_83 : decode cX8_changes 83 = .ok (.invokestatic 220, 3) := by decide +kernel
theorem dX8_changes_86 : decode cX8_changes 86 = .ok (.aload_n 0, 1) := by decide +kernel
theorem dX8_changes_87 : decode cX8_changes 87 = .ok (.aload_n 0, 1) := by decide +kernel
theorem dX8_changes_88 : decode cX8_changes 88 = .ok (.getfield 25, 3) := by decide +kernel
theorem dX8_changes_91 : decode cX8_changes 91 = .ok (.invokevirtual 229, 3) := by decide +kernel
theorem dX8_changes_94 : decode cX8_changes 94 = .ok (.istore 6, 2) := by decide +kernel
theorem dX8_changes_96 : decode cX8_changes 96 = .ok (.iload 6, 2) := by decide +kernel
theorem dX8_changes_98 : decode cX8_changes 98 = .ok (.iload_n 2, 1) := by decide +kernel
theorem dX8_changes_99 : decode cX8_changes 99 = .ok (.if_icmp .ge 15, 3) := by decide +kernel
theorem dX8_changes_102 : decode cX8_changes 102 = .ok (.iload 6, 2) := by decide +kernel
theorem dX8_changes_104 : decode cX8_changes 104 = .ok (.istore_n 2, 1) := by decide +kernel
theorem dX8_changes_105 : decode cX8_changes 105 = .ok (.bipush 10, 2) := by decide +kernel
theorem dX8_changes_107 : decode cX8_changes 107 = .ok (.iload 4, 2) := by decide +kernel
theorem dX8_changes_109 : decode cX8_changes 109 = .ok (.imul, 1) := by decide +kernel
theorem dX8_changes_110 : decode cX8_changes 110 = .ok (.iload 5, 2) := by decide +kernel
theorem dX8_changes_112 : decode cX8_changes 112 = .ok (.iadd, 1) := by decide +kernel
theorem dX8_changes_113 : decode cX8_changes 113 = .ok (.istore_n 3, 1) := by decide +kernel
theorem dX8_changes_114 : decode cX8_changes 114 = .ok (.iinc 5 1, 3) := by decide +kernel
theorem dX8_changes_117 : decode cX8_changes 117 = .ok (.goto (-57), 3) := by decide +kernel
theorem dX8_changes_120 : decode cX8_changes 120 = .ok (.iinc 4 1, 3) := by decide +kernel
theorem dX8_changes_123 : decode cX8_changes 123 = .ok (.goto (-80), 3) := by decide +kernel
theorem dX8_changes_126 : decode cX8_changes 126 = .ok (.iload_n 3, 1) := by decide +kernel
theorem dX8_changes_127 : decode cX8_changes 127 = .ok (.ldc 93, 2) := by decide +kernel
theorem dX8_changes_129 : decode cX8_changes 129 = .ok (.if_icmp .eq 7, 3) := by decide +kernel
theorem dX8_changes_132 : decode cX8_changes 132 = .ok (.iload_n 1, 1) := by decide +kernel
theorem dX8_changes_133 : decode cX8_changes 133 = .ok (.ifCond .ne 7, 3) := by decide +kernel
theorem dX8_changes_136 : decode cX8_changes 136 = .ok (.iload_n 3, 1) := by decide +kernel
theorem dX8_changes_137 : decode cX8_changes 137 = .ok (.goto 4, 3) := by decide +kernel
theorem dX8_changes_140 : decode cX8_changes 140 = .ok (.iload_n 2, 1) := by decide +kernel
theorem dX8_changes_141 : decode cX8_changes 141 = .ok (.ireturn, 1) := by decide +kernel
theorem dX8_tuned_0 : decode cX8_tuned 0 = .ok (.aload_n 0, 1) := by decide +kernel
theorem dX8_tuned_1 : decode cX8_tuned 1 = .ok (.iconst 0, 1) := by decide +kernel
theorem dX8_tuned_2 : decode cX8_tuned 2 = .ok (.putfield 50, 3) := by decide +kernel
theorem dX8_tuned_5 : decode cX8_tuned 5 = .ok (.aload_n 0, 1) := by decide +kernel
theorem dX8_tuned_6 : decode cX8_tuned 6 = .ok (.iload_n 1, 1) := by decide +kernel
theorem dX8_tuned_7 : decode cX8_tuned 7 = .ok (.invokevirtual 213, 3) := by decide +kernel
theorem dX8_tuned_10 : decode cX8_tuned 10 = .ok (.ifCond .eq 13, 3) := by decide +kernel
theorem dX8_tuned_13 : decode cX8_tuned 13 = .ok (.iload_n 2, 1) := by decide +kernel
theorem dX8_tuned_14 : decode cX8_tuned 14 = .ok (.i2l, 1) := by decide +kernel
theorem dX8_tuned_15 : decode cX8_tuned 15 = .ok (.lconst 0, 1) := by decide +kernel
theorem dX8_tuned_16 : decode cX8_tuned 16 = .ok (.lconst 1, 1) := by decide +kernel
theorem dX8_tuned_17 : decode cX8_tuned 17 = .ok (.invokestatic 60, 3) := by decide +kernel
theorem dX8_tuned_20 : decode cX8_tuned 20 = .ok (.ifCond .ne 6, 3) := by decide +kernel
theorem dX8_tuned_23 : decode cX8_tuned 23 = .ok (.ldc 70, 2) := by decide +kernel
theorem dX8_tuned_25 : decode cX8_tuned 25 = .ok (.ireturn, 1) := by decide +kernel
theorem dX8_tuned_26 : decode cX8_tuned 26 = .ok (.bipush 9, 2) := by decide +kernel
theorem dX8_tuned_28 : decode cX8_tuned 28 = .ok (.istore_n 3, 1) := by decide +kernel
theorem dX8_tuned_29 : decode cX8_tuned 29 = .ok (.iconst 0, 1) := by decide +kernel
theorem dX8_tuned_30 : decode cX8_tuned 30 = .ok (.istore 4, 2) := by decide +kernel
theorem dX8_tuned_32 : decode cX8_tuned 32 = .ok (.iconst 0, 1) := by decide +kernel
theorem dX8_tuned_33 : decode cX8_tuned 33 = .ok (.istore 5, 2) := by decide +kernel
theorem dX8_tuned_35 : decode cX8_tuned 35 = .ok (.iload 5, 2) := by decide +kernel
theorem dX8_tuned_37 : decode cX8_tuned 37 = .ok (.bipush 12, 2) := by decide +kernel
theorem dX8_tuned_39 : decode cX8_tuned 39 = .ok (.if_icmp .ge 57, 3) := by decide +kernel
theorem dX8_tuned_42 : decode cX8_tuned 42 = .ok (.aload_n 0, 1) := by decide +kernel
theorem dX8_tuned_43 : decode cX8_tuned 43 = .ok (.invokevirtual 233, 3) := by decide +kernel
theorem dX8_tuned_46 : decode cX8_tuned 46 = .ok (.aload_n 0, 1) := by decide +kernel
theorem dX8_tuned_47 : decode cX8_tuned 47 = .ok (.getfield 25, 3) := by decide +kernel
theorem dX8_tuned_50 : decode cX8_tuned 50 = .ok (.iload_n 1, 1) := by decide +kernel
theorem dX8_tuned_51 : decode cX8_tuned 51 = .ok (.iconst 4, 1) := by decide +kernel
theorem dX8_tuned_52 : decode cX8_tuned 52 = .ok (.iconst 0, 1) := by decide +kernel
theorem dX8_tuned_53 : decode cX8_tuned 53 = .ok (.invokestatic 192, 3) := by decide +kernel
theorem dX8_tuned_56 : decode cX8_tuned 56 = .ok (.aload_n 0, 1) := by decide +kernel
theorem dX8_tuned_57 : decode cX8_tuned 57 = .ok (.getfield 25, 3) := by decide +kernel
theorem dX8_tuned_60 : decode cX8_tuned 60 = .ok (.iload_n 1, 1) := by decide +kernel
theorem dX8_tuned_61 : decode cX8_tuned 61 = .ok (.iconst 1, 1) := by decide +kernel
theorem dX8_tuned_62 : decode cX8_tuned 62 = .ok (.iload 5, 2) := by decide +kernel
theorem dX8_tuned_64 : decode cX8_tuned 64 = .ok (.invokestatic 192, 3) := by decide +kernel
theorem dX8_tuned_67 : decode cX8_tuned 67 = .ok (.aload_n 0, 1) := by decide +kernel
theorem dX8_tuned_68 : decode cX8_tuned 68 = .ok (.aload_n 0, 1) := by decide +kernel
theorem dX8_tuned_69 : decode cX8_tuned 69 = .ok (.getfield 25, 3) := by decide +kernel
theorem dX8_tuned_72 : decode cX8_tuned 72 = .ok (.invokevirtual 229, 3) := by decide +kernel
theorem dX8_tuned_75 : decode cX8_tuned 75 = .ok (.istore 6, 2) := by decide +kernel
theorem dX8_tuned_77 : decode cX8_tuned 77 = .ok (.iload 6, 2) := by decide +kernel
theorem dX8_tuned_79 : decode cX8_tuned 79 = .ok (.iload_n 3, 1) := by decide +kernel
theorem dX8_tuned_80 : decode cX8_tuned 80 = .ok (.if_icmp .ge 10, 3) := by decide +kernel
theorem dX8_tuned_83 : decode cX8_tuned 83 = .ok (.iload 6, 2) := by decide +kernel
theorem dX8_tuned_85 : decode cX8_tuned 85 = .ok (.istore_n 3, 1) := by decide +kernel
theorem dX8_tuned_86 : decode cX8_tuned 86 = .ok (.iload 5, 2) := by decide +kernel
theorem dX8_tuned_88 : decode cX8_tuned 88 = .ok (.istore 4, 2) := by decide +kernel
theorem dX8_tuned_90 : decode cX8_tuned 90 = .ok (.iinc 5 1, 3) := by decide +kernel
theorem dX8_tuned_93 : decode cX8_tuned 93 = .ok (.goto (-58), 3) := by decide +kernel
theorem dX8_tuned_96 : decode cX8_tuned 96 = .ok (.iload_n 2, 1) := by decide +kernel
theorem dX8_tuned_97 : decode cX8_tuned 97 = .ok (.ifCond .ne 8, 3) := by decide +kernel
theorem dX8_tuned_100 : decode cX8_tuned 100 = .ok (.iload 4, 2) := by decide +kernel
theorem dX8_tuned_102 : decode cX8_tuned 102 = .ok (.goto 4, 3) := by decide +kernel
theorem dX8_tuned_105 : decode cX8_tuned 105 = .ok (.iload_n 3, 1) := by decide +kernel
theorem dX8_tuned_106 : decode cX8_tuned 106 = .ok (.ireturn, 1) := by decide +kernel
theorem dX8_spared_0 : decode cX8_spared 0 = .ok (.aload_n 0, 1) := by decide +kernel
theorem dX8_spared_1 : decode cX8_spared 1 = .ok (.iconst 0, 1) := by decide +kernel
theorem dX8_spared_2 : decode cX8_spared 2 = .ok (.putfield 50, 3) := by decide +kernel
theorem dX8_spared_5 : decode cX8_spared 5 = .ok (.aload_n 0, 1) := by decide +kernel
theorem dX8_spared_6 : decode cX8_spared 6 = .ok (.invokevirtual 196, 3) := by decide +kernel
theorem dX8_spared_9 : decode cX8_spared 9 = .ok (.ifCond .ne 6, 3) := by decide +kernel
theorem dX8_spared_12 : decode cX8_spared 12 = .ok (.ldc 199, 2) := by decide +kernel
theorem dX8_spared_14 : decode cX8_spared 14 = .ok (.ireturn, 1) := by decide +kernel
theorem dX8_spared_15 : decode cX8_spared 15 = .ok (.iload_n 1, 1) := by decide +kernel
theorem dX8_spared_16 : decode cX8_spared 16 = .ok (.i2l, 1) := by decide +kernel
theorem dX8_spared_17 : decode cX8_spared 17 = .ok (.lconst 0, 1) := by decide +kernel
theorem dX8_spared_18 : decode cX8_spared 18 = .ok (.lconst 1, 1) := by decide +kernel
theorem dX8_spared_19 : decode cX8_spared 19 = .ok (.invokestatic 60, 3) := by decide +kernel
theorem dX8_spared_22 : decode cX8_spared 22 = .ok (.ifCond .ne 6, 3) := by decide +kernel
theorem dX8_spared_25 : decode cX8_spared 25 = .ok (.ldc 70, 2) := by decide +kernel
theorem dX8_spared_27 : decode cX8_spared 27 = .ok (.ireturn, 1) := by decide +kernel
theorem dX8_spared_28 : decode cX8_spared 28 = .ok (.bipush 9, 2) := by decide +kernel
theorem dX8_spared_30 : decode cX8_spared 30 = .ok (.istore_n 2, 1) := by decide +kernel
theorem dX8_spared_31 : decode cX8_spared 31 = .ok (.ldc 93, 2) := by decide +kernel
theorem dX8_spared_33 : decode cX8_spared 33 = .ok (.istore_n 3, 1) := by decide +kernel
theorem dX8_spared_34 : decode cX8_spared 34 = .ok (.iconst 0, 1) := by decide +kernel
theorem dX8_spared_35 : decode cX8_spared 35 = .ok (.istore 4, 2) := by decide +kernel
theorem dX8_spared_37 : decode cX8_spared 37 = .ok (.iload 4, 2) := by decide +kernel
theorem dX8_spared_39 : decode cX8_spared 39 = .ok (.aload_n 0, 1) := by decide +kernel
theorem dX8_spared_40 : decode cX8_spared 40 = .ok (.getfield 19, 3) := by decide +kernel
theorem dX8_spared_43 : decode cX8_spared 43 = .ok (.iconst 0, 1) := by decide +kernel
theorem dX8_spared_44 : decode cX8_spared 44 = .ok (.iaload, 1) := by decide +kernel
theorem dX8_spared_45 : decode cX8_spared 45 = .ok (.if_icmp .ge 59, 3) := by decide +kernel
theorem dX8_spared_48 : decode cX8_spared 48 = .ok (.aload_n 0, 1) := by decide +kernel
theorem dX8_spared_49 : decode cX8_spared 49 = .ok (.getfield 19, 3) := by decide +kernel
theorem dX8_spared_52 : decode cX8_spared 52 = .ok (.iload 4, 2) := by decide +kernel
theorem dX8_spared_54 : decode cX8_spared 54 = .ok (.iconst 4, 1) := by decide +kernel
theorem dX8_spared_55 : decode cX8_spared 55 = .ok (.invokestatic 154, 3) := by decide +kernel
theorem dX8_spared_58 : decode cX8_spared 58 = .ok (.ifCond .ne 40, 3) := by decide +kernel
theorem dX8_spared_61 : decode cX8_spared 61 = .ok (.aload_n 0, 1) := by decide +kernel
theorem dX8_spared_62 : decode cX8_spared 62 = .ok (.invokevirtual 233, 3) := by decide +kernel
theorem dX8_spared_65 : decode cX8_spared 65 = .ok (.aload_n 0, 1) := by decide +kernel
theorem dX8_spared_66 : decode cX8_spared 66 = .ok (.getfield 25, 3) := by decide +kernel
theorem dX8_spared_69 : decode cX8_spared 69 = .ok (.iload 4, 2) := by decide +kernel
theorem dX8_spared_71 : decode cX8_spared 71 = .ok (.iconst 4, 1) := by decide +kernel
theorem dX8_spared_72 : decode cX8_spared 72 = .ok (.iconst 3, 1) := by decide +kernel
theorem dX8_spared_73 : decode cX8_spared 73 = .ok (.invokestatic 192, 3) := by decide +kernel
theorem dX8_spared_76 : decode cX8_spared 76 = .ok (.aload_n 0, 1) := by decide +kernel
theorem dX8_spared_77 : decode cX8_spared 77 = .ok (.aload_n 0, 1) := by decide +kernel
theorem dX8_spared_78 : decode cX8_spared 78 = .ok (.getfield 25, 3) := by decide +kernel
theorem dX8_spared_81 : decode cX8_spared 81 = .ok (.invokevirtual 229, 3) := by decide +kernel
theorem dX8_spared_84 : decode cX8_spared 84 = .ok (.istore 5, 2) := by decide +kernel
theorem dX8_spared_86 : decode cX8_spared 86 = .ok (.iload 5, 2) := by decide +kernel
theorem dX8_spared_88 : decode cX8_spared 88 = .ok (.iload_n 2, 1) := by decide +kernel
theorem dX8_spared_89 : decode cX8_spared 89 = .ok (.if_icmp .ge 9, 3) := by decide +kernel
theorem dX8_spared_92 : decode cX8_spared 92 = .ok (.iload 5, 2) := by decide +kernel
theorem dX8_spared_94 : decode cX8_spared 94 = .ok (.istore_n 2, 1) := by decide +kernel
theorem dX8_spared_95 : decode cX8_spared 95 = .ok (.iload 4, 2) := by decide +kernel
theorem dX8_spared_97 : decode cX8_spared 97 = .ok (.istore_n 3, 1) := by decide +kernel
theorem dX8_spared_98 : decode cX8_spared 98 = .ok (.iinc 4 1, 3) := by decide +kernel
theorem dX8_spared_101 : decode cX8_spared 101 = .ok (.goto (-64), 3) := by decide +kernel
theorem dX8_spared_104 : decode cX8_spared 104 = .ok (.iload_n 3, 1) := by decide +kernel
theorem dX8_spared_105 : decode cX8_spared 105 = .ok (.ldc 93, 2) := by decide +kernel
theorem dX8_spared_107 : decode cX8_spared 107 = .ok (.if_icmp .eq 7, 3) := by decide +kernel
theorem dX8_spared_110 : decode cX8_spared 110 = .ok (.iload_n 1, 1) := by decide +kernel
theorem dX8_spared_111 : decode cX8_spared 111 = .ok (.ifCond .ne 7, 3) := by decide +kernel
theorem dX8_spared_114 : decode cX8_spared 114 = .ok (.iload_n 3, 1) := by decide +kernel
theorem dX8_spared_115 : decode cX8_spared 115 = .ok (.goto 4, 3) := by decide +kernel
theorem dX8_spared_118 : decode cX8_spared 118 = .ok (.iload_n 2, 1) := by decide +kernel
theorem dX8_spared_119 : decode cX8_spared 119 = .ok (.ireturn, 1) := by decide +kernel
theorem dX8_breaksBy_0 : decode cX8_breaksBy 0 = .ok (.iconst 0, 1) := by decide +kernel
theorem dX8_breaksBy_1 : decode cX8_breaksBy 1 = .ok (.istore_n 3, 1) := by decide +kernel
theorem dX8_breaksBy_2 : decode cX8_breaksBy 2 = .ok (.iload_n 3, 1) := by decide +kernel
theorem dX8_breaksBy_3 : decode cX8_breaksBy 3 = .ok (.bipush 8, 2) := by decide +kernel
theorem dX8_breaksBy_5 : decode cX8_breaksBy 5 = .ok (.if_icmp .ge 42, 3) := by decide +kernel
theorem dX8_breaksBy_8 : decode cX8_breaksBy 8 = .ok (.aload_n 0, 1) := by decide +kernel
theorem dX8_breaksBy_9 : decode cX8_breaksBy 9 = .ok (.getfield 34, 3) := by decide +kernel
theorem dX8_breaksBy_12 : decode cX8_breaksBy 12 = .ok (.iload_n 3, 1) := by decide +kernel
theorem dX8_breaksBy_13 : decode cX8_breaksBy 13 = .ok (.iload_n 3, 1) := by decide +kernel
theorem dX8_breaksBy_14 : decode cX8_breaksBy 14 = .ok (.aload_n 0, 1) := by decide +kernel
theorem dX8_breaksBy_15 : decode cX8_breaksBy 15 = .ok (.getfield 19, 3) := by decide +kernel
theorem dX8_breaksBy_18 : decode cX8_breaksBy 18 = .ok (.iload_n 2, 1) := by decide +kernel
theorem dX8_breaksBy_19 : decode cX8_breaksBy 19 = .ok (.iconst 3, 1) := by decide +kernel
theorem dX8_breaksBy_20 : decode cX8_breaksBy 20 = .ok (.invokestatic 154, 3) := by decide +kernel
theorem dX8_breaksBy_23 : decode cX8_breaksBy 23 = .ok (.if_icmp .ne 15, 3) := by decide +kernel
theorem dX8_breaksBy_26 : decode cX8_breaksBy 26 = .ok (.aload_n 0, 1) := by decide +kernel
theorem dX8_breaksBy_27 : decode cX8_breaksBy 27 = .ok (.getfield 19, 3) := by decide +kernel
theorem dX8_breaksBy_30 : decode cX8_breaksBy 30 = .ok (.iload_n 2, 1) := by decide +kernel
theorem dX8_breaksBy_31 : decode cX8_breaksBy 31 = .ok (.iconst 1, 1) := by decide +kernel
theorem dX8_breaksBy_32 : decode cX8_breaksBy 32 = .ok (.invokestatic 154, 3) := by decide +kernel
theorem dX8_breaksBy_35 : decode cX8_breaksBy 35 = .ok (.goto 5, 3) := by decide +kernel
theorem dX8_breaksBy_38 : decode cX8_breaksBy 38 = .ok (.ldc 93, 2) := by decide +kernel
theorem dX8_breaksBy_40 : decode cX8_breaksBy 40 = .ok (.iastore, 1) := by decide +kernel
theorem dX8_breaksBy_41 : decode cX8_breaksBy 41 = .ok (.iinc 3 1, 3) := by decide +kernel
theorem dX8_breaksBy_44 : decode cX8_breaksBy 44 = .ok (.goto (-42), 3) := by decide +kernel
theorem dX8_breaksBy_47 : decode cX8_breaksBy 47 = .ok (.aload_n 0, 1) := by decide +kernel
theorem dX8_breaksBy_48 : decode cX8_breaksBy 48 = .ok (.getfield 19, 3) := by decide +kernel
theorem dX8_breaksBy_51 : decode cX8_breaksBy 51 = .ok (.iload_n 1, 1) := by decide +kernel
theorem dX8_breaksBy_52 : decode cX8_breaksBy 52 = .ok (.iconst 4, 1) := by decide +kernel
theorem dX8_breaksBy_53 : decode cX8_breaksBy 53 = .ok (.invokestatic 154, 3) := by decide +kernel
theorem dX8_breaksBy_56 : decode cX8_breaksBy 56 = .ok (.ifCond .ne 31, 3) := by decide +kernel
theorem dX8_breaksBy_59 : decode cX8_breaksBy 59 = .ok (.aload_n 0, 1) := by decide +kernel
theorem dX8_breaksBy_60 : decode cX8_breaksBy 60 = .ok (.getfield 19, 3) := by decide +kernel
theorem dX8_breaksBy_63 : decode cX8_breaksBy 63 = .ok (.iload_n 2, 1) := by decide +kernel
theorem dX8_breaksBy_64 : decode cX8_breaksBy 64 = .ok (.iconst 4, 1) := by decide +kernel
theorem dX8_breaksBy_65 : decode cX8_breaksBy 65 = .ok (.invokestatic 154, 3) := by decide +kernel
theorem dX8_breaksBy_68 : decode cX8_breaksBy 68 = .ok (.ifCond .ne 19, 3) := by decide +kernel
theorem dX8_breaksBy_71 : decode cX8_breaksBy 71 = .ok (.aload_n 0, 1) := by decide +kernel
theorem dX8_breaksBy_72 : decode cX8_breaksBy 72 = .ok (.aload_n 0, 1) := by decide +kernel
theorem dX8_breaksBy_73 : decode cX8_breaksBy 73 = .ok (.getfield 19, 3) := by decide +kernel
theorem dX8_breaksBy_76 : decode cX8_breaksBy 76 = .ok (.iload_n 1, 1) := by decide +kernel
theorem dX8_breaksBy_77 : decode cX8_breaksBy 77 = .ok (.invokevirtual 171, 3) := by decide +kernel
theorem dX8_breaksBy_80 : decode cX8_breaksBy 80 = .ok (.ifCond .eq 7, 3) := by decide +kernel
theorem dX8_breaksBy_83 : decode cX8_breaksBy 83 = .ok (.iconst 1, 1) := by decide +kernel
theorem dX8_breaksBy_84 : decode cX8_breaksBy 84 = .ok (.goto 4, 3) := by decide +kernel
theorem dX8_breaksBy_87 : decode cX8_breaksBy 87 = .ok (.iconst 0, 1) := by decide +kernel
theorem dX8_breaksBy_88 : decode cX8_breaksBy 88 = .ok (.ireturn, 1) := by decide +kernel
theorem dX8_alike_0 : decode cX8_alike 0 = .ok (.aload_n 0, 1) := by decide +kernel
theorem dX8_alike_1 : decode cX8_alike 1 = .ok (.iconst 0, 1) := by decide +kernel
theorem dX8_alike_2 : decode cX8_alike 2 = .ok (.putfield 50, 3) := by decide +kernel
theorem dX8_alike_5 : decode cX8_alike 5 = .ok (.aload_n 0, 1) := by decide +kernel
theorem dX8_alike_6 : decode cX8_alike 6 = .ok (.invokevirtual 196, 3) := by decide +kernel
theorem dX8_alike_9 : decode cX8_alike 9 = .ok (.ifCond .ne 6, 3) := by decide +kernel
theorem dX8_alike_12 : decode cX8_alike 12 = .ok (.ldc 199, 2) := by decide +kernel
theorem dX8_alike_14 : decode cX8_alike 14 = .ok (.ireturn, 1) := by decide +kernel
theorem dX8_alike_15 : decode cX8_alike 15 = .ok (.iload_n 1, 1) := by decide +kernel
theorem dX8_alike_16 : decode cX8_alike 16 = .ok (.i2l, 1) := by decide +kernel
theorem dX8_alike_17 : decode cX8_alike 17 = .ok (.lconst 0, 1) := by decide +kernel
theorem dX8_alike_18 : decode cX8_alike 18 = .ok (.lconst 1, 1) := by decide +kernel
theorem dX8_alike_19 : decode cX8_alike 19 = .ok (.invokestatic 60, 3) := by decide +kernel
theorem dX8_alike_22 : decode cX8_alike 22 = .ok (.ifCond .ne 6, 3) := by decide +kernel
theorem dX8_alike_25 : decode cX8_alike 25 = .ok (.ldc 70, 2) := by decide +kernel
theorem dX8_alike_27 : decode cX8_alike 27 = .ok (.ireturn, 1) := by decide +kernel
theorem dX8_alike_28 : decode cX8_alike 28 = .ok (.iconst 0, 1) := by decide +kernel
theorem dX8_alike_29 : decode cX8_alike 29 = .ok (.istore_n 2, 1) := by decide +kernel
theorem dX8_alike_30 : decode cX8_alike 30 = .ok (.ldc 93, 2) := by decide +kernel
theorem dX8_alike_32 : decode cX8_alike 32 = .ok (.istore_n 3, 1) := by decide +kernel
theorem dX8_alike_33 : decode cX8_alike 33 = .ok (.iconst 0, 1) := by decide +kernel
theorem dX8_alike_34 : decode cX8_alike 34 = .ok (.istore 4, 2) := by decide +kernel
theorem dX8_alike_36 : decode cX8_alike 36 = .ok (.iload 4, 2) := by decide +kernel
theorem dX8_alike_38 : decode cX8_alike 38 = .ok (.aload_n 0, 1) := by decide +kernel
theorem dX8_alike_39 : decode cX8_alike 39 = .ok (.getfield 19, 3) := by decide +kernel
theorem dX8_alike_42 : decode cX8_alike 42 = .ok (.iconst 0, 1) := by decide +kernel
theorem dX8_alike_43 : decode cX8_alike 43 = .ok (.iaload, 1) := by decide +kernel
theorem dX8_alike_44 : decode cX8_alike 44 = .ok (.if_icmp .ge 74, 3) := by decide +kernel
theorem dX8_alike_47 : decode cX8_alike 47 = .ok (.iload 4, 2) := by decide +kernel
theorem dX8_alike_49 : decode cX8_alike 49 = .ok (.iconst 1, 1) := by decide +kernel
theorem dX8_alike_50 : decode cX8_alike 50 = .ok (.iadd, 1) := by decide +kernel
theorem dX8_alike_51 : decode cX8_alike 51 = .ok (.istore 5, 2) := by decide +kernel
theorem dX8_alike_53 : decode cX8_alike 53 = .ok (.iload 5, 2) := by decide +kernel
theorem dX8_alike_55 : decode cX8_alike 55 = .ok (.aload_n 0, 1) := by decide +kernel
theorem dX8_alike_56 : decode cX8_alike 56 = .ok (.getfield 19, 3) := by decide +kernel
theorem dX8_alike_59 : decode cX8_alike 59 = .ok (.iconst 0, 1) := by decide +kernel
theorem dX8_alike_60 : decode cX8_alike 60 = .ok (.iaload, 1) := by decide +kernel
theorem dX8_alike_61 : decode cX8_alike 61 = .ok (.if_icmp .ge 51, 3) := by decide +kernel
theorem dX8_alike_64 : decode cX8_alike 64 = .ok (.aload_n 0, 1) := by decide +kernel
theorem dX8_alike_65 : decode cX8_alike 65 = .ok (.iload 4, 2) := by decide +kernel
theorem dX8_alike_67 : decode cX8_alike 67 = .ok (.iload 5, 2) := by decide +kernel
theorem dX8_alike_69 : decode cX8_alike 69 = .ok (.invokevirtual 236, 3) := by decide +kernel
theorem dX8_alike_72 : decode cX8_alike 72 = .ok (.ifCond .eq 34, 3) := by decide +kernel
theorem dX8_alike_75 : decode cX8_alike 75 = .ok (.aload_n 0, 1) := by decide +kernel
theorem dX8_alike_76 : decode cX8_alike 76 = .ok (.iload 5, 2) := by decide +kernel
theorem dX8_alike_78 : decode cX8_alike 78 = .ok (.iload 4, 2) := by decide +kernel
theorem dX8_alike_80 : decode cX8_alike 80 = .ok (.invokevirtual 236, 3) := by decide +kernel
theorem dX8_alike_83 : decode cX8_alike 83 = .ok (.ifCond .eq 23, 3) := by decide +kernel
theorem dX8_alike_86 : decode cX8_alike 86 = .ok (.iload_n 2, 1) := by decide +kernel
theorem dX8_alike_87 : decode cX8_alike 87 = .ok (.ifCond .ne 14, 3) := by decide +kernel
theorem dX8_alike_90 : decode cX8_alike 90 = .ok (.bipush 10, 2) := by decide +kernel
theorem dX8_alike_92 : decode cX8_alike 92 = .ok (.iload 4, 2) := by decide +kernel
theorem dX8_alike_94 : decode cX8_alike 94 = .ok (.imul, 1) := by decide +kernel
theorem dX8_alike_95 : decode cX8_alike 95 = .ok (.iload 5, 2) := by decide +kernel
theorem dX8_alike_97 : decode cX8_alike 97 = .ok (.iadd, 1) := by decide +kernel
theorem dX8_alike_98 : decode cX8_alike 98 = .ok (.goto 4, 3) := by decide +kernel
theorem dX8_alike_101 : decode cX8_alike 101 = .ok (.iload_n 3, 1) := by decide +kernel
theorem dX8_alike_102 : decode cX8_alike 102 = .ok (.istore_n 3, 1) := by decide +kernel
theorem dX8_alike_103 : decode cX8_alike 103 = .ok (.iinc 2 1, 3) := by decide +kernel
theorem dX8_alike_106 : decode cX8_alike 106 = .ok (.iinc 5 1, 3) := by decide +kernel
theorem dX8_alike_109 : decode cX8_alike 109 = .ok (.goto (-56), 3) := by decide +kernel
theorem dX8_alike_112 : decode cX8_alike 112 = .ok (.iinc 4 1, 3) := by decide +kernel
theorem dX8_alike_115 : decode cX8_alike 115 = .ok (.goto (-79), 3) := by decide +kernel
theorem dX8_alike_118 : decode cX8_alike 118 = .ok (.iload_n 1, 1) := by decide +kernel
theorem dX8_alike_119 : decode cX8_alike 119 = .ok (.ifCond .ne 7, 3) := by decide +kernel
theorem dX8_alike_122 : decode cX8_alike 122 = .ok (.iload_n 2, 1) := by decide +kernel
theorem dX8_alike_123 : decode cX8_alike 123 = .ok (.goto 4, 3) := by decide +kernel
theorem dX8_alike_126 : decode cX8_alike 126 = .ok (.iload_n 3, 1) := by decide +kernel
theorem dX8_alike_127 : decode cX8_alike 127 = .ok (.ireturn, 1) := by decide +kernel
theorem dX8_rowFound_0 : decode cX8_rowFound 0 = .ok (.aload_n 0, 1) := by decide +kernel
theorem dX8_rowFound_1 : decode cX8_rowFound 1 = .ok (.getfield 7, 3) := by decide +kernel
theorem dX8_rowFound_4 : decode cX8_rowFound 4 = .ok (.iload_n 1, 1) := by decide +kernel
theorem dX8_rowFound_5 : decode cX8_rowFound 5 = .ok (.iaload, 1) := by decide +kernel
theorem dX8_rowFound_6 : decode cX8_rowFound 6 = .ok (.ifCond .ge 9, 3) := by decide +kernel
theorem dX8_rowFound_9 : decode cX8_rowFound 9 = .ok (.aload_n 0, 1) := by decide +kernel
theorem dX8_rowFound_10 : decode cX8_rowFound 10 = .ok (.iconst 1, 1) := by decide +kernel
theorem dX8_rowFound_11 : decode cX8_rowFound 11 = .ok (.invokevirtual 71, 3) := by decide +kernel
theorem dX8_rowFound_14 : decode cX8_rowFound 14 = .ok (.ireturn, 1) := by decide +kernel
theorem dX8_rowFound_15 : decode cX8_rowFound 15 = .ok (.iload_n 2, 1) := by decide +kernel
theorem dX8_rowFound_16 : decode cX8_rowFound 16 = .ok (.ifCond .lt 19, 3) := by decide +kernel
theorem dX8_rowFound_19 : decode cX8_rowFound 19 = .ok (.iload_n 2, 1) := by decide +kernel
theorem dX8_rowFound_20 : decode cX8_rowFound 20 = .ok (.i2l, 1) := by decide +kernel
theorem dX8_rowFound_21 : decode cX8_rowFound 21 = .ok (.iload_n 3, 1) := by decide +kernel
theorem dX8_rowFound_22 : decode cX8_rowFound 22 = .ok (.i2l, 1) := by decide +kernel
theorem dX8_rowFound_23 : decode cX8_rowFound 23 = .ok (.ladd, 1) := by decide +kernel
theorem dX8_rowFound_24 : decode cX8_rowFound 24 = .ok (.aload_n 0, 1) := by decide +kernel
theorem dX8_rowFound_25 : decode cX8_rowFound 25 = .ok (.getfield 13, 3) := by decide +kernel
theorem dX8_rowFound_28 : decode cX8_rowFound 28 = .ok (.iload_n 1, 1) := by decide +kernel
theorem dX8_rowFound_29 : decode cX8_rowFound 29 = .ok (.iaload, 1) := by decide +kernel
theorem dX8_rowFound_30 : decode cX8_rowFound 30 = .ok (.i2l, 1) := by decide +kernel
theorem dX8_rowFound_31 : decode cX8_rowFound 31 = .ok (.lcmp, 1) := by decide +kernel
theorem dX8_rowFound_32 : decode cX8_rowFound 32 = .ok (.ifCond .le 9, 3) := by decide +kernel
theorem dX8_rowFound_35 : decode cX8_rowFound 35 = .ok (.aload_n 0, 1) := by decide +kernel
theorem dX8_rowFound_36 : decode cX8_rowFound 36 = .ok (.iconst 2, 1) := by decide +kernel
theorem dX8_rowFound_37 : decode cX8_rowFound 37 = .ok (.invokevirtual 71, 3) := by decide +kernel
theorem dX8_rowFound_40 : decode cX8_rowFound 40 = .ok (.ireturn, 1) := by decide +kernel
theorem dX8_rowFound_41 : decode cX8_rowFound 41 = .ok (.aload_n 0, 1) := by decide +kernel
theorem dX8_rowFound_42 : decode cX8_rowFound 42 = .ok (.iconst 0, 1) := by decide +kernel
theorem dX8_rowFound_43 : decode cX8_rowFound 43 = .ok (.putfield 54, 3) := by decide +kernel
theorem dX8_rowFound_46 : decode cX8_rowFound 46 = .ok (.iconst 0, 1) := by decide +kernel
theorem dX8_rowFound_47 : decode cX8_rowFound 47 = .ok (.ireturn, 1) := by decide +kernel
theorem dX8_isMany_0 : decode cX8_isMany 0 = .ok (.iload_n 0, 1) := by decide +kernel
theorem dX8_isMany_1 : decode cX8_isMany 1 = .ok (.invokestatic 64, 3) := by decide +kernel
theorem dX8_isMany_4 : decode cX8_isMany 4 = .ok (.ifCond .eq 19, 3) := by decide +kernel
theorem dX8_isMany_7 : decode cX8_isMany 7 = .ok (.iload_n 1, 1) := by decide +kernel
theorem dX8_isMany_8 : decode cX8_isMany 8 = .ok (.i2l, 1) := by decide +kernel
theorem dX8_isMany_9 : decode cX8_isMany 9 = .ok (.lconst 1, 1) := by decide +kernel
theorem dX8_isMany_10 : decode cX8_isMany 10 = .ok (.ldc2_w 239, 3) := by decide +kernel
theorem dX8_isMany_13 : decode cX8_isMany 13 = .ok (.invokestatic 60, 3) := by decide +kernel
theorem dX8_isMany_16 : decode cX8_isMany 16 = .ok (.ifCond .eq 7, 3) := by decide +kernel
theorem dX8_isMany_19 : decode cX8_isMany 19 = .ok (.iconst 1, 1) := by decide +kernel
theorem dX8_isMany_20 : decode cX8_isMany 20 = .ok (.goto 4, 3) := by decide +kernel
theorem dX8_isMany_23 : decode cX8_isMany 23 = .ok (.iconst 0, 1) := by decide +kernel
theorem dX8_isMany_24 : decode cX8_isMany 24 = .ok (.ireturn, 1) := by decide +kernel
theorem dX8_song_0 : decode cX8_song 0 = .ok (.aload_n 0, 1) := by decide +kernel
theorem dX8_song_1 : decode cX8_song 1 = .ok (.iconst 0, 1) := by decide +kernel
theorem dX8_song_2 : decode cX8_song 2 = .ok (.putfield 50, 3) := by decide +kernel
theorem dX8_song_5 : decode cX8_song 5 = .ok (.aload_n 0, 1) := by decide +kernel
theorem dX8_song_6 : decode cX8_song 6 = .ok (.invokevirtual 196, 3) := by decide +kernel
theorem dX8_song_9 : decode cX8_song 9 = .ok (.ifCond .ne 6, 3) := by decide +kernel
theorem dX8_song_12 : decode cX8_song 12 = .ok (.ldc 199, 2) := by decide +kernel
theorem dX8_song_14 : decode cX8_song 14 = .ok (.ireturn, 1) := by decide +kernel
theorem dX8_song_15 : decode cX8_song 15 = .ok (.iload_n 1, 1) := by decide +kernel
theorem dX8_song_16 : decode cX8_song 16 = .ok (.i2l, 1) := by decide +kernel
theorem dX8_song_17 : decode cX8_song 17 = .ok (.lconst 0, 1) := by decide +kernel
theorem dX8_song_18 : decode cX8_song 18 = .ok (.lconst 1, 1) := by decide +kernel
theorem dX8_song_19 : decode cX8_song 19 = .ok (.invokestatic 60, 3) := by decide +kernel
theorem dX8_song_22 : decode cX8_song 22 = .ok (.ifCond .eq 12, 3) := by decide +kernel
theorem dX8_song_25 : decode cX8_song 25 = .ok (.iload_n 2, 1) := by decide +kernel
theorem dX8_song_26 : decode cX8_song 26 = .ok (.iload 4, 2) := by decide +kernel
theorem dX8_song_28 : decode cX8_song 28 = .ok (.invokestatic 241, 3) := by decide +kernel
theorem dX8_song_31 : decode cX8_song 31 = .ok (.ifCond .ne 6, 3) := by decide +kernel
theorem dX8_song_34 : decode cX8_song 34 = .ok (.ldc 70, 2) := by decide +kernel
theorem dX8_song_36 : decode cX8_song 36 = .ok (.ireturn, 1) := by decide +kernel
theorem dX8_song_37 : decode cX8_song 37 = .ok (.aload_n 0, 1) := by decide +kernel
theorem dX8_song_38 : decode cX8_song 38 = .ok (.iload_n 2, 1) := by decide +kernel
theorem dX8_song_39 : decode cX8_song 39 = .ok (.iload_n 3, 1) := by decide +kernel
theorem dX8_song_40 : decode cX8_song 40 = .ok (.iload 4, 2) := by decide +kernel
theorem dX8_song_42 : decode cX8_song 42 = .ok (.invokevirtual 244, 3) := by decide +kernel
theorem dX8_song_45 : decode cX8_song 45 = .ok (.istore 5, 2) := by decide +kernel
theorem dX8_song_47 : decode cX8_song 47 = .ok (.iload 5, 2) := by decide +kernel
theorem dX8_song_49 : decode cX8_song 49 = .ok (.ifCond .eq 6, 3) := by decide +kernel
theorem dX8_song_52 : decode cX8_song 52 = .ok (.iload 5, 2) := by decide +kernel
theorem dX8_song_54 : decode cX8_song 54 = .ok (.ireturn, 1) := by decide +kernel
theorem dX8_song_55 : decode cX8_song 55 = .ok (.iconst 0, 1) := by decide +kernel
theorem dX8_song_56 : decode cX8_song 56 = .ok (.istore 6, 2) := by decide +kernel
theorem dX8_song_58 : decode cX8_song 58 = .ok (.iload 6, 2) := by decide +kernel
theorem dX8_song_60 : decode cX8_song 60 = .ok (.iload 4, 2) := by decide +kernel
theorem dX8_song_62 : decode cX8_song 62 = .ok (.if_icmp .ge 36, 3) := by decide +kernel
theorem dX8_song_65 : decode cX8_song 65 = .ok (.aload_n 0, 1) := by decide +kernel
theorem dX8_song_66 : decode cX8_song 66 = .ok (.getfield 16, 3) := by decide +kernel
theorem dX8_song_69 : decode cX8_song 69 = .ok (.bipush 40, 2) := by decide +kernel
theorem dX8_song_71 : decode cX8_song 71 = .ok (.iload_n 2, 1) := by decide +kernel
theorem dX8_song_72 : decode cX8_song 72 = .ok (.imul, 1) := by decide +kernel
theorem dX8_song_73 : decode cX8_song 73 = .ok (.iload_n 3, 1) := by decide +kernel
theorem dX8_song_74 : decode cX8_song 74 = .ok (.iadd, 1) := by decide +kernel
theorem dX8_song_75 : decode cX8_song 75 = .ok (.iload 6, 2) := by decide +kernel
theorem dX8_song_77 : decode cX8_song 77 = .ok (.iadd, 1) := by decide +kernel
theorem dX8_song_78 : decode cX8_song 78 = .ok (.iaload, 1) := by decide +kernel
theorem dX8_song_79 : decode cX8_song 79 = .ok (.i2l, 1) := by decide +kernel
theorem dX8_song_80 : decode cX8_song 80 = .ok (.invokestatic 209, 3) := by decide +kernel
theorem dX8_song_83 : decode cX8_song 83 = .ok (.ifCond .ne 9, 3) := by decide +kernel
theorem dX8_song_86 : decode cX8_song 86 = .ok (.aload_n 0, 1) := by decide +kernel
theorem dX8_song_87 : decode cX8_song 87 = .ok (.iconst 3, 1) := by decide +kernel
theorem dX8_song_88 : decode cX8_song 88 = .ok (.invokevirtual 71, 3) := by decide +kernel
theorem dX8_song_91 : decode cX8_song 91 = .ok (.ireturn, 1) := by decide +kernel
theorem dX8_song_92 : decode cX8_song 92 = .ok (.iinc 6 1, 3) := by decide +kernel
theorem dX8_song_95 : decode cX8_song 95 = .ok (.goto (-37), 3) := by decide +kernel
theorem dX8_song_98 : decode cX8_song 98 = .ok (.iconst 0, 1) := by decide +kernel
theorem dX8_song_99 : decode cX8_song 99 = .ok (.istore 6, 2) := by decide +kernel
theorem dX8_song_101 : decode cX8_song 101 = .ok (.iconst 0, 1) := by decide +kernel
theorem dX8_song_102 : decode cX8_song 102 = .ok (.istore 7, 2) := by decide +kernel
theorem dX8_song_104 : decode cX8_song 104 = .ok (.iconst 0, 1) := by decide +kernel
theorem dX8_song_105 : decode cX8_song 105 = .ok (.istore 8, 2) := by decide +kernel
theorem dX8_song_107 : decode cX8_song 107 = .ok (.iload 8, 2) := by decide +kernel
theorem dX8_song_109 : decode cX8_song 109 = .ok (.iload 4, 2) := by decide +kernel
theorem dX8_song_111 : decode cX8_song 111 = .ok (.if_icmp .ge 124, 3) := by decide +kernel
theorem dX8_song_114 : decode cX8_song 114 = .ok (.iconst 0, 1) := by decide +kernel
theorem dX8_song_115 : decode cX8_song 115 = .ok (.istore 9, 2) := by decide +kernel
theorem dX8_song_117 : decode cX8_song 117 = .ok (.iload 9, 2) := by decide +kernel
theorem dX8_song_119 : decode cX8_song 119 = .ok (.aload_n 0, 1) := by decide +kernel
theorem dX8_song_120 : decode cX8_song 120 = .ok (.getfield 19, 3) := by decide +kernel
theorem dX8_song_123 : decode cX8_song 123 = .ok (.iconst 0, 1) := by decide +kernel
theorem dX8_song_124 : decode cX8_song 124 = .ok (.iaload, 1) := by decide +kernel
theorem dX8_song_125 : decode cX8_song 125 = .ok (.if_icmp .ge 59, 3) := by decide +kernel
theorem dX8_song_128 : decode cX8_song 128 = .ok (.iload 6, 2) := by decide +kernel
theorem dX8_song_130 : decode cX8_song 130 = .ok (.iload 9, 2) := by decide +kernel
theorem dX8_song_132 : decode cX8_song 132 = .ok (.invokestatic 167, 3) := by decide +kernel
theorem dX8_song_135 : decode cX8_song 135 = .ok (.ifCond .ne 43, 3) := by decide +kernel
theorem dX8_song_138 : decode cX8_song 138 = .ok (.aload_n 0, 1) := by decide +kernel
theorem dX8_song_139 : decode cX8_song 139 = .ok (.getfield 19, 3) := by decide +kernel
theorem dX8_song_142 : decode cX8_song 142 = .ok (.iload 9, 2) := by decide +kernel
theorem dX8_song_144 : decode cX8_song 144 = .ok (.iconst 4, 1) := by decide +kernel
theorem dX8_song_145 : decode cX8_song 145 = .ok (.invokestatic 154, 3) := by decide +kernel
theorem dX8_song_148 : decode cX8_song 148 = .ok (.ifCond .ne 30, 3) := by decide +kernel
theorem dX8_song_151 : decode cX8_song 151 = .ok (.aload_n 0, 1) := by decide +kernel
theorem dX8_song_152 : decode cX8_song 152 = .ok (.getfield 19, 3) := by decide +kernel
theorem dX8_song_155 : decode cX8_song 155 = .ok (.iload 9, 2) := by decide +kernel
theorem dX8_song_157 : decode cX8_song 157 = .ok (.iconst 1, 1) := by decide +kernel
theorem dX8_song_158 : decode cX8_song 158 = .ok (.invokestatic 154, 3) := by decide +kernel
theorem dX8_song_161 : decode cX8_song 161 = .ok (.aload_n 0, 1) := by decide +kernel
theorem dX8_song_162 : decode cX8_song 162 = .ok (.getfield 16, 3) := by decide +kernel
theorem dX8_song_165 : decode cX8_song 165 = .ok (.bipush 40, 2) := by decide +kernel
theorem dX8_song_167 : decode cX8_song 167 = .ok (.iload_n 2, 1) := by decide +kernel
theorem dX8_song_168 : decode cX8_song 168 = .ok (.imul, 1) := by decide +kernel
theorem dX8_song_169 : decode cX8_song 169 = .ok (.iload_n 3, 1) := by decide +kernel
theorem dX8_song_170 : decode cX8_song 170 = .ok (.iadd, 1) := by decide +kernel
theorem dX8_song_171 : decode cX8_song 171 = .ok (.iload 8, 2) := by decide +kernel
theorem dX8_song_173 : decode cX8_song 173 = .ok (.iadd, 1) := by decide +kernel
theorem dX8_song_174 : decode cX8_song 174 = .ok (.iaload, 1) := by decide +kernel
theorem dX8_song_175 : decode cX8_song 175 = .ok (.if_icmp .eq 9, 3) := by decide +kernel
theorem dX8_song_178 : decode cX8_song 178 = .ok (.iinc 9 1, 3) := by decide +kernel
theorem dX8_song_181 : decode cX8_song 181 = .ok (.goto (-64), 3) := by decide +kernel
theorem dX8_song_184 : decode cX8_song 184 = .ok (.iload 6, 2) := by decide +kernel
theorem dX8_song_186 : decode cX8_song 186 = .ok (.iload 9, 2) := by decide +kernel
theorem dX8_song_188 : decode cX8_song 188 = .ok (.aload_n 0, 1) := by decide +kernel
theorem dX8_song_189 : decode cX8_song 189 = .ok (.getfield 19, 3) := by decide +kernel
theorem dX8_song_192 : decode cX8_song 192 = .ok (.iconst 0, 1) := by decide +kernel
theorem dX8_song_193 : decode cX8_song 193 = .ok (.iaload, 1) := by decide +kernel
theorem dX8_song_194 : decode cX8_song 194 = .ok (.if_icmp .ge 10, 3) := by decide +kernel
theorem dX8_song_197 : decode cX8_song 197 = .ok (.iconst 1, 1) := by decide +kernel
theorem dX8_song_198 : decode cX8_song 198 = .ok (.iload 9, 2) := by decide +kernel
theorem dX8_song_200 : decode cX8_song 200 = .ok (.ishl, 1) := by decide +kernel
theorem dX8_song_201 : decode cX8_song 201 = .ok (.goto 4, 3) := by decide +kernel
theorem dX8_song_204 : decode cX8_song 204 = .ok (.iconst 0, 1) := by decide +kernel
theorem dX8_song_205 : decode cX8_song 205 = .ok (.ior, 1) := by decide +kernel
theorem dX8_song_206 : decode cX8_song 206 = .ok (.istore 6, 2) := by decide +kernel
theorem dX8_song_208 : decode cX8_song 208 = .ok (.iload 7, 2) := by decide +kernel
theorem dX8_song_210 : decode cX8_song 210 = .ok (.iload 9, 2) := by decide +kernel
theorem dX8_song_212 : decode cX8_song 212 = .ok (.aload_n 0, 1) := by decide +kernel
theorem dX8_song_213 : decode cX8_song 213 = .ok (.getfield 19, 3) := by decide +kernel
theorem dX8_song_216 : decode cX8_song 216 = .ok (.iconst 0, 1) := by decide +kernel
theorem dX8_song_217 : decode cX8_song 217 = .ok (.iaload, 1) := by decide +kernel
theorem dX8_song_218 : decode cX8_song 218 = .ok (.if_icmp .ge 7, 3) := by decide +kernel
theorem dX8_song_221 : decode cX8_song 221 = .ok (.iconst 0, 1) := by decide +kernel
theorem dX8_song_222 : decode cX8_song 222 = .ok (.goto 4, 3) := by decide +kernel
theorem dX8_song_225 : decode cX8_song 225 = .ok (.iconst 1, 1) := by decide +kernel
theorem dX8_song_226 : decode cX8_song 226 = .ok (.iadd, 1) := by decide +kernel
theorem dX8_song_227 : decode cX8_song 227 = .ok (.istore 7, 2) := by decide +kernel
theorem dX8_song_229 : decode cX8_song 229 = .ok (.iinc 8 1, 3) := by decide +kernel
theorem dX8_song_232 : decode cX8_song 232 = .ok (.goto (-125), 3) := by decide +kernel
theorem dX8_song_235 : decode cX8_song 235 = .ok (.iload_n 1, 1) := by decide +kernel
theorem dX8_song_236 : decode cX8_song 236 = .ok (.ifCond .ne 8, 3) := by decide +kernel
theorem dX8_song_239 : decode cX8_song 239 = .ok (.iload 6, 2) := by decide +kernel
theorem dX8_song_241 : decode cX8_song 241 = .ok (.goto 5, 3) := by decide +kernel
theorem dX8_song_244 : decode cX8_song 244 = .ok (.iload 7, 2) := by decide +kernel
theorem dX8_song_246 : decode cX8_song 246 = .ok (.ireturn, 1) := by decide +kernel
theorem dX8_isSo_0 : decode cX8_isSo 0 = .ok (.iconst 1, 1) := by decide +kernel
theorem dX8_isSo_1 : decode cX8_isSo 1 = .ok (.istore 4, 2) := by decide +kernel
theorem dX8_isSo_3 : decode cX8_isSo 3 = .ok (.iconst 0, 1) := by decide +kernel
theorem dX8_isSo_4 : decode cX8_isSo 4 = .ok (.istore 5, 2) := by decide +kernel
theorem dX8_isSo_6 : decode cX8_isSo 6 = .ok (.iload 5, 2) := by decide +kernel
theorem dX8_isSo_8 : decode cX8_isSo 8 = .ok (.iload_n 3, 1) := by decide +kernel
theorem dX8_isSo_9 : decode cX8_isSo 9 = .ok (.if_icmp .ge 55, 3) := by decide +kernel
theorem dX8_isSo_12 : decode cX8_isSo 12 = .ok (.iload 4, 2) := by decide +kernel
theorem dX8_isSo_14 : decode cX8_isSo 14 = .ok (.ifCond .eq 50, 3) := by decide +kernel
theorem dX8_isSo_17 : decode cX8_isSo 17 = .ok (.aload_n 0, 1) := by decide +kernel
theorem dX8_isSo_18 : decode cX8_isSo 18 = .ok (.aload_n 0, 1) := by decide +kernel
theorem dX8_isSo_19 : decode cX8_isSo 19 = .ok (.getfield 25, 3) := by decide +kernel
theorem dX8_isSo_22 : decode cX8_isSo 22 = .ok (.iload 5, 2) := by decide +kernel
theorem dX8_isSo_24 : decode cX8_isSo 24 = .ok (.iload_n 1, 1) := by decide +kernel
theorem dX8_isSo_25 : decode cX8_isSo 25 = .ok (.aload_n 0, 1) := by decide +kernel
theorem dX8_isSo_26 : decode cX8_isSo 26 = .ok (.getfield 25, 3) := by decide +kernel
theorem dX8_isSo_29 : decode cX8_isSo 29 = .ok (.iconst 0, 1) := by decide +kernel
theorem dX8_isSo_30 : decode cX8_isSo 30 = .ok (.invokestatic 175, 3) := by decide +kernel
theorem dX8_isSo_33 : decode cX8_isSo 33 = .ok (.invokevirtual 179, 3) := by decide +kernel
theorem dX8_isSo_36 : decode cX8_isSo 36 = .ok (.invokestatic 183, 3) := by decide +kernel
theorem dX8_isSo_39 : decode cX8_isSo 39 = .ok (.aload_n 0, 1) := by decide +kernel
theorem dX8_isSo_40 : decode cX8_isSo 40 = .ok (.getfield 16, 3) := by decide +kernel
theorem dX8_isSo_43 : decode cX8_isSo 43 = .ok (.iload_n 2, 1) := by decide +kernel
theorem dX8_isSo_44 : decode cX8_isSo 44 = .ok (.iload 5, 2) := by decide +kernel
theorem dX8_isSo_46 : decode cX8_isSo 46 = .ok (.iadd, 1) := by decide +kernel
theorem dX8_isSo_47 : decode cX8_isSo 47 = .ok (.iaload, 1) := by decide +kernel
theorem dX8_isSo_48 : decode cX8_isSo 48 = .ok (.if_icmp .ne 7, 3) := by decide +kernel
theorem dX8_isSo_51 : decode cX8_isSo 51 = .ok (.iconst 1, 1) := by decide +kernel
theorem dX8_isSo_52 : decode cX8_isSo 52 = .ok (.goto 4, 3) := by decide +kernel
theorem dX8_isSo_55 : decode cX8_isSo 55 = .ok (.iconst 0, 1) := by decide +kernel
theorem dX8_isSo_56 : decode cX8_isSo 56 = .ok (.istore 4, 2) := by decide +kernel
theorem dX8_isSo_58 : decode cX8_isSo 58 = .ok (.iinc 5 1, 3) := by decide +kernel
theorem dX8_isSo_61 : decode cX8_isSo 61 = .ok (.goto (-55), 3) := by decide +kernel
theorem dX8_isSo_64 : decode cX8_isSo 64 = .ok (.iload 4, 2) := by decide +kernel
theorem dX8_isSo_66 : decode cX8_isSo 66 = .ok (.ireturn, 1) := by decide +kernel
theorem dX8_who_0 : decode cX8_who 0 = .ok (.aload_n 0, 1) := by decide +kernel
theorem dX8_who_1 : decode cX8_who 1 = .ok (.iconst 0, 1) := by decide +kernel
theorem dX8_who_2 : decode cX8_who 2 = .ok (.putfield 50, 3) := by decide +kernel
theorem dX8_who_5 : decode cX8_who 5 = .ok (.aload_n 0, 1) := by decide +kernel
theorem dX8_who_6 : decode cX8_who 6 = .ok (.iload_n 1, 1) := by decide +kernel
theorem dX8_who_7 : decode cX8_who 7 = .ok (.invokevirtual 213, 3) := by decide +kernel
theorem dX8_who_10 : decode cX8_who 10 = .ok (.ifCond .eq 31, 3) := by decide +kernel
theorem dX8_who_13 : decode cX8_who 13 = .ok (.iload_n 2, 1) := by decide +kernel
theorem dX8_who_14 : decode cX8_who 14 = .ok (.i2l, 1) := by decide +kernel
theorem dX8_who_15 : decode cX8_who 15 = .ok (.lconst 0, 1) := by decide +kernel
theorem dX8_who_16 : decode cX8_who 16 = .ok (.lconst 1, 1) := by decide +kernel
theorem dX8_who_17 : decode cX8_who 17 = .ok (.invokestatic 60, 3) := by decide +kernel
theorem dX8_who_20 : decode cX8_who 20 = .ok (.ifCond .eq 21, 3) := by decide +kernel
theorem dX8_who_23 : decode cX8_who 23 = .ok (.aload_n 0, 1) := by decide +kernel
theorem dX8_who_24 : decode cX8_who 24 = .ok (.iload_n 3, 1) := by decide +kernel
theorem dX8_who_25 : decode cX8_who 25 = .ok (.invokevirtual 213, 3) := by decide +kernel
theorem dX8_who_28 : decode cX8_who 28 = .ok (.ifCond .eq 13, 3) := by decide +kernel
theorem dX8_who_31 : decode cX8_who 31 = .ok (.iload 4, 2) := by decide +kernel
theorem dX8_who_33 : decode cX8_who 33 = .ok (.iload 6, 2) := by decide +kernel
theorem dX8_who_35 : decode cX8_who 35 = .ok (.invokestatic 241, 3) := by decide +kernel
theorem dX8_who_38 : decode cX8_who 38 = .ok (.ifCond .ne 6, 3) := by decide +kernel
theorem dX8_who_41 : decode cX8_who 41 = .ok (.ldc 70, 2) := by decide +kernel
theorem dX8_who_43 : decode cX8_who 43 = .ok (.ireturn, 1) := by decide +kernel
theorem dX8_who_44 : decode cX8_who 44 = .ok (.aload_n 0, 1) := by decide +kernel
theorem dX8_who_45 : decode cX8_who 45 = .ok (.iload 4, 2) := by decide +kernel
theorem dX8_who_47 : decode cX8_who 47 = .ok (.iload 5, 2) := by decide +kernel
theorem dX8_who_49 : decode cX8_who 49 = .ok (.iload 6, 2) := by decide +kernel
theorem dX8_who_51 : decode cX8_who 51 = .ok (.invokevirtual 244, 3) := by decide +kernel
theorem dX8_who_54 : decode cX8_who 54 = .ok (.istore 7, 2) := by decide +kernel
theorem dX8_who_56 : decode cX8_who 56 = .ok (.iload 7, 2) := by decide +kernel
theorem dX8_who_58 : decode cX8_who 58 = .ok (.ifCond .eq 6, 3) := by decide +kernel
theorem dX8_who_61 : decode cX8_who 61 = .ok (.iload 7, 2) := by decide +kernel
theorem dX8_who_63 : decode cX8_who 63 = .ok (.ireturn, 1) := by decide +kernel
theorem dX8_who_64 : decode cX8_who 64 = .ok (.iconst 0, 1) := by decide +kernel
theorem dX8_who_65 : decode cX8_who 65 = .ok (.istore 8, 2) := by decide +kernel
theorem dX8_who_67 : decode cX8_who 67 = .ok (.iload_n 2, 1) := by decide +kernel
theorem dX8_who_68 : decode cX8_who 68 = .ok (.ifCond .ne 7, 3) := by decide +kernel
theorem dX8_who_71 : decode cX8_who 71 = .ok (.iconst 1, 1) := by decide +kernel
theorem dX8_who_72 : decode cX8_who 72 = .ok (.goto 4, 3) := by decide +kernel
theorem dX8_who_75 : decode cX8_who 75 = .ok (.iconst 0, 1) := by decide +kernel
theorem dX8_who_76 : decode cX8_who 76 = .ok (.istore 9, 2) := by decide +kernel
theorem dX8_who_78 : decode cX8_who 78 = .ok (.iload 9, 2) := by decide +kernel
theorem dX8_who_80 : decode cX8_who 80 = .ok (.iload_n 2, 1) := by decide +kernel
theorem dX8_who_81 : decode cX8_who 81 = .ok (.ifCond .ne 7, 3) := by decide +kernel
theorem dX8_who_84 : decode cX8_who 84 = .ok (.iconst 5, 1) := by decide +kernel
theorem dX8_who_85 : decode cX8_who 85 = .ok (.goto 5, 3) := by decide +kernel
theorem dX8_who_88 : decode cX8_who 88 = .ok (.bipush 11, 2) := by decide +kernel
theorem dX8_who_90 : decode cX8_who 90 = .ok (.if_icmp .gt 63, 3) := by decide +kernel
theorem dX8_who_93 : decode cX8_who 93 = .ok (.aload_n 0, 1) := by decide +kernel
theorem dX8_who_94 : decode cX8_who 94 = .ok (.invokevirtual 233, 3) := by decide +kernel
theorem dX8_who_97 : decode cX8_who 97 = .ok (.aload_n 0, 1) := by decide +kernel
theorem dX8_who_98 : decode cX8_who 98 = .ok (.getfield 25, 3) := by decide +kernel
theorem dX8_who_101 : decode cX8_who 101 = .ok (.iload_n 1, 1) := by decide +kernel
theorem dX8_who_102 : decode cX8_who 102 = .ok (.iload_n 2, 1) := by decide +kernel
theorem dX8_who_103 : decode cX8_who 103 = .ok (.ifCond .ne 7, 3) := by decide +kernel
theorem dX8_who_106 : decode cX8_who 106 = .ok (.iconst 0, 1) := by decide +kernel
theorem dX8_who_107 : decode cX8_who 107 = .ok (.goto 4, 3) := by decide +kernel
theorem dX8_who_110 : decode cX8_who 110 = .ok (.iconst 1, 1) := by decide +kernel
theorem dX8_who_111 : decode cX8_who 111 = .ok (.iload 9, 2) := by decide +kernel
theorem dX8_who_113 : decode cX8_who 113 = .ok (.invokestatic 192, 3) := by decide +kernel
theorem dX8_who_116 : decode cX8_who 116 = .ok (.iload 8, 2) := by decide +kernel
theorem dX8_who_118 : decode cX8_who 118 = .ok (.aload_n 0, 1) := by decide +kernel
theorem dX8_who_119 : decode cX8_who 119 = .ok (.iload_n 3, 1) := by decide +kernel
theorem dX8_who_120 : decode cX8_who 120 = .ok (.bipush 40, 2) := by decide +kernel
theorem dX8_who_122 : decode cX8_who 122 = .ok (.iload 4, 2) := by decide +kernel
theorem dX8_who_124 : decode cX8_who 124 = .ok (.imul, 1) := by decide +kernel
theorem dX8_who_125 : decode cX8_who 125 = .ok (.iload 5, 2) := by decide +kernel
theorem dX8_who_127 : decode cX8_who 127 = .ok (.iadd, 1) := by decide +kernel
theorem dX8_who_128 : decode cX8_who 128 = .ok (.iload 6, 2) := by decide +kernel
theorem dX8_who_130 : decode cX8_who 130 = .ok (.invokevirtual 248, 3) := by decide +kernel
theorem dX8_who_133 : decode cX8_who 133 = .ok (.ifCond .eq 10, 3) := by decide +kernel
theorem dX8_who_136 : decode cX8_who 136 = .ok (.iconst 1, 1) := by decide +kernel
theorem dX8_who_137 : decode cX8_who 137 = .ok (.iload 9, 2) := by decide +kernel
theorem dX8_who_139 : decode cX8_who 139 = .ok (.ishl, 1) := by decide +kernel
theorem dX8_who_140 : decode cX8_who 140 = .ok (.goto 4, 3) := by decide +kernel
theorem dX8_who_143 : decode cX8_who 143 = .ok (.iconst 0, 1) := by decide +kernel
theorem dX8_who_144 : decode cX8_who 144 = .ok (.ior, 1) := by decide +kernel
theorem dX8_who_145 : decode cX8_who 145 = .ok (.istore 8, 2) := by decide +kernel
theorem dX8_who_147 : decode cX8_who 147 = .ok (.iinc 9 1, 3) := by decide +kernel
theorem dX8_who_150 : decode cX8_who 150 = .ok (.goto (-72), 3) := by decide +kernel
theorem dX8_who_153 : decode cX8_who 153 = .ok (.iload 8, 2) := by decide +kernel
theorem dX8_who_155 : decode cX8_who 155 = .ok (.ireturn, 1) := by decide +kernel
theorem dX8_reaches_0 : decode cX8_reaches 0 = .ok (.aload_n 0, 1) := by decide +kernel
theorem dX8_reaches_1 : decode cX8_reaches 1 = .ok (.iconst 0, 1) := by decide +kernel
theorem dX8_reaches_2 : decode cX8_reaches 2 = .ok (.putfield 50, 3) := by decide +kernel
theorem dX8_reaches_5 : decode cX8_reaches 5 = .ok (.aload_n 0, 1) := by decide +kernel
theorem dX8_reaches_6 : decode cX8_reaches 6 = .ok (.iload_n 1, 1) := by decide +kernel
theorem dX8_reaches_7 : decode cX8_reaches 7 = .ok (.invokevirtual 213, 3) := by decide +kernel
theorem dX8_reaches_10 : decode cX8_reaches 10 = .ok (.ifCond .eq 12, 3) := by decide +kernel
theorem dX8_reaches_13 : decode cX8_reaches 13 = .ok (.iload_n 2, 1) := by decide +kernel
theorem dX8_reaches_14 : decode cX8_reaches 14 = .ok (.iload 4, 2) := by decide +kernel
theorem dX8_reaches_16 : decode cX8_reaches 16 = .ok (.invokestatic 241, 3) := by decide +kernel
theorem dX8_reaches_19 : decode cX8_reaches 19 = .ok (.ifCond .ne 6, 3) := by decide +kernel
theorem dX8_reaches_22 : decode cX8_reaches 22 = .ok (.ldc 70, 2) := by decide +kernel
theorem dX8_reaches_24 : decode cX8_reaches 24 = .ok (.ireturn, 1) := by decide +kernel
theorem dX8_reaches_25 : decode cX8_reaches 25 = .ok (.aload_n 0, 1) := by decide +kernel
theorem dX8_reaches_26 : decode cX8_reaches 26 = .ok (.iload_n 2, 1) := by decide +kernel
theorem dX8_reaches_27 : decode cX8_reaches 27 = .ok (.iload_n 3, 1) := by decide +kernel
theorem dX8_reaches_28 : decode cX8_reaches 28 = .ok (.iload 4, 2) := by decide +kernel
theorem dX8_reaches_30 : decode cX8_reaches 30 = .ok (.invokevirtual 244, 3) := by decide +kernel
theorem dX8_reaches_33 : decode cX8_reaches 33 = .ok (.istore 5, 2) := by decide +kernel
theorem dX8_reaches_35 : decode cX8_reaches 35 = .ok (.iload 5, 2) := by decide +kernel
theorem dX8_reaches_37 : decode cX8_reaches 37 = .ok (.ifCond .eq 6, 3) := by decide +kernel
theorem dX8_reaches_40 : decode cX8_reaches 40 = .ok (.iload 5, 2) := by decide +kernel
theorem dX8_reaches_42 : decode cX8_reaches 42 = .ok (.ireturn, 1) := by decide +kernel
theorem dX8_reaches_43 : decode cX8_reaches 43 = .ok (.iconst 0, 1) := by decide +kernel
theorem dX8_reaches_44 : decode cX8_reaches 44 = .ok (.istore 6, 2) := by decide +kernel
theorem dX8_reaches_46 : decode cX8_reaches 46 = .ok (.iconst 0, 1) := by decide +kernel
theorem dX8_reaches_47 : decode cX8_reaches 47 = .ok (.istore 7, 2) := by decide +kernel
theorem dX8_reaches_49 : decode cX8_reaches 49 = .ok (.iload 7, 2) := by decide +kernel
theorem dX8_reaches_51 : decode cX8_reaches 51 = .ok (.bipush 8, 2) := by decide +kernel
theorem dX8_reaches_53 : decode cX8_reaches 53 = .ok (.if_icmp .gt 50, 3) := by decide +kernel
theorem dX8_reaches_56 : decode cX8_reaches 56 = .ok (.aload_n 0, 1) := by decide +kernel
theorem dX8_reaches_57 : decode cX8_reaches 57 = .ok (.invokevirtual 233, 3) := by decide +kernel
theorem dX8_reaches_60 : decode cX8_reaches 60 = .ok (.aload_n 0, 1) := by decide +kernel
theorem dX8_reaches_61 : decode cX8_reaches 61 = .ok (.getfield 25, 3) := by decide +kernel
theorem dX8_reaches_64 : decode cX8_reaches 64 = .ok (.iconst 2, 1) := by decide +kernel
theorem dX8_reaches_65 : decode cX8_reaches 65 = .ok (.iload 7, 2) := by decide +kernel
theorem dX8_reaches_67 : decode cX8_reaches 67 = .ok (.iastore, 1) := by decide +kernel
theorem dX8_reaches_68 : decode cX8_reaches 68 = .ok (.iload 6, 2) := by decide +kernel
theorem dX8_reaches_70 : decode cX8_reaches 70 = .ok (.aload_n 0, 1) := by decide +kernel
theorem dX8_reaches_71 : decode cX8_reaches 71 = .ok (.iload_n 1, 1) := by decide +kernel
theorem dX8_reaches_72 : decode cX8_reaches 72 = .ok (.bipush 40, 2) := by decide +kernel
theorem dX8_reaches_74 : decode cX8_reaches 74 = .ok (.iload_n 2, 1) := by decide +kernel
theorem dX8_reaches_75 : decode cX8_reaches 75 = .ok (.imul, 1) := by decide +kernel
theorem dX8_reaches_76 : decode cX8_reaches 76 = .ok (.iload_n 3, 1) := by decide +kernel
theorem dX8_reaches_77 : decode cX8_reaches 77 = .ok (.iadd, 1) := by decide +kernel
theorem dX8_reaches_78 : decode cX8_reaches 78 = .ok (.iload 4, 2) := by decide +kernel
theorem dX8_reaches_80 : decode cX8_reaches 80 = .ok (.invokevirtual 248, 3) := by decide +kernel
theorem dX8_reaches_83 : decode cX8_reaches 83 = .ok (.ifCond .eq 10, 3) := by decide +kernel
theorem dX8_reaches_86 : decode cX8_reaches 86 = .ok (.iconst 1, 1) := by decide +kernel
theorem dX8_reaches_87 : decode cX8_reaches 87 = .ok (.iload 7, 2) := by decide +kernel
theorem dX8_reaches_89 : decode cX8_reaches 89 = .ok (.ishl, 1) := by decide +kernel
theorem dX8_reaches_90 : decode cX8_reaches 90 = .ok (.goto 4, 3) := by decide +kernel
theorem dX8_reaches_93 : decode cX8_reaches 93 = .ok (.iconst 0, 1) := by decide +kernel
theorem dX8_reaches_94 : decode cX8_reaches 94 = .ok (.ior, 1) := by decide +kernel
theorem dX8_reaches_95 : decode cX8_reaches 95 = .ok (.istore 6, 2) := by decide +kernel
theorem dX8_reaches_97 : decode cX8_reaches 97 = .ok (.iinc 7 1, 3) := by decide +kernel
theorem dX8_reaches_100 : decode cX8_reaches 100 = .ok (.goto (-51), 3) := by decide +kernel
theorem dX8_reaches_103 : decode cX8_reaches 103 = .ok (.iload 6, 2) := by decide +kernel
theorem dX8_reaches_105 : decode cX8_reaches 105 = .ok (.ireturn, 1) := by decide +kernel
theorem dX8_mould_0 : decode cX8_mould 0 = .ok (.aload_n 0, 1) := by decide +kernel
theorem dX8_mould_1 : decode cX8_mould 1 = .ok (.iconst 0, 1) := by decide +kernel
theorem dX8_mould_2 : decode cX8_mould 2 = .ok (.putfield 50, 3) := by decide +kernel
theorem dX8_mould_5 : decode cX8_mould 5 = .ok (.aload_n 0, 1) := by decide +kernel
theorem dX8_mould_6 : decode cX8_mould 6 = .ok (.iload_n 1, 1) := by decide +kernel
theorem dX8_mould_7 : decode cX8_mould 7 = .ok (.invokevirtual 213, 3) := by decide +kernel
theorem dX8_mould_10 : decode cX8_mould 10 = .ok (.ifCond .eq 43, 3) := by decide +kernel
theorem dX8_mould_13 : decode cX8_mould 13 = .ok (.iload_n 2, 1) := by decide +kernel
theorem dX8_mould_14 : decode cX8_mould 14 = .ok (.i2l, 1) := by decide +kernel
theorem dX8_mould_15 : decode cX8_mould 15 = .ok (.invokestatic 209, 3) := by decide +kernel
theorem dX8_mould_18 : decode cX8_mould 18 = .ok (.ifCond .eq 35, 3) := by decide +kernel
theorem dX8_mould_21 : decode cX8_mould 21 = .ok (.aload_n 0, 1) := by decide +kernel
theorem dX8_mould_22 : decode cX8_mould 22 = .ok (.iload_n 3, 1) := by decide +kernel
theorem dX8_mould_23 : decode cX8_mould 23 = .ok (.invokevirtual 213, 3) := by decide +kernel
theorem dX8_mould_26 : decode cX8_mould 26 = .ok (.ifCond .eq 27, 3) := by decide +kernel
theorem dX8_mould_29 : decode cX8_mould 29 = .ok (.iload 4, 2) := by decide +kernel
theorem dX8_mould_31 : decode cX8_mould 31 = .ok (.i2l, 1) := by decide +kernel
theorem dX8_mould_32 : decode cX8_mould 32 = .ok (.lconst 0, 1) := by decide +kernel
theorem dX8_mould_33 : decode cX8_mould 33 = .ok (.ldc2_w 252, 3) := by decide +kernel
theorem dX8_mould_36 : decode cX8_mould 36 = .ok (.invokestatic 60, 3) := by decide +kernel
theorem dX8_mould_39 : decode cX8_mould 39 = .ok (.ifCond .eq 14, 3) := by decide +kernel
theorem dX8_mould_42 : decode cX8_mould 42 = .ok (.iload 5, 2) := by decide +kernel
theorem dX8_mould_44 : decode cX8_mould 44 = .ok (.i2l, 1) := by decide +kernel
theorem dX8_mould_45 : decode cX8_mould 45 = .ok (.lconst 0, 1) := by decide +kernel
theorem dX8_mould_46 : decode cX8_mould 46 = .ok (.lconst 1, 1) := by decide +kernel
theorem dX8_mould_47 : decode cX8_mould 47 = .ok (.invokestatic 60, 3) := by decide +kernel
theorem dX8_mould_50 : decode cX8_mould 50 = .ok (.ifCond .ne 7, 3) := by decide +kernel
theorem dX8_mould_53 : decode cX8_mould 53 = .ok (.ldc2_w 254, 3) := by decide +kernel
theorem dX8_mould_56 : decode cX8_mould 56 = .ok (.lreturn, 1) := by decide +kernel
theorem dX8_mould_57 : decode cX8_mould 57 = .ok (.aload_n 0, 1) := by decide +kernel
theorem dX8_mould_58 : decode cX8_mould 58 = .ok (.getfield 19, 3) := by decide +kernel
theorem dX8_mould_61 : decode cX8_mould 61 = .ok (.iconst 0, 1) := by decide +kernel
theorem dX8_mould_62 : decode cX8_mould 62 = .ok (.invokestatic 175, 3) := by decide +kernel
theorem dX8_mould_65 : decode cX8_mould 65 = .ok (.istore 6, 2) := by decide +kernel
theorem dX8_mould_67 : decode cX8_mould 67 = .ok (.lconst 0, 1) := by decide +kernel
end
section
theorem dX8_mould_68 : decode cX8_mould 68 = .ok (.lstore 7, 2) := by decide +kernel
theorem dX8_mould_70 : decode cX8_mould 70 = .ok (.lconst 0, 1) := by decide +kernel
theorem dX8_mould_71 : decode cX8_mould 71 = .ok (.lstore 9, 2) := by decide +kernel
theorem dX8_mould_73 : decode cX8_mould 73 = .ok (.iconst 0, 1) := by decide +kernel
theorem dX8_mould_74 : decode cX8_mould 74 = .ok (.istore 11, 2) := by decide +kernel
theorem dX8_mould_76 : decode cX8_mould 76 = .ok (.iload 11, 2) := by decide +kernel
theorem dX8_mould_78 : decode cX8_mould 78 = .ok (.iconst 1, 1) := by decide +kernel
theorem dX8_mould_79 : decode cX8_mould 79 = .ok (.aload_n 0, 1) := by decide +kernel
theorem dX8_mould_80 : decode cX8_mould 80 = .ok (.getfield 19, 3) := by decide +kernel
theorem dX8_mould_83 : decode cX8_mould 83 = .ok (.iconst 0, 1) := by decide +kernel
theorem dX8_mould_84 : decode cX8_mould 84 = .ok (.iaload, 1) := by decide +kernel
theorem dX8_mould_85 : decode cX8_mould 85 = .ok (.ishl, 1) := by decide +kernel
theorem dX8_mould_86 : decode cX8_mould 86 = .ok (.if_icmp .ge 126, 3) := by decide +kernel
theorem dX8_mould_89 : decode cX8_mould 89 = .ok (.iload 11, 2) := by decide +kernel
theorem dX8_mould_91 : decode cX8_mould 91 = .ok (.iload 6, 2) := by decide +kernel
theorem dX8_mould_93 : decode cX8_mould 93 = .ok (.iconst (-1), 1) := by decide +kernel
theorem dX8_mould_94 : decode cX8_mould 94 = .ok (.ixor, 1) := by decide +kernel
theorem dX8_mould_95 : decode cX8_mould 95 = .ok (.iand, 1) := by decide +kernel
theorem dX8_mould_96 : decode cX8_mould 96 = .ok (.ifCond .ne 110, 3) := by decide +kernel
theorem dX8_mould_99 : decode cX8_mould 99 = .ok (.lconst 1, 1) := by decide +kernel
theorem dX8_mould_100 : decode cX8_mould 100 = .ok (.lstore 12, 2) := by decide +kernel
theorem dX8_mould_102 : decode cX8_mould 102 = .ok (.iconst 0, 1) := by decide +kernel
theorem dX8_mould_103 : decode cX8_mould 103 = .ok (.istore 14, 2) := by decide +kernel
theorem dX8_mould_105 : decode cX8_mould 105 = .ok (.iload 14, 2) := by decide +kernel
theorem dX8_mould_107 : decode cX8_mould 107 = .ok (.aload_n 0, 1) := by decide +kernel
theorem dX8_mould_108 : decode cX8_mould 108 = .ok (.getfield 19, 3) := by decide +kernel
theorem dX8_mould_111 : decode cX8_mould 111 = .ok (.iconst 0, 1) := by decide +kernel
theorem dX8_mould_112 : decode cX8_mould 112 = .ok (.iaload, 1) := by decide +kernel
theorem dX8_mould_113 : decode cX8_mould 113 = .ok (.if_icmp .ge 51, 3) := by decide +kernel
theorem dX8_mould_116 : decode cX8_mould 116 = .ok (.lload 12, 2) := by decide +kernel
theorem dX8_mould_118 : decode cX8_mould 118 = .ok (.iload 6, 2) := by decide +kernel
theorem dX8_mould_120 : decode cX8_mould 120 = .ok (.iload 14, 2) := by decide +kernel
theorem dX8_mould_122 : decode cX8_mould 122 = .ok (.invokestatic 167, 3) := by decide +kernel
theorem dX8_mould_125 : decode cX8_mould 125 = .ok (.ifCond .ne 7, 3) := by decide +kernel
theorem dX8_mould_128 : decode cX8_mould 128 = .ok (.lconst 1, 1) := by decide +kernel
theorem dX8_mould_129 : decode cX8_mould 129 = .ok (.goto 26, 3) := by decide +kernel
theorem dX8_mould_132 : decode cX8_mould 132 = .ok (.iload 11, 2) := by decide +kernel
theorem dX8_mould_134 : decode cX8_mould 134 = .ok (.iload 14, 2) := by decide +kernel
theorem dX8_mould_136 : decode cX8_mould 136 = .ok (.invokestatic 167, 3) := by decide +kernel
theorem dX8_mould_139 : decode cX8_mould 139 = .ok (.ifCond .eq 9, 3) := by decide +kernel
theorem dX8_mould_142 : decode cX8_mould 142 = .ok (.iload 4, 2) := by decide +kernel
theorem dX8_mould_144 : decode cX8_mould 144 = .ok (.i2l, 1) := by decide +kernel
theorem dX8_mould_145 : decode cX8_mould 145 = .ok (.goto 10, 3) := by decide +kernel
theorem dX8_mould_148 : decode cX8_mould 148 = .ok (.ldc2_w 252, 3) := by decide +kernel
theorem dX8_mould_151 : decode cX8_mould 151 = .ok (.iload 4, 2) := by decide +kernel
theorem dX8_mould_153 : decode cX8_mould 153 = .ok (.i2l, 1) := by decide +kernel
theorem dX8_mould_154 : decode cX8_mould 154 = .ok (.lsub, 1) := by decide +kernel
theorem dX8_mould_155 : decode cX8_mould 155 = .ok (.lmul, 1) := by decide +kernel
theorem dX8_mould_156 : decode cX8_mould 156 = .ok (.lstore 12, 2) := by decide +kernel
theorem dX8_mould_158 : decode cX8_mould 158 = .ok (.iinc 14 1, 3) := by decide +kernel
theorem dX8_mould_161 : decode cX8_mould 161 = .ok (.goto (-56), 3) := by decide +kernel
theorem dX8_mould_164 : decode cX8_mould 164 = .ok (.lload 9, 2) := by decide +kernel
theorem dX8_mould_166 : decode cX8_mould 166 = .ok (.lload 12, 2) := by decide +kernel
theorem dX8_mould_168 : decode cX8_mould 168 = .ok (.ladd, 1) := by decide +kernel
theorem dX8_mould_169 : decode cX8_mould 169 = .ok (.lstore 9, 2) := by decide +kernel
theorem dX8_mould_171 : decode cX8_mould 171 = .ok (.lload 7, 2) := by decide +kernel
theorem dX8_mould_173 : decode cX8_mould 173 = .ok (.aload_n 0, 1) := by decide +kernel
theorem dX8_mould_174 : decode cX8_mould 174 = .ok (.aload_n 0, 1) := by decide +kernel
theorem dX8_mould_175 : decode cX8_mould 175 = .ok (.getfield 19, 3) := by decide +kernel
theorem dX8_mould_178 : decode cX8_mould 178 = .ok (.iload_n 2, 1) := by decide +kernel
theorem dX8_mould_179 : decode cX8_mould 179 = .ok (.iload_n 3, 1) := by decide +kernel
theorem dX8_mould_180 : decode cX8_mould 180 = .ok (.iload 6, 2) := by decide +kernel
theorem dX8_mould_182 : decode cX8_mould 182 = .ok (.iload 11, 2) := by decide +kernel
theorem dX8_mould_184 : decode cX8_mould 184 = .ok (.iconst (-1), 1) := by decide +kernel
theorem dX8_mould_185 : decode cX8_mould 185 = .ok (.ixor, 1) := by decide +kernel
theorem dX8_mould_186 : decode cX8_mould 186 = .ok (.iand, 1) := by decide +kernel
theorem dX8_mould_187 : decode cX8_mould 187 = .ok (.invokevirtual 179, 3) := by decide +kernel
theorem dX8_mould_190 : decode cX8_mould 190 = .ok (.iload_n 1, 1) := by decide +kernel
theorem dX8_mould_191 : decode cX8_mould 191 = .ok (.invokestatic 167, 3) := by decide +kernel
theorem dX8_mould_194 : decode cX8_mould 194 = .ok (.ifCond .eq 8, 3) := by decide +kernel
theorem dX8_mould_197 : decode cX8_mould 197 = .ok (.lload 12, 2) := by decide +kernel
theorem dX8_mould_199 : decode cX8_mould 199 = .ok (.goto 4, 3) := by decide +kernel
theorem dX8_mould_202 : decode cX8_mould 202 = .ok (.lconst 0, 1) := by decide +kernel
theorem dX8_mould_203 : decode cX8_mould 203 = .ok (.ladd, 1) := by decide +kernel
theorem dX8_mould_204 : decode cX8_mould 204 = .ok (.lstore 7, 2) := by decide +kernel
theorem dX8_mould_206 : decode cX8_mould 206 = .ok (.iinc 11 1, 3) := by decide +kernel
theorem dX8_mould_209 : decode cX8_mould 209 = .ok (.goto (-133), 3) := by decide +kernel
theorem dX8_mould_212 : decode cX8_mould 212 = .ok (.lload 7, 2) := by decide +kernel
theorem dX8_mould_214 : decode cX8_mould 214 = .ok (.lstore 11, 2) := by decide +kernel
theorem dX8_mould_216 : decode cX8_mould 216 = .ok (.lload 9, 2) := by decide +kernel
theorem dX8_mould_218 : decode cX8_mould 218 = .ok (.lstore 13, 2) := by decide +kernel
theorem dX8_mould_220 : decode cX8_mould 220 = .ok (.lload 13, 2) := by decide +kernel
theorem dX8_mould_222 : decode cX8_mould 222 = .ok (.lconst 0, 1) := by decide +kernel
theorem dX8_mould_223 : decode cX8_mould 223 = .ok (.lcmp, 1) := by decide +kernel
theorem dX8_mould_224 : decode cX8_mould 224 = .ok (.ifCond .eq 21, 3) := by decide +kernel
theorem dX8_mould_227 : decode cX8_mould 227 = .ok (.lload 11, 2) := by decide +kernel
theorem dX8_mould_229 : decode cX8_mould 229 = .ok (.lload 13, 2) := by decide +kernel
theorem dX8_mould_231 : decode cX8_mould 231 = .ok (.lrem, 1) := by decide +kernel
theorem dX8_mould_232 : decode cX8_mould 232 = .ok (.lstore 15, 2) := by decide +kernel
theorem dX8_mould_234 : decode cX8_mould 234 = .ok (.lload 13, 2) := by decide +kernel
theorem dX8_mould_236 : decode cX8_mould 236 = .ok (.lstore 11, 2) := by decide +kernel
theorem dX8_mould_238 : decode cX8_mould 238 = .ok (.lload 15, 2) := by decide +kernel
theorem dX8_mould_240 : decode cX8_mould 240 = .ok (.lstore 13, 2) := by decide +kernel
theorem dX8_mould_242 : decode cX8_mould 242 = .ok (.goto (-22), 3) := by decide +kernel
theorem dX8_mould_245 : decode cX8_mould 245 = .ok (.iload 5, 2) := by decide +kernel
theorem dX8_mould_247 : decode cX8_mould 247 = .ok (.ifCond .ne 8, 3) := by decide +kernel
theorem dX8_mould_250 : decode cX8_mould 250 = .ok (.lload 7, 2) := by decide +kernel
theorem dX8_mould_252 : decode cX8_mould 252 = .ok (.goto 5, 3) := by decide +kernel
theorem dX8_mould_255 : decode cX8_mould 255 = .ok (.lload 9, 2) := by decide +kernel
theorem dX8_mould_257 : decode cX8_mould 257 = .ok (.lload 11, 2) := by decide +kernel
theorem dX8_mould_259 : decode cX8_mould 259 = .ok (.ldiv, 1) := by decide +kernel
theorem dX8_mould_260 : decode cX8_mould 260 = .ok (.lreturn, 1) := by decide +kernel
theorem dX8_drawn_0 : decode cX8_drawn 0 = .ok (.aload_n 0, 1) := by decide +kernel
theorem dX8_drawn_1 : decode cX8_drawn 1 = .ok (.iconst 0, 1) := by decide +kernel
theorem dX8_drawn_2 : decode cX8_drawn 2 = .ok (.putfield 50, 3) := by decide +kernel
theorem dX8_drawn_5 : decode cX8_drawn 5 = .ok (.aload_n 0, 1) := by decide +kernel
theorem dX8_drawn_6 : decode cX8_drawn 6 = .ok (.invokevirtual 196, 3) := by decide +kernel
theorem dX8_drawn_9 : decode cX8_drawn 9 = .ok (.ifCond .ne 6, 3) := by decide +kernel
theorem dX8_drawn_12 : decode cX8_drawn 12 = .ok (.ldc 199, 2) := by decide +kernel
theorem dX8_drawn_14 : decode cX8_drawn 14 = .ok (.ireturn, 1) := by decide +kernel
theorem dX8_drawn_15 : decode cX8_drawn 15 = .ok (.iload_n 1, 1) := by decide +kernel
theorem dX8_drawn_16 : decode cX8_drawn 16 = .ok (.i2l, 1) := by decide +kernel
theorem dX8_drawn_17 : decode cX8_drawn 17 = .ok (.lconst 0, 1) := by decide +kernel
theorem dX8_drawn_18 : decode cX8_drawn 18 = .ok (.ldc2_w 223, 3) := by decide +kernel
theorem dX8_drawn_21 : decode cX8_drawn 21 = .ok (.invokestatic 60, 3) := by decide +kernel
theorem dX8_drawn_24 : decode cX8_drawn 24 = .ok (.ifCond .eq 25, 3) := by decide +kernel
theorem dX8_drawn_27 : decode cX8_drawn 27 = .ok (.iload_n 2, 1) := by decide +kernel
theorem dX8_drawn_28 : decode cX8_drawn 28 = .ok (.i2l, 1) := by decide +kernel
theorem dX8_drawn_29 : decode cX8_drawn 29 = .ok (.lconst 1, 1) := by decide +kernel
theorem dX8_drawn_30 : decode cX8_drawn 30 = .ok (.ldc2_w 256, 3) := by decide +kernel
theorem dX8_drawn_33 : decode cX8_drawn 33 = .ok (.invokestatic 60, 3) := by decide +kernel
theorem dX8_drawn_36 : decode cX8_drawn 36 = .ok (.ifCond .eq 13, 3) := by decide +kernel
theorem dX8_drawn_39 : decode cX8_drawn 39 = .ok (.iload_n 3, 1) := by decide +kernel
theorem dX8_drawn_40 : decode cX8_drawn 40 = .ok (.i2l, 1) := by decide +kernel
theorem dX8_drawn_41 : decode cX8_drawn 41 = .ok (.lconst 0, 1) := by decide +kernel
theorem dX8_drawn_42 : decode cX8_drawn 42 = .ok (.lconst 1, 1) := by decide +kernel
theorem dX8_drawn_43 : decode cX8_drawn 43 = .ok (.invokestatic 60, 3) := by decide +kernel
theorem dX8_drawn_46 : decode cX8_drawn 46 = .ok (.ifCond .ne 6, 3) := by decide +kernel
theorem dX8_drawn_49 : decode cX8_drawn 49 = .ok (.ldc 70, 2) := by decide +kernel
theorem dX8_drawn_51 : decode cX8_drawn 51 = .ok (.ireturn, 1) := by decide +kernel
theorem dX8_drawn_52 : decode cX8_drawn 52 = .ok (.aload_n 0, 1) := by decide +kernel
theorem dX8_drawn_53 : decode cX8_drawn 53 = .ok (.invokevirtual 233, 3) := by decide +kernel
theorem dX8_drawn_56 : decode cX8_drawn 56 = .ok (.iload_n 2, 1) := by decide +kernel
theorem dX8_drawn_57 : decode cX8_drawn 57 = .ok (.i2l, 1) := by decide +kernel
theorem dX8_drawn_58 : decode cX8_drawn 58 = .ok (.lstore 4, 2) := by decide +kernel
theorem dX8_drawn_60 : decode cX8_drawn 60 = .ok (.iconst 0, 1) := by decide +kernel
theorem dX8_drawn_61 : decode cX8_drawn 61 = .ok (.istore 6, 2) := by decide +kernel
theorem dX8_drawn_63 : decode cX8_drawn 63 = .ok (.iload 6, 2) := by decide +kernel
theorem dX8_drawn_65 : decode cX8_drawn 65 = .ok (.iload_n 1, 1) := by decide +kernel
theorem dX8_drawn_66 : decode cX8_drawn 66 = .ok (.if_icmp .ge 65, 3) := by decide +kernel
theorem dX8_drawn_69 : decode cX8_drawn 69 = .ok (.lload 4, 2) := by decide +kernel
theorem dX8_drawn_71 : decode cX8_drawn 71 = .ok (.ldc2_w 258, 3) := by decide +kernel
theorem dX8_drawn_74 : decode cX8_drawn 74 = .ok (.lmul, 1) := by decide +kernel
theorem dX8_drawn_75 : decode cX8_drawn 75 = .ok (.ldc2_w 260, 3) := by decide +kernel
theorem dX8_drawn_78 : decode cX8_drawn 78 = .ok (.lrem, 1) := by decide +kernel
theorem dX8_drawn_79 : decode cX8_drawn 79 = .ok (.lstore 4, 2) := by decide +kernel
theorem dX8_drawn_81 : decode cX8_drawn 81 = .ok (.lload 4, 2) := by decide +kernel
theorem dX8_drawn_83 : decode cX8_drawn 83 = .ok (.ldc2_w 227, 3) := by decide +kernel
theorem dX8_drawn_86 : decode cX8_drawn 86 = .ok (.lrem, 1) := by decide +kernel
theorem dX8_drawn_87 : decode cX8_drawn 87 = .ok (.lconst 0, 1) := by decide +kernel
theorem dX8_drawn_88 : decode cX8_drawn 88 = .ok (.lcmp, 1) := by decide +kernel
theorem dX8_drawn_89 : decode cX8_drawn 89 = .ok (.ifCond .ne 29, 3) := by decide +kernel
theorem dX8_drawn_92 : decode cX8_drawn 92 = .ok (.aload_n 0, 1) := by decide +kernel
theorem dX8_drawn_93 : decode cX8_drawn 93 = .ok (.aload_n 0, 1) := by decide +kernel
theorem dX8_drawn_94 : decode cX8_drawn 94 = .ok (.getfield 25, 3) := by decide +kernel
theorem dX8_drawn_97 : decode cX8_drawn 97 = .ok (.lload 4, 2) := by decide +kernel
theorem dX8_drawn_99 : decode cX8_drawn 99 = .ok (.ldc2_w 239, 3) := by decide +kernel
theorem dX8_drawn_102 : decode cX8_drawn 102 = .ok (.lrem, 1) := by decide +kernel
theorem dX8_drawn_103 : decode cX8_drawn 103 = .ok (.l2i, 1) := by decide +kernel
theorem dX8_drawn_104 : decode cX8_drawn 104 = .ok (.lload 4, 2) := by decide +kernel
theorem dX8_drawn_106 : decode cX8_drawn 106 = .ok (.aload_n 0, 1) := by decide +kernel
theorem dX8_drawn_107 : decode cX8_drawn 107 = .ok (.getfield 25, 3) := by decide +kernel
theorem dX8_drawn_110 : decode cX8_drawn 110 = .ok (.iconst 0, 1) := by decide +kernel
theorem dX8_drawn_111 : decode cX8_drawn 111 = .ok (.iaload, 1) := by decide +kernel
theorem dX8_drawn_112 : decode cX8_drawn 112 = .ok (.i2l, 1) := by decide +kernel
theorem dX8_drawn_113 : decode cX8_drawn 113 = .ok (.lrem, 1) := by decide +kernel
theorem dX8_drawn_114 : decode cX8_drawn 114 = .ok (.l2i, 1) := by decide +kernel
theorem dX8_drawn_115 : decode cX8_drawn 115 = .ok (.invokevirtual 216, 3) := by decide +kernel
theorem dX8_drawn_118 : decode cX8_drawn 118 = .ok (.aload_n 0, 1) := by decide +kernel
theorem dX8_drawn_119 : decode cX8_drawn 119 = .ok (.getfield 25, 3) := by decide +kernel
theorem dX8_drawn_122 : decode cX8_drawn 122 = .ok (.invokestatic 205, 3) := by decide +kernel
theorem dX8_drawn_125 : decode cX8_drawn 125 = .ok (.iinc 6 1, 3) := by decide +kernel
theorem dX8_drawn_128 : decode cX8_drawn 128 = .ok (.goto (-65), 3) := by decide +kernel
theorem dX8_drawn_131 : decode cX8_drawn 131 = .ok (.iload_n 3, 1) := by decide +kernel
theorem dX8_drawn_132 : decode cX8_drawn 132 = .ok (.ifCond .ne 14, 3) := by decide +kernel
theorem dX8_drawn_135 : decode cX8_drawn 135 = .ok (.aload_n 0, 1) := by decide +kernel
theorem dX8_drawn_136 : decode cX8_drawn 136 = .ok (.getfield 25, 3) := by decide +kernel
theorem dX8_drawn_139 : decode cX8_drawn 139 = .ok (.iconst 0, 1) := by decide +kernel
theorem dX8_drawn_140 : decode cX8_drawn 140 = .ok (.invokestatic 175, 3) := by decide +kernel
theorem dX8_drawn_143 : decode cX8_drawn 143 = .ok (.goto 14, 3) := by decide +kernel
theorem dX8_drawn_146 : decode cX8_drawn 146 = .ok (.aload_n 0, 1) := by decide +kernel
theorem dX8_drawn_147 : decode cX8_drawn 147 = .ok (.getfield 25, 3) := by decide +kernel
theorem dX8_drawn_150 : decode cX8_drawn 150 = .ok (.iconst 1, 1) := by decide +kernel
theorem dX8_drawn_151 : decode cX8_drawn 151 = .ok (.invokestatic 175, 3) := by decide +kernel
theorem dX8_drawn_154 : decode cX8_drawn 154 = .ok (.invokestatic 183, 3) := by decide +kernel
theorem dX8_drawn_157 : decode cX8_drawn 157 = .ok (.ireturn, 1) := by decide +kernel
theorem dX8_image_0 : decode cX8_image 0 = .ok (.aload_n 0, 1) := by decide +kernel
theorem dX8_image_1 : decode cX8_image 1 = .ok (.iconst 0, 1) := by decide +kernel
theorem dX8_image_2 : decode cX8_image 2 = .ok (.putfield 50, 3) := by decide +kernel
theorem dX8_image_5 : decode cX8_image 5 = .ok (.iload_n 1, 1) := by decide +kernel
theorem dX8_image_6 : decode cX8_image 6 = .ok (.i2l, 1) := by decide +kernel
theorem dX8_image_7 : decode cX8_image 7 = .ok (.lconst 0, 1) := by decide +kernel
theorem dX8_image_8 : decode cX8_image 8 = .ok (.lconst 1, 1) := by decide +kernel
theorem dX8_image_9 : decode cX8_image 9 = .ok (.invokestatic 60, 3) := by decide +kernel
theorem dX8_image_12 : decode cX8_image 12 = .ok (.ifCond .ne 6, 3) := by decide +kernel
theorem dX8_image_15 : decode cX8_image 15 = .ok (.ldc 70, 2) := by decide +kernel
theorem dX8_image_17 : decode cX8_image 17 = .ok (.ireturn, 1) := by decide +kernel
theorem dX8_image_18 : decode cX8_image 18 = .ok (.aload_n 0, 1) := by decide +kernel
theorem dX8_image_19 : decode cX8_image 19 = .ok (.invokevirtual 196, 3) := by decide +kernel
theorem dX8_image_22 : decode cX8_image 22 = .ok (.ifCond .ne 6, 3) := by decide +kernel
theorem dX8_image_25 : decode cX8_image 25 = .ok (.ldc 199, 2) := by decide +kernel
theorem dX8_image_27 : decode cX8_image 27 = .ok (.ireturn, 1) := by decide +kernel
theorem dX8_image_28 : decode cX8_image 28 = .ok (.iconst 0, 1) := by decide +kernel
theorem dX8_image_29 : decode cX8_image 29 = .ok (.istore_n 2, 1) := by decide +kernel
theorem dX8_image_30 : decode cX8_image 30 = .ok (.iload_n 2, 1) := by decide +kernel
theorem dX8_image_31 : decode cX8_image 31 = .ok (.bipush 43, 2) := by decide +kernel
theorem dX8_image_33 : decode cX8_image 33 = .ok (.if_icmp .ge 26, 3) := by decide +kernel
theorem dX8_image_36 : decode cX8_image 36 = .ok (.aload_n 0, 1) := by decide +kernel
theorem dX8_image_37 : decode cX8_image 37 = .ok (.getfield 44, 3) := by decide +kernel
theorem dX8_image_40 : decode cX8_image 40 = .ok (.bipush 43, 2) := by decide +kernel
theorem dX8_image_42 : decode cX8_image 42 = .ok (.iload_n 1, 1) := by decide +kernel
theorem dX8_image_43 : decode cX8_image 43 = .ok (.imul, 1) := by decide +kernel
theorem dX8_image_44 : decode cX8_image 44 = .ok (.iload_n 2, 1) := by decide +kernel
theorem dX8_image_45 : decode cX8_image 45 = .ok (.iadd, 1) := by decide +kernel
theorem dX8_image_46 : decode cX8_image 46 = .ok (.aload_n 0, 1) := by decide +kernel
theorem dX8_image_47 : decode cX8_image 47 = .ok (.getfield 19, 3) := by decide +kernel
theorem dX8_image_50 : decode cX8_image 50 = .ok (.iload_n 2, 1) := by decide +kernel
theorem dX8_image_51 : decode cX8_image 51 = .ok (.iaload, 1) := by decide +kernel
theorem dX8_image_52 : decode cX8_image 52 = .ok (.iastore, 1) := by decide +kernel
theorem dX8_image_53 : decode cX8_image 53 = .ok (.iinc 2 1, 3) := by decide +kernel
theorem dX8_image_56 : decode cX8_image 56 = .ok (.goto (-26), 3) := by decide +kernel
theorem dX8_image_59 : decode cX8_image 59 = .ok (.aload_n 0, 1) := by decide +kernel
theorem dX8_image_60 : decode cX8_image 60 = .ok (.getfield 40, 3) := by decide +kernel
theorem dX8_image_63 : decode cX8_image 63 = .ok (.iload_n 1, 1) := by decide +kernel
theorem dX8_image_64 : decode cX8_image 64 = .ok (.iconst 1, 1) := by decide +kernel
theorem dX8_image_65 : decode cX8_image 65 = .ok (.bastore, 1) := by decide +kernel
theorem dX8_image_66 : decode cX8_image 66 = .ok (.iconst 1, 1) := by decide +kernel
theorem dX8_image_67 : decode cX8_image 67 = .ok (.ireturn, 1) := by decide +kernel
theorem dX8_restore_0 : decode cX8_restore 0 = .ok (.aload_n 0, 1) := by decide +kernel
theorem dX8_restore_1 : decode cX8_restore 1 = .ok (.iconst 0, 1) := by decide +kernel
theorem dX8_restore_2 : decode cX8_restore 2 = .ok (.putfield 50, 3) := by decide +kernel
theorem dX8_restore_5 : decode cX8_restore 5 = .ok (.iload_n 1, 1) := by decide +kernel
theorem dX8_restore_6 : decode cX8_restore 6 = .ok (.i2l, 1) := by decide +kernel
theorem dX8_restore_7 : decode cX8_restore 7 = .ok (.lconst 0, 1) := by decide +kernel
theorem dX8_restore_8 : decode cX8_restore 8 = .ok (.lconst 1, 1) := by decide +kernel
theorem dX8_restore_9 : decode cX8_restore 9 = .ok (.invokestatic 60, 3) := by decide +kernel
theorem dX8_restore_12 : decode cX8_restore 12 = .ok (.ifCond .ne 6, 3) := by decide +kernel
theorem dX8_restore_15 : decode cX8_restore 15 = .ok (.ldc 70, 2) := by decide +kernel
theorem dX8_restore_17 : decode cX8_restore 17 = .ok (.ireturn, 1) := by decide +kernel
theorem dX8_restore_18 : decode cX8_restore 18 = .ok (.aload_n 0, 1) := by decide +kernel
theorem dX8_restore_19 : decode cX8_restore 19 = .ok (.getfield 40, 3) := by decide +kernel
theorem dX8_restore_22 : decode cX8_restore 22 = .ok (.iload_n 1, 1) := by decide +kernel
theorem dX8_restore_23 : decode cX8_restore 23 = .ok (.baload, 1) := by decide +kernel
theorem dX8_restore_24 : decode cX8_restore 24 = .ok (.ifCond .ne 6, 3) := by decide +kernel
theorem dX8_restore_27 : decode cX8_restore 27 = .ok (.ldc 199, 2) := by decide +kernel
theorem dX8_restore_29 : decode cX8_restore 29 = .ok (.ireturn, 1) := by decide +kernel
theorem dX8_restore_30 : decode cX8_restore 30 = .ok (.iconst 0, 1) := by decide +kernel
theorem dX8_restore_31 : decode cX8_restore 31 = .ok (.istore_n 2, 1) := by decide +kernel
theorem dX8_restore_32 : decode cX8_restore 32 = .ok (.iload_n 2, 1) := by decide +kernel
theorem dX8_restore_33 : decode cX8_restore 33 = .ok (.bipush 43, 2) := by decide +kernel
theorem dX8_restore_35 : decode cX8_restore 35 = .ok (.if_icmp .ge 26, 3) := by decide +kernel
theorem dX8_restore_38 : decode cX8_restore 38 = .ok (.aload_n 0, 1) := by decide +kernel
theorem dX8_restore_39 : decode cX8_restore 39 = .ok (.getfield 19, 3) := by decide +kernel
theorem dX8_restore_42 : decode cX8_restore 42 = .ok (.iload_n 2, 1) := by decide +kernel
theorem dX8_restore_43 : decode cX8_restore 43 = .ok (.aload_n 0, 1) := by decide +kernel
theorem dX8_restore_44 : decode cX8_restore 44 = .ok (.getfield 44, 3) := by decide +kernel
theorem dX8_restore_47 : decode cX8_restore 47 = .ok (.bipush 43, 2) := by decide +kernel
theorem dX8_restore_49 : decode cX8_restore 49 = .ok (.iload_n 1, 1) := by decide +kernel
theorem dX8_restore_50 : decode cX8_restore 50 = .ok (.imul, 1) := by decide +kernel
theorem dX8_restore_51 : decode cX8_restore 51 = .ok (.iload_n 2, 1) := by decide +kernel
theorem dX8_restore_52 : decode cX8_restore 52 = .ok (.iadd, 1) := by decide +kernel
theorem dX8_restore_53 : decode cX8_restore 53 = .ok (.iaload, 1) := by decide +kernel
theorem dX8_restore_54 : decode cX8_restore 54 = .ok (.iastore, 1) := by decide +kernel
theorem dX8_restore_55 : decode cX8_restore 55 = .ok (.iinc 2 1, 3) := by decide +kernel
theorem dX8_restore_58 : decode cX8_restore 58 = .ok (.goto (-26), 3) := by decide +kernel
theorem dX8_restore_61 : decode cX8_restore 61 = .ok (.aload_n 0, 1) := by decide +kernel
theorem dX8_restore_62 : decode cX8_restore 62 = .ok (.iconst 0, 1) := by decide +kernel
theorem dX8_restore_63 : decode cX8_restore 63 = .ok (.putfield 149, 3) := by decide +kernel
theorem dX8_restore_66 : decode cX8_restore 66 = .ok (.iconst 1, 1) := by decide +kernel
theorem dX8_restore_67 : decode cX8_restore 67 = .ok (.ireturn, 1) := by decide +kernel
theorem dX8_isOf_0 : decode cX8_isOf 0 = .ok (.iload_n 1, 1) := by decide +kernel
theorem dX8_isOf_1 : decode cX8_isOf 1 = .ok (.ifCond .eq 28, 3) := by decide +kernel
theorem dX8_isOf_4 : decode cX8_isOf 4 = .ok (.iload_n 0, 1) := by decide +kernel
theorem dX8_isOf_5 : decode cX8_isOf 5 = .ok (.iload_n 1, 1) := by decide +kernel
theorem dX8_isOf_6 : decode cX8_isOf 6 = .ok (.if_icmp .eq 23, 3) := by decide +kernel
theorem dX8_isOf_9 : decode cX8_isOf 9 = .ok (.iload_n 1, 1) := by decide +kernel
theorem dX8_isOf_10 : decode cX8_isOf 10 = .ok (.iconst 1, 1) := by decide +kernel
theorem dX8_isOf_11 : decode cX8_isOf 11 = .ok (.if_icmp .ne 8, 3) := by decide +kernel
theorem dX8_isOf_14 : decode cX8_isOf 14 = .ok (.iload_n 0, 1) := by decide +kernel
theorem dX8_isOf_15 : decode cX8_isOf 15 = .ok (.iconst 4, 1) := by decide +kernel
theorem dX8_isOf_16 : decode cX8_isOf 16 = .ok (.if_icmp .lt 13, 3) := by decide +kernel
theorem dX8_isOf_19 : decode cX8_isOf 19 = .ok (.iload_n 1, 1) := by decide +kernel
theorem dX8_isOf_20 : decode cX8_isOf 20 = .ok (.iconst 4, 1) := by decide +kernel
theorem dX8_isOf_21 : decode cX8_isOf 21 = .ok (.if_icmp .ne 12, 3) := by decide +kernel
theorem dX8_isOf_24 : decode cX8_isOf 24 = .ok (.iload_n 0, 1) := by decide +kernel
theorem dX8_isOf_25 : decode cX8_isOf 25 = .ok (.iconst 5, 1) := by decide +kernel
theorem dX8_isOf_26 : decode cX8_isOf 26 = .ok (.if_icmp .ne 7, 3) := by decide +kernel
theorem dX8_isOf_29 : decode cX8_isOf 29 = .ok (.iconst 1, 1) := by decide +kernel
theorem dX8_isOf_30 : decode cX8_isOf 30 = .ok (.goto 4, 3) := by decide +kernel
theorem dX8_isOf_33 : decode cX8_isOf 33 = .ok (.iconst 0, 1) := by decide +kernel
theorem dX8_isOf_34 : decode cX8_isOf 34 = .ok (.ireturn, 1) := by decide +kernel
theorem dX8_kind_0 : decode cX8_kind 0 = .ok (.aload_n 0, 1) := by decide +kernel
theorem dX8_kind_1 : decode cX8_kind 1 = .ok (.iconst 0, 1) := by decide +kernel
theorem dX8_kind_2 : decode cX8_kind 2 = .ok (.putfield 50, 3) := by decide +kernel
theorem dX8_kind_5 : decode cX8_kind 5 = .ok (.aload_n 0, 1) := by decide +kernel
theorem dX8_kind_6 : decode cX8_kind 6 = .ok (.iload_n 1, 1) := by decide +kernel
theorem dX8_kind_7 : decode cX8_kind 7 = .ok (.invokevirtual 213, 3) := by decide +kernel
theorem dX8_kind_10 : decode cX8_kind 10 = .ok (.ifCond .eq 15, 3) := by decide +kernel
theorem dX8_kind_13 : decode cX8_kind 13 = .ok (.aload_n 0, 1) := by decide +kernel
theorem dX8_kind_14 : decode cX8_kind 14 = .ok (.getfield 19, 3) := by decide +kernel
theorem dX8_kind_17 : decode cX8_kind 17 = .ok (.iload_n 1, 1) := by decide +kernel
theorem dX8_kind_18 : decode cX8_kind 18 = .ok (.iconst 0, 1) := by decide +kernel
theorem dX8_kind_19 : decode cX8_kind 19 = .ok (.invokestatic 154, 3) := by decide +kernel
theorem dX8_kind_22 : decode cX8_kind 22 = .ok (.goto 5, 3) := by decide +kernel
theorem dX8_kind_25 : decode cX8_kind 25 = .ok (.ldc 70, 2) := by decide +kernel
theorem dX8_kind_27 : decode cX8_kind 27 = .ok (.ireturn, 1) := by decide +kernel
theorem dX8_as_0 : decode cX8_as 0 = .ok (.aload_n 0, 1) := by decide +kernel
theorem dX8_as_1 : decode cX8_as 1 = .ok (.iconst 0, 1) := by decide +kernel
theorem dX8_as_2 : decode cX8_as 2 = .ok (.putfield 50, 3) := by decide +kernel
theorem dX8_as_5 : decode cX8_as 5 = .ok (.aload_n 0, 1) := by decide +kernel
theorem dX8_as_6 : decode cX8_as 6 = .ok (.iload_n 1, 1) := by decide +kernel
theorem dX8_as_7 : decode cX8_as 7 = .ok (.invokevirtual 213, 3) := by decide +kernel
theorem dX8_as_10 : decode cX8_as 10 = .ok (.ifCond .eq 15, 3) := by decide +kernel
theorem dX8_as_13 : decode cX8_as 13 = .ok (.iload_n 2, 1) := by decide +kernel
theorem dX8_as_14 : decode cX8_as 14 = .ok (.i2l, 1) := by decide +kernel
theorem dX8_as_15 : decode cX8_as 15 = .ok (.lconst 0, 1) := by decide +kernel
theorem dX8_as_16 : decode cX8_as 16 = .ok (.ldc2_w 262, 3) := by decide +kernel
theorem dX8_as_19 : decode cX8_as 19 = .ok (.invokestatic 60, 3) := by decide +kernel
theorem dX8_as_22 : decode cX8_as 22 = .ok (.ifCond .ne 6, 3) := by decide +kernel
theorem dX8_as_25 : decode cX8_as 25 = .ok (.ldc 70, 2) := by decide +kernel
theorem dX8_as_27 : decode cX8_as 27 = .ok (.ireturn, 1) := by decide +kernel
theorem dX8_as_28 : decode cX8_as 28 = .ok (.aload_n 0, 1) := by decide +kernel
theorem dX8_as_29 : decode cX8_as 29 = .ok (.iconst 0, 1) := by decide +kernel
theorem dX8_as_30 : decode cX8_as 30 = .ok (.putfield 54, 3) := by decide +kernel
theorem dX8_as_33 : decode cX8_as 33 = .ok (.aload_n 0, 1) := by decide +kernel
theorem dX8_as_34 : decode cX8_as 34 = .ok (.getfield 19, 3) := by decide +kernel
theorem dX8_as_37 : decode cX8_as 37 = .ok (.iload_n 1, 1) := by decide +kernel
theorem dX8_as_38 : decode cX8_as 38 = .ok (.iconst 0, 1) := by decide +kernel
theorem dX8_as_39 : decode cX8_as 39 = .ok (.invokestatic 154, 3) := by decide +kernel
theorem dX8_as_42 : decode cX8_as 42 = .ok (.iload_n 2, 1) := by decide +kernel
theorem dX8_as_43 : decode cX8_as 43 = .ok (.invokestatic 264, 3) := by decide +kernel
theorem dX8_as_46 : decode cX8_as 46 = .ok (.ifCond .eq 7, 3) := by decide +kernel
theorem dX8_as_49 : decode cX8_as 49 = .ok (.iload_n 1, 1) := by decide +kernel
theorem dX8_as_50 : decode cX8_as 50 = .ok (.goto 8, 3) := by decide +kernel
theorem dX8_as_53 : decode cX8_as 53 = .ok (.aload_n 0, 1) := by decide +kernel
theorem dX8_as_54 : decode cX8_as 54 = .ok (.iconst 3, 1) := by decide +kernel
theorem dX8_as_55 : decode cX8_as 55 = .ok (.invokevirtual 71, 3) := by decide +kernel
theorem dX8_as_58 : decode cX8_as 58 = .ok (.ireturn, 1) := by decide +kernel
theorem dX8_began_0 : decode cX8_began 0 = .ok (.aload_n 0, 1) := by decide +kernel
theorem dX8_began_1 : decode cX8_began 1 = .ok (.getfield 267, 3) := by decide +kernel
theorem dX8_began_4 : decode cX8_began 4 = .ok (.bipush 16, 2) := by decide +kernel
theorem dX8_began_6 : decode cX8_began 6 = .ok (.if_icmp .ge 23, 3) := by decide +kernel
theorem dX8_began_9 : decode cX8_began 9 = .ok (.aload_n 0, 1) := by decide +kernel
theorem dX8_began_10 : decode cX8_began 10 = .ok (.getfield 47, 3) := by decide +kernel
theorem dX8_began_13 : decode cX8_began 13 = .ok (.aload_n 0, 1) := by decide +kernel
theorem dX8_began_14 : decode cX8_began 14 = .ok (.getfield 267, 3) := by decide +kernel
theorem dX8_began_17 : decode cX8_began 17 = .ok (.iload_n 1, 1) := by decide +kernel
theorem dX8_began_18 : decode cX8_began 18 = .ok (.iastore, 1) := by decide +kernel
theorem dX8_began_19 : decode cX8_began 19 = .ok (.aload_n 0, 1) := by decide +kernel
theorem dX8_began_20 : decode cX8_began 20 = .ok (.dup, 1) := by decide +kernel
theorem dX8_began_21 : decode cX8_began 21 = .ok (.getfield 267, 3) := by decide +kernel
theorem dX8_began_24 : decode cX8_began 24 = .ok (.iconst 1, 1) := by decide +kernel
theorem dX8_began_25 : decode cX8_began 25 = .ok (.iadd, 1) := by decide +kernel
theorem dX8_began_26 : decode cX8_began 26 = .ok (.putfield 267, 3) := by decide +kernel
theorem dX8_began_29 : decode cX8_began 29 = .ok (.return_, 1) := by decide +kernel
theorem dX8_plainSize_0 : decode cX8_plainSize 0 = .ok (.aload_n 0, 1) := by decide +kernel
theorem dX8_plainSize_1 : decode cX8_plainSize 1 = .ok (.bipush 10, 2) := by decide +kernel
theorem dX8_plainSize_3 : decode cX8_plainSize 3 = .ok (.invokevirtual 270, 3) := by decide +kernel
theorem dX8_plainSize_6 : decode cX8_plainSize 6 = .ok (.aload_n 0, 1) := by decide +kernel
theorem dX8_plainSize_7 : decode cX8_plainSize 7 = .ok (.getfield 19, 3) := by decide +kernel
theorem dX8_plainSize_10 : decode cX8_plainSize 10 = .ok (.iload_n 1, 1) := by decide +kernel
theorem dX8_plainSize_11 : decode cX8_plainSize 11 = .ok (.iconst 1, 1) := by decide +kernel
theorem dX8_plainSize_12 : decode cX8_plainSize 12 = .ok (.invokestatic 154, 3) := by decide +kernel
theorem dX8_plainSize_15 : decode cX8_plainSize 15 = .ok (.ireturn, 1) := by decide +kernel
theorem dX8_stoneSize_0 : decode cX8_stoneSize 0 = .ok (.aload_n 0, 1) := by decide +kernel
theorem dX8_stoneSize_1 : decode cX8_stoneSize 1 = .ok (.getfield 19, 3) := by decide +kernel
theorem dX8_stoneSize_4 : decode cX8_stoneSize 4 = .ok (.iload_n 1, 1) := by decide +kernel
theorem dX8_stoneSize_5 : decode cX8_stoneSize 5 = .ok (.iconst 0, 1) := by decide +kernel
theorem dX8_stoneSize_6 : decode cX8_stoneSize 6 = .ok (.invokestatic 154, 3) := by decide +kernel
theorem dX8_stoneSize_9 : decode cX8_stoneSize 9 = .ok (.iconst 5, 1) := by decide +kernel
theorem dX8_stoneSize_10 : decode cX8_stoneSize 10 = .ok (.if_icmp .ne 7, 3) := by decide +kernel
theorem dX8_stoneSize_13 : decode cX8_stoneSize 13 = .ok (.iconst 1, 1) := by decide +kernel
theorem dX8_stoneSize_14 : decode cX8_stoneSize 14 = .ok (.goto 4, 3) := by decide +kernel
theorem dX8_stoneSize_17 : decode cX8_stoneSize 17 = .ok (.iconst 0, 1) := by decide +kernel
theorem dX8_stoneSize_18 : decode cX8_stoneSize 18 = .ok (.istore_n 2, 1) := by decide +kernel
theorem dX8_stoneSize_19 : decode cX8_stoneSize 19 = .ok (.iload_n 2, 1) := by decide +kernel
theorem dX8_stoneSize_20 : decode cX8_stoneSize 20 = .ok (.ifCond .eq 9, 3) := by decide +kernel
theorem dX8_stoneSize_23 : decode cX8_stoneSize 23 = .ok (.aload_n 0, 1) := by decide +kernel
theorem dX8_stoneSize_24 : decode cX8_stoneSize 24 = .ok (.bipush 14, 2) := by decide +kernel
theorem dX8_stoneSize_26 : decode cX8_stoneSize 26 = .ok (.invokevirtual 270, 3) := by decide +kernel
theorem dX8_stoneSize_29 : decode cX8_stoneSize 29 = .ok (.aload_n 0, 1) := by decide +kernel
theorem dX8_stoneSize_30 : decode cX8_stoneSize 30 = .ok (.bipush 13, 2) := by decide +kernel
theorem dX8_stoneSize_32 : decode cX8_stoneSize 32 = .ok (.invokevirtual 270, 3) := by decide +kernel
theorem dX8_stoneSize_35 : decode cX8_stoneSize 35 = .ok (.aload_n 0, 1) := by decide +kernel
theorem dX8_stoneSize_36 : decode cX8_stoneSize 36 = .ok (.iload_n 1, 1) := by decide +kernel
theorem dX8_stoneSize_37 : decode cX8_stoneSize 37 = .ok (.invokevirtual 273, 3) := by decide +kernel
theorem dX8_stoneSize_40 : decode cX8_stoneSize 40 = .ok (.bipush 100, 2) := by decide +kernel
theorem dX8_stoneSize_42 : decode cX8_stoneSize 42 = .ok (.isub, 1) := by decide +kernel
theorem dX8_stoneSize_43 : decode cX8_stoneSize 43 = .ok (.istore_n 3, 1) := by decide +kernel
theorem dX8_stoneSize_44 : decode cX8_stoneSize 44 = .ok (.iload_n 2, 1) := by decide +kernel
theorem dX8_stoneSize_45 : decode cX8_stoneSize 45 = .ok (.ifCond .eq 9, 3) := by decide +kernel
theorem dX8_stoneSize_48 : decode cX8_stoneSize 48 = .ok (.iconst 2, 1) := by decide +kernel
theorem dX8_stoneSize_49 : decode cX8_stoneSize 49 = .ok (.iload_n 3, 1) := by decide +kernel
theorem dX8_stoneSize_50 : decode cX8_stoneSize 50 = .ok (.imul, 1) := by decide +kernel
theorem dX8_stoneSize_51 : decode cX8_stoneSize 51 = .ok (.goto 4, 3) := by decide +kernel
theorem dX8_stoneSize_54 : decode cX8_stoneSize 54 = .ok (.iload_n 3, 1) := by decide +kernel
theorem dX8_stoneSize_55 : decode cX8_stoneSize 55 = .ok (.ireturn, 1) := by decide +kernel
theorem dX8_markOf_0 : decode cX8_markOf 0 = .ok (.aload_n 0, 1) := by decide +kernel
theorem dX8_markOf_1 : decode cX8_markOf 1 = .ok (.getfield 19, 3) := by decide +kernel
theorem dX8_markOf_4 : decode cX8_markOf 4 = .ok (.iload_n 1, 1) := by decide +kernel
theorem dX8_markOf_5 : decode cX8_markOf 5 = .ok (.iconst 0, 1) := by decide +kernel
theorem dX8_markOf_6 : decode cX8_markOf 6 = .ok (.invokestatic 154, 3) := by decide +kernel
theorem dX8_markOf_9 : decode cX8_markOf 9 = .ok (.istore_n 2, 1) := by decide +kernel
theorem dX8_markOf_10 : decode cX8_markOf 10 = .ok (.iload_n 2, 1) := by decide +kernel
theorem dX8_markOf_11 : decode cX8_markOf 11 = .ok (.iconst 4, 1) := by decide +kernel
theorem dX8_markOf_12 : decode cX8_markOf 12 = .ok (.if_icmp .lt 23, 3) := by decide +kernel
theorem dX8_markOf_15 : decode cX8_markOf 15 = .ok (.aload_n 0, 1) := by decide +kernel
theorem dX8_markOf_16 : decode cX8_markOf 16 = .ok (.bipush 23, 2) := by decide +kernel
theorem dX8_markOf_18 : decode cX8_markOf 18 = .ok (.invokevirtual 270, 3) := by decide +kernel
theorem dX8_markOf_21 : decode cX8_markOf 21 = .ok (.aload_n 0, 1) := by decide +kernel
theorem dX8_markOf_22 : decode cX8_markOf 22 = .ok (.bipush 20, 2) := by decide +kernel
theorem dX8_markOf_24 : decode cX8_markOf 24 = .ok (.invokevirtual 270, 3) := by decide +kernel
theorem dX8_markOf_27 : decode cX8_markOf 27 = .ok (.iload_n 1, 1) := by decide +kernel
theorem dX8_markOf_28 : decode cX8_markOf 28 = .ok (.aload_n 0, 1) := by decide +kernel
theorem dX8_markOf_29 : decode cX8_markOf 29 = .ok (.iload_n 1, 1) := by decide +kernel
theorem dX8_markOf_30 : decode cX8_markOf 30 = .ok (.invokevirtual 276, 3) := by decide +kernel
theorem dX8_markOf_33 : decode cX8_markOf 33 = .ok (.isub, 1) := by decide +kernel
theorem dX8_markOf_34 : decode cX8_markOf 34 = .ok (.ireturn, 1) := by decide +kernel
theorem dX8_markOf_35 : decode cX8_markOf 35 = .ok (.iload_n 2, 1) := by decide +kernel
theorem dX8_markOf_36 : decode cX8_markOf 36 = .ok (.iconst 1, 1) := by decide +kernel
theorem dX8_markOf_37 : decode cX8_markOf 37 = .ok (.if_icmp .eq 19, 3) := by decide +kernel
theorem dX8_markOf_40 : decode cX8_markOf 40 = .ok (.aload_n 0, 1) := by decide +kernel
theorem dX8_markOf_41 : decode cX8_markOf 41 = .ok (.iload_n 2, 1) := by decide +kernel
theorem dX8_markOf_42 : decode cX8_markOf 42 = .ok (.iconst 3, 1) := by decide +kernel
theorem dX8_markOf_43 : decode cX8_markOf 43 = .ok (.if_icmp .ne 8, 3) := by decide +kernel
theorem dX8_markOf_46 : decode cX8_markOf 46 = .ok (.bipush 22, 2) := by decide +kernel
theorem dX8_markOf_48 : decode cX8_markOf 48 = .ok (.goto 5, 3) := by decide +kernel
theorem dX8_markOf_51 : decode cX8_markOf 51 = .ok (.bipush 24, 2) := by decide +kernel
theorem dX8_markOf_53 : decode cX8_markOf 53 = .ok (.invokevirtual 270, 3) := by decide +kernel
theorem dX8_markOf_56 : decode cX8_markOf 56 = .ok (.aload_n 0, 1) := by decide +kernel
theorem dX8_markOf_57 : decode cX8_markOf 57 = .ok (.bipush 21, 2) := by decide +kernel
theorem dX8_markOf_59 : decode cX8_markOf 59 = .ok (.invokevirtual 270, 3) := by decide +kernel
theorem dX8_markOf_62 : decode cX8_markOf 62 = .ok (.aload_n 0, 1) := by decide +kernel
theorem dX8_markOf_63 : decode cX8_markOf 63 = .ok (.bipush 20, 2) := by decide +kernel
theorem dX8_markOf_65 : decode cX8_markOf 65 = .ok (.invokevirtual 270, 3) := by decide +kernel
theorem dX8_markOf_68 : decode cX8_markOf 68 = .ok (.iload_n 1, 1) := by decide +kernel
theorem dX8_markOf_69 : decode cX8_markOf 69 = .ok (.aload_n 0, 1) := by decide +kernel
theorem dX8_markOf_70 : decode cX8_markOf 70 = .ok (.getfield 19, 3) := by decide +kernel
theorem dX8_markOf_73 : decode cX8_markOf 73 = .ok (.iload_n 1, 1) := by decide +kernel
theorem dX8_markOf_74 : decode cX8_markOf 74 = .ok (.iconst 2, 1) := by decide +kernel
theorem dX8_markOf_75 : decode cX8_markOf 75 = .ok (.invokestatic 154, 3) := by decide +kernel
theorem dX8_markOf_78 : decode cX8_markOf 78 = .ok (.iadd, 1) := by decide +kernel
theorem dX8_markOf_79 : decode cX8_markOf 79 = .ok (.istore_n 3, 1) := by decide +kernel
theorem dX8_markOf_80 : decode cX8_markOf 80 = .ok (.iload_n 2, 1) := by decide +kernel
theorem dX8_markOf_81 : decode cX8_markOf 81 = .ok (.iconst 1, 1) := by decide +kernel
theorem dX8_markOf_82 : decode cX8_markOf 82 = .ok (.if_icmp .ne 7, 3) := by decide +kernel
theorem dX8_markOf_85 : decode cX8_markOf 85 = .ok (.iload_n 3, 1) := by decide +kernel
theorem dX8_markOf_86 : decode cX8_markOf 86 = .ok (.goto 19, 3) := by decide +kernel
theorem dX8_markOf_89 : decode cX8_markOf 89 = .ok (.iload_n 2, 1) := by decide +kernel
theorem dX8_markOf_90 : decode cX8_markOf 90 = .ok (.iconst 3, 1) := by decide +kernel
theorem dX8_markOf_91 : decode cX8_markOf 91 = .ok (.if_icmp .ne 11, 3) := by decide +kernel
theorem dX8_markOf_94 : decode cX8_markOf 94 = .ok (.iload_n 3, 1) := by decide +kernel
theorem dX8_markOf_95 : decode cX8_markOf 95 = .ok (.sipush 1000, 3) := by decide +kernel
theorem dX8_markOf_98 : decode cX8_markOf 98 = .ok (.isub, 1) := by decide +kernel
theorem dX8_markOf_99 : decode cX8_markOf 99 = .ok (.goto 6, 3) := by decide +kernel
theorem dX8_markOf_102 : decode cX8_markOf 102 = .ok (.iconst 2, 1) := by decide +kernel
theorem dX8_markOf_103 : decode cX8_markOf 103 = .ok (.iload_n 3, 1) := by decide +kernel
theorem dX8_markOf_104 : decode cX8_markOf 104 = .ok (.imul, 1) := by decide +kernel
theorem dX8_markOf_105 : decode cX8_markOf 105 = .ok (.ireturn, 1) := by decide +kernel
theorem dX8_sizeOf_0 : decode cX8_sizeOf 0 = .ok (.aload_n 0, 1) := by decide +kernel
theorem dX8_sizeOf_1 : decode cX8_sizeOf 1 = .ok (.getfield 19, 3) := by decide +kernel
theorem dX8_sizeOf_4 : decode cX8_sizeOf 4 = .ok (.iload_n 1, 1) := by decide +kernel
theorem dX8_sizeOf_5 : decode cX8_sizeOf 5 = .ok (.iconst 0, 1) := by decide +kernel
theorem dX8_sizeOf_6 : decode cX8_sizeOf 6 = .ok (.invokestatic 154, 3) := by decide +kernel
theorem dX8_sizeOf_9 : decode cX8_sizeOf 9 = .ok (.istore_n 2, 1) := by decide +kernel
theorem dX8_sizeOf_10 : decode cX8_sizeOf 10 = .ok (.iload_n 2, 1) := by decide +kernel
theorem dX8_sizeOf_11 : decode cX8_sizeOf 11 = .ok (.iconst 4, 1) := by decide +kernel
theorem dX8_sizeOf_12 : decode cX8_sizeOf 12 = .ok (.if_icmp .lt 9, 3) := by decide +kernel
theorem dX8_sizeOf_15 : decode cX8_sizeOf 15 = .ok (.aload_n 0, 1) := by decide +kernel
theorem dX8_sizeOf_16 : decode cX8_sizeOf 16 = .ok (.iload_n 1, 1) := by decide +kernel
theorem dX8_sizeOf_17 : decode cX8_sizeOf 17 = .ok (.invokevirtual 276, 3) := by decide +kernel
theorem dX8_sizeOf_20 : decode cX8_sizeOf 20 = .ok (.ireturn, 1) := by decide +kernel
theorem dX8_sizeOf_21 : decode cX8_sizeOf 21 = .ok (.iload_n 2, 1) := by decide +kernel
theorem dX8_sizeOf_22 : decode cX8_sizeOf 22 = .ok (.iconst 2, 1) := by decide +kernel
theorem dX8_sizeOf_23 : decode cX8_sizeOf 23 = .ok (.if_icmp .ne 9, 3) := by decide +kernel
theorem dX8_sizeOf_26 : decode cX8_sizeOf 26 = .ok (.aload_n 0, 1) := by decide +kernel
theorem dX8_sizeOf_27 : decode cX8_sizeOf 27 = .ok (.bipush 12, 2) := by decide +kernel
theorem dX8_sizeOf_29 : decode cX8_sizeOf 29 = .ok (.invokevirtual 270, 3) := by decide +kernel
theorem dX8_sizeOf_32 : decode cX8_sizeOf 32 = .ok (.aload_n 0, 1) := by decide +kernel
theorem dX8_sizeOf_33 : decode cX8_sizeOf 33 = .ok (.bipush 11, 2) := by decide +kernel
theorem dX8_sizeOf_35 : decode cX8_sizeOf 35 = .ok (.invokevirtual 270, 3) := by decide +kernel
theorem dX8_sizeOf_38 : decode cX8_sizeOf 38 = .ok (.aload_n 0, 1) := by decide +kernel
theorem dX8_sizeOf_39 : decode cX8_sizeOf 39 = .ok (.iload_n 1, 1) := by decide +kernel
theorem dX8_sizeOf_40 : decode cX8_sizeOf 40 = .ok (.invokevirtual 273, 3) := by decide +kernel
theorem dX8_sizeOf_43 : decode cX8_sizeOf 43 = .ok (.istore_n 3, 1) := by decide +kernel
theorem dX8_sizeOf_44 : decode cX8_sizeOf 44 = .ok (.iload_n 3, 1) := by decide +kernel
theorem dX8_sizeOf_45 : decode cX8_sizeOf 45 = .ok (.aload_n 0, 1) := by decide +kernel
theorem dX8_sizeOf_46 : decode cX8_sizeOf 46 = .ok (.iload_n 1, 1) := by decide +kernel
theorem dX8_sizeOf_47 : decode cX8_sizeOf 47 = .ok (.invokevirtual 279, 3) := by decide +kernel
theorem dX8_sizeOf_50 : decode cX8_sizeOf 50 = .ok (.iadd, 1) := by decide +kernel
theorem dX8_sizeOf_51 : decode cX8_sizeOf 51 = .ok (.istore_n 3, 1) := by decide +kernel
theorem dX8_sizeOf_52 : decode cX8_sizeOf 52 = .ok (.iload_n 2, 1) := by decide +kernel
theorem dX8_sizeOf_53 : decode cX8_sizeOf 53 = .ok (.iconst 2, 1) := by decide +kernel
theorem dX8_sizeOf_54 : decode cX8_sizeOf 54 = .ok (.if_icmp .ne 8, 3) := by decide +kernel
theorem dX8_sizeOf_57 : decode cX8_sizeOf 57 = .ok (.iload_n 3, 1) := by decide +kernel
theorem dX8_sizeOf_58 : decode cX8_sizeOf 58 = .ok (.ineg, 1) := by decide +kernel
theorem dX8_sizeOf_59 : decode cX8_sizeOf 59 = .ok (.goto 4, 3) := by decide +kernel
theorem dX8_sizeOf_62 : decode cX8_sizeOf 62 = .ok (.iload_n 3, 1) := by decide +kernel
theorem dX8_sizeOf_63 : decode cX8_sizeOf 63 = .ok (.ireturn, 1) := by decide +kernel
theorem dX8_ask_0 : decode cX8_ask 0 = .ok (.aload_n 0, 1) := by decide +kernel
theorem dX8_ask_1 : decode cX8_ask 1 = .ok (.iconst 0, 1) := by decide +kernel
theorem dX8_ask_2 : decode cX8_ask 2 = .ok (.putfield 50, 3) := by decide +kernel
theorem dX8_ask_5 : decode cX8_ask 5 = .ok (.aload_n 0, 1) := by decide +kernel
theorem dX8_ask_6 : decode cX8_ask 6 = .ok (.iload_n 1, 1) := by decide +kernel
theorem dX8_ask_7 : decode cX8_ask 7 = .ok (.invokevirtual 213, 3) := by decide +kernel
theorem dX8_ask_10 : decode cX8_ask 10 = .ok (.ifCond .eq 13, 3) := by decide +kernel
theorem dX8_ask_13 : decode cX8_ask 13 = .ok (.iload_n 2, 1) := by decide +kernel
theorem dX8_ask_14 : decode cX8_ask 14 = .ok (.i2l, 1) := by decide +kernel
theorem dX8_ask_15 : decode cX8_ask 15 = .ok (.lconst 0, 1) := by decide +kernel
theorem dX8_ask_16 : decode cX8_ask 16 = .ok (.lconst 1, 1) := by decide +kernel
theorem dX8_ask_17 : decode cX8_ask 17 = .ok (.invokestatic 60, 3) := by decide +kernel
theorem dX8_ask_20 : decode cX8_ask 20 = .ok (.ifCond .ne 6, 3) := by decide +kernel
theorem dX8_ask_23 : decode cX8_ask 23 = .ok (.ldc 70, 2) := by decide +kernel
theorem dX8_ask_25 : decode cX8_ask 25 = .ok (.ireturn, 1) := by decide +kernel
theorem dX8_ask_26 : decode cX8_ask 26 = .ok (.aload_n 0, 1) := by decide +kernel
theorem dX8_ask_27 : decode cX8_ask 27 = .ok (.iconst 0, 1) := by decide +kernel
theorem dX8_ask_28 : decode cX8_ask 28 = .ok (.putfield 267, 3) := by decide +kernel
theorem dX8_ask_31 : decode cX8_ask 31 = .ok (.iload_n 2, 1) := by decide +kernel
theorem dX8_ask_32 : decode cX8_ask 32 = .ok (.ifCond .ne 11, 3) := by decide +kernel
theorem dX8_ask_35 : decode cX8_ask 35 = .ok (.aload_n 0, 1) := by decide +kernel
theorem dX8_ask_36 : decode cX8_ask 36 = .ok (.iload_n 1, 1) := by decide +kernel
theorem dX8_ask_37 : decode cX8_ask 37 = .ok (.invokevirtual 282, 3) := by decide +kernel
theorem dX8_ask_40 : decode cX8_ask 40 = .ok (.goto 8, 3) := by decide +kernel
theorem dX8_ask_43 : decode cX8_ask 43 = .ok (.aload_n 0, 1) := by decide +kernel
theorem dX8_ask_44 : decode cX8_ask 44 = .ok (.iload_n 1, 1) := by decide +kernel
theorem dX8_ask_45 : decode cX8_ask 45 = .ok (.invokevirtual 279, 3) := by decide +kernel
theorem dX8_ask_48 : decode cX8_ask 48 = .ok (.ireturn, 1) := by decide +kernel
theorem dX8_trace_0 : decode cX8_trace 0 = .ok (.aload_n 0, 1) := by decide +kernel
theorem dX8_trace_1 : decode cX8_trace 1 = .ok (.iconst 0, 1) := by decide +kernel
theorem dX8_trace_2 : decode cX8_trace 2 = .ok (.putfield 50, 3) := by decide +kernel
theorem dX8_trace_5 : decode cX8_trace 5 = .ok (.iload_n 1, 1) := by decide +kernel
theorem dX8_trace_6 : decode cX8_trace 6 = .ok (.i2l, 1) := by decide +kernel
theorem dX8_trace_7 : decode cX8_trace 7 = .ok (.lconst 0, 1) := by decide +kernel
theorem dX8_trace_8 : decode cX8_trace 8 = .ok (.aload_n 0, 1) := by decide +kernel
theorem dX8_trace_9 : decode cX8_trace 9 = .ok (.getfield 267, 3) := by decide +kernel
theorem dX8_trace_12 : decode cX8_trace 12 = .ok (.iconst 1, 1) := by decide +kernel
theorem dX8_trace_13 : decode cX8_trace 13 = .ok (.isub, 1) := by decide +kernel
theorem dX8_trace_14 : decode cX8_trace 14 = .ok (.i2l, 1) := by decide +kernel
theorem dX8_trace_15 : decode cX8_trace 15 = .ok (.invokestatic 60, 3) := by decide +kernel
theorem dX8_trace_18 : decode cX8_trace 18 = .ok (.ifCond .eq 12, 3) := by decide +kernel
theorem dX8_trace_21 : decode cX8_trace 21 = .ok (.aload_n 0, 1) := by decide +kernel
theorem dX8_trace_22 : decode cX8_trace 22 = .ok (.getfield 47, 3) := by decide +kernel
theorem dX8_trace_25 : decode cX8_trace 25 = .ok (.iload_n 1, 1) := by decide +kernel
theorem dX8_trace_26 : decode cX8_trace 26 = .ok (.iaload, 1) := by decide +kernel
theorem dX8_trace_27 : decode cX8_trace 27 = .ok (.goto 5, 3) := by decide +kernel
theorem dX8_trace_30 : decode cX8_trace 30 = .ok (.ldc 93, 2) := by decide +kernel
theorem dX8_trace_32 : decode cX8_trace 32 = .ok (.ireturn, 1) := by decide +kernel
theorem dX8_count_0 : decode cX8_count 0 = .ok (.aload_n 0, 1) := by decide +kernel
theorem dX8_count_1 : decode cX8_count 1 = .ok (.iconst 0, 1) := by decide +kernel
theorem dX8_count_2 : decode cX8_count 2 = .ok (.putfield 50, 3) := by decide +kernel
theorem dX8_count_5 : decode cX8_count 5 = .ok (.iconst 0, 1) := by decide +kernel
theorem dX8_count_6 : decode cX8_count 6 = .ok (.istore_n 2, 1) := by decide +kernel
theorem dX8_count_7 : decode cX8_count 7 = .ok (.iload_n 1, 1) := by decide +kernel
theorem dX8_count_8 : decode cX8_count 8 = .ok (.tableswitch 136 0 7 #[48, 81, 88, 95, 102, 114, 126, 131], 48) := by decide +kernel
theorem dX8_count_56 : decode cX8_count 56 = .ok (.iconst 0, 1) := by decide +kernel
theorem dX8_count_57 : decode cX8_count 57 = .ok (.istore_n 3, 1) := by decide +kernel
theorem dX8_count_58 : decode cX8_count 58 = .ok (.iload_n 3, 1) := by decide +kernel
theorem dX8_count_59 : decode cX8_count 59 = .ok (.bipush 8, 2) := by decide +kernel
theorem dX8_count_61 : decode cX8_count 61 = .ok (.if_icmp .ge 26, 3) := by decide +kernel
theorem dX8_count_64 : decode cX8_count 64 = .ok (.iload_n 2, 1) := by decide +kernel
theorem dX8_count_65 : decode cX8_count 65 = .ok (.aload_n 0, 1) := by decide +kernel
theorem dX8_count_66 : decode cX8_count 66 = .ok (.getfield 7, 3) := by decide +kernel
theorem dX8_count_69 : decode cX8_count 69 = .ok (.iload_n 3, 1) := by decide +kernel
theorem dX8_count_70 : decode cX8_count 70 = .ok (.iaload, 1) := by decide +kernel
theorem dX8_count_71 : decode cX8_count 71 = .ok (.ifCond .lt 7, 3) := by decide +kernel
theorem dX8_count_74 : decode cX8_count 74 = .ok (.iconst 1, 1) := by decide +kernel
theorem dX8_count_75 : decode cX8_count 75 = .ok (.goto 4, 3) := by decide +kernel
theorem dX8_count_78 : decode cX8_count 78 = .ok (.iconst 0, 1) := by decide +kernel
theorem dX8_count_79 : decode cX8_count 79 = .ok (.iadd, 1) := by decide +kernel
theorem dX8_count_80 : decode cX8_count 80 = .ok (.istore_n 2, 1) := by decide +kernel
theorem dX8_count_81 : decode cX8_count 81 = .ok (.iinc 3 1, 3) := by decide +kernel
theorem dX8_count_84 : decode cX8_count 84 = .ok (.goto (-26), 3) := by decide +kernel
theorem dX8_count_87 : decode cX8_count 87 = .ok (.iload_n 2, 1) := by decide +kernel
theorem dX8_count_88 : decode cX8_count 88 = .ok (.ireturn, 1) := by decide +kernel
theorem dX8_count_89 : decode cX8_count 89 = .ok (.aload_n 0, 1) := by decide +kernel
theorem dX8_count_90 : decode cX8_count 90 = .ok (.getfield 19, 3) := by decide +kernel
theorem dX8_count_93 : decode cX8_count 93 = .ok (.iconst 0, 1) := by decide +kernel
theorem dX8_count_94 : decode cX8_count 94 = .ok (.iaload, 1) := by decide +kernel
theorem dX8_count_95 : decode cX8_count 95 = .ok (.ireturn, 1) := by decide +kernel
theorem dX8_count_96 : decode cX8_count 96 = .ok (.aload_n 0, 1) := by decide +kernel
theorem dX8_count_97 : decode cX8_count 97 = .ok (.getfield 19, 3) := by decide +kernel
theorem dX8_count_100 : decode cX8_count 100 = .ok (.iconst 1, 1) := by decide +kernel
theorem dX8_count_101 : decode cX8_count 101 = .ok (.iaload, 1) := by decide +kernel
theorem dX8_count_102 : decode cX8_count 102 = .ok (.ireturn, 1) := by decide +kernel
theorem dX8_count_103 : decode cX8_count 103 = .ok (.aload_n 0, 1) := by decide +kernel
theorem dX8_count_104 : decode cX8_count 104 = .ok (.getfield 19, 3) := by decide +kernel
theorem dX8_count_107 : decode cX8_count 107 = .ok (.iconst 2, 1) := by decide +kernel
theorem dX8_count_108 : decode cX8_count 108 = .ok (.iaload, 1) := by decide +kernel
theorem dX8_count_109 : decode cX8_count 109 = .ok (.ireturn, 1) := by decide +kernel
theorem dX8_count_110 : decode cX8_count 110 = .ok (.aload_n 0, 1) := by decide +kernel
theorem dX8_count_111 : decode cX8_count 111 = .ok (.getfield 19, 3) := by decide +kernel
theorem dX8_count_114 : decode cX8_count 114 = .ok (.iconst 0, 1) := by decide +kernel
theorem dX8_count_115 : decode cX8_count 115 = .ok (.invokestatic 175, 3) := by decide +kernel
theorem dX8_count_118 : decode cX8_count 118 = .ok (.invokestatic 183, 3) := by decide +kernel
theorem dX8_count_121 : decode cX8_count 121 = .ok (.ireturn, 1) := by decide +kernel
theorem dX8_count_122 : decode cX8_count 122 = .ok (.aload_n 0, 1) := by decide +kernel
theorem dX8_count_123 : decode cX8_count 123 = .ok (.getfield 19, 3) := by decide +kernel
theorem dX8_count_126 : decode cX8_count 126 = .ok (.iconst 1, 1) := by decide +kernel
theorem dX8_count_127 : decode cX8_count 127 = .ok (.invokestatic 175, 3) := by decide +kernel
theorem dX8_count_130 : decode cX8_count 130 = .ok (.invokestatic 183, 3) := by decide +kernel
theorem dX8_count_133 : decode cX8_count 133 = .ok (.ireturn, 1) := by decide +kernel
theorem dX8_count_134 : decode cX8_count 134 = .ok (.aload_n 0, 1) := by decide +kernel
theorem dX8_count_135 : decode cX8_count 135 = .ok (.getfield 149, 3) := by decide +kernel
theorem dX8_count_138 : decode cX8_count 138 = .ok (.ireturn, 1) := by decide +kernel
theorem dX8_count_139 : decode cX8_count 139 = .ok (.aload_n 0, 1) := by decide +kernel
theorem dX8_count_140 : decode cX8_count 140 = .ok (.getfield 77, 3) := by decide +kernel
theorem dX8_count_143 : decode cX8_count 143 = .ok (.ireturn, 1) := by decide +kernel
theorem dX8_count_144 : decode cX8_count 144 = .ok (.ldc 70, 2) := by decide +kernel
theorem dX8_count_146 : decode cX8_count 146 = .ok (.ireturn, 1) := by decide +kernel
theorem dX8_status_0 : decode cX8_status 0 = .ok (.aload_n 0, 1) := by decide +kernel
theorem dX8_status_1 : decode cX8_status 1 = .ok (.iconst 0, 1) := by decide +kernel
theorem dX8_status_2 : decode cX8_status 2 = .ok (.putfield 50, 3) := by decide +kernel
theorem dX8_status_5 : decode cX8_status 5 = .ok (.aload_n 0, 1) := by decide +kernel
theorem dX8_status_6 : decode cX8_status 6 = .ok (.getfield 54, 3) := by decide +kernel
theorem dX8_status_9 : decode cX8_status 9 = .ok (.ireturn, 1) := by decide +kernel
end
section
/-! constants, calls by arity, shapes -/
theorem icm1 : Int32.ofInt (-1) = (-1 : Int32) := by decide +kernel
theorem ic0 : Int32.ofInt 0 = nI 0 := by decide +kernel
theorem ic1 : Int32.ofInt 1 = nI 1 := by decide +kernel
theorem ic2 : Int32.ofInt 2 = nI 2 := by decide +kernel
theorem ic3 : Int32.ofInt 3 = nI 3 := by decide +kernel
theorem ic4 : Int32.ofInt 4 = nI 4 := by decide +kernel
theorem ic5 : Int32.ofInt 5 = nI 5 := by decide +kernel
theorem ic7 : Int32.ofInt 7 = nI 7 := by decide +kernel
theorem bp6 : (Int8.ofInt 6).toInt32 = nI 6 := by decide +kernel
theorem bp7 : (Int8.ofInt 7).toInt32 = nI 7 := by decide +kernel
theorem bp8 : (Int8.ofInt 8).toInt32 = nI 8 := by decide +kernel
theorem bp9 : (Int8.ofInt 9).toInt32 = nI 9 := by decide +kernel
theorem bp10 : (Int8.ofInt 10).toInt32 = nI 10 := by decide +kernel
theorem bp11 : (Int8.ofInt 11).toInt32 = nI 11 := by decide +kernel
theorem bp12 : (Int8.ofInt 12).toInt32 = nI 12 := by decide +kernel
theorem bp13 : (Int8.ofInt 13).toInt32 = nI 13 := by decide +kernel
theorem bp14 : (Int8.ofInt 14).toInt32 = nI 14 := by decide +kernel
theorem bp16 : (Int8.ofInt 16).toInt32 = nI 16 := by decide +kernel
theorem bp20 : (Int8.ofInt 20).toInt32 = nI 20 := by decide +kernel
theorem bp21 : (Int8.ofInt 21).toInt32 = nI 21 := by decide +kernel
theorem bp22 : (Int8.ofInt 22).toInt32 = nI 22 := by decide +kernel
theorem bp23 : (Int8.ofInt 23).toInt32 = nI 23 := by decide +kernel
theorem bp24 : (Int8.ofInt 24).toInt32 = nI 24 := by decide +kernel
theorem bp40 : (Int8.ofInt 40).toInt32 = nI 40 := by decide +kernel
theorem bp43 : (Int8.ofInt 43).toInt32 = nI 43 := by decide +kernel
theorem bp44 : (Int8.ofInt 44).toInt32 = nI 44 := by decide +kernel
theorem bp48 : (Int8.ofInt 48).toInt32 = nI 48 := by decide +kernel
theorem bp57 : (Int8.ofInt 57).toInt32 = nI 57 := by decide +kernel
theorem bp59 : (Int8.ofInt 59).toInt32 = nI 59 := by decide +kernel
theorem bp60 : (Int8.ofInt 60).toInt32 = nI 60 := by decide +kernel
theorem bp63 : (Int8.ofInt 63).toInt32 = nI 63 := by decide +kernel
theorem bp86 : (Int8.ofInt 86).toInt32 = nI 86 := by decide +kernel
theorem bp90 : (Int8.ofInt 90).toInt32 = nI 90 := by decide +kernel
theorem bp99 : (Int8.ofInt 99).toInt32 = nI 99 := by decide +kernel
theorem bp100 : (Int8.ofInt 100).toInt32 = nI 100 := by decide +kernel
theorem bp103 : (Int8.ofInt 103).toInt32 = nI 103 := by decide +kernel
theorem bp104 : (Int8.ofInt 104).toInt32 = nI 104 := by decide +kernel
theorem bp107 : (Int8.ofInt 107).toInt32 = nI 107 := by decide +kernel
theorem bp115 : (Int8.ofInt 115).toInt32 = nI 115 := by decide +kernel
theorem bp116 : (Int8.ofInt 116).toInt32 = nI 116 := by decide +kernel
theorem sp255 : (Int16.ofInt 255).toInt32 = nI 255 := by decide +kernel
theorem sp256 : (Int16.ofInt 256).toInt32 = nI 256 := by decide +kernel
theorem sp320 : (Int16.ofInt 320).toInt32 = nI 320 := by decide +kernel
theorem sp989 : (Int16.ofInt 989).toInt32 = nI 989 := by decide +kernel
theorem sp999 : (Int16.ofInt 999).toInt32 = nI 999 := by decide +kernel
theorem sp1000 : (Int16.ofInt 1000).toInt32 = nI 1000 := by decide +kernel
theorem sp1032 : (Int16.ofInt 1032).toInt32 = nI 1032 := by decide +kernel
section Ar
variable {M M2 : MI} {d kc ks pc pc2 mc ms idx ci i : Nat} {ls : List (Nat × Value)} {st fs : List Value} {h : SH} {Q : Option Value → SH → Prop} {host : String} {a1 a2 a3 a4 a5 a6 : Value}
theorem C_V0 (hf : decode M.2.1 pc = .ok (.invokevirtual idx, 3)) (hc : CV M2 ci 0) (hlk : Cond.methodLink M.1.cls idx M2.1 ∈ lw_g) (ho : hob h i ci fs) (hst : (st.map fun v => v.category).sum ≤ 8) (hp : pc + 3 = pc2) (k : Calls M2 d mc ms [.ref i] h (fun r h2 => T M (d + 1) kc ks pc2 ls (r.toList ++ st) h2 Q)) : T M (d + 1) (kc + mc) (ks + ms) pc ls (.ref i :: st) h Q := T_callV (As := []) hf hc hlk ho rfl hst hp k
theorem C_S0 (hf : decode M.2.1 pc = .ok (.invokestatic idx, 3)) (hc : CSt M2 0) (hlk : Cond.methodLink M.1.cls idx M2.1 ∈ lw_g) (hst : (st.map fun v => v.category).sum ≤ 8) (hp : pc + 3 = pc2) (k : Calls M2 d mc ms [] h (fun r h2 => T M (d + 1) kc ks pc2 ls (r.toList ++ st) h2 Q)) : T M (d + 1) (kc + mc) (ks + ms) pc ls (st) h Q := T_callS (As := []) hf hc hlk rfl hst hp k
theorem C_SN0 (hf : decode M.2.1 pc = .ok (.invokestatic idx, 3)) (hc : CSt M2 0) (hlk : Cond.methodLinkNest M.1.cls idx M2.1 host ∈ nestW) (hst : (st.map fun v => v.category).sum ≤ 8) (hp : pc + 3 = pc2) (k : Calls M2 d mc ms [] h (fun r h2 => T M (d + 1) kc ks pc2 ls (r.toList ++ st) h2 Q)) : T M (d + 1) (kc + mc) (ks + ms) pc ls (st) h Q := T_callSN (As := []) hf hc hlk rfl hst hp k
theorem C_V1 (hf : decode M.2.1 pc = .ok (.invokevirtual idx, 3)) (hc : CV M2 ci 1) (hlk : Cond.methodLink M.1.cls idx M2.1 ∈ lw_g) (ho : hob h i ci fs) (hst : (st.map fun v => v.category).sum ≤ 8) (hp : pc + 3 = pc2) (k : Calls M2 d mc ms [.ref i, a1] h (fun r h2 => T M (d + 1) kc ks pc2 ls (r.toList ++ st) h2 Q)) : T M (d + 1) (kc + mc) (ks + ms) pc ls (a1 :: .ref i :: st) h Q := T_callV (As := [a1]) hf hc hlk ho rfl hst hp k
theorem C_S1 (hf : decode M.2.1 pc = .ok (.invokestatic idx, 3)) (hc : CSt M2 1) (hlk : Cond.methodLink M.1.cls idx M2.1 ∈ lw_g) (hst : (st.map fun v => v.category).sum ≤ 8) (hp : pc + 3 = pc2) (k : Calls M2 d mc ms [a1] h (fun r h2 => T M (d + 1) kc ks pc2 ls (r.toList ++ st) h2 Q)) : T M (d + 1) (kc + mc) (ks + ms) pc ls (a1 :: st) h Q := T_callS (As := [a1]) hf hc hlk rfl hst hp k
theorem C_SN1 (hf : decode M.2.1 pc = .ok (.invokestatic idx, 3)) (hc : CSt M2 1) (hlk : Cond.methodLinkNest M.1.cls idx M2.1 host ∈ nestW) (hst : (st.map fun v => v.category).sum ≤ 8) (hp : pc + 3 = pc2) (k : Calls M2 d mc ms [a1] h (fun r h2 => T M (d + 1) kc ks pc2 ls (r.toList ++ st) h2 Q)) : T M (d + 1) (kc + mc) (ks + ms) pc ls (a1 :: st) h Q := T_callSN (As := [a1]) hf hc hlk rfl hst hp k
theorem C_V2 (hf : decode M.2.1 pc = .ok (.invokevirtual idx, 3)) (hc : CV M2 ci 2) (hlk : Cond.methodLink M.1.cls idx M2.1 ∈ lw_g) (ho : hob h i ci fs) (hst : (st.map fun v => v.category).sum ≤ 8) (hp : pc + 3 = pc2) (k : Calls M2 d mc ms [.ref i, a1, a2] h (fun r h2 => T M (d + 1) kc ks pc2 ls (r.toList ++ st) h2 Q)) : T M (d + 1) (kc + mc) (ks + ms) pc ls (a2 :: a1 :: .ref i :: st) h Q := T_callV (As := [a1, a2]) hf hc hlk ho rfl hst hp k
theorem C_S2 (hf : decode M.2.1 pc = .ok (.invokestatic idx, 3)) (hc : CSt M2 2) (hlk : Cond.methodLink M.1.cls idx M2.1 ∈ lw_g) (hst : (st.map fun v => v.category).sum ≤ 8) (hp : pc + 3 = pc2) (k : Calls M2 d mc ms [a1, a2] h (fun r h2 => T M (d + 1) kc ks pc2 ls (r.toList ++ st) h2 Q)) : T M (d + 1) (kc + mc) (ks + ms) pc ls (a2 :: a1 :: st) h Q := T_callS (As := [a1, a2]) hf hc hlk rfl hst hp k
theorem C_SN2 (hf : decode M.2.1 pc = .ok (.invokestatic idx, 3)) (hc : CSt M2 2) (hlk : Cond.methodLinkNest M.1.cls idx M2.1 host ∈ nestW) (hst : (st.map fun v => v.category).sum ≤ 8) (hp : pc + 3 = pc2) (k : Calls M2 d mc ms [a1, a2] h (fun r h2 => T M (d + 1) kc ks pc2 ls (r.toList ++ st) h2 Q)) : T M (d + 1) (kc + mc) (ks + ms) pc ls (a2 :: a1 :: st) h Q := T_callSN (As := [a1, a2]) hf hc hlk rfl hst hp k
theorem C_V3 (hf : decode M.2.1 pc = .ok (.invokevirtual idx, 3)) (hc : CV M2 ci 3) (hlk : Cond.methodLink M.1.cls idx M2.1 ∈ lw_g) (ho : hob h i ci fs) (hst : (st.map fun v => v.category).sum ≤ 8) (hp : pc + 3 = pc2) (k : Calls M2 d mc ms [.ref i, a1, a2, a3] h (fun r h2 => T M (d + 1) kc ks pc2 ls (r.toList ++ st) h2 Q)) : T M (d + 1) (kc + mc) (ks + ms) pc ls (a3 :: a2 :: a1 :: .ref i :: st) h Q := T_callV (As := [a1, a2, a3]) hf hc hlk ho rfl hst hp k
theorem C_S3 (hf : decode M.2.1 pc = .ok (.invokestatic idx, 3)) (hc : CSt M2 3) (hlk : Cond.methodLink M.1.cls idx M2.1 ∈ lw_g) (hst : (st.map fun v => v.category).sum ≤ 8) (hp : pc + 3 = pc2) (k : Calls M2 d mc ms [a1, a2, a3] h (fun r h2 => T M (d + 1) kc ks pc2 ls (r.toList ++ st) h2 Q)) : T M (d + 1) (kc + mc) (ks + ms) pc ls (a3 :: a2 :: a1 :: st) h Q := T_callS (As := [a1, a2, a3]) hf hc hlk rfl hst hp k
theorem C_SN3 (hf : decode M.2.1 pc = .ok (.invokestatic idx, 3)) (hc : CSt M2 3) (hlk : Cond.methodLinkNest M.1.cls idx M2.1 host ∈ nestW) (hst : (st.map fun v => v.category).sum ≤ 8) (hp : pc + 3 = pc2) (k : Calls M2 d mc ms [a1, a2, a3] h (fun r h2 => T M (d + 1) kc ks pc2 ls (r.toList ++ st) h2 Q)) : T M (d + 1) (kc + mc) (ks + ms) pc ls (a3 :: a2 :: a1 :: st) h Q := T_callSN (As := [a1, a2, a3]) hf hc hlk rfl hst hp k
theorem C_V4 (hf : decode M.2.1 pc = .ok (.invokevirtual idx, 3)) (hc : CV M2 ci 4) (hlk : Cond.methodLink M.1.cls idx M2.1 ∈ lw_g) (ho : hob h i ci fs) (hst : (st.map fun v => v.category).sum ≤ 8) (hp : pc + 3 = pc2) (k : Calls M2 d mc ms [.ref i, a1, a2, a3, a4] h (fun r h2 => T M (d + 1) kc ks pc2 ls (r.toList ++ st) h2 Q)) : T M (d + 1) (kc + mc) (ks + ms) pc ls (a4 :: a3 :: a2 :: a1 :: .ref i :: st) h Q := T_callV (As := [a1, a2, a3, a4]) hf hc hlk ho rfl hst hp k
theorem C_S4 (hf : decode M.2.1 pc = .ok (.invokestatic idx, 3)) (hc : CSt M2 4) (hlk : Cond.methodLink M.1.cls idx M2.1 ∈ lw_g) (hst : (st.map fun v => v.category).sum ≤ 8) (hp : pc + 3 = pc2) (k : Calls M2 d mc ms [a1, a2, a3, a4] h (fun r h2 => T M (d + 1) kc ks pc2 ls (r.toList ++ st) h2 Q)) : T M (d + 1) (kc + mc) (ks + ms) pc ls (a4 :: a3 :: a2 :: a1 :: st) h Q := T_callS (As := [a1, a2, a3, a4]) hf hc hlk rfl hst hp k
theorem C_SN4 (hf : decode M.2.1 pc = .ok (.invokestatic idx, 3)) (hc : CSt M2 4) (hlk : Cond.methodLinkNest M.1.cls idx M2.1 host ∈ nestW) (hst : (st.map fun v => v.category).sum ≤ 8) (hp : pc + 3 = pc2) (k : Calls M2 d mc ms [a1, a2, a3, a4] h (fun r h2 => T M (d + 1) kc ks pc2 ls (r.toList ++ st) h2 Q)) : T M (d + 1) (kc + mc) (ks + ms) pc ls (a4 :: a3 :: a2 :: a1 :: st) h Q := T_callSN (As := [a1, a2, a3, a4]) hf hc hlk rfl hst hp k
theorem C_V5 (hf : decode M.2.1 pc = .ok (.invokevirtual idx, 3)) (hc : CV M2 ci 5) (hlk : Cond.methodLink M.1.cls idx M2.1 ∈ lw_g) (ho : hob h i ci fs) (hst : (st.map fun v => v.category).sum ≤ 8) (hp : pc + 3 = pc2) (k : Calls M2 d mc ms [.ref i, a1, a2, a3, a4, a5] h (fun r h2 => T M (d + 1) kc ks pc2 ls (r.toList ++ st) h2 Q)) : T M (d + 1) (kc + mc) (ks + ms) pc ls (a5 :: a4 :: a3 :: a2 :: a1 :: .ref i :: st) h Q := T_callV (As := [a1, a2, a3, a4, a5]) hf hc hlk ho rfl hst hp k
theorem C_S5 (hf : decode M.2.1 pc = .ok (.invokestatic idx, 3)) (hc : CSt M2 5) (hlk : Cond.methodLink M.1.cls idx M2.1 ∈ lw_g) (hst : (st.map fun v => v.category).sum ≤ 8) (hp : pc + 3 = pc2) (k : Calls M2 d mc ms [a1, a2, a3, a4, a5] h (fun r h2 => T M (d + 1) kc ks pc2 ls (r.toList ++ st) h2 Q)) : T M (d + 1) (kc + mc) (ks + ms) pc ls (a5 :: a4 :: a3 :: a2 :: a1 :: st) h Q := T_callS (As := [a1, a2, a3, a4, a5]) hf hc hlk rfl hst hp k
theorem C_SN5 (hf : decode M.2.1 pc = .ok (.invokestatic idx, 3)) (hc : CSt M2 5) (hlk : Cond.methodLinkNest M.1.cls idx M2.1 host ∈ nestW) (hst : (st.map fun v => v.category).sum ≤ 8) (hp : pc + 3 = pc2) (k : Calls M2 d mc ms [a1, a2, a3, a4, a5] h (fun r h2 => T M (d + 1) kc ks pc2 ls (r.toList ++ st) h2 Q)) : T M (d + 1) (kc + mc) (ks + ms) pc ls (a5 :: a4 :: a3 :: a2 :: a1 :: st) h Q := T_callSN (As := [a1, a2, a3, a4, a5]) hf hc hlk rfl hst hp k
theorem C_V6 (hf : decode M.2.1 pc = .ok (.invokevirtual idx, 3)) (hc : CV M2 ci 6) (hlk : Cond.methodLink M.1.cls idx M2.1 ∈ lw_g) (ho : hob h i ci fs) (hst : (st.map fun v => v.category).sum ≤ 8) (hp : pc + 3 = pc2) (k : Calls M2 d mc ms [.ref i, a1, a2, a3, a4, a5, a6] h (fun r h2 => T M (d + 1) kc ks pc2 ls (r.toList ++ st) h2 Q)) : T M (d + 1) (kc + mc) (ks + ms) pc ls (a6 :: a5 :: a4 :: a3 :: a2 :: a1 :: .ref i :: st) h Q := T_callV (As := [a1, a2, a3, a4, a5, a6]) hf hc hlk ho rfl hst hp k
theorem C_S6 (hf : decode M.2.1 pc = .ok (.invokestatic idx, 3)) (hc : CSt M2 6) (hlk : Cond.methodLink M.1.cls idx M2.1 ∈ lw_g) (hst : (st.map fun v => v.category).sum ≤ 8) (hp : pc + 3 = pc2) (k : Calls M2 d mc ms [a1, a2, a3, a4, a5, a6] h (fun r h2 => T M (d + 1) kc ks pc2 ls (r.toList ++ st) h2 Q)) : T M (d + 1) (kc + mc) (ks + ms) pc ls (a6 :: a5 :: a4 :: a3 :: a2 :: a1 :: st) h Q := T_callS (As := [a1, a2, a3, a4, a5, a6]) hf hc hlk rfl hst hp k
theorem C_SN6 (hf : decode M.2.1 pc = .ok (.invokestatic idx, 3)) (hc : CSt M2 6) (hlk : Cond.methodLinkNest M.1.cls idx M2.1 host ∈ nestW) (hst : (st.map fun v => v.category).sum ≤ 8) (hp : pc + 3 = pc2) (k : Calls M2 d mc ms [a1, a2, a3, a4, a5, a6] h (fun r h2 => T M (d + 1) kc ks pc2 ls (r.toList ++ st) h2 Q)) : T M (d + 1) (kc + mc) (ks + ms) pc ls (a6 :: a5 :: a4 :: a3 :: a2 :: a1 :: st) h Q := T_callSN (As := [a1, a2, a3, a4, a5, a6]) hf hc hlk rfl hst hp k
theorem T_sub {ls2 : List (Nat × Value)} (hs : ∀ q ∈ ls2, ls.lookup q.1 = some q.2) (k : T M d kc ks pc ls2 st h Q) : T M d kc ks pc ls st h Q := by
  intro p l e R s m args below meth c Z D base x E H locs cells slots ca tys lsA F Y L
  refine k p l e R s m args below meth c Z D base x E H locs cells slots ca tys lsA F Y ⟨L.1, L.2.1, fun q hq => ?_⟩
  obtain ⟨q2, hq2, rfl⟩ := List.mem_map.mp hq
  exact L.2.2 _ (List.mem_map.mpr ⟨q2, lk_mem (hs q2 hq2), rfl⟩)
theorem lk0 : ∀ q ∈ ([] : List (Nat × Value)), ls.lookup q.1 = some q.2 := fun _ h => absurd h List.not_mem_nil
theorem lks {i : Nat} {v : Value} {t : List (Nat × Value)} (h : ls.lookup i = some v) (ht : ∀ q ∈ t, ls.lookup q.1 = some q.2) : ∀ q ∈ (i, v) :: t, ls.lookup q.1 = some q.2 := List.forall_mem_cons.mpr ⟨h, ht⟩
end Ar
/-- a jar's cellar: the object and its five rows -/
def isC (sk : Nat → SK) (n c : Nat) : Prop := isO sk n c 2 [none, none, none, some (.ref (c + 1)), some (.ref (c + 2)), some (.ref (c + 3)), some (.ref (c + 4)), some (.ref (c + 5))] ∧ isA sk n (c + 1) .int 8 ∧ isA sk n (c + 2) .int 8 ∧ isA sk n (c + 3) .int 8 ∧ isA sk n (c + 4) .int 8 ∧ isA sk n (c + 5) .int 8
abbrev oI : Option Value := none
abbrev oR (i : Nat) : Option Value := some (.ref i)
/-- the shape of the whole: what may change in it are the kept cellars (bf), the images (im), and two longs -/
def skl (bf im : Nat → Option Nat) (above below : Int64) : List SK := [.inl (7, [oR 5, oR 18, oR 20, oR 26, oR 32, oR 34, oR 45, oR 47, oI, oI]), .inl (5, [oR 6, oR 7, oR 8, oR 9]), .inr (.boolean, 8, none), .inr (.int, 8, none), .inr (.int, 8, none), .inr (.array .int, 8, some (fun i => if i < 8 then some (10 + i) else none)), .inr (.int, 40, none), .inr (.int, 40, none), .inr (.int, 40, none), .inr (.int, 40, none), .inr (.int, 40, none), .inr (.int, 40, none), .inr (.int, 40, none), .inr (.int, 40, none), .inl (6, [oR 19, oI, oI, oI, oI]), .inr (.int, 90, none), .inl (2, [none, none, none, some (.ref (20 + 1)), some (.ref (20 + 2)), some (.ref (20 + 3)), some (.ref (20 + 4)), some (.ref (20 + 5))]), .inr (.int, 8, none), .inr (.int, 8, none), .inr (.int, 8, none), .inr (.int, 8, none), .inr (.int, 8, none), .inl (2, [none, none, none, some (.ref (26 + 1)), some (.ref (26 + 2)), some (.ref (26 + 3)), some (.ref (26 + 4)), some (.ref (26 + 5))]), .inr (.int, 8, none), .inr (.int, 8, none), .inr (.int, 8, none), .inr (.int, 8, none), .inr (.int, 8, none), .inl (0, [oR 33, oI, oI]), .inr (.object RX2, 24, some bf), .inl (4, [oR 35, oR 39, oI, oI, some (.long above), some (.long below), oI]), .inl (3, [oR 36, oR 37, oR 38, oI, oI, oI]), .inr (.int, 12, none), .inr (.int, 8, none), .inr (.int, 8, none), .inl (2, [none, none, none, some (.ref (39 + 1)), some (.ref (39 + 2)), some (.ref (39 + 3)), some (.ref (39 + 4)), some (.ref (39 + 5))]), .inr (.int, 8, none), .inr (.int, 8, none), .inr (.int, 8, none), .inr (.int, 8, none), .inr (.int, 8, none), .inl (1, [oR 46, oI]), .inr (.int, 16, none), .inr (.object RX2, 2, some im), .inl (8, [oI, oI, oR 49, oR 50, oR 51, oR 52, oR 53, oR 54, oR 55, oI, oR 56, oI, oI, oI, oI, oI, oI, oI, oI, oR 57, oR 58, oI, oI, oI, oR 59, oR 60, oR 61, oI]), .inr (.int, 8, none), .inr (.int, 8, none), .inr (.int, 320, none), .inr (.int, 43, none), .inr (.int, 43, none), .inr (.int, 43, none), .inr (.int, 1032, none), .inr (.int, 90, none), .inr (.int, 8, none), .inr (.int, 8, none), .inr (.boolean, 2, none), .inr (.int, 86, none), .inr (.int, 16, none)]
def Sh (sk : Nat → SK) (n : Nat) (bf im : Nat → Option Nat) (above below : Int64) : Prop := 58 ≤ n ∧ isX sk 1 6 ∧ isX sk 2 6 ∧ isX sk 3 6 ∧ ∀ i, i < 58 → sk (i + 4) = (skl bf im above below).getD i (.inl (0, []))
section Shs
variable {sk : Nat → SK} {n : Nat} {bf im : Nat → Option Nat} {above below : Int64}
theorem sh1 (S : Sh sk n bf im above below) : isX sk 1 6 := S.2.1
theorem sh2 (S : Sh sk n bf im above below) : isX sk 2 6 := S.2.2.1
theorem sh3 (S : Sh sk n bf im above below) : isX sk 3 6 := S.2.2.2.1
theorem sh4 (S : Sh sk n bf im above below) : isO sk n 4 7 [oR 5, oR 18, oR 20, oR 26, oR 32, oR 34, oR 45, oR 47, oI, oI] := ⟨by decide, by have := S.1; omega, S.2.2.2.2 0 (by decide)⟩
theorem sh5 (S : Sh sk n bf im above below) : isO sk n 5 5 [oR 6, oR 7, oR 8, oR 9] := ⟨by decide, by have := S.1; omega, S.2.2.2.2 1 (by decide)⟩
theorem sh6 (S : Sh sk n bf im above below) : isA sk n 6 (.boolean) 8 := ⟨by decide, by have := S.1; omega, S.2.2.2.2 2 (by decide)⟩
theorem sh7 (S : Sh sk n bf im above below) : isA sk n 7 (.int) 8 := ⟨by decide, by have := S.1; omega, S.2.2.2.2 3 (by decide)⟩
theorem sh8 (S : Sh sk n bf im above below) : isA sk n 8 (.int) 8 := ⟨by decide, by have := S.1; omega, S.2.2.2.2 4 (by decide)⟩
theorem sh9 (S : Sh sk n bf im above below) : isR sk n 9 (.array .int) 8 (fun i => if i < 8 then some (10 + i) else none) := ⟨by decide, by have := S.1; omega, S.2.2.2.2 5 (by decide)⟩
theorem sh10 (S : Sh sk n bf im above below) : isA sk n 10 (.int) 40 := ⟨by decide, by have := S.1; omega, S.2.2.2.2 6 (by decide)⟩
theorem sh11 (S : Sh sk n bf im above below) : isA sk n 11 (.int) 40 := ⟨by decide, by have := S.1; omega, S.2.2.2.2 7 (by decide)⟩
theorem sh12 (S : Sh sk n bf im above below) : isA sk n 12 (.int) 40 := ⟨by decide, by have := S.1; omega, S.2.2.2.2 8 (by decide)⟩
theorem sh13 (S : Sh sk n bf im above below) : isA sk n 13 (.int) 40 := ⟨by decide, by have := S.1; omega, S.2.2.2.2 9 (by decide)⟩
theorem sh14 (S : Sh sk n bf im above below) : isA sk n 14 (.int) 40 := ⟨by decide, by have := S.1; omega, S.2.2.2.2 10 (by decide)⟩
theorem sh15 (S : Sh sk n bf im above below) : isA sk n 15 (.int) 40 := ⟨by decide, by have := S.1; omega, S.2.2.2.2 11 (by decide)⟩
theorem sh16 (S : Sh sk n bf im above below) : isA sk n 16 (.int) 40 := ⟨by decide, by have := S.1; omega, S.2.2.2.2 12 (by decide)⟩
theorem sh17 (S : Sh sk n bf im above below) : isA sk n 17 (.int) 40 := ⟨by decide, by have := S.1; omega, S.2.2.2.2 13 (by decide)⟩
theorem sh18 (S : Sh sk n bf im above below) : isO sk n 18 6 [oR 19, oI, oI, oI, oI] := ⟨by decide, by have := S.1; omega, S.2.2.2.2 14 (by decide)⟩
theorem sh19 (S : Sh sk n bf im above below) : isA sk n 19 (.int) 90 := ⟨by decide, by have := S.1; omega, S.2.2.2.2 15 (by decide)⟩
theorem sh20 (S : Sh sk n bf im above below) : isO sk n 20 2 [none, none, none, some (.ref (20 + 1)), some (.ref (20 + 2)), some (.ref (20 + 3)), some (.ref (20 + 4)), some (.ref (20 + 5))] := ⟨by decide, by have := S.1; omega, S.2.2.2.2 16 (by decide)⟩
theorem sh21 (S : Sh sk n bf im above below) : isA sk n 21 (.int) 8 := ⟨by decide, by have := S.1; omega, S.2.2.2.2 17 (by decide)⟩
theorem sh22 (S : Sh sk n bf im above below) : isA sk n 22 (.int) 8 := ⟨by decide, by have := S.1; omega, S.2.2.2.2 18 (by decide)⟩
theorem sh23 (S : Sh sk n bf im above below) : isA sk n 23 (.int) 8 := ⟨by decide, by have := S.1; omega, S.2.2.2.2 19 (by decide)⟩
theorem sh24 (S : Sh sk n bf im above below) : isA sk n 24 (.int) 8 := ⟨by decide, by have := S.1; omega, S.2.2.2.2 20 (by decide)⟩
theorem sh25 (S : Sh sk n bf im above below) : isA sk n 25 (.int) 8 := ⟨by decide, by have := S.1; omega, S.2.2.2.2 21 (by decide)⟩
theorem sh26 (S : Sh sk n bf im above below) : isO sk n 26 2 [none, none, none, some (.ref (26 + 1)), some (.ref (26 + 2)), some (.ref (26 + 3)), some (.ref (26 + 4)), some (.ref (26 + 5))] := ⟨by decide, by have := S.1; omega, S.2.2.2.2 22 (by decide)⟩
theorem sh27 (S : Sh sk n bf im above below) : isA sk n 27 (.int) 8 := ⟨by decide, by have := S.1; omega, S.2.2.2.2 23 (by decide)⟩
theorem sh28 (S : Sh sk n bf im above below) : isA sk n 28 (.int) 8 := ⟨by decide, by have := S.1; omega, S.2.2.2.2 24 (by decide)⟩
theorem sh29 (S : Sh sk n bf im above below) : isA sk n 29 (.int) 8 := ⟨by decide, by have := S.1; omega, S.2.2.2.2 25 (by decide)⟩
theorem sh30 (S : Sh sk n bf im above below) : isA sk n 30 (.int) 8 := ⟨by decide, by have := S.1; omega, S.2.2.2.2 26 (by decide)⟩
theorem sh31 (S : Sh sk n bf im above below) : isA sk n 31 (.int) 8 := ⟨by decide, by have := S.1; omega, S.2.2.2.2 27 (by decide)⟩
theorem sh32 (S : Sh sk n bf im above below) : isO sk n 32 0 [oR 33, oI, oI] := ⟨by decide, by have := S.1; omega, S.2.2.2.2 28 (by decide)⟩
theorem sh33 (S : Sh sk n bf im above below) : isR sk n 33 (.object RX2) 24 bf := ⟨by decide, by have := S.1; omega, S.2.2.2.2 29 (by decide)⟩
theorem sh34 (S : Sh sk n bf im above below) : isO sk n 34 4 [oR 35, oR 39, oI, oI, some (.long above), some (.long below), oI] := ⟨by decide, by have := S.1; omega, S.2.2.2.2 30 (by decide)⟩
theorem sh35 (S : Sh sk n bf im above below) : isO sk n 35 3 [oR 36, oR 37, oR 38, oI, oI, oI] := ⟨by decide, by have := S.1; omega, S.2.2.2.2 31 (by decide)⟩
theorem sh36 (S : Sh sk n bf im above below) : isA sk n 36 (.int) 12 := ⟨by decide, by have := S.1; omega, S.2.2.2.2 32 (by decide)⟩
theorem sh37 (S : Sh sk n bf im above below) : isA sk n 37 (.int) 8 := ⟨by decide, by have := S.1; omega, S.2.2.2.2 33 (by decide)⟩
theorem sh38 (S : Sh sk n bf im above below) : isA sk n 38 (.int) 8 := ⟨by decide, by have := S.1; omega, S.2.2.2.2 34 (by decide)⟩
theorem sh39 (S : Sh sk n bf im above below) : isO sk n 39 2 [none, none, none, some (.ref (39 + 1)), some (.ref (39 + 2)), some (.ref (39 + 3)), some (.ref (39 + 4)), some (.ref (39 + 5))] := ⟨by decide, by have := S.1; omega, S.2.2.2.2 35 (by decide)⟩
theorem sh40 (S : Sh sk n bf im above below) : isA sk n 40 (.int) 8 := ⟨by decide, by have := S.1; omega, S.2.2.2.2 36 (by decide)⟩
theorem sh41 (S : Sh sk n bf im above below) : isA sk n 41 (.int) 8 := ⟨by decide, by have := S.1; omega, S.2.2.2.2 37 (by decide)⟩
theorem sh42 (S : Sh sk n bf im above below) : isA sk n 42 (.int) 8 := ⟨by decide, by have := S.1; omega, S.2.2.2.2 38 (by decide)⟩
theorem sh43 (S : Sh sk n bf im above below) : isA sk n 43 (.int) 8 := ⟨by decide, by have := S.1; omega, S.2.2.2.2 39 (by decide)⟩
theorem sh44 (S : Sh sk n bf im above below) : isA sk n 44 (.int) 8 := ⟨by decide, by have := S.1; omega, S.2.2.2.2 40 (by decide)⟩
theorem sh45 (S : Sh sk n bf im above below) : isO sk n 45 1 [oR 46, oI] := ⟨by decide, by have := S.1; omega, S.2.2.2.2 41 (by decide)⟩
theorem sh46 (S : Sh sk n bf im above below) : isA sk n 46 (.int) 16 := ⟨by decide, by have := S.1; omega, S.2.2.2.2 42 (by decide)⟩
theorem sh47 (S : Sh sk n bf im above below) : isR sk n 47 (.object RX2) 2 im := ⟨by decide, by have := S.1; omega, S.2.2.2.2 43 (by decide)⟩
theorem sh48 (S : Sh sk n bf im above below) : isO sk n 48 8 [oI, oI, oR 49, oR 50, oR 51, oR 52, oR 53, oR 54, oR 55, oI, oR 56, oI, oI, oI, oI, oI, oI, oI, oI, oR 57, oR 58, oI, oI, oI, oR 59, oR 60, oR 61, oI] := ⟨by decide, by have := S.1; omega, S.2.2.2.2 44 (by decide)⟩
theorem sh49 (S : Sh sk n bf im above below) : isA sk n 49 (.int) 8 := ⟨by decide, by have := S.1; omega, S.2.2.2.2 45 (by decide)⟩
theorem sh50 (S : Sh sk n bf im above below) : isA sk n 50 (.int) 8 := ⟨by decide, by have := S.1; omega, S.2.2.2.2 46 (by decide)⟩
theorem sh51 (S : Sh sk n bf im above below) : isA sk n 51 (.int) 320 := ⟨by decide, by have := S.1; omega, S.2.2.2.2 47 (by decide)⟩
theorem sh52 (S : Sh sk n bf im above below) : isA sk n 52 (.int) 43 := ⟨by decide, by have := S.1; omega, S.2.2.2.2 48 (by decide)⟩
theorem sh53 (S : Sh sk n bf im above below) : isA sk n 53 (.int) 43 := ⟨by decide, by have := S.1; omega, S.2.2.2.2 49 (by decide)⟩
theorem sh54 (S : Sh sk n bf im above below) : isA sk n 54 (.int) 43 := ⟨by decide, by have := S.1; omega, S.2.2.2.2 50 (by decide)⟩
theorem sh55 (S : Sh sk n bf im above below) : isA sk n 55 (.int) 1032 := ⟨by decide, by have := S.1; omega, S.2.2.2.2 51 (by decide)⟩
theorem sh56 (S : Sh sk n bf im above below) : isA sk n 56 (.int) 90 := ⟨by decide, by have := S.1; omega, S.2.2.2.2 52 (by decide)⟩
theorem sh57 (S : Sh sk n bf im above below) : isA sk n 57 (.int) 8 := ⟨by decide, by have := S.1; omega, S.2.2.2.2 53 (by decide)⟩
theorem sh58 (S : Sh sk n bf im above below) : isA sk n 58 (.int) 8 := ⟨by decide, by have := S.1; omega, S.2.2.2.2 54 (by decide)⟩
theorem sh59 (S : Sh sk n bf im above below) : isA sk n 59 (.boolean) 2 := ⟨by decide, by have := S.1; omega, S.2.2.2.2 55 (by decide)⟩
theorem sh60 (S : Sh sk n bf im above below) : isA sk n 60 (.int) 86 := ⟨by decide, by have := S.1; omega, S.2.2.2.2 56 (by decide)⟩
theorem sh61 (S : Sh sk n bf im above below) : isA sk n 61 (.int) 16 := ⟨by decide, by have := S.1; omega, S.2.2.2.2 57 (by decide)⟩
theorem sc20 (S : Sh sk n bf im above below) : isC sk n 20 := ⟨sh20 S, sh21 S, sh22 S, sh23 S, sh24 S, sh25 S⟩
theorem sc26 (S : Sh sk n bf im above below) : isC sk n 26 := ⟨sh26 S, sh27 S, sh28 S, sh29 S, sh30 S, sh31 S⟩
theorem sc39 (S : Sh sk n bf im above below) : isC sk n 39 := ⟨sh39 S, sh40 S, sh41 S, sh42 S, sh43 S, sh44 S⟩
end Shs
theorem gs_eq (g : Nat → Nat → Int32) (i k : Nat) (v : Int32) : gset g i k v i k = v := by simp [gset, va_up, upd]
theorem gs_ne (g : Nat → Nat → Int32) {i k i2 k2 : Nat} (v : Int32) (h : i2 ≠ i ∨ k2 ≠ k) : gset g i k v i2 k2 = g i2 k2 := by
  unfold gset
  by_cases e : i2 = i
  · subst e
    have : k2 ≠ k := by rcases h with h | h; exact absurd rfl h; exact h
    simp [va_up, upd, this]
  · simp [va_up, e]
theorem gset_at (g : Nat → Nat → Int32) (i k : Nat) (v : Int32) (i2 k2 : Nat) : gset g i k v i2 k2 = if i2 = i ∧ k2 = k then v else g i2 k2 := by
  by_cases e : i2 = i ∧ k2 = k
  · rw [if_pos e, e.1, e.2, gs_eq]
  · rw [if_neg e, gs_ne]
    by_cases e1 : i2 = i
    · exact Or.inr (fun q => e ⟨e1, q⟩)
    · exact Or.inl e1
end
