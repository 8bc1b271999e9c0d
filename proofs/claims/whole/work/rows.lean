section
-- ===== PART A: goes FIRST, ahead of the names: the tables' words, and 'selects' of the private methods out of them =====
/-- a private method of a class that the tables say can be made, by its rows of tables_1 -/
def lw_okq (q : MethodName × Nat) : Prop := (q.1.cls ≠ "java/lang/invoke/MethodHandle" ∧ q.1.cls ≠ "java/lang/invoke/VarHandle") ∧ Cond.instantiable q.1.cls q.2 ∈ tables_1 ∧ Cond.privateMethod q.1 ∈ tables_1 ∧ Cond.instanceMethod q.1 ∈ tables_1
theorem lw_p0 : lw_okq (⟨"PathTracker$State", "beginPaths", "()V"⟩, 5) := ⟨⟨by decide +kernel, by decide +kernel⟩, List.mem_of_getElem? (i := 210) (by decide +kernel), List.mem_of_getElem? (i := 317) (by decide +kernel), List.mem_of_getElem? (i := 318) (by decide +kernel)⟩
theorem lw_p1 : lw_okq (⟨"PathTracker$EquationText", "signHere", "()I"⟩, 4) := ⟨⟨by decide +kernel, by decide +kernel⟩, List.mem_of_getElem? (i := 25) (by decide +kernel), List.mem_of_getElem? (i := 435) (by decide +kernel), List.mem_of_getElem? (i := 436) (by decide +kernel)⟩
theorem lw_p2 : lw_okq (⟨"PathTracker$EquationText", "readTerm", "(Z)Z"⟩, 4) := ⟨⟨by decide +kernel, by decide +kernel⟩, List.mem_of_getElem? (i := 25) (by decide +kernel), List.mem_of_getElem? (i := 439) (by decide +kernel), List.mem_of_getElem? (i := 440) (by decide +kernel)⟩
theorem lw_p3 : lw_okq (⟨"PathTracker$EquationText", "readNumber", "()I"⟩, 4) := ⟨⟨by decide +kernel, by decide +kernel⟩, List.mem_of_getElem? (i := 25) (by decide +kernel), List.mem_of_getElem? (i := 446) (by decide +kernel), List.mem_of_getElem? (i := 447) (by decide +kernel)⟩
theorem lw_p4 : lw_okq (⟨"PathTracker$EquationText", "readFactor", "(I)I"⟩, 4) := ⟨⟨by decide +kernel, by decide +kernel⟩, List.mem_of_getElem? (i := 25) (by decide +kernel), List.mem_of_getElem? (i := 453) (by decide +kernel), List.mem_of_getElem? (i := 454) (by decide +kernel)⟩
theorem lw_p5 : lw_okq (⟨"PathTracker$Follower", "predict", "(IIJ)Z"⟩, 8) := ⟨⟨by decide +kernel, by decide +kernel⟩, List.mem_of_getElem? (i := 76) (by decide +kernel), List.mem_of_getElem? (i := 555) (by decide +kernel), List.mem_of_getElem? (i := 556) (by decide +kernel)⟩
theorem lw_p6 : lw_okq (⟨"PathTracker$Solver", "cross", "(LPathTracker$Complex;LPathTracker$Complex;LPathTracker$Complex;LPathTracker$Complex;LPathTracker$Complex;J)V"⟩, 6) := ⟨⟨by decide +kernel, by decide +kernel⟩, List.mem_of_getElem? (i := 154) (by decide +kernel), List.mem_of_getElem? (i := 633) (by decide +kernel), List.mem_of_getElem? (i := 634) (by decide +kernel)⟩
theorem lw_p7 : lw_okq (⟨"PathTracker$Follower", "correct", "(IJ)Z"⟩, 8) := ⟨⟨by decide +kernel, by decide +kernel⟩, List.mem_of_getElem? (i := 76) (by decide +kernel), List.mem_of_getElem? (i := 644) (by decide +kernel), List.mem_of_getElem? (i := 645) (by decide +kernel)⟩
theorem lw_p8 : lw_okq (⟨"PathTracker$State", "endsBefore", "(I)I"⟩, 5) := ⟨⟨by decide +kernel, by decide +kernel⟩, List.mem_of_getElem? (i := 210) (by decide +kernel), List.mem_of_getElem? (i := 754) (by decide +kernel), List.mem_of_getElem? (i := 755) (by decide +kernel)⟩
theorem lw_p9 : lw_okq (⟨"PathTrackerModel", "beginAll", "()V"⟩, 24) := ⟨⟨by decide +kernel, by decide +kernel⟩, List.mem_of_getElem? (i := 826) (by decide +kernel), List.mem_of_getElem? (i := 836) (by decide +kernel), List.mem_of_getElem? (i := 837) (by decide +kernel)⟩
theorem lw_p10 : lw_okq (⟨"PathTrackerModel", "paths", "()I"⟩, 24) := ⟨⟨by decide +kernel, by decide +kernel⟩, List.mem_of_getElem? (i := 826) (by decide +kernel), List.mem_of_getElem? (i := 840) (by decide +kernel), List.mem_of_getElem? (i := 841) (by decide +kernel)⟩
theorem lw_p11 : lw_okq (⟨"PathTrackerModel", "setting", "(I)I"⟩, 24) := ⟨⟨by decide +kernel, by decide +kernel⟩, List.mem_of_getElem? (i := 826) (by decide +kernel), List.mem_of_getElem? (i := 844) (by decide +kernel), List.mem_of_getElem? (i := 845) (by decide +kernel)⟩
theorem lw_p12 : lw_okq (⟨"PathTrackerModel", "begins", "(II)V"⟩, 24) := ⟨⟨by decide +kernel, by decide +kernel⟩, List.mem_of_getElem? (i := 826) (by decide +kernel), List.mem_of_getElem? (i := 848) (by decide +kernel), List.mem_of_getElem? (i := 849) (by decide +kernel)⟩
theorem lw_p13 : lw_okq (⟨"PathTrackerModel", "root", "(II)V"⟩, 24) := ⟨⟨by decide +kernel, by decide +kernel⟩, List.mem_of_getElem? (i := 826) (by decide +kernel), List.mem_of_getElem? (i := 855) (by decide +kernel), List.mem_of_getElem? (i := 856) (by decide +kernel)⟩
theorem lw_p14 : lw_okq (⟨"PathTrackerModel", "hold", "(JJ)V"⟩, 24) := ⟨⟨by decide +kernel, by decide +kernel⟩, List.mem_of_getElem? (i := 826) (by decide +kernel), List.mem_of_getElem? (i := 861) (by decide +kernel), List.mem_of_getElem? (i := 862) (by decide +kernel)⟩
theorem lw_p15 : lw_okq (⟨"PathTrackerModel", "isPath", "(I)Z"⟩, 24) := ⟨⟨by decide +kernel, by decide +kernel⟩, List.mem_of_getElem? (i := 826) (by decide +kernel), List.mem_of_getElem? (i := 949) (by decide +kernel), List.mem_of_getElem? (i := 950) (by decide +kernel)⟩
def lw_privs_1 : List (MethodName × Nat) := [(⟨"PathTracker$State", "beginPaths", "()V"⟩, 5), (⟨"PathTracker$EquationText", "signHere", "()I"⟩, 4), (⟨"PathTracker$EquationText", "readTerm", "(Z)Z"⟩, 4), (⟨"PathTracker$EquationText", "readNumber", "()I"⟩, 4), (⟨"PathTracker$EquationText", "readFactor", "(I)I"⟩, 4), (⟨"PathTracker$Follower", "predict", "(IIJ)Z"⟩, 8), (⟨"PathTracker$Solver", "cross", "(LPathTracker$Complex;LPathTracker$Complex;LPathTracker$Complex;LPathTracker$Complex;LPathTracker$Complex;J)V"⟩, 6), (⟨"PathTracker$Follower", "correct", "(IJ)Z"⟩, 8), (⟨"PathTracker$State", "endsBefore", "(I)I"⟩, 5), (⟨"PathTrackerModel", "beginAll", "()V"⟩, 24), (⟨"PathTrackerModel", "paths", "()I"⟩, 24), (⟨"PathTrackerModel", "setting", "(I)I"⟩, 24), (⟨"PathTrackerModel", "begins", "(II)V"⟩, 24), (⟨"PathTrackerModel", "root", "(II)V"⟩, 24), (⟨"PathTrackerModel", "hold", "(JJ)V"⟩, 24), (⟨"PathTrackerModel", "isPath", "(I)Z"⟩, 24)]
theorem lw_r1 : ∀ q ∈ lw_privs_1, lw_okq q := List.forall_mem_cons.mpr ⟨lw_p0, List.forall_mem_cons.mpr ⟨lw_p1, List.forall_mem_cons.mpr ⟨lw_p2, List.forall_mem_cons.mpr ⟨lw_p3, List.forall_mem_cons.mpr ⟨lw_p4, List.forall_mem_cons.mpr ⟨lw_p5, List.forall_mem_cons.mpr ⟨lw_p6, List.forall_mem_cons.mpr ⟨lw_p7, List.forall_mem_cons.mpr ⟨lw_p8, List.forall_mem_cons.mpr ⟨lw_p9, List.forall_mem_cons.mpr ⟨lw_p10, List.forall_mem_cons.mpr ⟨lw_p11, List.forall_mem_cons.mpr ⟨lw_p12, List.forall_mem_cons.mpr ⟨lw_p13, List.forall_mem_cons.mpr ⟨lw_p14, List.forall_mem_cons.mpr ⟨lw_p15, fun _ h => absurd h List.not_mem_nil⟩⟩⟩⟩⟩⟩⟩⟩⟩⟩⟩⟩⟩⟩⟩⟩
theorem lw_p16 : lw_okq (⟨"PathTrackerModel", "isOnWay", "(I)Z"⟩, 24) := ⟨⟨by decide +kernel, by decide +kernel⟩, List.mem_of_getElem? (i := 826) (by decide +kernel), List.mem_of_getElem? (i := 957) (by decide +kernel), List.mem_of_getElem? (i := 958) (by decide +kernel)⟩
theorem lw_p17 : lw_okq (⟨"PathTrackerModel", "save0", "()V"⟩, 24) := ⟨⟨by decide +kernel, by decide +kernel⟩, List.mem_of_getElem? (i := 826) (by decide +kernel), List.mem_of_getElem? (i := 962) (by decide +kernel), List.mem_of_getElem? (i := 963) (by decide +kernel)⟩
theorem lw_p18 : lw_okq (⟨"PathTrackerModel", "follows", "(II)I"⟩, 24) := ⟨⟨by decide +kernel, by decide +kernel⟩, List.mem_of_getElem? (i := 826) (by decide +kernel), List.mem_of_getElem? (i := 966) (by decide +kernel), List.mem_of_getElem? (i := 967) (by decide +kernel)⟩
theorem lw_p19 : lw_okq (⟨"PathTrackerModel", "tries", "(I)V"⟩, 24) := ⟨⟨by decide +kernel, by decide +kernel⟩, List.mem_of_getElem? (i := 826) (by decide +kernel), List.mem_of_getElem? (i := 970) (by decide +kernel), List.mem_of_getElem? (i := 971) (by decide +kernel)⟩
theorem lw_p20 : lw_okq (⟨"PathTrackerModel", "takes", "(I)V"⟩, 24) := ⟨⟨by decide +kernel, by decide +kernel⟩, List.mem_of_getElem? (i := 826) (by decide +kernel), List.mem_of_getElem? (i := 974) (by decide +kernel), List.mem_of_getElem? (i := 975) (by decide +kernel)⟩
theorem lw_p21 : lw_okq (⟨"PathTrackerModel", "predicts", "(II)Z"⟩, 24) := ⟨⟨by decide +kernel, by decide +kernel⟩, List.mem_of_getElem? (i := 826) (by decide +kernel), List.mem_of_getElem? (i := 978) (by decide +kernel), List.mem_of_getElem? (i := 979) (by decide +kernel)⟩
theorem lw_p22 : lw_okq (⟨"PathTrackerModel", "laySystem", "(I)V"⟩, 24) := ⟨⟨by decide +kernel, by decide +kernel⟩, List.mem_of_getElem? (i := 826) (by decide +kernel), List.mem_of_getElem? (i := 982) (by decide +kernel), List.mem_of_getElem? (i := 983) (by decide +kernel)⟩
theorem lw_p23 : lw_okq (⟨"PathTrackerModel", "layPoint", "()V"⟩, 24) := ⟨⟨by decide +kernel, by decide +kernel⟩, List.mem_of_getElem? (i := 826) (by decide +kernel), List.mem_of_getElem? (i := 986) (by decide +kernel), List.mem_of_getElem? (i := 987) (by decide +kernel)⟩
theorem lw_p24 : lw_okq (⟨"PathTrackerModel", "layPowers", "(IJJ)V"⟩, 24) := ⟨⟨by decide +kernel, by decide +kernel⟩, List.mem_of_getElem? (i := 826) (by decide +kernel), List.mem_of_getElem? (i := 990) (by decide +kernel), List.mem_of_getElem? (i := 991) (by decide +kernel)⟩
theorem lw_p25 : lw_okq (⟨"PathTrackerModel", "times", "(JJJJ)V"⟩, 24) := ⟨⟨by decide +kernel, by decide +kernel⟩, List.mem_of_getElem? (i := 826) (by decide +kernel), List.mem_of_getElem? (i := 994) (by decide +kernel), List.mem_of_getElem? (i := 995) (by decide +kernel)⟩
theorem lw_p26 : lw_okq (⟨"PathTrackerModel", "worth", "(II)V"⟩, 24) := ⟨⟨by decide +kernel, by decide +kernel⟩, List.mem_of_getElem? (i := 826) (by decide +kernel), List.mem_of_getElem? (i := 998) (by decide +kernel), List.mem_of_getElem? (i := 999) (by decide +kernel)⟩
theorem lw_p27 : lw_okq (⟨"PathTrackerModel", "coefficientOf", "(IIII)I"⟩, 24) := ⟨⟨by decide +kernel, by decide +kernel⟩, List.mem_of_getElem? (i := 826) (by decide +kernel), List.mem_of_getElem? (i := 1002) (by decide +kernel), List.mem_of_getElem? (i := 1003) (by decide +kernel)⟩
theorem lw_p28 : lw_okq (⟨"PathTrackerModel", "product", "(II)V"⟩, 24) := ⟨⟨by decide +kernel, by decide +kernel⟩, List.mem_of_getElem? (i := 826) (by decide +kernel), List.mem_of_getElem? (i := 1006) (by decide +kernel), List.mem_of_getElem? (i := 1007) (by decide +kernel)⟩
theorem lw_p29 : lw_okq (⟨"PathTrackerModel", "worthWithGamma", "(II)V"⟩, 24) := ⟨⟨by decide +kernel, by decide +kernel⟩, List.mem_of_getElem? (i := 826) (by decide +kernel), List.mem_of_getElem? (i := 1010) (by decide +kernel), List.mem_of_getElem? (i := 1011) (by decide +kernel)⟩
theorem lw_p30 : lw_okq (⟨"PathTrackerModel", "solves", "()Z"⟩, 24) := ⟨⟨by decide +kernel, by decide +kernel⟩, List.mem_of_getElem? (i := 826) (by decide +kernel), List.mem_of_getElem? (i := 1014) (by decide +kernel), List.mem_of_getElem? (i := 1015) (by decide +kernel)⟩
theorem lw_p31 : lw_okq (⟨"PathTrackerModel", "cross", "(IIII)V"⟩, 24) := ⟨⟨by decide +kernel, by decide +kernel⟩, List.mem_of_getElem? (i := 826) (by decide +kernel), List.mem_of_getElem? (i := 1018) (by decide +kernel), List.mem_of_getElem? (i := 1019) (by decide +kernel)⟩
def lw_privs_2 : List (MethodName × Nat) := [(⟨"PathTrackerModel", "isOnWay", "(I)Z"⟩, 24), (⟨"PathTrackerModel", "save0", "()V"⟩, 24), (⟨"PathTrackerModel", "follows", "(II)I"⟩, 24), (⟨"PathTrackerModel", "tries", "(I)V"⟩, 24), (⟨"PathTrackerModel", "takes", "(I)V"⟩, 24), (⟨"PathTrackerModel", "predicts", "(II)Z"⟩, 24), (⟨"PathTrackerModel", "laySystem", "(I)V"⟩, 24), (⟨"PathTrackerModel", "layPoint", "()V"⟩, 24), (⟨"PathTrackerModel", "layPowers", "(IJJ)V"⟩, 24), (⟨"PathTrackerModel", "times", "(JJJJ)V"⟩, 24), (⟨"PathTrackerModel", "worth", "(II)V"⟩, 24), (⟨"PathTrackerModel", "coefficientOf", "(IIII)I"⟩, 24), (⟨"PathTrackerModel", "product", "(II)V"⟩, 24), (⟨"PathTrackerModel", "worthWithGamma", "(II)V"⟩, 24), (⟨"PathTrackerModel", "solves", "()Z"⟩, 24), (⟨"PathTrackerModel", "cross", "(IIII)V"⟩, 24)]
theorem lw_r2 : ∀ q ∈ lw_privs_2, lw_okq q := List.forall_mem_cons.mpr ⟨lw_p16, List.forall_mem_cons.mpr ⟨lw_p17, List.forall_mem_cons.mpr ⟨lw_p18, List.forall_mem_cons.mpr ⟨lw_p19, List.forall_mem_cons.mpr ⟨lw_p20, List.forall_mem_cons.mpr ⟨lw_p21, List.forall_mem_cons.mpr ⟨lw_p22, List.forall_mem_cons.mpr ⟨lw_p23, List.forall_mem_cons.mpr ⟨lw_p24, List.forall_mem_cons.mpr ⟨lw_p25, List.forall_mem_cons.mpr ⟨lw_p26, List.forall_mem_cons.mpr ⟨lw_p27, List.forall_mem_cons.mpr ⟨lw_p28, List.forall_mem_cons.mpr ⟨lw_p29, List.forall_mem_cons.mpr ⟨lw_p30, List.forall_mem_cons.mpr ⟨lw_p31, fun _ h => absurd h List.not_mem_nil⟩⟩⟩⟩⟩⟩⟩⟩⟩⟩⟩⟩⟩⟩⟩⟩
theorem lw_p32 : lw_okq (⟨"PathTrackerModel", "crossRight", "(IIII)V"⟩, 24) := ⟨⟨by decide +kernel, by decide +kernel⟩, List.mem_of_getElem? (i := 826) (by decide +kernel), List.mem_of_getElem? (i := 1022) (by decide +kernel), List.mem_of_getElem? (i := 1023) (by decide +kernel)⟩
theorem lw_p33 : lw_okq (⟨"PathTrackerModel", "divides", "(JJJJ)Z"⟩, 24) := ⟨⟨by decide +kernel, by decide +kernel⟩, List.mem_of_getElem? (i := 826) (by decide +kernel), List.mem_of_getElem? (i := 1026) (by decide +kernel), List.mem_of_getElem? (i := 1027) (by decide +kernel)⟩
theorem lw_p34 : lw_okq (⟨"PathTrackerModel", "goes", "()V"⟩, 24) := ⟨⟨by decide +kernel, by decide +kernel⟩, List.mem_of_getElem? (i := 826) (by decide +kernel), List.mem_of_getElem? (i := 1030) (by decide +kernel), List.mem_of_getElem? (i := 1031) (by decide +kernel)⟩
theorem lw_p35 : lw_okq (⟨"PathTrackerModel", "corrects", "(I)Z"⟩, 24) := ⟨⟨by decide +kernel, by decide +kernel⟩, List.mem_of_getElem? (i := 826) (by decide +kernel), List.mem_of_getElem? (i := 1034) (by decide +kernel), List.mem_of_getElem? (i := 1035) (by decide +kernel)⟩
theorem lw_p36 : lw_okq (⟨"PathTrackerModel", "wasGood", "(II)V"⟩, 24) := ⟨⟨by decide +kernel, by decide +kernel⟩, List.mem_of_getElem? (i := 826) (by decide +kernel), List.mem_of_getElem? (i := 1044) (by decide +kernel), List.mem_of_getElem? (i := 1045) (by decide +kernel)⟩
theorem lw_p37 : lw_okq (⟨"PathTrackerModel", "hasFailed", "(I)V"⟩, 24) := ⟨⟨by decide +kernel, by decide +kernel⟩, List.mem_of_getElem? (i := 826) (by decide +kernel), List.mem_of_getElem? (i := 1048) (by decide +kernel), List.mem_of_getElem? (i := 1049) (by decide +kernel)⟩
theorem lw_p38 : lw_okq (⟨"PathTrackerModel", "many", "(I)I"⟩, 24) := ⟨⟨by decide +kernel, by decide +kernel⟩, List.mem_of_getElem? (i := 826) (by decide +kernel), List.mem_of_getElem? (i := 1057) (by decide +kernel), List.mem_of_getElem? (i := 1058) (by decide +kernel)⟩
theorem lw_p39 : lw_okq (⟨"PathTrackerModel", "residue", "(I)I"⟩, 24) := ⟨⟨by decide +kernel, by decide +kernel⟩, List.mem_of_getElem? (i := 826) (by decide +kernel), List.mem_of_getElem? (i := 1069) (by decide +kernel), List.mem_of_getElem? (i := 1070) (by decide +kernel)⟩
theorem lw_p40 : lw_okq (⟨"PathTrackerModel", "thousandths", "(II)I"⟩, 24) := ⟨⟨by decide +kernel, by decide +kernel⟩, List.mem_of_getElem? (i := 826) (by decide +kernel), List.mem_of_getElem? (i := 1074) (by decide +kernel), List.mem_of_getElem? (i := 1075) (by decide +kernel)⟩
theorem lw_p41 : lw_okq (⟨"PathTrackerModel", "isAtEnd", "(I)Z"⟩, 24) := ⟨⟨by decide +kernel, by decide +kernel⟩, List.mem_of_getElem? (i := 826) (by decide +kernel), List.mem_of_getElem? (i := 1082) (by decide +kernel), List.mem_of_getElem? (i := 1083) (by decide +kernel)⟩
theorem lw_p42 : lw_okq (⟨"PathTrackerModel", "firstMet", "(I)I"⟩, 24) := ⟨⟨by decide +kernel, by decide +kernel⟩, List.mem_of_getElem? (i := 826) (by decide +kernel), List.mem_of_getElem? (i := 1086) (by decide +kernel), List.mem_of_getElem? (i := 1087) (by decide +kernel)⟩
theorem lw_p43 : lw_okq (⟨"PathTrackerModel", "areMet", "(II)Z"⟩, 24) := ⟨⟨by decide +kernel, by decide +kernel⟩, List.mem_of_getElem? (i := 826) (by decide +kernel), List.mem_of_getElem? (i := 1090) (by decide +kernel), List.mem_of_getElem? (i := 1091) (by decide +kernel)⟩
theorem lw_p44 : lw_okq (⟨"PathTrackerModel", "isAhead", "(II)Z"⟩, 24) := ⟨⟨by decide +kernel, by decide +kernel⟩, List.mem_of_getElem? (i := 826) (by decide +kernel), List.mem_of_getElem? (i := 1103) (by decide +kernel), List.mem_of_getElem? (i := 1104) (by decide +kernel)⟩
theorem lw_p45 : lw_okq (⟨"PathTrackerModel", "distinct", "()I"⟩, 24) := ⟨⟨by decide +kernel, by decide +kernel⟩, List.mem_of_getElem? (i := 826) (by decide +kernel), List.mem_of_getElem? (i := 1121) (by decide +kernel), List.mem_of_getElem? (i := 1122) (by decide +kernel)⟩
theorem lw_p46 : lw_okq (⟨"PathTrackerModel", "reals", "()I"⟩, 24) := ⟨⟨by decide +kernel, by decide +kernel⟩, List.mem_of_getElem? (i := 826) (by decide +kernel), List.mem_of_getElem? (i := 1125) (by decide +kernel), List.mem_of_getElem? (i := 1126) (by decide +kernel)⟩
theorem lw_p47 : lw_okq (⟨"PathTrackerModel", "faultOf", "()I"⟩, 24) := ⟨⟨by decide +kernel, by decide +kernel⟩, List.mem_of_getElem? (i := 826) (by decide +kernel), List.mem_of_getElem? (i := 1142) (by decide +kernel), List.mem_of_getElem? (i := 1143) (by decide +kernel)⟩
def lw_privs_3 : List (MethodName × Nat) := [(⟨"PathTrackerModel", "crossRight", "(IIII)V"⟩, 24), (⟨"PathTrackerModel", "divides", "(JJJJ)Z"⟩, 24), (⟨"PathTrackerModel", "goes", "()V"⟩, 24), (⟨"PathTrackerModel", "corrects", "(I)Z"⟩, 24), (⟨"PathTrackerModel", "wasGood", "(II)V"⟩, 24), (⟨"PathTrackerModel", "hasFailed", "(I)V"⟩, 24), (⟨"PathTrackerModel", "many", "(I)I"⟩, 24), (⟨"PathTrackerModel", "residue", "(I)I"⟩, 24), (⟨"PathTrackerModel", "thousandths", "(II)I"⟩, 24), (⟨"PathTrackerModel", "isAtEnd", "(I)Z"⟩, 24), (⟨"PathTrackerModel", "firstMet", "(I)I"⟩, 24), (⟨"PathTrackerModel", "areMet", "(II)Z"⟩, 24), (⟨"PathTrackerModel", "isAhead", "(II)Z"⟩, 24), (⟨"PathTrackerModel", "distinct", "()I"⟩, 24), (⟨"PathTrackerModel", "reals", "()I"⟩, 24), (⟨"PathTrackerModel", "faultOf", "()I"⟩, 24)]
theorem lw_r3 : ∀ q ∈ lw_privs_3, lw_okq q := List.forall_mem_cons.mpr ⟨lw_p32, List.forall_mem_cons.mpr ⟨lw_p33, List.forall_mem_cons.mpr ⟨lw_p34, List.forall_mem_cons.mpr ⟨lw_p35, List.forall_mem_cons.mpr ⟨lw_p36, List.forall_mem_cons.mpr ⟨lw_p37, List.forall_mem_cons.mpr ⟨lw_p38, List.forall_mem_cons.mpr ⟨lw_p39, List.forall_mem_cons.mpr ⟨lw_p40, List.forall_mem_cons.mpr ⟨lw_p41, List.forall_mem_cons.mpr ⟨lw_p42, List.forall_mem_cons.mpr ⟨lw_p43, List.forall_mem_cons.mpr ⟨lw_p44, List.forall_mem_cons.mpr ⟨lw_p45, List.forall_mem_cons.mpr ⟨lw_p46, List.forall_mem_cons.mpr ⟨lw_p47, fun _ h => absurd h List.not_mem_nil⟩⟩⟩⟩⟩⟩⟩⟩⟩⟩⟩⟩⟩⟩⟩⟩
theorem lw_p48 : lw_okq (⟨"PathTrackerModel", "here", "()I"⟩, 24) := ⟨⟨by decide +kernel, by decide +kernel⟩, List.mem_of_getElem? (i := 826) (by decide +kernel), List.mem_of_getElem? (i := 1146) (by decide +kernel), List.mem_of_getElem? (i := 1147) (by decide +kernel)⟩
theorem lw_p49 : lw_okq (⟨"PathTrackerModel", "readTerm", "()Z"⟩, 24) := ⟨⟨by decide +kernel, by decide +kernel⟩, List.mem_of_getElem? (i := 826) (by decide +kernel), List.mem_of_getElem? (i := 1150) (by decide +kernel), List.mem_of_getElem? (i := 1151) (by decide +kernel)⟩
theorem lw_p50 : lw_okq (⟨"PathTrackerModel", "isDigit", "()Z"⟩, 24) := ⟨⟨by decide +kernel, by decide +kernel⟩, List.mem_of_getElem? (i := 826) (by decide +kernel), List.mem_of_getElem? (i := 1154) (by decide +kernel), List.mem_of_getElem? (i := 1155) (by decide +kernel)⟩
theorem lw_p51 : lw_okq (⟨"PathTrackerModel", "readNumber", "()V"⟩, 24) := ⟨⟨by decide +kernel, by decide +kernel⟩, List.mem_of_getElem? (i := 826) (by decide +kernel), List.mem_of_getElem? (i := 1158) (by decide +kernel), List.mem_of_getElem? (i := 1159) (by decide +kernel)⟩
theorem lw_p52 : lw_okq (⟨"PathTrackerModel", "isFactor", "()Z"⟩, 24) := ⟨⟨by decide +kernel, by decide +kernel⟩, List.mem_of_getElem? (i := 826) (by decide +kernel), List.mem_of_getElem? (i := 1162) (by decide +kernel), List.mem_of_getElem? (i := 1163) (by decide +kernel)⟩
theorem lw_p53 : lw_okq (⟨"PathTrackerModel", "readFactor", "()Z"⟩, 24) := ⟨⟨by decide +kernel, by decide +kernel⟩, List.mem_of_getElem? (i := 826) (by decide +kernel), List.mem_of_getElem? (i := 1166) (by decide +kernel), List.mem_of_getElem? (i := 1167) (by decide +kernel)⟩
theorem lw_p54 : lw_okq (⟨"PathTrackerModel", "adds", "(Z)V"⟩, 24) := ⟨⟨by decide +kernel, by decide +kernel⟩, List.mem_of_getElem? (i := 826) (by decide +kernel), List.mem_of_getElem? (i := 1170) (by decide +kernel), List.mem_of_getElem? (i := 1171) (by decide +kernel)⟩
theorem lw_p55 : lw_okq (⟨"PathTrackerModel", "degreeTold", "()I"⟩, 24) := ⟨⟨by decide +kernel, by decide +kernel⟩, List.mem_of_getElem? (i := 826) (by decide +kernel), List.mem_of_getElem? (i := 1181) (by decide +kernel), List.mem_of_getElem? (i := 1182) (by decide +kernel)⟩
def lw_privs_4 : List (MethodName × Nat) := [(⟨"PathTrackerModel", "here", "()I"⟩, 24), (⟨"PathTrackerModel", "readTerm", "()Z"⟩, 24), (⟨"PathTrackerModel", "isDigit", "()Z"⟩, 24), (⟨"PathTrackerModel", "readNumber", "()V"⟩, 24), (⟨"PathTrackerModel", "isFactor", "()Z"⟩, 24), (⟨"PathTrackerModel", "readFactor", "()Z"⟩, 24), (⟨"PathTrackerModel", "adds", "(Z)V"⟩, 24), (⟨"PathTrackerModel", "degreeTold", "()I"⟩, 24)]
theorem lw_r4 : ∀ q ∈ lw_privs_4, lw_okq q := List.forall_mem_cons.mpr ⟨lw_p48, List.forall_mem_cons.mpr ⟨lw_p49, List.forall_mem_cons.mpr ⟨lw_p50, List.forall_mem_cons.mpr ⟨lw_p51, List.forall_mem_cons.mpr ⟨lw_p52, List.forall_mem_cons.mpr ⟨lw_p53, List.forall_mem_cons.mpr ⟨lw_p54, List.forall_mem_cons.mpr ⟨lw_p55, fun _ h => absurd h List.not_mem_nil⟩⟩⟩⟩⟩⟩⟩⟩
def lw_privs : List (MethodName × Nat) := lw_privs_1 ++ (lw_privs_2 ++ (lw_privs_3 ++ (lw_privs_4)))
def lw_tbl : List Cond := k2_sels lw_privs ++ tables_1
theorem lw_privs_ok : ∀ q ∈ lw_privs, lw_okq q := by
  show ∀ q ∈ lw_privs_1 ++ (lw_privs_2 ++ (lw_privs_3 ++ (lw_privs_4))), lw_okq q
  exact List.forall_mem_append.mpr ⟨lw_r1, List.forall_mem_append.mpr ⟨lw_r2, List.forall_mem_append.mpr ⟨lw_r3, lw_r4⟩⟩⟩
def RX0 : String := "PathTracker$Complex"
def TX0 : u_T := fun k => match k with
  | 0 => ("PathTracker$Complex", "re", "J", false)
  | _ => ("PathTracker$Complex", "im", "J", false)
def tyX0 : Nat → FieldType := fun k => match k with
  | 0 => .long
  | _ => .long
theorem nmX0 : ∀ a, a < 2 → ∀ b, b < 2 → a ≠ b → (TX0 a).2.1 ≠ (TX0 b).2.1 := by decide +kernel
theorem tyX0_ok : ∀ k, k < 2 → parseFieldDescriptor (TX0 k).2.2.1 = some (tyX0 k) := by decide +kernel
abbrev cX0_init : ByteArray := prog_2_method_1_code
def yX0_init : MethodName := ⟨RX0, "<init>", "()V"⟩
abbrev cX0_put : ByteArray := prog_2_method_2_code
def yX0_put : MethodName := ⟨RX0, "put", "(JJ)V"⟩
abbrev cX0_copy : ByteArray := prog_2_method_3_code
def yX0_copy : MethodName := ⟨RX0, "copy", "(LPathTracker$Complex;)V"⟩
abbrev cX0_add : ByteArray := prog_2_method_4_code
def yX0_add : MethodName := ⟨RX0, "add", "(LPathTracker$Complex;)V"⟩
abbrev cX0_putDifference : ByteArray := prog_2_method_5_code
def yX0_putDifference : MethodName := ⟨RX0, "putDifference", "(LPathTracker$Complex;LPathTracker$Complex;)V"⟩
abbrev cX0_putNegative : ByteArray := prog_2_method_6_code
def yX0_putNegative : MethodName := ⟨RX0, "putNegative", "(LPathTracker$Complex;)V"⟩
abbrev cX0_scale : ByteArray := prog_2_method_7_code
def yX0_scale : MethodName := ⟨RX0, "scale", "(J)V"⟩
abbrev cX0_takeShare : ByteArray := prog_2_method_8_code
def yX0_takeShare : MethodName := ⟨RX0, "takeShare", "(JJ)V"⟩
abbrev cX0_putMix : ByteArray := prog_2_method_9_code
def yX0_putMix : MethodName := ⟨RX0, "putMix", "(LPathTracker$Complex;JLPathTracker$Complex;J)V"⟩
abbrev cX0_putTimesGaussian : ByteArray := prog_2_method_10_code
def yX0_putTimesGaussian : MethodName := ⟨RX0, "putTimesGaussian", "(LPathTracker$Complex;JJ)V"⟩
abbrev cX0_putProduct : ByteArray := prog_2_method_11_code
def yX0_putProduct : MethodName := ⟨RX0, "putProduct", "(LPathTracker$Complex;LPathTracker$Complex;J)V"⟩
abbrev cX0_divideBy : ByteArray := prog_2_method_12_code
def yX0_divideBy : MethodName := ⟨RX0, "divideBy", "(LPathTracker$Complex;J)Z"⟩
abbrev cX0_size : ByteArray := prog_2_method_13_code
def yX0_size : MethodName := ⟨RX0, "size", "()J"⟩
abbrev cX0_thousandths : ByteArray := prog_2_method_14_code
def yX0_thousandths : MethodName := ⟨RX0, "thousandths", "(JJ)I"⟩
def RX1 : String := "PathTracker$Equation"
def TX1 : u_T := fun k => match k with
  | 0 => ("PathTracker$Equation", "re", "[I", true)
  | 1 => ("PathTracker$Equation", "im", "[I", true)
  | _ => ("PathTracker$Equation", "product", "LPathTracker$Complex;", true)
def tyX1 : Nat → FieldType := fun k => match k with
  | 0 => .array .int
  | 1 => .array .int
  | _ => .object "PathTracker$Complex"
theorem nmX1 : ∀ a, a < 3 → ∀ b, b < 3 → a ≠ b → (TX1 a).2.1 ≠ (TX1 b).2.1 := by decide +kernel
theorem tyX1_ok : ∀ k, k < 3 → parseFieldDescriptor (TX1 k).2.2.1 = some (tyX1 k) := by decide +kernel
abbrev cX1_init : ByteArray := prog_3_method_1_code
def yX1_init : MethodName := ⟨RX1, "<init>", "()V"⟩
abbrev cX1_termOf : ByteArray := prog_3_method_2_code
def yX1_termOf : MethodName := ⟨RX1, "termOf", "(II)I"⟩
abbrev cX1_heldCoefficient : ByteArray := prog_3_method_3_code
def yX1_heldCoefficient : MethodName := ⟨RX1, "heldCoefficient", "(I)I"⟩
abbrev cX1_clear : ByteArray := prog_3_method_4_code
def yX1_clear : MethodName := ⟨RX1, "clear", "()V"⟩
abbrev cX1_copy : ByteArray := prog_3_method_5_code
def yX1_copy : MethodName := ⟨RX1, "copy", "(LPathTracker$Equation;)V"⟩
abbrev cX1_addTerm : ByteArray := prog_3_method_6_code
def yX1_addTerm : MethodName := ⟨RX1, "addTerm", "(IIII)V"⟩
abbrev cX1_putStart : ByteArray := prog_3_method_7_code
def yX1_putStart : MethodName := ⟨RX1, "putStart", "(IZ)V"⟩
abbrev cX1_realPart : ByteArray := prog_3_method_8_code
def yX1_realPart : MethodName := ⟨RX1, "realPart", "(II)I"⟩
abbrev cX1_imaginaryPart : ByteArray := prog_3_method_9_code
def yX1_imaginaryPart : MethodName := ⟨RX1, "imaginaryPart", "(II)I"⟩
abbrev cX1_degree : ByteArray := prog_3_method_10_code
def yX1_degree : MethodName := ⟨RX1, "degree", "()I"⟩
abbrev cX1_evaluate : ByteArray := prog_3_method_11_code
def yX1_evaluate : MethodName := ⟨RX1, "evaluate", "(LPathTracker$Powers;LPathTracker$Tangent;)V"⟩
def RX2 : String := "PathTracker$EquationText"
def TX2 : u_T := fun k => match k with
  | 0 => ("PathTracker$EquationText", "signs", "[I", true)
  | 1 => ("PathTracker$EquationText", "equation", "LPathTracker$Equation;", true)
  | 2 => ("PathTracker$EquationText", "length", "I", false)
  | _ => ("PathTracker$EquationText", "reading", "I", false)
def tyX2 : Nat → FieldType := fun k => match k with
  | 0 => .array .int
  | 1 => .object "PathTracker$Equation"
  | 2 => .int
  | _ => .int
theorem nmX2 : ∀ a, a < 4 → ∀ b, b < 4 → a ≠ b → (TX2 a).2.1 ≠ (TX2 b).2.1 := by decide +kernel
theorem tyX2_ok : ∀ k, k < 4 → parseFieldDescriptor (TX2 k).2.2.1 = some (tyX2 k) := by decide +kernel
abbrev cX2_init : ByteArray := prog_4_method_1_code
def yX2_init : MethodName := ⟨RX2, "<init>", "()V"⟩
abbrev cX2_length : ByteArray := prog_4_method_2_code
def yX2_length : MethodName := ⟨RX2, "length", "()I"⟩
abbrev cX2_append : ByteArray := prog_4_method_3_code
def yX2_append : MethodName := ⟨RX2, "append", "(I)Z"⟩
abbrev cX2_empty : ByteArray := prog_4_method_4_code
def yX2_empty : MethodName := ⟨RX2, "empty", "()V"⟩
abbrev cX2_readingPlace : ByteArray := prog_4_method_5_code
def yX2_readingPlace : MethodName := ⟨RX2, "readingPlace", "()I"⟩
abbrev cX2_readEquation : ByteArray := prog_4_method_6_code
def yX2_readEquation : MethodName := ⟨RX2, "readEquation", "()LPathTracker$Equation;"⟩
abbrev cX2_read : ByteArray := prog_4_method_7_code
def yX2_read : MethodName := ⟨RX2, "read", "()Z"⟩
abbrev cX2_readTerm : ByteArray := prog_4_method_8_code
def yX2_readTerm : MethodName := ⟨RX2, "readTerm", "(Z)Z"⟩
abbrev cX2_readNumber : ByteArray := prog_4_method_9_code
def yX2_readNumber : MethodName := ⟨RX2, "readNumber", "()I"⟩
abbrev cX2_readFactor : ByteArray := prog_4_method_10_code
def yX2_readFactor : MethodName := ⟨RX2, "readFactor", "(I)I"⟩
abbrev cX2_signHere : ByteArray := prog_4_method_11_code
def yX2_signHere : MethodName := ⟨RX2, "signHere", "()I"⟩
abbrev cX2_isDigit : ByteArray := prog_4_method_12_code
def yX2_isDigit : MethodName := ⟨RX2, "isDigit", "(I)Z"⟩
abbrev cX2_isUnknown : ByteArray := prog_4_method_13_code
def yX2_isUnknown : MethodName := ⟨RX2, "isUnknown", "(I)Z"⟩
def RX3 : String := "PathTracker$Follower"
def TX3 : u_T := fun k => match k with
  | 0 => ("PathTracker$Follower", "homotopy", "LPathTracker$Homotopy;", true)
  | 1 => ("PathTracker$Follower", "solver", "LPathTracker$Solver;", true)
  | 2 => ("PathTracker$Follower", "x", "LPathTracker$Complex;", true)
  | 3 => ("PathTracker$Follower", "y", "LPathTracker$Complex;", true)
  | 4 => ("PathTracker$Follower", "firstStep", "I", false)
  | 5 => ("PathTracker$Follower", "rounds", "I", false)
  | 6 => ("PathTracker$Follower", "tolerance", "I", false)
  | _ => ("PathTracker$Follower", "bound", "I", false)
def tyX3 : Nat → FieldType := fun k => match k with
  | 0 => .object "PathTracker$Homotopy"
  | 1 => .object "PathTracker$Solver"
  | 2 => .object "PathTracker$Complex"
  | 3 => .object "PathTracker$Complex"
  | 4 => .int
  | 5 => .int
  | 6 => .int
  | _ => .int
theorem nmX3 : ∀ a, a < 8 → ∀ b, b < 8 → a ≠ b → (TX3 a).2.1 ≠ (TX3 b).2.1 := by decide +kernel
theorem tyX3_ok : ∀ k, k < 8 → parseFieldDescriptor (TX3 k).2.2.1 = some (tyX3 k) := by decide +kernel
abbrev cX3_init : ByteArray := prog_5_method_1_code
def yX3_init : MethodName := ⟨RX3, "<init>", "()V"⟩
abbrev cX3_aim : ByteArray := prog_5_method_2_code
def yX3_aim : MethodName := ⟨RX3, "aim", "(LPathTracker$State;)V"⟩
abbrev cX3_follow : ByteArray := prog_5_method_3_code
def yX3_follow : MethodName := ⟨RX3, "follow", "(LPathTracker$Path;I)I"⟩
abbrev cX3_predict : ByteArray := prog_5_method_4_code
def yX3_predict : MethodName := ⟨RX3, "predict", "(IIJ)Z"⟩
abbrev cX3_correct : ByteArray := prog_5_method_5_code
def yX3_correct : MethodName := ⟨RX3, "correct", "(IJ)Z"⟩
abbrev cX3_residue : ByteArray := prog_5_method_6_code
def yX3_residue : MethodName := ⟨RX3, "residue", "(LPathTracker$Path;)I"⟩
def RX4 : String := "PathTracker$History"
def TX4 : u_T := fun k => match k with
  | 0 => ("PathTracker$History", "ring", "[LPathTracker$State;", true)
  | 1 => ("PathTracker$History", "first", "I", false)
  | _ => ("PathTracker$History", "size", "I", false)
def tyX4 : Nat → FieldType := fun k => match k with
  | 0 => .array (.object "PathTracker$State")
  | 1 => .int
  | _ => .int
theorem nmX4 : ∀ a, a < 3 → ∀ b, b < 3 → a ≠ b → (TX4 a).2.1 ≠ (TX4 b).2.1 := by decide +kernel
theorem tyX4_ok : ∀ k, k < 3 → parseFieldDescriptor (TX4 k).2.2.1 = some (tyX4 k) := by decide +kernel
abbrev cX4_init : ByteArray := prog_6_method_1_code
def yX4_init : MethodName := ⟨RX4, "<init>", "()V"⟩
abbrev cX4_size : ByteArray := prog_6_method_2_code
def yX4_size : MethodName := ⟨RX4, "size", "()I"⟩
abbrev cX4_record : ByteArray := prog_6_method_3_code
def yX4_record : MethodName := ⟨RX4, "record", "(LPathTracker$State;)V"⟩
abbrev cX4_takeBack : ByteArray := prog_6_method_4_code
def yX4_takeBack : MethodName := ⟨RX4, "takeBack", "(LPathTracker$State;)Z"⟩
def RX5 : String := "PathTracker$Homotopy"
def TX5 : u_T := fun k => match k with
  | 0 => ("PathTracker$Homotopy", "powers", "LPathTracker$Powers;", true)
  | 1 => ("PathTracker$Homotopy", "wanted", "[LPathTracker$Equation;", true)
  | 2 => ("PathTracker$Homotopy", "starts", "[LPathTracker$Equation;", true)
  | 3 => ("PathTracker$Homotopy", "ends", "[LPathTracker$Tangent;", true)
  | 4 => ("PathTracker$Homotopy", "begins", "[LPathTracker$Tangent;", true)
  | 5 => ("PathTracker$Homotopy", "mixes", "[LPathTracker$Tangent;", true)
  | 6 => ("PathTracker$Homotopy", "gammaRe", "I", false)
  | _ => ("PathTracker$Homotopy", "gammaIm", "I", false)
def tyX5 : Nat → FieldType := fun k => match k with
  | 0 => .object "PathTracker$Powers"
  | 1 => .array (.object "PathTracker$Equation")
  | 2 => .array (.object "PathTracker$Equation")
  | 3 => .array (.object "PathTracker$Tangent")
  | 4 => .array (.object "PathTracker$Tangent")
  | 5 => .array (.object "PathTracker$Tangent")
  | 6 => .int
  | _ => .int
theorem nmX5 : ∀ a, a < 8 → ∀ b, b < 8 → a ≠ b → (TX5 a).2.1 ≠ (TX5 b).2.1 := by decide +kernel
theorem tyX5_ok : ∀ k, k < 8 → parseFieldDescriptor (TX5 k).2.2.1 = some (tyX5 k) := by decide +kernel
abbrev cX5_init : ByteArray := prog_7_method_1_code
def yX5_init : MethodName := ⟨RX5, "<init>", "()V"⟩
abbrev cX5_aim : ByteArray := prog_7_method_2_code
def yX5_aim : MethodName := ⟨RX5, "aim", "(LPathTracker$State;)V"⟩
abbrev cX5_evaluate : ByteArray := prog_7_method_3_code
def yX5_evaluate : MethodName := ⟨RX5, "evaluate", "(LPathTracker$Complex;LPathTracker$Complex;IJ)V"⟩
abbrev cX5_end : ByteArray := prog_7_method_4_code
def yX5_end : MethodName := ⟨RX5, "end", "(I)LPathTracker$Tangent;"⟩
abbrev cX5_begin : ByteArray := prog_7_method_5_code
def yX5_begin : MethodName := ⟨RX5, "begin", "(I)LPathTracker$Tangent;"⟩
abbrev cX5_mix : ByteArray := prog_7_method_6_code
def yX5_mix : MethodName := ⟨RX5, "mix", "(I)LPathTracker$Tangent;"⟩
def RX6 : String := "PathTracker$Path"
def TX6 : u_T := fun k => match k with
  | 0 => ("PathTracker$Path", "x", "LPathTracker$Complex;", true)
  | 1 => ("PathTracker$Path", "y", "LPathTracker$Complex;", true)
  | 2 => ("PathTracker$Path", "status", "I", false)
  | 3 => ("PathTracker$Path", "place", "I", false)
  | 4 => ("PathTracker$Path", "step", "I", false)
  | 5 => ("PathTracker$Path", "greatestStep", "I", false)
  | 6 => ("PathTracker$Path", "precision", "I", false)
  | 7 => ("PathTracker$Path", "goodTries", "I", false)
  | 8 => ("PathTracker$Path", "failedTries", "I", false)
  | _ => ("PathTracker$Path", "row", "I", false)
def tyX6 : Nat → FieldType := fun k => match k with
  | 0 => .object "PathTracker$Complex"
  | 1 => .object "PathTracker$Complex"
  | 2 => .int
  | 3 => .int
  | 4 => .int
  | 5 => .int
  | 6 => .int
  | 7 => .int
  | 8 => .int
  | _ => .int
theorem nmX6 : ∀ a, a < 10 → ∀ b, b < 10 → a ≠ b → (TX6 a).2.1 ≠ (TX6 b).2.1 := by decide +kernel
theorem tyX6_ok : ∀ k, k < 10 → parseFieldDescriptor (TX6 k).2.2.1 = some (tyX6 k) := by decide +kernel
abbrev cX6_init : ByteArray := prog_8_method_1_code
def yX6_init : MethodName := ⟨RX6, "<init>", "()V"⟩
abbrev cX6_begin : ByteArray := prog_8_method_2_code
def yX6_begin : MethodName := ⟨RX6, "begin", "(II)V"⟩
abbrev cX6_putOnRoots : ByteArray := prog_8_method_3_code
def yX6_putOnRoots : MethodName := ⟨RX6, "putOnRoots", "(IIII)V"⟩
abbrev cX6_putRootOfOne : ByteArray := prog_8_method_4_code
def yX6_putRootOfOne : MethodName := ⟨RX6, "putRootOfOne", "(LPathTracker$Complex;IIJ)V"⟩
abbrev cX6_copy : ByteArray := prog_8_method_5_code
def yX6_copy : MethodName := ⟨RX6, "copy", "(LPathTracker$Path;)V"⟩
abbrev cX6_unit : ByteArray := prog_8_method_6_code
def yX6_unit : MethodName := ⟨RX6, "unit", "()J"⟩
abbrev cX6_moveOn : ByteArray := prog_8_method_7_code
def yX6_moveOn : MethodName := ⟨RX6, "moveOn", "(ILPathTracker$Complex;LPathTracker$Complex;I)V"⟩
abbrev cX6_shorten : ByteArray := prog_8_method_8_code
def yX6_shorten : MethodName := ⟨RX6, "shorten", "(I)V"⟩
abbrev cX6_part : ByteArray := prog_8_method_9_code
def yX6_part : MethodName := ⟨RX6, "part", "(I)I"⟩
abbrev cX6_isNear : ByteArray := prog_8_method_10_code
def yX6_isNear : MethodName := ⟨RX6, "isNear", "(LPathTracker$Path;I)Z"⟩
abbrev cX6_isReal : ByteArray := prog_8_method_11_code
def yX6_isReal : MethodName := ⟨RX6, "isReal", "(I)Z"⟩
abbrev cX6_compareParts : ByteArray := prog_8_method_12_code
def yX6_compareParts : MethodName := ⟨RX6, "compareParts", "(LPathTracker$Path;)I"⟩
def RX7 : String := "PathTracker$Powers"
def TX7 : u_T := fun k => match k with
  | _ => ("PathTracker$Powers", "products", "[LPathTracker$Complex;", true)
def tyX7 : Nat → FieldType := fun k => match k with
  | _ => .array (.object "PathTracker$Complex")
theorem nmX7 : ∀ a, a < 1 → ∀ b, b < 1 → a ≠ b → (TX7 a).2.1 ≠ (TX7 b).2.1 := by decide +kernel
theorem tyX7_ok : ∀ k, k < 1 → parseFieldDescriptor (TX7 k).2.2.1 = some (tyX7 k) := by decide +kernel
abbrev cX7_init : ByteArray := prog_9_method_1_code
def yX7_init : MethodName := ⟨RX7, "<init>", "()V"⟩
abbrev cX7_fill : ByteArray := prog_9_method_2_code
def yX7_fill : MethodName := ⟨RX7, "fill", "(LPathTracker$Complex;LPathTracker$Complex;J)V"⟩
abbrev cX7_at : ByteArray := prog_9_method_3_code
def yX7_at : MethodName := ⟨RX7, "at", "(I)LPathTracker$Complex;"⟩
def RX8 : String := "PathTracker$Solver"
def TX8 : u_T := fun k => match k with
  | 0 => ("PathTracker$Solver", "right0", "LPathTracker$Complex;", true)
  | 1 => ("PathTracker$Solver", "right1", "LPathTracker$Complex;", true)
  | 2 => ("PathTracker$Solver", "u", "LPathTracker$Complex;", true)
  | 3 => ("PathTracker$Solver", "v", "LPathTracker$Complex;", true)
  | 4 => ("PathTracker$Solver", "determinant", "LPathTracker$Complex;", true)
  | _ => ("PathTracker$Solver", "product", "LPathTracker$Complex;", true)
def tyX8 : Nat → FieldType := fun k => match k with
  | 0 => .object "PathTracker$Complex"
  | 1 => .object "PathTracker$Complex"
  | 2 => .object "PathTracker$Complex"
  | 3 => .object "PathTracker$Complex"
  | 4 => .object "PathTracker$Complex"
  | _ => .object "PathTracker$Complex"
theorem nmX8 : ∀ a, a < 6 → ∀ b, b < 6 → a ≠ b → (TX8 a).2.1 ≠ (TX8 b).2.1 := by decide +kernel
theorem tyX8_ok : ∀ k, k < 6 → parseFieldDescriptor (TX8 k).2.2.1 = some (tyX8 k) := by decide +kernel
abbrev cX8_init : ByteArray := prog_10_method_1_code
def yX8_init : MethodName := ⟨RX8, "<init>", "()V"⟩
abbrev cX8_cross : ByteArray := prog_10_method_2_code
def yX8_cross : MethodName := ⟨RX8, "cross", "(LPathTracker$Complex;LPathTracker$Complex;LPathTracker$Complex;LPathTracker$Complex;LPathTracker$Complex;J)V"⟩
abbrev cX8_moveBySolution : ByteArray := prog_10_method_3_code
def yX8_moveBySolution : MethodName := ⟨RX8, "moveBySolution", "(LPathTracker$Tangent;LPathTracker$Tangent;LPathTracker$Complex;LPathTracker$Complex;J)Z"⟩
abbrev cX8_solutionSize : ByteArray := prog_10_method_4_code
def yX8_solutionSize : MethodName := ⟨RX8, "solutionSize", "()J"⟩
def RX9 : String := "PathTracker$State"
def TX9 : u_T := fun k => match k with
  | 0 => ("PathTracker$State", "equation0", "LPathTracker$Equation;", true)
  | 1 => ("PathTracker$State", "equation1", "LPathTracker$Equation;", true)
  | 2 => ("PathTracker$State", "settings", "[I", true)
  | 3 => ("PathTracker$State", "paths", "[LPathTracker$Path;", true)
  | _ => ("PathTracker$State", "used", "I", false)
def tyX9 : Nat → FieldType := fun k => match k with
  | 0 => .object "PathTracker$Equation"
  | 1 => .object "PathTracker$Equation"
  | 2 => .array .int
  | 3 => .array (.object "PathTracker$Path")
  | _ => .int
theorem nmX9 : ∀ a, a < 5 → ∀ b, b < 5 → a ≠ b → (TX9 a).2.1 ≠ (TX9 b).2.1 := by decide +kernel
theorem tyX9_ok : ∀ k, k < 5 → parseFieldDescriptor (TX9 k).2.2.1 = some (tyX9 k) := by decide +kernel
abbrev cX9_init : ByteArray := prog_11_method_1_code
def yX9_init : MethodName := ⟨RX9, "<init>", "()V"⟩
abbrev cX9_putFirstState : ByteArray := prog_11_method_2_code
def yX9_putFirstState : MethodName := ⟨RX9, "putFirstState", "()V"⟩
abbrev cX9_copy : ByteArray := prog_11_method_3_code
def yX9_copy : MethodName := ⟨RX9, "copy", "(LPathTracker$State;)V"⟩
abbrev cX9_equationAt : ByteArray := prog_11_method_4_code
def yX9_equationAt : MethodName := ⟨RX9, "equationAt", "(I)LPathTracker$Equation;"⟩
abbrev cX9_putEquation : ByteArray := prog_11_method_5_code
def yX9_putEquation : MethodName := ⟨RX9, "putEquation", "(ILPathTracker$Equation;)V"⟩
abbrev cX9_inRange : ByteArray := prog_11_method_6_code
def yX9_inRange : MethodName := ⟨RX9, "inRange", "(II)Z"⟩
abbrev cX9_setting : ByteArray := prog_11_method_7_code
def yX9_setting : MethodName := ⟨RX9, "setting", "(I)I"⟩
abbrev cX9_putSetting : ByteArray := prog_11_method_8_code
def yX9_putSetting : MethodName := ⟨RX9, "putSetting", "(II)V"⟩
abbrev cX9_isOtherGammaPartZero : ByteArray := prog_11_method_9_code
def yX9_isOtherGammaPartZero : MethodName := ⟨RX9, "isOtherGammaPartZero", "(I)Z"⟩
abbrev cX9_beginPaths : ByteArray := prog_11_method_10_code
def yX9_beginPaths : MethodName := ⟨RX9, "beginPaths", "()V"⟩
abbrev cX9_beginPath : ByteArray := prog_11_method_11_code
def yX9_beginPath : MethodName := ⟨RX9, "beginPath", "(II)V"⟩
abbrev cX9_pathCount : ByteArray := prog_11_method_12_code
def yX9_pathCount : MethodName := ⟨RX9, "pathCount", "()I"⟩
abbrev cX9_hasPath : ByteArray := prog_11_method_13_code
def yX9_hasPath : MethodName := ⟨RX9, "hasPath", "(I)Z"⟩
abbrev cX9_pathAt : ByteArray := prog_11_method_14_code
def yX9_pathAt : MethodName := ⟨RX9, "pathAt", "(I)LPathTracker$Path;"⟩
abbrev cX9_pathsOfStatus : ByteArray := prog_11_method_15_code
def yX9_pathsOfStatus : MethodName := ⟨RX9, "pathsOfStatus", "(I)I"⟩
abbrev cX9_firstMetBelow : ByteArray := prog_11_method_16_code
def yX9_firstMetBelow : MethodName := ⟨RX9, "firstMetBelow", "(II)I"⟩
abbrev cX9_distinctEnds : ByteArray := prog_11_method_17_code
def yX9_distinctEnds : MethodName := ⟨RX9, "distinctEnds", "()I"⟩
abbrev cX9_realEnds : ByteArray := prog_11_method_18_code
def yX9_realEnds : MethodName := ⟨RX9, "realEnds", "()I"⟩
abbrev cX9_mostBehind : ByteArray := prog_11_method_19_code
def yX9_mostBehind : MethodName := ⟨RX9, "mostBehind", "()I"⟩
abbrev cX9_isBehind : ByteArray := prog_11_method_20_code
def yX9_isBehind : MethodName := ⟨RX9, "isBehind", "(LPathTracker$Path;LPathTracker$Path;)Z"⟩
abbrev cX9_endOfRank : ByteArray := prog_11_method_21_code
def yX9_endOfRank : MethodName := ⟨RX9, "endOfRank", "(I)I"⟩
abbrev cX9_endsBefore : ByteArray := prog_11_method_22_code
def yX9_endsBefore : MethodName := ⟨RX9, "endsBefore", "(I)I"⟩
def RX10 : String := "PathTracker$Tangent"
def TX10 : u_T := fun k => match k with
  | 0 => ("PathTracker$Tangent", "value", "LPathTracker$Complex;", true)
  | 1 => ("PathTracker$Tangent", "slopeX", "LPathTracker$Complex;", true)
  | _ => ("PathTracker$Tangent", "slopeY", "LPathTracker$Complex;", true)
def tyX10 : Nat → FieldType := fun k => match k with
  | 0 => .object "PathTracker$Complex"
  | 1 => .object "PathTracker$Complex"
  | _ => .object "PathTracker$Complex"
theorem nmX10 : ∀ a, a < 3 → ∀ b, b < 3 → a ≠ b → (TX10 a).2.1 ≠ (TX10 b).2.1 := by decide +kernel
theorem tyX10_ok : ∀ k, k < 3 → parseFieldDescriptor (TX10 k).2.2.1 = some (tyX10 k) := by decide +kernel
abbrev cX10_init : ByteArray := prog_12_method_1_code
def yX10_init : MethodName := ⟨RX10, "<init>", "()V"⟩
abbrev cX10_clear : ByteArray := prog_12_method_2_code
def yX10_clear : MethodName := ⟨RX10, "clear", "()V"⟩
abbrev cX10_timesGaussian : ByteArray := prog_12_method_3_code
def yX10_timesGaussian : MethodName := ⟨RX10, "timesGaussian", "(JJ)V"⟩
abbrev cX10_putMix : ByteArray := prog_12_method_4_code
def yX10_putMix : MethodName := ⟨RX10, "putMix", "(LPathTracker$Tangent;JLPathTracker$Tangent;J)V"⟩
def RX11 : String := "PathTracker"
def TX11 : u_T := fun k => match k with
  | 0 => ("PathTracker", "text", "LPathTracker$EquationText;", true)
  | 1 => ("PathTracker", "follower", "LPathTracker$Follower;", true)
  | 2 => ("PathTracker", "present", "LPathTracker$State;", true)
  | 3 => ("PathTracker", "history", "LPathTracker$History;", true)
  | 4 => ("PathTracker", "slots", "[LPathTracker$State;", true)
  | _ => ("PathTracker", "slotFilled", "[Z", true)
def tyX11 : Nat → FieldType := fun k => match k with
  | 0 => .object "PathTracker$EquationText"
  | 1 => .object "PathTracker$Follower"
  | 2 => .object "PathTracker$State"
  | 3 => .object "PathTracker$History"
  | 4 => .array (.object "PathTracker$State")
  | _ => .array .boolean
theorem nmX11 : ∀ a, a < 6 → ∀ b, b < 6 → a ≠ b → (TX11 a).2.1 ≠ (TX11 b).2.1 := by decide +kernel
theorem tyX11_ok : ∀ k, k < 6 → parseFieldDescriptor (TX11 k).2.2.1 = some (tyX11 k) := by decide +kernel
abbrev cX11_init : ByteArray := prog_1_method_1_code
def yX11_init : MethodName := ⟨RX11, "<init>", "()V"⟩
abbrev cX11_type : ByteArray := prog_1_method_2_code
def yX11_type : MethodName := ⟨RX11, "type", "(I)I"⟩
abbrev cX11_wipe : ByteArray := prog_1_method_3_code
def yX11_wipe : MethodName := ⟨RX11, "wipe", "()I"⟩
abbrev cX11_fault : ByteArray := prog_1_method_4_code
def yX11_fault : MethodName := ⟨RX11, "fault", "()I"⟩
abbrev cX11_equation : ByteArray := prog_1_method_5_code
def yX11_equation : MethodName := ⟨RX11, "equation", "(I)I"⟩
abbrev cX11_coefficient : ByteArray := prog_1_method_6_code
def yX11_coefficient : MethodName := ⟨RX11, "coefficient", "(IIII)I"⟩
abbrev cX11_track : ByteArray := prog_1_method_7_code
def yX11_track : MethodName := ⟨RX11, "track", "(II)I"⟩
abbrev cX11_trackAll : ByteArray := prog_1_method_8_code
def yX11_trackAll : MethodName := ⟨RX11, "trackAll", "(I)I"⟩
abbrev cX11_again : ByteArray := prog_1_method_9_code
def yX11_again : MethodName := ⟨RX11, "again", "(I)I"⟩
abbrev cX11_path : ByteArray := prog_1_method_10_code
def yX11_path : MethodName := ⟨RX11, "path", "(II)I"⟩
abbrev cX11_meets : ByteArray := prog_1_method_11_code
def yX11_meets : MethodName := ⟨RX11, "meets", "(I)I"⟩
abbrev cX11_next : ByteArray := prog_1_method_12_code
def yX11_next : MethodName := ⟨RX11, "next", "()I"⟩
abbrev cX11_endAt : ByteArray := prog_1_method_13_code
def yX11_endAt : MethodName := ⟨RX11, "endAt", "(I)I"⟩
abbrev cX11_set : ByteArray := prog_1_method_14_code
def yX11_set : MethodName := ⟨RX11, "set", "(II)I"⟩
abbrev cX11_count : ByteArray := prog_1_method_15_code
def yX11_count : MethodName := ⟨RX11, "count", "(I)I"⟩
abbrev cX11_undo : ByteArray := prog_1_method_16_code
def yX11_undo : MethodName := ⟨RX11, "undo", "()I"⟩
abbrev cX11_save : ByteArray := prog_1_method_17_code
def yX11_save : MethodName := ⟨RX11, "save", "(I)I"⟩
abbrev cX11_restore : ByteArray := prog_1_method_18_code
def yX11_restore : MethodName := ⟨RX11, "restore", "(I)I"⟩
def RX12 : String := "PathTrackerModel"
def TX12 : u_T := fun k => match k with
  | 0 => ("PathTrackerModel", "p", "[I", true)
  | 1 => ("PathTrackerModel", "saved", "[I", true)
  | 2 => ("PathTrackerModel", "states", "I", false)
  | 3 => ("PathTrackerModel", "slots", "[I", true)
  | 4 => ("PathTrackerModel", "isKept", "[Z", true)
  | 5 => ("PathTrackerModel", "text", "[I", true)
  | 6 => ("PathTrackerModel", "length", "I", false)
  | 7 => ("PathTrackerModel", "re", "J", false)
  | 8 => ("PathTrackerModel", "im", "J", false)
  | 9 => ("PathTrackerModel", "unit", "J", false)
  | 10 => ("PathTrackerModel", "power", "[J", true)
  | 11 => ("PathTrackerModel", "at4", "[J", true)
  | 12 => ("PathTrackerModel", "ends", "[J", true)
  | 13 => ("PathTrackerModel", "starts", "[J", true)
  | 14 => ("PathTrackerModel", "mixed", "[J", true)
  | 15 => ("PathTrackerModel", "right", "[J", true)
  | 16 => ("PathTrackerModel", "way", "[J", true)
  | 17 => ("PathTrackerModel", "held2", "[J", true)
  | 18 => ("PathTrackerModel", "at", "I", false)
  | 19 => ("PathTrackerModel", "powerX", "I", false)
  | 20 => ("PathTrackerModel", "powerY", "I", false)
  | 21 => ("PathTrackerModel", "number", "I", false)
  | 22 => ("PathTrackerModel", "isImaginary", "Z", false)
  | _ => ("PathTrackerModel", "told", "[I", true)
def tyX12 : Nat → FieldType := fun k => match k with
  | 0 => .array .int
  | 1 => .array .int
  | 2 => .int
  | 3 => .array .int
  | 4 => .array .boolean
  | 5 => .array .int
  | 6 => .int
  | 7 => .long
  | 8 => .long
  | 9 => .long
  | 10 => .array .long
  | 11 => .array .long
  | 12 => .array .long
  | 13 => .array .long
  | 14 => .array .long
  | 15 => .array .long
  | 16 => .array .long
  | 17 => .array .long
  | 18 => .int
  | 19 => .int
  | 20 => .int
  | 21 => .int
  | 22 => .boolean
  | _ => .array .int
theorem nmX12 : ∀ a, a < 24 → ∀ b, b < 24 → a ≠ b → (TX12 a).2.1 ≠ (TX12 b).2.1 := by decide +kernel
theorem tyX12_ok : ∀ k, k < 24 → parseFieldDescriptor (TX12 k).2.2.1 = some (tyX12 k) := by decide +kernel
abbrev cX12_init : ByteArray := prog_14_method_1_code
def yX12_init : MethodName := ⟨RX12, "<init>", "()V"⟩
abbrev cX12_in : ByteArray := prog_14_method_3_code
def yX12_in : MethodName := ⟨RX12, "in", "(III)Z"⟩
abbrev cX12_termOf : ByteArray := prog_14_method_4_code
def yX12_termOf : MethodName := ⟨RX12, "termOf", "(III)I"⟩
abbrev cX12_setting : ByteArray := prog_14_method_5_code
def yX12_setting : MethodName := ⟨RX12, "setting", "(I)I"⟩
abbrev cX12_paths : ByteArray := prog_14_method_6_code
def yX12_paths : MethodName := ⟨RX12, "paths", "()I"⟩
abbrev cX12_pathAt : ByteArray := prog_14_method_7_code
def yX12_pathAt : MethodName := ⟨RX12, "pathAt", "(I)I"⟩
abbrev cX12_isPath : ByteArray := prog_14_method_8_code
def yX12_isPath : MethodName := ⟨RX12, "isPath", "(I)Z"⟩
abbrev cX12_save0 : ByteArray := prog_14_method_9_code
def yX12_save0 : MethodName := ⟨RX12, "save0", "()V"⟩
abbrev cX12_held : ByteArray := prog_14_method_10_code
def yX12_held : MethodName := ⟨RX12, "held", "(J)J"⟩
abbrev cX12_hold : ByteArray := prog_14_method_11_code
def yX12_hold : MethodName := ⟨RX12, "hold", "(JJ)V"⟩
abbrev cX12_times : ByteArray := prog_14_method_12_code
def yX12_times : MethodName := ⟨RX12, "times", "(JJJJ)V"⟩
abbrev cX12_divides : ByteArray := prog_14_method_13_code
def yX12_divides : MethodName := ⟨RX12, "divides", "(JJJJ)Z"⟩
abbrev cX12_abs : ByteArray := prog_14_method_14_code
def yX12_abs : MethodName := ⟨RX12, "abs", "(J)J"⟩
abbrev cX12_size : ByteArray := prog_14_method_15_code
def yX12_size : MethodName := ⟨RX12, "size", "(JJ)J"⟩
abbrev cX12_layPowers : ByteArray := prog_14_method_16_code
def yX12_layPowers : MethodName := ⟨RX12, "layPowers", "(IJJ)V"⟩
abbrev cX12_layPoint : ByteArray := prog_14_method_17_code
def yX12_layPoint : MethodName := ⟨RX12, "layPoint", "()V"⟩
abbrev cX12_coefficientOf : ByteArray := prog_14_method_18_code
def yX12_coefficientOf : MethodName := ⟨RX12, "coefficientOf", "(IIII)I"⟩
abbrev cX12_product : ByteArray := prog_14_method_19_code
def yX12_product : MethodName := ⟨RX12, "product", "(II)V"⟩
abbrev cX12_worth : ByteArray := prog_14_method_20_code
def yX12_worth : MethodName := ⟨RX12, "worth", "(II)V"⟩
abbrev cX12_worthWithGamma : ByteArray := prog_14_method_21_code
def yX12_worthWithGamma : MethodName := ⟨RX12, "worthWithGamma", "(II)V"⟩
abbrev cX12_laySystem : ByteArray := prog_14_method_22_code
def yX12_laySystem : MethodName := ⟨RX12, "laySystem", "(I)V"⟩
abbrev cX12_cross : ByteArray := prog_14_method_23_code
def yX12_cross : MethodName := ⟨RX12, "cross", "(IIII)V"⟩
abbrev cX12_solves : ByteArray := prog_14_method_24_code
def yX12_solves : MethodName := ⟨RX12, "solves", "()Z"⟩
abbrev cX12_crossRight : ByteArray := prog_14_method_25_code
def yX12_crossRight : MethodName := ⟨RX12, "crossRight", "(IIII)V"⟩
abbrev cX12_goes : ByteArray := prog_14_method_26_code
def yX12_goes : MethodName := ⟨RX12, "goes", "()V"⟩
abbrev cX12_root : ByteArray := prog_14_method_27_code
def yX12_root : MethodName := ⟨RX12, "root", "(II)V"⟩
abbrev cX12_begins : ByteArray := prog_14_method_28_code
def yX12_begins : MethodName := ⟨RX12, "begins", "(II)V"⟩
abbrev cX12_beginAll : ByteArray := prog_14_method_29_code
def yX12_beginAll : MethodName := ⟨RX12, "beginAll", "()V"⟩
abbrev cX12_takes : ByteArray := prog_14_method_30_code
def yX12_takes : MethodName := ⟨RX12, "takes", "(I)V"⟩
abbrev cX12_predicts : ByteArray := prog_14_method_31_code
def yX12_predicts : MethodName := ⟨RX12, "predicts", "(II)Z"⟩
abbrev cX12_corrects : ByteArray := prog_14_method_32_code
def yX12_corrects : MethodName := ⟨RX12, "corrects", "(I)Z"⟩
abbrev cX12_wasGood : ByteArray := prog_14_method_33_code
def yX12_wasGood : MethodName := ⟨RX12, "wasGood", "(II)V"⟩
abbrev cX12_hasFailed : ByteArray := prog_14_method_34_code
def yX12_hasFailed : MethodName := ⟨RX12, "hasFailed", "(I)V"⟩
abbrev cX12_tries : ByteArray := prog_14_method_35_code
def yX12_tries : MethodName := ⟨RX12, "tries", "(I)V"⟩
abbrev cX12_isOnWay : ByteArray := prog_14_method_36_code
def yX12_isOnWay : MethodName := ⟨RX12, "isOnWay", "(I)Z"⟩
abbrev cX12_follows : ByteArray := prog_14_method_37_code
def yX12_follows : MethodName := ⟨RX12, "follows", "(II)I"⟩
abbrev cX12_many : ByteArray := prog_14_method_38_code
def yX12_many : MethodName := ⟨RX12, "many", "(I)I"⟩
abbrev cX12_track : ByteArray := prog_14_method_39_code
def yX12_track : MethodName := ⟨RX12, "track", "(II)I"⟩
abbrev cX12_trackAll : ByteArray := prog_14_method_40_code
def yX12_trackAll : MethodName := ⟨RX12, "trackAll", "(I)I"⟩
abbrev cX12_again : ByteArray := prog_14_method_41_code
def yX12_again : MethodName := ⟨RX12, "again", "(I)I"⟩
abbrev cX12_thousandths : ByteArray := prog_14_method_42_code
def yX12_thousandths : MethodName := ⟨RX12, "thousandths", "(II)I"⟩
abbrev cX12_residue : ByteArray := prog_14_method_43_code
def yX12_residue : MethodName := ⟨RX12, "residue", "(I)I"⟩
abbrev cX12_path : ByteArray := prog_14_method_44_code
def yX12_path : MethodName := ⟨RX12, "path", "(II)I"⟩
abbrev cX12_isAtEnd : ByteArray := prog_14_method_45_code
def yX12_isAtEnd : MethodName := ⟨RX12, "isAtEnd", "(I)Z"⟩
abbrev cX12_areMet : ByteArray := prog_14_method_46_code
def yX12_areMet : MethodName := ⟨RX12, "areMet", "(II)Z"⟩
abbrev cX12_firstMet : ByteArray := prog_14_method_47_code
def yX12_firstMet : MethodName := ⟨RX12, "firstMet", "(I)I"⟩
abbrev cX12_meets : ByteArray := prog_14_method_48_code
def yX12_meets : MethodName := ⟨RX12, "meets", "(I)I"⟩
abbrev cX12_next : ByteArray := prog_14_method_49_code
def yX12_next : MethodName := ⟨RX12, "next", "()I"⟩
abbrev cX12_isAhead : ByteArray := prog_14_method_50_code
def yX12_isAhead : MethodName := ⟨RX12, "isAhead", "(II)Z"⟩
abbrev cX12_endAt : ByteArray := prog_14_method_51_code
def yX12_endAt : MethodName := ⟨RX12, "endAt", "(I)I"⟩
abbrev cX12_least : ByteArray := prog_14_method_52_code
def yX12_least : MethodName := ⟨RX12, "least", "(I)I"⟩
abbrev cX12_most : ByteArray := prog_14_method_53_code
def yX12_most : MethodName := ⟨RX12, "most", "(I)I"⟩
abbrev cX12_set : ByteArray := prog_14_method_54_code
def yX12_set : MethodName := ⟨RX12, "set", "(II)I"⟩
abbrev cX12_distinct : ByteArray := prog_14_method_55_code
def yX12_distinct : MethodName := ⟨RX12, "distinct", "()I"⟩
abbrev cX12_reals : ByteArray := prog_14_method_56_code
def yX12_reals : MethodName := ⟨RX12, "reals", "()I"⟩
abbrev cX12_count : ByteArray := prog_14_method_57_code
def yX12_count : MethodName := ⟨RX12, "count", "(I)I"⟩
abbrev cX12_type : ByteArray := prog_14_method_58_code
def yX12_type : MethodName := ⟨RX12, "type", "(I)I"⟩
abbrev cX12_wipe : ByteArray := prog_14_method_59_code
def yX12_wipe : MethodName := ⟨RX12, "wipe", "()I"⟩
abbrev cX12_here : ByteArray := prog_14_method_60_code
def yX12_here : MethodName := ⟨RX12, "here", "()I"⟩
abbrev cX12_isDigit : ByteArray := prog_14_method_61_code
def yX12_isDigit : MethodName := ⟨RX12, "isDigit", "()Z"⟩
abbrev cX12_isFactor : ByteArray := prog_14_method_62_code
def yX12_isFactor : MethodName := ⟨RX12, "isFactor", "()Z"⟩
abbrev cX12_readFactor : ByteArray := prog_14_method_63_code
def yX12_readFactor : MethodName := ⟨RX12, "readFactor", "()Z"⟩
abbrev cX12_readNumber : ByteArray := prog_14_method_64_code
def yX12_readNumber : MethodName := ⟨RX12, "readNumber", "()V"⟩
abbrev cX12_readTerm : ByteArray := prog_14_method_65_code
def yX12_readTerm : MethodName := ⟨RX12, "readTerm", "()Z"⟩
abbrev cX12_bounded : ByteArray := prog_14_method_66_code
def yX12_bounded : MethodName := ⟨RX12, "bounded", "(I)I"⟩
abbrev cX12_adds : ByteArray := prog_14_method_67_code
def yX12_adds : MethodName := ⟨RX12, "adds", "(Z)V"⟩
abbrev cX12_faultOf : ByteArray := prog_14_method_68_code
def yX12_faultOf : MethodName := ⟨RX12, "faultOf", "()I"⟩
abbrev cX12_fault : ByteArray := prog_14_method_69_code
def yX12_fault : MethodName := ⟨RX12, "fault", "()I"⟩
abbrev cX12_degreeTold : ByteArray := prog_14_method_70_code
def yX12_degreeTold : MethodName := ⟨RX12, "degreeTold", "()I"⟩
abbrev cX12_equation : ByteArray := prog_14_method_71_code
def yX12_equation : MethodName := ⟨RX12, "equation", "(I)I"⟩
abbrev cX12_coefficient : ByteArray := prog_14_method_72_code
def yX12_coefficient : MethodName := ⟨RX12, "coefficient", "(IIII)I"⟩
abbrev cX12_undo : ByteArray := prog_14_method_73_code
def yX12_undo : MethodName := ⟨RX12, "undo", "()I"⟩
abbrev cX12_save : ByteArray := prog_14_method_74_code
def yX12_save : MethodName := ⟨RX12, "save", "(I)I"⟩
abbrev cX12_restore : ByteArray := prog_14_method_75_code
def yX12_restore : MethodName := ⟨RX12, "restore", "(I)I"⟩
def RJ6 : String := "java/lang/Integer"
def TJ6 : u_T := fun k => match k with
  | _ => ("", "", "", false)
def tyJ6 : Nat → FieldType := fun k => match k with
  | _ => .int
abbrev cJ6_compare_7cf53 : ByteArray := prog_15_method_40_code
def yJ6_compare_7cf53 : MethodName := ⟨RJ6, "compare", "(II)I"⟩
def RJ9 : String := "java/lang/Math"
def TJ9 : u_T := fun k => match k with
  | _ => ("", "", "", false)
def tyJ9 : Nat → FieldType := fun k => match k with
  | _ => .int
abbrev cJ9_floorMod_7cf53 : ByteArray := prog_16_method_50_code
def yJ9_floorMod_7cf53 : MethodName := ⟨RJ9, "floorMod", "(II)I"⟩
abbrev cJ9_abs_0f7a4 : ByteArray := prog_16_method_59_code
def yJ9_abs_0f7a4 : MethodName := ⟨RJ9, "abs", "(I)I"⟩
abbrev cJ9_abs_067f4 : ByteArray := prog_16_method_61_code
def yJ9_abs_067f4 : MethodName := ⟨RJ9, "abs", "(J)J"⟩
abbrev cJ9_max_7cf53 : ByteArray := prog_16_method_65_code
def yJ9_max_7cf53 : MethodName := ⟨RJ9, "max", "(II)I"⟩
abbrev cJ9_max_f86c9 : ByteArray := prog_16_method_66_code
def yJ9_max_f86c9 : MethodName := ⟨RJ9, "max", "(JJ)J"⟩
abbrev cJ9_min_7cf53 : ByteArray := prog_16_method_69_code
def yJ9_min_7cf53 : MethodName := ⟨RJ9, "min", "(II)I"⟩
def RL : String := "PathTrackerLaw"
abbrev cL_law : ByteArray := code
def yL_law : MethodName := ⟨RL, "law", "([I)Z"⟩
abbrev vwCl : List vw_C := [(RX0, TX0, 2), (RX1, TX1, 3), (RX2, TX2, 4), (RX3, TX3, 8), (RX4, TX4, 3), (RX5, TX5, 8), (RX6, TX6, 10), (RX7, TX7, 1), (RX8, TX8, 6), (RX9, TX9, 5), (RX10, TX10, 3), (RX11, TX11, 6), (RX12, TX12, 24)]
end
section
/-! THE x_ LAYER, 1: words, world, judgement. Every method's words are the whole table's good ones; the world is a map of shapes G (address to kind, length, references) and two maps of contents I (ints) and L (longs), by address and place. -/
def xtbl : List Cond := lw_tbl.filter goodWord
theorem xtbl_in {w : Cond} (h : w ∈ lw_tbl) (g : goodWord w = true) : w ∈ xtbl := List.mem_filter.mpr ⟨h, g⟩
theorem xtbl_sub {w : Cond} (h : w ∈ xtbl) : w ∈ lw_tbl := (List.mem_filter.mp h).1
theorem xtbl_good {w : Cond} (h : w ∈ xtbl) : (w.onTables && w.keeps) = true ∨ ∃ ty, w = .arrayClass ty := good_of_word (List.mem_filter.mp h).2
def xws (y : MethodName) (cc : ByteArray) (nL : Nat) (ret : Option FieldType) : List Cond := .code y cc nL ret :: xtbl
theorem xws_good {y : MethodName} {cc : ByteArray} {nL : Nat} {ret : Option FieldType} (h : Cond.code y cc nL ret ∈ xtbl) : GoodIn xtbl (xws y cc nL ret) := by
  intro w hw
  rcases List.mem_cons.mp hw with rfl | hw
  · exact ⟨h, xtbl_good h⟩
  · exact ⟨hw, xtbl_good hw⟩
theorem xin_1 {w : Cond} (i : Nat) (h : tables_1_1[i]? = some w) (g : goodWord w = true) : w ∈ xtbl := xtbl_in (List.mem_append_right _ (List.mem_append_left _ (List.mem_of_getElem? h))) g
theorem xin_2 {w : Cond} (i : Nat) (h : tables_1_2[i]? = some w) (g : goodWord w = true) : w ∈ xtbl := xtbl_in (List.mem_append_right _ (List.mem_append_right _ (List.mem_append_left _ (List.mem_of_getElem? h)))) g
theorem xin_3 {w : Cond} (i : Nat) (h : tables_1_3[i]? = some w) (g : goodWord w = true) : w ∈ xtbl := xtbl_in (List.mem_append_right _ (List.mem_append_right _ (List.mem_append_right _ (List.mem_append_left _ (List.mem_of_getElem? h))))) g
theorem xin_4 {w : Cond} (i : Nat) (h : tables_1_4[i]? = some w) (g : goodWord w = true) : w ∈ xtbl := xtbl_in (List.mem_append_right _ (List.mem_append_right _ (List.mem_append_right _ (List.mem_append_right _ (List.mem_append_left _ (List.mem_of_getElem? h)))))) g
theorem xin_5 {w : Cond} (i : Nat) (h : tables_1_5[i]? = some w) (g : goodWord w = true) : w ∈ xtbl := xtbl_in (List.mem_append_right _ (List.mem_append_right _ (List.mem_append_right _ (List.mem_append_right _ (List.mem_append_right _ (List.mem_of_getElem? h)))))) g
theorem xin_p {q : MethodName × Nat} (i : Nat) (h : lw_privs[i]? = some q) : Cond.selects q.1.cls q.1 q.1 ∈ xtbl := xtbl_in (List.mem_append_left _ (List.mem_map.mpr ⟨q, List.mem_of_getElem? h, rfl⟩)) rfl
-- shapes
abbrev xS : Type := Nat × Nat × (Nat → Option Nat)
abbrev xD : Type := va_G × (Nat → ClassId) × (Nat → Nat)
abbrev xI : Type := Nat → Nat → Int32
abbrev xL : Type := Nat → Nat → Int64
abbrev xG : Type := Nat → Option xS
def xCl (k : Nat) : vw_C := (vwCl[k]?).getD (RX0, TX0, 2)
theorem xCl_ok {k : Nat} (h : k < 13) : vwCl[k]? = some (xCl k) := by
  have h' : k < vwCl.length := h
  simp [xCl, List.getElem?_eq_getElem h']
def xTy (k : Nat) : Nat → FieldType := (([tyX0, tyX1, tyX2, tyX3, tyX4, tyX5, tyX6, tyX7, tyX8, tyX9, tyX10, tyX11, tyX12] : List (Nat → FieldType))[k]?).getD tyX0
def xV (ty : FieldType) (i : Int32) (l : Int64) (r : Option Nat) : Value := match ty with
  | .int => .int i
  | .boolean => .int i
  | .long => .long l
  | _ => va_rf r
def xAV (k : Nat) (i : Int32) (l : Int64) (r : Option Nat) : Value := if k = 21 then .long l else if k < 23 then .int i else va_rf r
def xAt (D : xD) (I : xI) (L : xL) (a : Nat) (sh : xS) (H : Heap) : Prop :=
  if sh.1 < 13 then t_OB a (D.1.1 sh.1) (xCl sh.1).2.2 (D.1.2 sh.1) H (fun j => xV (xTy sh.1 j) (I a j) (L a j) (sh.2.2 j))
  else H[a]? = some (arrV (D.2.1 (sh.1 - 20)) sh.2.1 (fun j => xAV sh.1 (I a j) (L a j) (sh.2.2 j)))
def xRep (D : xD) (G : xG) (I : xI) (L : xL) (H : Heap) : Prop := ∀ (a : Nat) (sh : xS), G a = some sh → xAt D I L a sh H
theorem xAt.lt {D : xD} {I : xI} {L : xL} {a : Nat} {sh : xS} {H : Heap} (h : xAt D I L a sh H) : a < H.size := by
  unfold xAt at h
  split at h
  · obtain ⟨cell, h2, -⟩ := h
    exact (Array.getElem?_eq_some_iff.mp h2).1
  · exact (Array.getElem?_eq_some_iff.mp h).1
theorem xAt.kept {D : xD} {I I' : xI} {L L' : xL} {a : Nat} {sh : xS} {H H1 : Heap} (h : xAt D I L a sh H) (hq : H1[a]? = H[a]?) (hI : I' a = I a) (hL : L' a = L a) : xAt D I' L' a sh H1 := by
  unfold xAt at h ⊢
  rw [hI, hL]
  split at h
  · rw [if_pos (by assumption)]
    exact h.kept hq
  · rw [if_neg (by assumption)]
    exact hq.trans h
-- what stands of the tables, and of the static arrays
def xTys (D : xD) : List (ClassId × FieldType) := [(D.2.1 0, .int), (D.2.1 1, .long), (D.2.1 2, .boolean), (D.2.1 3, .object RX0), (D.2.1 4, .object RX1), (D.2.1 5, .object RX6), (D.2.1 6, .object RX9), (D.2.1 7, .object RX10)]
def xNest : List (String × Nat) := [(RX1, 18), (RX7, 17), (RX10, 9), (RX8, 9), (RX3, 25), (RX6, 9)]
def xK (D : xD) (U : State) : Prop := va_K D.1 vwCl (xTys D) U ∧ (∀ C ∈ ([RX0, RX1, RX6, RX9, RX10] : List String), va_AO C U) ∧ ∀ q ∈ xNest, va_Nw (.methodLinkNest q.1 q.2 yX0_init "PathTracker") U
theorem xK.moved {D : xD} {s U : State} (hW : s.WarmedH U.vm) (h : xK D s) : xK D U := ⟨va_K.moved hW.alike h.1, fun C hC => va_AO.moved hW.alike (h.2.1 C hC), fun q hq => va_Nw.warmM hW (h.2.2 q hq)⟩
def xPx : Nat → Int32 := fun j => ([0, 0, 0, 0, 1, 1, 1, 2, 2, 3] : List Int32).getD j 0
def xPy : Nat → Int32 := fun j => ([0, 1, 2, 3, 0, 1, 2, 0, 1, 0] : List Int32).getD j 0
def xFt : Nat → Int32 := fun j => ([0, 4, 7, 9] : List Int32).getD j 0
def xFv : Nat → Int32 := fun j => ([64, 128, 3, 4, 100, 10, 3, 2] : List Int32).getD j 0
def xLv : Nat → Int32 := fun j => ([1, 1, 1, 1, 2, 0, -16, -16] : List Int32).getD j 0
def xGv : Nat → Int32 := fun j => ([256, 256, 6, 64, 500, 1000, 16, 16] : List Int32).getD j 0
def xStats : List (String × String × Nat × (Nat → Int32)) := [("PathTracker$Equation", "POWER_OF_X", 10, xPx), ("PathTracker$Equation", "POWER_OF_Y", 10, xPy), ("PathTracker$Equation", "FIRST_TERM", 4, xFt), ("PathTracker$State", "FIRST_VALUE", 8, xFv), ("PathTracker$State", "LEAST_VALUE", 8, xLv), ("PathTracker$State", "GREATEST_VALUE", 8, xGv)]
def xZ (D : xD) (z : Nat) (U : State) (H : Heap) : Prop := ∀ (k : Nat) (q : String × String × Nat × (Nat → Int32)), xStats[k]? = some q → va_Z q.1 q.2.1 "[I" (.ref (D.2.2 k)) (fun a => z ≤ a) U H ∧ va_T .int (D.2.2 k) q.2.2.1 (fun j => .int (q.2.2.2 j)) (fun a => z ≤ a) U H
theorem xZ.moved {D : xD} {z : Nat} {u U : State} {H : Heap} (hvm : u.vm.Alike U.vm) (h : xZ D z u H) : xZ D z U H := fun k q hq => ⟨va_Z.moved hvm (h k q hq).1, va_T.moved hvm (h k q hq).2⟩
theorem xZ.kept {D : xD} {z : Nat} {U : State} {H H1 : Heap} (h : xZ D z U H) (hk : ∀ a : Nat, a < H.size → ¬ z ≤ a → H1[a]? = H[a]?) : xZ D z U H1 := fun k q hq => ⟨va_Z.kept (h k q hq).1 hk, va_T.kept (h k q hq).2 hk⟩
-- contracts
def xB (D : xD) (z n : Nat) (G : xG) (I : xI) (L : xL) (U : State) : Prop := U.heap.size = n ∧ z ≤ n ∧ xRep D G I L U.heap ∧ xK D U ∧ xZ D z U U.heap
abbrev xPost : Type := Option Value → Nat → xG → xI → xL → Prop
def xQc (D : xD) (z n : Nat) (Post : xPost) : Array Value → State → Outcome → State → Prop := fun _ st oc t => (∃ (v : Option Value) (n' : Nat) (G' : xG) (I' : xI) (L' : xL), oc = .returned v ∧ Post v n' G' I' L' ∧ t.heap.size = n' ∧ n ≤ n' ∧ xRep D G' I' L' t.heap) ∧ va_F (fun a => z ≤ a) st t
def xRm (fr lo mc ms : Nat) : Room := { frames := fr, cells := mc, slots := ms, locals := lo }
def xM (l : Launch) (D : xD) (z : Nat) (y : MethodName) (cc : ByteArray) (nL : Nat) (ret : Option FieldType) (fr lo mc ms : Nat) (av : List Value) (n : Nat) (G : xG) (I : xI) (L : xL) (Post : xPost) : Prop :=
  Met l y (xws y cc nL ret) (xRm fr lo mc ms) (va_Pc av (xB D z n G I L)) (xQc D z n Post) mc ms (fun a => z ≤ a)
/-- of a method that makes no cell: the shapes stay -/
def xN (n : Nat) (G : xG) (P : Option Value → xI → xL → Prop) : xPost := fun v n' G' I' L' => n' = n ∧ G' = G ∧ P v I' L'
abbrev xM0 (l : Launch) (D : xD) (z : Nat) (y : MethodName) (cc : ByteArray) (nL : Nat) (ret : Option FieldType) (fr lo : Nat) (av : List Value) (n : Nat) (G : xG) (I : xI) (L : xL) (P : Option Value → xI → xL → Prop) : Prop := xM l D z y cc nL ret fr lo 0 0 av n G I L (xN n G P)
-- the judgement
def xOK (p : Program) (s : State) (m : MethodId) (args : Array Value) (meth : Method) (c : Code) (D : xD) (z : Nat) (own : String) (cc : ByteArray) (nL : Nat) (rt : Option FieldType) : Prop :=
  p.tables.exec = Jvm.exec ∧ c.code = cc ∧ c.maxLocals = nL ∧ s.vm.findClass own = some m.cls ∧ (∀ w ∈ xtbl, w.before args s = true) ∧ meth.sig.returnType = rt ∧ meth.locks = false ∧ xK D s ∧ xZ D z s s.heap ∧ z ≤ s.heap.size
def X (p : Program) (l : Launch) (e : Env) (R : Room) (s : State) (m : MethodId) (args : Array Value) (below : List Frame) (meth : Method) (c : Code) (D : xD) (z nL : Nat) (Q : State → Prop) (cells slots n : Nat) (G : xG) (I : xI) (L : xL) (pc : Nat) (lv : List (Nat × Value)) (st : List Value) : Prop :=
  ∀ (H : Heap) (locs : List Loc) (ls : Array Slot), H.size = n → xRep D G I L H → va_S (fun a => z ≤ a) s.heap H locs → lv_has ls nL lv → W p l e R s m args below meth c H locs cells slots Q (F0 m pc ls st)
def xup {α : Type} (f : Nat → Nat → α) (a k : Nat) (v : α) : Nat → Nat → α := fun a' k' => if a' = a ∧ k' = k then v else f a' k'
def xzero {α : Type} (f : Nat → Nat → α) (a : Nat) (v : α) : Nat → Nat → α := fun a' k' => if a' = a then v else f a' k'
theorem xup_self {α : Type} (f : Nat → Nat → α) (a k : Nat) (v : α) : xup f a k v a k = v := by simp [xup]
theorem xup_ne {α : Type} (f : Nat → Nat → α) {a k a' k' : Nat} (v : α) (h : ¬ (a' = a ∧ k' = k)) : xup f a k v a' k' = f a' k' := by simp only [xup, if_neg h]
def xIx (i : Int32) (len j : Nat) : Prop := ¬ i < 0 ∧ i.toNatClampNeg = j ∧ j < len
theorem xIx.in {i : Int32} {len j : Nat} (h : xIx i len j) : vp_in i len := fun q => q.elim h.1 (fun q => by have h1 := h.2.1; have h2 := h.2.2; omega)
/-- a method's contract out of its walk from the entry -/
theorem xM.of {l : Launch} {D : xD} {z : Nat} {y : MethodName} {cc : ByteArray} {nL : Nat} {ret : Option FieldType} {fr lo mc ms : Nat} {av : List Value} {n : Nat} {G : xG} {I : xI} {L : xL} {Post : xPost} (hy : plainName y.cls = true) (hlen : (lg_sl av).length ≤ nL)
    (body : ∀ (p : Program) (e : Env) (s : State) (m : MethodId) (args : Array Value) (below : List Frame) (meth : Method) (c : Code), xOK p s m args meth c D z y.cls cc nL ret → (y.name = meth.name) → s.heap.size = n →
      X p l e (xRm fr lo mc ms) s m args below meth c D z nL (MQ below (xQc D z n Post) args s mc ms (fun a => z ≤ a)) 0 0 n G I L 0 (lv_args 0 av) []) :
    xM l D z y cc nL ret fr lo mc ms av n G I L Post := by
  refine Met.ofW (cc := cc) (maxL := nL) (ret := ret) hy rfl ?_
  intro p e s m args below meth c s₁ B hml hv
  obtain ⟨rfl, hn, hz, hR, hK, hZ⟩ := hv
  have hts := atoms_spec (ws := xws y cc nL ret) B.pre
  have hl := lv_entry av (n := nL) hlen
  rw [lg_entry_eq]
  exact body p e s m _ below meth c ⟨B.exec, B.bytes, hml, findClass_of_methodNamed B.named, fun w hw => hts w (List.mem_cons_of_mem _ hw), B.returns, B.notSynchronized, hK, hZ, by rw [hn]; exact hz⟩ (name_of_methodNamed B.named B.method).1.symm hn s.heap [] _ hn hR va_S.rf hl
end
section
/-! THE x_ LAYER, 2: a row an instruction -/
section XR
variable {p : Program} {l : Launch} {e : Env} {R : Room} {s : State} {m : MethodId} {args : Array Value} {below : List Frame} {meth : Method} {c : Code} {D : xD} {z nL : Nat} {Q : State → Prop} {cells slots n : Nat} {G : xG} {I : xI} {L : xL} {own : String} {cc : ByteArray} {rt : Option FieldType} {lv : List (Nat × Value)} {st : List Value}

theorem x_iconst (pc : Nat) (C : xOK p s m args meth c D z own cc nL rt) {i : Int} {v : Int32} (d : decode cc pc = .ok (.iconst i, 1)) (hv : Int32.ofInt i = v) (k : X p l e R s m args below meth c D z nL Q cells slots n G I L (pc + 1) lv (.int v :: st)) : X p l e R s m args below meth c D z nL Q cells slots n G I L pc lv (st) := fun H locs ls h1 h2 h3 h4 => lv_iconst C.1 C.2.1 d hv (k H locs ls h1 h2 h3 h4)
theorem x_bipush (pc : Nat) (C : xOK p s m args meth c D z own cc nL rt) {i : Int} {v : Int32} (d : decode cc pc = .ok (.bipush i, 2)) (hv : (Int8.ofInt i).toInt32 = v) (k : X p l e R s m args below meth c D z nL Q cells slots n G I L (pc + 2) lv (.int v :: st)) : X p l e R s m args below meth c D z nL Q cells slots n G I L pc lv (st) := fun H locs ls h1 h2 h3 h4 => lv_bipush C.1 C.2.1 d hv (k H locs ls h1 h2 h3 h4)
theorem x_sipush (pc : Nat) (C : xOK p s m args meth c D z own cc nL rt) {i : Int} {v : Int32} (d : decode cc pc = .ok (.sipush i, 3)) (hv : (Int16.ofInt i).toInt32 = v) (k : X p l e R s m args below meth c D z nL Q cells slots n G I L (pc + 3) lv (.int v :: st)) : X p l e R s m args below meth c D z nL Q cells slots n G I L pc lv (st) := fun H locs ls h1 h2 h3 h4 => lv_sipush C.1 C.2.1 d hv (k H locs ls h1 h2 h3 h4)
theorem x_lconst (pc : Nat) (C : xOK p s m args meth c D z own cc nL rt) {i : Fin 2} {v : Int64} (d : decode cc pc = .ok (.lconst i, 1)) (hv : Int64.ofNat (i : Nat) = v) (k : X p l e R s m args below meth c D z nL Q cells slots n G I L (pc + 1) lv (.long v :: st)) : X p l e R s m args below meth c D z nL Q cells slots n G I L pc lv (st) := fun H locs ls h1 h2 h3 h4 => lv_lconst C.1 C.2.1 d hv (k H locs ls h1 h2 h3 h4)
theorem x_iload_n (pc : Nat) (C : xOK p s m args meth c D z own cc nL rt) {k : Fin 4} {i : Nat} {x : Int32} (d : decode cc pc = .ok (.iload_n k, 1)) (hi : (k : Nat) = i) (q : Nat) (hq : lv[q]? = some (i, .int x)) (k : X p l e R s m args below meth c D z nL Q cells slots n G I L (pc + 1) lv (.int x :: st)) : X p l e R s m args below meth c D z nL Q cells slots n G I L pc lv st := fun H locs ls h1 h2 h3 h4 => lv_iload_n C.1 C.2.1 d hi (lv_at h4 q hq) (k H locs ls h1 h2 h3 h4)
theorem x_iload (pc : Nat) (C : xOK p s m args meth c D z own cc nL rt) {i : Nat} {x : Int32} (d : decode cc pc = .ok (.iload i, 2)) (q : Nat) (hq : lv[q]? = some (i, .int x)) (k : X p l e R s m args below meth c D z nL Q cells slots n G I L (pc + 2) lv (.int x :: st)) : X p l e R s m args below meth c D z nL Q cells slots n G I L pc lv st := fun H locs ls h1 h2 h3 h4 => lv_iload C.1 C.2.1 d (lv_at h4 q hq) (k H locs ls h1 h2 h3 h4)
theorem x_istore_n (pc : Nat) (C : xOK p s m args meth c D z own cc nL rt) {k : Fin 4} {i : Nat} {x : Int32} (lv' : List (Nat × Value)) (d : decode cc pc = .ok (.istore_n k, 1)) (hi : (k : Nat) = i) (hn : i < nL) (hl : (i, Value.int x) :: lv.filter (fun q => !(q.1 == i) && !(q.1 + 1 == i && q.2.category == 2)) = lv') (k : X p l e R s m args below meth c D z nL Q cells slots n G I L (pc + 1) lv' st) : X p l e R s m args below meth c D z nL Q cells slots n G I L pc lv (.int x :: st) := fun H locs ls h1 h2 h3 h4 => lv_istore_n C.1 C.2.1 d hi h4 hn hl (fun ls' h => k H locs ls' h1 h2 h3 h)
theorem x_istore (pc : Nat) (C : xOK p s m args meth c D z own cc nL rt) {i : Nat} {x : Int32} (lv' : List (Nat × Value)) (d : decode cc pc = .ok (.istore i, 2)) (hn : i < nL) (hl : (i, Value.int x) :: lv.filter (fun q => !(q.1 == i) && !(q.1 + 1 == i && q.2.category == 2)) = lv') (k : X p l e R s m args below meth c D z nL Q cells slots n G I L (pc + 2) lv' st) : X p l e R s m args below meth c D z nL Q cells slots n G I L pc lv (.int x :: st) := fun H locs ls h1 h2 h3 h4 => lv_istore C.1 C.2.1 d h4 hn hl (fun ls' h => k H locs ls' h1 h2 h3 h)
theorem x_lload_n (pc : Nat) (C : xOK p s m args meth c D z own cc nL rt) {k : Fin 4} {i : Nat} {x : Int64} (d : decode cc pc = .ok (.lload_n k, 1)) (hi : (k : Nat) = i) (q : Nat) (hq : lv[q]? = some (i, .long x)) (k : X p l e R s m args below meth c D z nL Q cells slots n G I L (pc + 1) lv (.long x :: st)) : X p l e R s m args below meth c D z nL Q cells slots n G I L pc lv st := fun H locs ls h1 h2 h3 h4 => lv_lload_n C.1 C.2.1 d hi (lv_at h4 q hq) (k H locs ls h1 h2 h3 h4)
theorem x_lload (pc : Nat) (C : xOK p s m args meth c D z own cc nL rt) {i : Nat} {x : Int64} (d : decode cc pc = .ok (.lload i, 2)) (q : Nat) (hq : lv[q]? = some (i, .long x)) (k : X p l e R s m args below meth c D z nL Q cells slots n G I L (pc + 2) lv (.long x :: st)) : X p l e R s m args below meth c D z nL Q cells slots n G I L pc lv st := fun H locs ls h1 h2 h3 h4 => lv_lload C.1 C.2.1 d (lv_at h4 q hq) (k H locs ls h1 h2 h3 h4)
theorem x_lstore_n (pc : Nat) (C : xOK p s m args meth c D z own cc nL rt) {k : Fin 4} {i : Nat} {x : Int64} (lv' : List (Nat × Value)) (d : decode cc pc = .ok (.lstore_n k, 1)) (hi : (k : Nat) = i) (hn : i + 1 < nL) (hl : (i, Value.long x) :: lv.filter (fun q => !(q.1 == i) && (!(q.1 == i + 1) && !(q.1 + 1 == i && q.2.category == 2))) = lv') (k : X p l e R s m args below meth c D z nL Q cells slots n G I L (pc + 1) lv' st) : X p l e R s m args below meth c D z nL Q cells slots n G I L pc lv (.long x :: st) := fun H locs ls h1 h2 h3 h4 => lv_lstore_n C.1 C.2.1 d hi h4 hn hl (fun ls' h => k H locs ls' h1 h2 h3 h)
theorem x_lstore (pc : Nat) (C : xOK p s m args meth c D z own cc nL rt) {i : Nat} {x : Int64} (lv' : List (Nat × Value)) (d : decode cc pc = .ok (.lstore i, 2)) (hn : i + 1 < nL) (hl : (i, Value.long x) :: lv.filter (fun q => !(q.1 == i) && (!(q.1 == i + 1) && !(q.1 + 1 == i && q.2.category == 2))) = lv') (k : X p l e R s m args below meth c D z nL Q cells slots n G I L (pc + 2) lv' st) : X p l e R s m args below meth c D z nL Q cells slots n G I L pc lv (.long x :: st) := fun H locs ls h1 h2 h3 h4 => lv_lstore C.1 C.2.1 d h4 hn hl (fun ls' h => k H locs ls' h1 h2 h3 h)
theorem x_aload_n (pc : Nat) (C : xOK p s m args meth c D z own cc nL rt) {k : Fin 4} {i : Nat} {x : Nat} (d : decode cc pc = .ok (.aload_n k, 1)) (hi : (k : Nat) = i) (q : Nat) (hq : lv[q]? = some (i, .ref x)) (k : X p l e R s m args below meth c D z nL Q cells slots n G I L (pc + 1) lv (.ref x :: st)) : X p l e R s m args below meth c D z nL Q cells slots n G I L pc lv st := fun H locs ls h1 h2 h3 h4 => lv_aload_n C.1 C.2.1 d hi (lv_at h4 q hq) (k H locs ls h1 h2 h3 h4)
theorem x_aload (pc : Nat) (C : xOK p s m args meth c D z own cc nL rt) {i : Nat} {x : Nat} (d : decode cc pc = .ok (.aload i, 2)) (q : Nat) (hq : lv[q]? = some (i, .ref x)) (k : X p l e R s m args below meth c D z nL Q cells slots n G I L (pc + 2) lv (.ref x :: st)) : X p l e R s m args below meth c D z nL Q cells slots n G I L pc lv st := fun H locs ls h1 h2 h3 h4 => lv_aload C.1 C.2.1 d (lv_at h4 q hq) (k H locs ls h1 h2 h3 h4)
theorem x_astore_n (pc : Nat) (C : xOK p s m args meth c D z own cc nL rt) {k : Fin 4} {i : Nat} {x : Nat} (lv' : List (Nat × Value)) (d : decode cc pc = .ok (.astore_n k, 1)) (hi : (k : Nat) = i) (hn : i < nL) (hl : (i, Value.ref x) :: lv.filter (fun q => !(q.1 == i) && !(q.1 + 1 == i && q.2.category == 2)) = lv') (k : X p l e R s m args below meth c D z nL Q cells slots n G I L (pc + 1) lv' st) : X p l e R s m args below meth c D z nL Q cells slots n G I L pc lv (.ref x :: st) := fun H locs ls h1 h2 h3 h4 => lv_astore_n C.1 C.2.1 d hi h4 hn hl (fun ls' h => k H locs ls' h1 h2 h3 h)
theorem x_astore (pc : Nat) (C : xOK p s m args meth c D z own cc nL rt) {i : Nat} {x : Nat} (lv' : List (Nat × Value)) (d : decode cc pc = .ok (.astore i, 2)) (hn : i < nL) (hl : (i, Value.ref x) :: lv.filter (fun q => !(q.1 == i) && !(q.1 + 1 == i && q.2.category == 2)) = lv') (k : X p l e R s m args below meth c D z nL Q cells slots n G I L (pc + 2) lv' st) : X p l e R s m args below meth c D z nL Q cells slots n G I L pc lv (.ref x :: st) := fun H locs ls h1 h2 h3 h4 => lv_astore C.1 C.2.1 d h4 hn hl (fun ls' h => k H locs ls' h1 h2 h3 h)
theorem x_iinc (pc : Nat) (C : xOK p s m args meth c D z own cc nL rt) {i : Nat} {n' : Int} {x v : Int32} (lv' : List (Nat × Value)) (d : decode cc pc = .ok (.iinc i n', 3)) (q : Nat) (hq : lv[q]? = some (i, .int x)) (hv : x + Int32.ofInt n' = v) (hn : i < nL) (hl : (i, Value.int v) :: lv.filter (fun q => !(q.1 == i) && !(q.1 + 1 == i && q.2.category == 2)) = lv') (k : X p l e R s m args below meth c D z nL Q cells slots n G I L (pc + 3) lv' st) : X p l e R s m args below meth c D z nL Q cells slots n G I L pc lv st := fun H locs ls h1 h2 h3 h4 => lv_iinc C.1 C.2.1 d h4 hq hv hn hl (fun ls' h => k H locs ls' h1 h2 h3 h)
theorem x_iadd (pc : Nat) (C : xOK p s m args meth c D z own cc nL rt) {x y : Int32} (d : decode cc pc = .ok (.iadd, 1))  (k : X p l e R s m args below meth c D z nL Q cells slots n G I L (pc + 1) lv (.int (x + y) :: st)) : X p l e R s m args below meth c D z nL Q cells slots n G I L pc lv (.int y :: .int x :: st) := fun H locs ls h1 h2 h3 h4 => lv_iadd C.1 C.2.1 d  (k H locs ls h1 h2 h3 h4)
theorem x_isub (pc : Nat) (C : xOK p s m args meth c D z own cc nL rt) {x y : Int32} (d : decode cc pc = .ok (.isub, 1))  (k : X p l e R s m args below meth c D z nL Q cells slots n G I L (pc + 1) lv (.int (x - y) :: st)) : X p l e R s m args below meth c D z nL Q cells slots n G I L pc lv (.int y :: .int x :: st) := fun H locs ls h1 h2 h3 h4 => lv_isub C.1 C.2.1 d  (k H locs ls h1 h2 h3 h4)
theorem x_imul (pc : Nat) (C : xOK p s m args meth c D z own cc nL rt) {x y : Int32} (d : decode cc pc = .ok (.imul, 1))  (k : X p l e R s m args below meth c D z nL Q cells slots n G I L (pc + 1) lv (.int (x * y) :: st)) : X p l e R s m args below meth c D z nL Q cells slots n G I L pc lv (.int y :: .int x :: st) := fun H locs ls h1 h2 h3 h4 => lv_imul C.1 C.2.1 d  (k H locs ls h1 h2 h3 h4)
theorem x_ixor (pc : Nat) (C : xOK p s m args meth c D z own cc nL rt) {x y : Int32} (d : decode cc pc = .ok (.ixor, 1))  (k : X p l e R s m args below meth c D z nL Q cells slots n G I L (pc + 1) lv (.int (x ^^^ y) :: st)) : X p l e R s m args below meth c D z nL Q cells slots n G I L pc lv (.int y :: .int x :: st) := fun H locs ls h1 h2 h3 h4 => lv_ixor C.1 C.2.1 d  (k H locs ls h1 h2 h3 h4)
theorem x_iand (pc : Nat) (C : xOK p s m args meth c D z own cc nL rt) {x y : Int32} (d : decode cc pc = .ok (.iand, 1))  (k : X p l e R s m args below meth c D z nL Q cells slots n G I L (pc + 1) lv (.int (x &&& y) :: st)) : X p l e R s m args below meth c D z nL Q cells slots n G I L pc lv (.int y :: .int x :: st) := fun H locs ls h1 h2 h3 h4 => lv_iand C.1 C.2.1 d  (k H locs ls h1 h2 h3 h4)
theorem x_ishl (pc : Nat) (C : xOK p s m args meth c D z own cc nL rt) {x y : Int32} (d : decode cc pc = .ok (.ishl, 1))  (k : X p l e R s m args below meth c D z nL Q cells slots n G I L (pc + 1) lv (.int (x <<< (y &&& 31)) :: st)) : X p l e R s m args below meth c D z nL Q cells slots n G I L pc lv (.int y :: .int x :: st) := fun H locs ls h1 h2 h3 h4 => lv_ishl C.1 C.2.1 d  (k H locs ls h1 h2 h3 h4)
theorem x_ladd (pc : Nat) (C : xOK p s m args meth c D z own cc nL rt) {x y : Int64} (d : decode cc pc = .ok (.ladd, 1))  (k : X p l e R s m args below meth c D z nL Q cells slots n G I L (pc + 1) lv (.long (x + y) :: st)) : X p l e R s m args below meth c D z nL Q cells slots n G I L pc lv (.long y :: .long x :: st) := fun H locs ls h1 h2 h3 h4 => lv_ladd C.1 C.2.1 d  (k H locs ls h1 h2 h3 h4)
theorem x_lsub (pc : Nat) (C : xOK p s m args meth c D z own cc nL rt) {x y : Int64} (d : decode cc pc = .ok (.lsub, 1))  (k : X p l e R s m args below meth c D z nL Q cells slots n G I L (pc + 1) lv (.long (x - y) :: st)) : X p l e R s m args below meth c D z nL Q cells slots n G I L pc lv (.long y :: .long x :: st) := fun H locs ls h1 h2 h3 h4 => lv_lsub C.1 C.2.1 d  (k H locs ls h1 h2 h3 h4)
theorem x_lmul (pc : Nat) (C : xOK p s m args meth c D z own cc nL rt) {x y : Int64} (d : decode cc pc = .ok (.lmul, 1))  (k : X p l e R s m args below meth c D z nL Q cells slots n G I L (pc + 1) lv (.long (x * y) :: st)) : X p l e R s m args below meth c D z nL Q cells slots n G I L pc lv (.long y :: .long x :: st) := fun H locs ls h1 h2 h3 h4 => lv_lmul C.1 C.2.1 d  (k H locs ls h1 h2 h3 h4)
theorem x_idiv (pc : Nat) (C : xOK p s m args meth c D z own cc nL rt) {x y : Int32} (d : decode cc pc = .ok (.idiv, 1)) (hne : ¬ y = 0) (k : X p l e R s m args below meth c D z nL Q cells slots n G I L (pc + 1) lv (.int (x / y) :: st)) : X p l e R s m args below meth c D z nL Q cells slots n G I L pc lv (.int y :: .int x :: st) := fun H locs ls h1 h2 h3 h4 => lv_idiv C.1 C.2.1 d hne (k H locs ls h1 h2 h3 h4)
theorem x_irem (pc : Nat) (C : xOK p s m args meth c D z own cc nL rt) {x y : Int32} (d : decode cc pc = .ok (.irem, 1)) (hne : ¬ y = 0) (k : X p l e R s m args below meth c D z nL Q cells slots n G I L (pc + 1) lv (.int (x - x / y * y) :: st)) : X p l e R s m args below meth c D z nL Q cells slots n G I L pc lv (.int y :: .int x :: st) := fun H locs ls h1 h2 h3 h4 => lv_irem C.1 C.2.1 d hne (k H locs ls h1 h2 h3 h4)
theorem x_ldiv (pc : Nat) (C : xOK p s m args meth c D z own cc nL rt) {x y : Int64} (d : decode cc pc = .ok (.ldiv, 1)) (hne : ¬ y = 0) (k : X p l e R s m args below meth c D z nL Q cells slots n G I L (pc + 1) lv (.long (x / y) :: st)) : X p l e R s m args below meth c D z nL Q cells slots n G I L pc lv (.long y :: .long x :: st) := fun H locs ls h1 h2 h3 h4 => lv_ldiv C.1 C.2.1 d hne (k H locs ls h1 h2 h3 h4)
theorem x_ineg (pc : Nat) (C : xOK p s m args meth c D z own cc nL rt) {x : Int32} (d : decode cc pc = .ok (.ineg, 1))  (k : X p l e R s m args below meth c D z nL Q cells slots n G I L (pc + 1) lv (.int (-x) :: st)) : X p l e R s m args below meth c D z nL Q cells slots n G I L pc lv (.int x :: st) := fun H locs ls h1 h2 h3 h4 => lv_ineg C.1 C.2.1 d  (k H locs ls h1 h2 h3 h4)
theorem x_lneg (pc : Nat) (C : xOK p s m args meth c D z own cc nL rt) {x : Int64} (d : decode cc pc = .ok (.lneg, 1))  (k : X p l e R s m args below meth c D z nL Q cells slots n G I L (pc + 1) lv (.long (-x) :: st)) : X p l e R s m args below meth c D z nL Q cells slots n G I L pc lv (.long x :: st) := fun H locs ls h1 h2 h3 h4 => lv_lneg C.1 C.2.1 d  (k H locs ls h1 h2 h3 h4)
theorem x_i2l (pc : Nat) (C : xOK p s m args meth c D z own cc nL rt) {x : Int32} (d : decode cc pc = .ok (.i2l, 1))  (k : X p l e R s m args below meth c D z nL Q cells slots n G I L (pc + 1) lv (.long x.toInt64 :: st)) : X p l e R s m args below meth c D z nL Q cells slots n G I L pc lv (.int x :: st) := fun H locs ls h1 h2 h3 h4 => lv_i2l C.1 C.2.1 d rfl (k H locs ls h1 h2 h3 h4)
theorem x_l2i (pc : Nat) (C : xOK p s m args meth c D z own cc nL rt) {x : Int64} (d : decode cc pc = .ok (.l2i, 1))  (k : X p l e R s m args below meth c D z nL Q cells slots n G I L (pc + 1) lv (.int x.toInt32 :: st)) : X p l e R s m args below meth c D z nL Q cells slots n G I L pc lv (.long x :: st) := fun H locs ls h1 h2 h3 h4 => lv_l2i C.1 C.2.1 d rfl (k H locs ls h1 h2 h3 h4)
theorem x_lcmp (pc : Nat) (C : xOK p s m args meth c D z own cc nL rt) {x y : Int64} (d : decode cc pc = .ok (.lcmp, 1))  (k : X p l e R s m args below meth c D z nL Q cells slots n G I L (pc + 1) lv (.int (lg_cmp x y) :: st)) : X p l e R s m args below meth c D z nL Q cells slots n G I L pc lv (.long y :: .long x :: st) := fun H locs ls h1 h2 h3 h4 => W.lcmp C.1 C.2.1 d  (k H locs ls h1 h2 h3 h4)
theorem x_lshl (pc : Nat) (C : xOK p s m args meth c D z own cc nL rt) {x : Int64} {y : Int32} (d : decode cc pc = .ok (.lshl, 1))  (k : X p l e R s m args below meth c D z nL Q cells slots n G I L (pc + 1) lv (.long (x <<< (Int32.toInt64 y &&& 63)) :: st)) : X p l e R s m args below meth c D z nL Q cells slots n G I L pc lv (.int y :: .long x :: st) := fun H locs ls h1 h2 h3 h4 => lv_lshl C.1 C.2.1 d rfl (k H locs ls h1 h2 h3 h4)
theorem x_dup (pc : Nat) (C : xOK p s m args meth c D z own cc nL rt) {v : Value} (d : decode cc pc = .ok (.dup, 1)) (hc : v.category = 1) (k : X p l e R s m args below meth c D z nL Q cells slots n G I L (pc + 1) lv (v :: v :: st)) : X p l e R s m args below meth c D z nL Q cells slots n G I L pc lv (v :: st) := fun H locs ls h1 h2 h3 h4 => lv_dup C.1 C.2.1 d hc (k H locs ls h1 h2 h3 h4)
theorem x_pop (pc : Nat) (C : xOK p s m args meth c D z own cc nL rt) {v : Value} (d : decode cc pc = .ok (.pop, 1)) (hc : v.category = 1) (k : X p l e R s m args below meth c D z nL Q cells slots n G I L (pc + 1) lv (st)) : X p l e R s m args below meth c D z nL Q cells slots n G I L pc lv (v :: st) := fun H locs ls h1 h2 h3 h4 => lv_pop C.1 C.2.1 d hc (k H locs ls h1 h2 h3 h4)
theorem x_dup_x1 (pc : Nat) (C : xOK p s m args meth c D z own cc nL rt) {v w : Value} (d : decode cc pc = .ok (.dup_x1, 1)) (hc : v.category = 1) (hd : w.category = 1) (k : X p l e R s m args below meth c D z nL Q cells slots n G I L (pc + 1) lv (v :: w :: v :: st)) : X p l e R s m args below meth c D z nL Q cells slots n G I L pc lv (v :: w :: st) := fun H locs ls h1 h2 h3 h4 => lv_dup_x1 C.1 C.2.1 d hc hd (k H locs ls h1 h2 h3 h4)
theorem x_dup2 (pc : Nat) (C : xOK p s m args meth c D z own cc nL rt) {v w : Value} (d : decode cc pc = .ok (.dup2, 1)) (hc : v.category = 1) (hd : w.category = 1) (k : X p l e R s m args below meth c D z nL Q cells slots n G I L (pc + 1) lv (v :: w :: v :: w :: st)) : X p l e R s m args below meth c D z nL Q cells slots n G I L pc lv (v :: w :: st) := fun H locs ls h1 h2 h3 h4 => lv_dup2_11 C.1 C.2.1 d hc hd (k H locs ls h1 h2 h3 h4)
theorem x_if_eq (pc : Nat) (C : xOK p s m args meth c D z own cc nL rt) {x : Int32} {off : Int} (tgt : Nat) (d : decode cc pc = .ok (.ifCond .eq off, 3)) (ht : (pc : Int) + off = (tgt : Int)) (kt : x = 0 → X p l e R s m args below meth c D z nL Q cells slots n G I L tgt lv st) (kf : ¬ x = 0 → X p l e R s m args below meth c D z nL Q cells slots n G I L (pc + 3) lv st) : X p l e R s m args below meth c D z nL Q cells slots n G I L pc lv (.int x :: st) := fun H locs ls h1 h2 h3 h4 => lv_if_eq C.1 C.2.1 d ht (fun q => kt q H locs ls h1 h2 h3 h4) (fun q => kf q H locs ls h1 h2 h3 h4)
theorem x_icmp_eq (pc : Nat) (C : xOK p s m args meth c D z own cc nL rt) {x y : Int32} {off : Int} (tgt : Nat) (d : decode cc pc = .ok (.if_icmp .eq off, 3)) (ht : (pc : Int) + off = (tgt : Int)) (kt : x = y → X p l e R s m args below meth c D z nL Q cells slots n G I L tgt lv st) (kf : ¬ x = y → X p l e R s m args below meth c D z nL Q cells slots n G I L (pc + 3) lv st) : X p l e R s m args below meth c D z nL Q cells slots n G I L pc lv (.int y :: .int x :: st) := fun H locs ls h1 h2 h3 h4 => lv_icmp_eq C.1 C.2.1 d ht (fun q => kt q H locs ls h1 h2 h3 h4) (fun q => kf q H locs ls h1 h2 h3 h4)
theorem x_if_ne (pc : Nat) (C : xOK p s m args meth c D z own cc nL rt) {x : Int32} {off : Int} (tgt : Nat) (d : decode cc pc = .ok (.ifCond .ne off, 3)) (ht : (pc : Int) + off = (tgt : Int)) (kt : ¬ x = 0 → X p l e R s m args below meth c D z nL Q cells slots n G I L tgt lv st) (kf : x = 0 → X p l e R s m args below meth c D z nL Q cells slots n G I L (pc + 3) lv st) : X p l e R s m args below meth c D z nL Q cells slots n G I L pc lv (.int x :: st) := fun H locs ls h1 h2 h3 h4 => lv_if_ne C.1 C.2.1 d ht (fun q => kt q H locs ls h1 h2 h3 h4) (fun q => kf q H locs ls h1 h2 h3 h4)
theorem x_icmp_ne (pc : Nat) (C : xOK p s m args meth c D z own cc nL rt) {x y : Int32} {off : Int} (tgt : Nat) (d : decode cc pc = .ok (.if_icmp .ne off, 3)) (ht : (pc : Int) + off = (tgt : Int)) (kt : ¬ x = y → X p l e R s m args below meth c D z nL Q cells slots n G I L tgt lv st) (kf : x = y → X p l e R s m args below meth c D z nL Q cells slots n G I L (pc + 3) lv st) : X p l e R s m args below meth c D z nL Q cells slots n G I L pc lv (.int y :: .int x :: st) := fun H locs ls h1 h2 h3 h4 => lv_icmp_ne C.1 C.2.1 d ht (fun q => kt q H locs ls h1 h2 h3 h4) (fun q => kf q H locs ls h1 h2 h3 h4)
theorem x_if_lt (pc : Nat) (C : xOK p s m args meth c D z own cc nL rt) {x : Int32} {off : Int} (tgt : Nat) (d : decode cc pc = .ok (.ifCond .lt off, 3)) (ht : (pc : Int) + off = (tgt : Int)) (kt : x < 0 → X p l e R s m args below meth c D z nL Q cells slots n G I L tgt lv st) (kf : ¬ x < 0 → X p l e R s m args below meth c D z nL Q cells slots n G I L (pc + 3) lv st) : X p l e R s m args below meth c D z nL Q cells slots n G I L pc lv (.int x :: st) := fun H locs ls h1 h2 h3 h4 => lv_if_lt C.1 C.2.1 d ht (fun q => kt q H locs ls h1 h2 h3 h4) (fun q => kf q H locs ls h1 h2 h3 h4)
theorem x_icmp_lt (pc : Nat) (C : xOK p s m args meth c D z own cc nL rt) {x y : Int32} {off : Int} (tgt : Nat) (d : decode cc pc = .ok (.if_icmp .lt off, 3)) (ht : (pc : Int) + off = (tgt : Int)) (kt : x < y → X p l e R s m args below meth c D z nL Q cells slots n G I L tgt lv st) (kf : ¬ x < y → X p l e R s m args below meth c D z nL Q cells slots n G I L (pc + 3) lv st) : X p l e R s m args below meth c D z nL Q cells slots n G I L pc lv (.int y :: .int x :: st) := fun H locs ls h1 h2 h3 h4 => lv_icmp_lt C.1 C.2.1 d ht (fun q => kt q H locs ls h1 h2 h3 h4) (fun q => kf q H locs ls h1 h2 h3 h4)
theorem x_if_ge (pc : Nat) (C : xOK p s m args meth c D z own cc nL rt) {x : Int32} {off : Int} (tgt : Nat) (d : decode cc pc = .ok (.ifCond .ge off, 3)) (ht : (pc : Int) + off = (tgt : Int)) (kt : 0 ≤ x → X p l e R s m args below meth c D z nL Q cells slots n G I L tgt lv st) (kf : ¬ 0 ≤ x → X p l e R s m args below meth c D z nL Q cells slots n G I L (pc + 3) lv st) : X p l e R s m args below meth c D z nL Q cells slots n G I L pc lv (.int x :: st) := fun H locs ls h1 h2 h3 h4 => lv_if_ge C.1 C.2.1 d ht (fun q => kt q H locs ls h1 h2 h3 h4) (fun q => kf q H locs ls h1 h2 h3 h4)
theorem x_icmp_ge (pc : Nat) (C : xOK p s m args meth c D z own cc nL rt) {x y : Int32} {off : Int} (tgt : Nat) (d : decode cc pc = .ok (.if_icmp .ge off, 3)) (ht : (pc : Int) + off = (tgt : Int)) (kt : y ≤ x → X p l e R s m args below meth c D z nL Q cells slots n G I L tgt lv st) (kf : ¬ y ≤ x → X p l e R s m args below meth c D z nL Q cells slots n G I L (pc + 3) lv st) : X p l e R s m args below meth c D z nL Q cells slots n G I L pc lv (.int y :: .int x :: st) := fun H locs ls h1 h2 h3 h4 => lv_icmp_ge C.1 C.2.1 d ht (fun q => kt q H locs ls h1 h2 h3 h4) (fun q => kf q H locs ls h1 h2 h3 h4)
theorem x_if_gt (pc : Nat) (C : xOK p s m args meth c D z own cc nL rt) {x : Int32} {off : Int} (tgt : Nat) (d : decode cc pc = .ok (.ifCond .gt off, 3)) (ht : (pc : Int) + off = (tgt : Int)) (kt : 0 < x → X p l e R s m args below meth c D z nL Q cells slots n G I L tgt lv st) (kf : ¬ 0 < x → X p l e R s m args below meth c D z nL Q cells slots n G I L (pc + 3) lv st) : X p l e R s m args below meth c D z nL Q cells slots n G I L pc lv (.int x :: st) := fun H locs ls h1 h2 h3 h4 => lv_if_gt C.1 C.2.1 d ht (fun q => kt q H locs ls h1 h2 h3 h4) (fun q => kf q H locs ls h1 h2 h3 h4)
theorem x_icmp_gt (pc : Nat) (C : xOK p s m args meth c D z own cc nL rt) {x y : Int32} {off : Int} (tgt : Nat) (d : decode cc pc = .ok (.if_icmp .gt off, 3)) (ht : (pc : Int) + off = (tgt : Int)) (kt : y < x → X p l e R s m args below meth c D z nL Q cells slots n G I L tgt lv st) (kf : ¬ y < x → X p l e R s m args below meth c D z nL Q cells slots n G I L (pc + 3) lv st) : X p l e R s m args below meth c D z nL Q cells slots n G I L pc lv (.int y :: .int x :: st) := fun H locs ls h1 h2 h3 h4 => lv_icmp_gt C.1 C.2.1 d ht (fun q => kt q H locs ls h1 h2 h3 h4) (fun q => kf q H locs ls h1 h2 h3 h4)
theorem x_if_le (pc : Nat) (C : xOK p s m args meth c D z own cc nL rt) {x : Int32} {off : Int} (tgt : Nat) (d : decode cc pc = .ok (.ifCond .le off, 3)) (ht : (pc : Int) + off = (tgt : Int)) (kt : x ≤ 0 → X p l e R s m args below meth c D z nL Q cells slots n G I L tgt lv st) (kf : ¬ x ≤ 0 → X p l e R s m args below meth c D z nL Q cells slots n G I L (pc + 3) lv st) : X p l e R s m args below meth c D z nL Q cells slots n G I L pc lv (.int x :: st) := fun H locs ls h1 h2 h3 h4 => lv_if_le C.1 C.2.1 d ht (fun q => kt q H locs ls h1 h2 h3 h4) (fun q => kf q H locs ls h1 h2 h3 h4)
theorem x_icmp_le (pc : Nat) (C : xOK p s m args meth c D z own cc nL rt) {x y : Int32} {off : Int} (tgt : Nat) (d : decode cc pc = .ok (.if_icmp .le off, 3)) (ht : (pc : Int) + off = (tgt : Int)) (kt : x ≤ y → X p l e R s m args below meth c D z nL Q cells slots n G I L tgt lv st) (kf : ¬ x ≤ y → X p l e R s m args below meth c D z nL Q cells slots n G I L (pc + 3) lv st) : X p l e R s m args below meth c D z nL Q cells slots n G I L pc lv (.int y :: .int x :: st) := fun H locs ls h1 h2 h3 h4 => lv_icmp_le C.1 C.2.1 d ht (fun q => kt q H locs ls h1 h2 h3 h4) (fun q => kf q H locs ls h1 h2 h3 h4)
theorem x_goto (pc : Nat) (C : xOK p s m args meth c D z own cc nL rt) {off : Int} (tgt : Nat) (d : decode cc pc = .ok (.goto off, 3)) (ht : (pc : Int) + off = (tgt : Int)) (k : X p l e R s m args below meth c D z nL Q cells slots n G I L tgt lv st) : X p l e R s m args below meth c D z nL Q cells slots n G I L pc lv st := fun H locs ls h1 h2 h3 h4 => lv_goto C.1 C.2.1 d ht (k H locs ls h1 h2 h3 h4)
theorem x_ldc (pc : Nat) (C : xOK p s m args meth c D z own cc nL rt) {i : Nat} (v : Int32) (d : decode cc pc = .ok (.ldc i, 2)) (w : Cond.constant own i v ∈ xtbl) (k : X p l e R s m args below meth c D z nL Q cells slots n G I L (pc + 2) lv (.int v :: st)) : X p l e R s m args below meth c D z nL Q cells slots n G I L pc lv st := fun H locs ls h1 h2 h3 h4 => lv_ldc C.1 C.2.1 C.2.2.2.1 (C.2.2.2.2.1 _ w) d (k H locs ls h1 h2 h3 h4)
theorem x_ldc2 (pc : Nat) (C : xOK p s m args meth c D z own cc nL rt) {i : Nat} (v : Int64) (d : decode cc pc = .ok (.ldc2_w i, 3)) (w : Cond.constantLong own i v ∈ xtbl) (k : X p l e R s m args below meth c D z nL Q cells slots n G I L (pc + 3) lv (.long v :: st)) : X p l e R s m args below meth c D z nL Q cells slots n G I L pc lv st := fun H locs ls h1 h2 h3 h4 => lv_ldc2 C.1 C.2.1 C.2.2.2.1 (C.2.2.2.2.1 _ w) d (k H locs ls h1 h2 h3 h4)
theorem x_sub {pc : Nat} (lv' : List (Nat × Value)) (ks : List Nat) (h : lv_pick lv ks = lv') (k : X p l e R s m args below meth c D z nL Q cells slots n G I L pc lv' st) : X p l e R s m args below meth c D z nL Q cells slots n G I L pc lv st := fun H locs ls h1 h2 h3 h4 => k H locs ls h1 h2 h3 (lv_sub h4 ks h)
theorem x_wid {pc k' n' : Nat} (h1 : cells ≤ k') (h2 : slots ≤ n') (k : X p l e R s m args below meth c D z nL Q k' n' n G I L pc lv st) : X p l e R s m args below meth c D z nL Q cells slots n G I L pc lv st := fun H locs ls g1 g2 g3 g4 => W.widen h1 h2 (k H locs ls g1 g2 g3 g4)
/-- the same with equal values -/
theorem x_eq {pc : Nat} {G' : xG} {I' : xI} {L' : xL} {lv' : List (Nat × Value)} {st' : List Value} (k : X p l e R s m args below meth c D z nL Q cells slots n G' I' L' pc lv' st') (hG : G = G') (hI : I = I') (hL : L = L') (hlv : lv = lv') (hst : st = st') : X p l e R s m args below meth c D z nL Q cells slots n G I L pc lv st := by
  subst hG; subst hI; subst hL; subst hlv; subst hst; exact k
theorem x_top {pc : Nat} {x : Int32} (k : ∀ y : Int32, y = x → X p l e R s m args below meth c D z nL Q cells slots n G I L pc lv (.int y :: st)) : X p l e R s m args below meth c D z nL Q cells slots n G I L pc lv (.int x :: st) := k x rfl
theorem x_topl {pc : Nat} {x : Int64} (k : ∀ y : Int64, y = x → X p l e R s m args below meth c D z nL Q cells slots n G I L pc lv (.long y :: st)) : X p l e R s m args below meth c D z nL Q cells slots n G I L pc lv (.long x :: st) := k x rfl
end XR
end
section
/-! THE x_ LAYER, 3: fields, arrays, new cells -/
def xHin (k : Nat) : Prop := (∀ w ∈ u_ws (xCl k).1 (xCl k).2.1 (xCl k).2.2, w ∈ xtbl) ∧ (∀ j, j < (xCl k).2.2 → parseFieldDescriptor ((xCl k).2.1 j).2.2.1 = some (xTy k j)) ∧ (∀ a, a < (xCl k).2.2 → ∀ b, b < (xCl k).2.2 → a ≠ b → ((xCl k).2.1 a).2.1 ≠ ((xCl k).2.1 b).2.1)
/-- field j of class ci, by its place idx in the pool of class own -/
def xFld (own : String) (idx ci j : Nat) (ty : FieldType) : Prop := ci < 13 ∧ j < (xCl ci).2.2 ∧ Cond.fieldLink own idx (xCl ci).1 ((xCl ci).2.1 j).2.1 ((xCl ci).2.1 j).2.2.1 ∈ xtbl ∧ xTy ci j = ty ∧ ((xCl ci).2.1 j).1 = (xCl ci).1 ∧ xHin ci
theorem xRep_obj {D : xD} {G : xG} {I : xI} {L : xL} {H : Heap} (h : xRep D G I L H) {a ci : Nat} {r : Nat → Option Nat} (g : G a = some (ci, 0, r)) (hc : ci < 13) : t_OB a (D.1.1 ci) (xCl ci).2.2 (D.1.2 ci) H (fun j => xV (xTy ci j) (I a j) (L a j) (r j)) := by
  have h1 := h a _ g
  unfold xAt at h1
  rw [if_pos hc] at h1
  exact h1
theorem xRep_arr {D : xD} {G : xG} {I : xI} {L : xL} {H : Heap} (h : xRep D G I L H) {a k len : Nat} {r : Nat → Option Nat} (g : G a = some (k, len, r)) (hc : ¬ k < 13) : H[a]? = some (arrV (D.2.1 (k - 20)) len (fun j => xAV k (I a j) (L a j) (r j))) := by
  have h1 := h a _ g
  unfold xAt at h1
  rw [if_neg hc] at h1
  exact h1
theorem xRep.lt {D : xD} {G : xG} {I : xI} {L : xL} {H : Heap} (h : xRep D G I L H) {a : Nat} {sh : xS} (g : G a = some sh) : a < H.size := (h a sh g).lt
theorem xRep_set {D : xD} {G G' : xG} {I I' : xI} {L L' : xL} {H H' : Heap} (h : xRep D G I L H) {a : Nat} (hself : ∀ sh, G' a = some sh → xAt D I' L' a sh H') (hG : ∀ q, q ≠ a → G' q = G q) (hI : ∀ q, q ≠ a → I' q = I q) (hL : ∀ q, q ≠ a → L' q = L q) (hH : ∀ q, q ≠ a → H'[q]? = H[q]?) : xRep D G' I' L' H' := by
  intro q sh hq
  by_cases hqa : q = a
  · subst hqa; exact hself sh hq
  · rw [hG q hqa] at hq
    exact (h q sh hq).kept (hH q hqa) (hI q hqa) (hL q hqa)
theorem xup_row {α : Type} (f : Nat → Nat → α) {a k q : Nat} (v : α) (h : q ≠ a) : xup f a k v q = f q := by funext k'; simp [xup, h]
theorem xup_at {α : Type} (f : Nat → Nat → α) (a k : Nat) (v : α) (j : Nat) : xup f a k v a j = if j = k then v else f a j := by simp [xup]
section XH
variable {p : Program} {l : Launch} {e : Env} {R : Room} {s : State} {m : MethodId} {args : Array Value} {below : List Frame} {meth : Method} {c : Code} {D : xD} {z nL : Nat} {Q : State → Prop} {cells slots n : Nat} {G : xG} {I : xI} {L : xL} {own : String} {cc : ByteArray} {rt : Option FieldType} {lv : List (Nat × Value)} {st : List Value}
theorem xOK.exec (C : xOK p s m args meth c D z own cc nL rt) : p.tables.exec = Jvm.exec := C.1
theorem xOK.code (C : xOK p s m args meth c D z own cc nL rt) : c.code = cc := C.2.1
theorem xOK.maxL (C : xOK p s m args meth c D z own cc nL rt) : c.maxLocals = nL := C.2.2.1
theorem xOK.cls (C : xOK p s m args meth c D z own cc nL rt) : s.vm.findClass own = some m.cls := C.2.2.2.1
theorem xOK.ts (C : xOK p s m args meth c D z own cc nL rt) : ∀ w ∈ xtbl, w.before args s = true := C.2.2.2.2.1
theorem xOK.ret (C : xOK p s m args meth c D z own cc nL rt) : meth.sig.returnType = rt := C.2.2.2.2.2.1
theorem xOK.locks (C : xOK p s m args meth c D z own cc nL rt) : meth.locks = false := C.2.2.2.2.2.2.1
theorem xOK.K (C : xOK p s m args meth c D z own cc nL rt) : xK D s := C.2.2.2.2.2.2.2.1
theorem xOK.Z (C : xOK p s m args meth c D z own cc nL rt) : xZ D z s s.heap := C.2.2.2.2.2.2.2.2.1
theorem xOK.zle (C : xOK p s m args meth c D z own cc nL rt) : z ≤ s.heap.size := C.2.2.2.2.2.2.2.2.2
theorem xOK.tys (C : xOK p s m args meth c D z own cc nL rt) {k : Nat} {q : ClassId × FieldType} (h : (xTys D)[k]? = some q) : ArrOfT s q.1 q.2 := (C.K.1.2 k q h).1
theorem x_getv (pc : Nat) (C : xOK p s m args meth c D z own cc nL rt) {idx ci j : Nat} {ty : FieldType} {a : Nat} {r : Nat → Option Nat} {v : Value} (d : decode cc pc = .ok (.getfield idx, 3)) (f : xFld own idx ci j ty) (g : G a = some (ci, 0, r)) (hv : xV ty (I a j) (L a j) (r j) = v)
    (k : X p l e R s m args below meth c D z nL Q cells slots n G I L (pc + 3) lv (v :: st)) : X p l e R s m args below meth c D z nL Q cells slots n G I L pc lv (.ref a :: st) := by
  intro H locs ls h1 h2 h3 h4
  obtain ⟨hc, hj, hl, hty, hown, hin, htys, hnm⟩ := f
  obtain ⟨cell, q1, q2, q3, q4⟩ := xRep_obj h2 g hc
  obtain ⟨hS, hfc, kC, hkC, hkind⟩ := C.K.1.1 ci _ (xCl_ok hc)
  obtain ⟨cf, kf, fi, f, hi, hsl⟩ := hS j hj
  refine W.getf C.exec C.code C.cls (C.ts _ hl) (by rw [← hown]; exact hi) (u_facts hfc hkC (u_lays C.ts hin hj) hi).1 q1 (by rw [q3]; exact fun h => by cases h) (v := v) ?_ rfl rfl d (k H locs ls h1 h2 h3 h4)
  rw [hsl, q4 j hj]
  show some (xV (xTy ci j) (I a j) (L a j) (r j)) = some v
  rw [hty, hv]
theorem x_geti (pc : Nat) (C : xOK p s m args meth c D z own cc nL rt) {idx ci j : Nat} {a : Nat} {r : Nat → Option Nat} (d : decode cc pc = .ok (.getfield idx, 3)) (f : xFld own idx ci j .int) (g : G a = some (ci, 0, r)) (k : X p l e R s m args below meth c D z nL Q cells slots n G I L (pc + 3) lv (.int (I a j) :: st)) : X p l e R s m args below meth c D z nL Q cells slots n G I L pc lv (.ref a :: st) := x_getv pc C d f g rfl k
theorem x_getz (pc : Nat) (C : xOK p s m args meth c D z own cc nL rt) {idx ci j : Nat} {a : Nat} {r : Nat → Option Nat} (d : decode cc pc = .ok (.getfield idx, 3)) (f : xFld own idx ci j .boolean) (g : G a = some (ci, 0, r)) (k : X p l e R s m args below meth c D z nL Q cells slots n G I L (pc + 3) lv (.int (I a j) :: st)) : X p l e R s m args below meth c D z nL Q cells slots n G I L pc lv (.ref a :: st) := x_getv pc C d f g rfl k
theorem x_getl (pc : Nat) (C : xOK p s m args meth c D z own cc nL rt) {idx ci j : Nat} {a : Nat} {r : Nat → Option Nat} (d : decode cc pc = .ok (.getfield idx, 3)) (f : xFld own idx ci j .long) (g : G a = some (ci, 0, r)) (k : X p l e R s m args below meth c D z nL Q cells slots n G I L (pc + 3) lv (.long (L a j) :: st)) : X p l e R s m args below meth c D z nL Q cells slots n G I L pc lv (.ref a :: st) := x_getv pc C d f g rfl k
def xIsRef (ty : FieldType) : Bool := match ty with
  | .object _ => true
  | .array _ => true
  | _ => false
theorem xV_ref {ty : FieldType} (h : xIsRef ty = true) (i : Int32) (l : Int64) (r : Option Nat) : xV ty i l r = va_rf r := by
  cases ty <;> first | rfl | cases h
theorem x_getr (pc : Nat) (C : xOK p s m args meth c D z own cc nL rt) {idx ci j : Nat} {ty : FieldType} {a b : Nat} {r : Nat → Option Nat} (d : decode cc pc = .ok (.getfield idx, 3)) (f : xFld own idx ci j ty) (ht : xIsRef ty = true) (g : G a = some (ci, 0, r)) (hr : r j = some b) (k : X p l e R s m args below meth c D z nL Q cells slots n G I L (pc + 3) lv (.ref b :: st)) : X p l e R s m args below meth c D z nL Q cells slots n G I L pc lv (.ref a :: st) := x_getv pc C d f g (by rw [xV_ref ht, hr]; rfl) k
/-- a store into a field, final or not -/
theorem x_putv (pc : Nat) (C : xOK p s m args meth c D z own cc nL rt) {idx ci j : Nat} {ty : FieldType} {a : Nat} {r r' : Nat → Option Nat} {v : Value} {G' : xG} {I' : xI} {L' : xL} (d : decode cc pc = .ok (.putfield idx, 3)) (f : xFld own idx ci j ty) (g : G a = some (ci, 0, r)) (hz : z ≤ a)
    (hfin : ((xCl ci).2.1 j).2.2.2 = false ∨ (((xCl ci).2.1 j).2.2.2 = true ∧ meth.name = "<init>" ∧ (xCl ci).1 = own)) (hn : narrow ty v = v) (hfit : fits ty v = true)
    (hG : G' a = some (ci, 0, r')) (hGo : ∀ q, q ≠ a → G' q = G q) (hIo : ∀ q, q ≠ a → I' q = I q) (hLo : ∀ q, q ≠ a → L' q = L q) (hval : ∀ i, xV (xTy ci i) (I' a i) (L' a i) (r' i) = if i = j then v else xV (xTy ci i) (I a i) (L a i) (r i))
    (k : X p l e R s m args below meth c D z nL Q cells slots n G' I' L' (pc + 3) lv st) : X p l e R s m args below meth c D z nL Q cells slots n G I L pc lv (v :: .ref a :: st) := by
  intro H locs ls h1 h2 h3 h4
  obtain ⟨hc, hj, hl, hty, hown, hin, htys, hnm⟩ := f
  have hK := C.K.1
  have hap := va_apart (own := own) C.ts hin (xTy ci) htys hnm hK (xCl_ok hc)
  obtain ⟨cell, q1, q2, q3, q4⟩ := xRep_obj h2 g hc
  obtain ⟨hS, hfc, kC, hkC, hkind⟩ := hK.1 ci _ (xCl_ok hc)
  obtain ⟨cf, kf, fi, f, hi, hsl⟩ := hS j hj
  have hd : parseFieldDescriptor ((xCl ci).2.1 j).2.2.1 = some ty := by rw [← hty]; exact htys j hj
  have hst := (u_facts hfc hkC (u_lays C.ts hin hj) hi).1
  have done : ∀ (H' : Heap) (locs' : List Loc), H'[a]? = some (cell.setSlot f.slot v) → H'.size = H.size → (∀ q, q ≠ a → H'[q]? = H[q]?) → va_S (fun a => z ≤ a) s.heap H' locs' → W p l e R s m args below meth c H' locs' cells slots Q (F0 m (pc + 3) ls st) := by
    intro H' locs' e1 e2 e3 hS'
    refine k H' locs' ls (by rw [e2]; exact h1) (xRep_set h2 (a := a) (fun sh hsh => ?_) hGo hIo hLo e3) hS' h4
    rw [hG] at hsh
    cases hsh
    unfold xAt
    rw [if_pos hc]
    refine t_OB.to (V := updV (fun i => xV (xTy ci i) (I a i) (L a i) (r i)) j v) ⟨_, e1, q2, q3, ?_⟩ (fun i _ => ?_)
    · rw [hsl]; exact t_set q4 hap hj v
    · rw [hval i]; rfl
  have hlay := C.ts _ (hin _ (u_in_lay hj))
  unfold u_lay at hlay
  have hi' : s.fieldFound? (xCl ci).1 ((xCl ci).2.1 j).2.1 ((xCl ci).2.1 j).2.2.1 = some (cf, kf, fi, f) := by rw [← hown]; exact hi
  rcases hfin with hf | ⟨hf, hinit, hcl⟩
  · rw [if_neg (by rw [hf]; decide)] at hlay
    have h6 := u_store hfc hkC hkind hlay hi hd hn hfit
    exact W.putK C.exec C.code (f := f) ⟨C.cls, C.ts _ hl, ⟨_, _, _, hi'⟩, hst⟩ (by rw [q2]; exact h6) q1 q3 (by rw [hsl]; exact k2_hasslot (q4 j hj)) rfl rfl d fun H' e1 e2 e3 => done H' _ e1 e2 e3 (h3.put e2 e3 hz)
  · rw [if_pos hf] at hlay
    have hcf : m.cls = cf := by
      obtain ⟨_, _, c', _, _, _, -, -, hf', -, -, -, hown2, -⟩ := Cond.laysFinal_spec hlay
      have e1 : c' = cf := by have := hi.symm.trans hf'; simp at this; exact this.1.symm
      rw [hown, hcl] at hown2
      rw [← e1]; exact Option.some.inj (C.cls.symm.trans hown2)
    have h6 := u_fits hfc hkC hkind (Or.inr hlay) hi hd hn hfit
    exact W.putFinK C.exec C.code C.cls (C.ts _ hl) hi' hst hcf hinit (by rw [q2]; exact h6) q1 q3 (by rw [hsl]; exact k2_hasslot (q4 j hj)) rfl rfl d fun H' e1 e2 e3 => done H' _ e1 e2 e3 (h3.put e2 e3 hz)
theorem x_puti (pc : Nat) (C : xOK p s m args meth c D z own cc nL rt) {idx ci j : Nat} {a : Nat} {r : Nat → Option Nat} {v : Int32} (d : decode cc pc = .ok (.putfield idx, 3)) (f : xFld own idx ci j .int) (hfin : ((xCl ci).2.1 j).2.2.2 = false) (g : G a = some (ci, 0, r)) (hz : z ≤ a)
    (k : ∀ I' : xI, I' = xup I a j v → X p l e R s m args below meth c D z nL Q cells slots n G I' L (pc + 3) lv st) : X p l e R s m args below meth c D z nL Q cells slots n G I L pc lv (.int v :: .ref a :: st) := by
  refine x_putv pc C d f g hz (Or.inl hfin) rfl rfl g (fun _ _ => rfl) (fun q hq => xup_row I v hq) (fun _ _ => rfl) (fun i => ?_) (k _ rfl)
  rw [xup_at]
  by_cases hi : i = j
  · subst hi; rw [if_pos rfl, if_pos rfl, f.2.2.2.1]; rfl
  · rw [if_neg hi, if_neg hi]
theorem x_putz (pc : Nat) (C : xOK p s m args meth c D z own cc nL rt) {idx ci j : Nat} {a : Nat} {r : Nat → Option Nat} {v : Int32} (d : decode cc pc = .ok (.putfield idx, 3)) (f : xFld own idx ci j .boolean) (hfin : ((xCl ci).2.1 j).2.2.2 = false) (hv : narrow .boolean (.int v) = .int v) (hf : fits .boolean (.int v) = true) (g : G a = some (ci, 0, r)) (hz : z ≤ a)
    (k : ∀ I' : xI, I' = xup I a j v → X p l e R s m args below meth c D z nL Q cells slots n G I' L (pc + 3) lv st) : X p l e R s m args below meth c D z nL Q cells slots n G I L pc lv (.int v :: .ref a :: st) := by
  refine x_putv pc C d f g hz (Or.inl hfin) hv hf g (fun _ _ => rfl) (fun q hq => xup_row I v hq) (fun _ _ => rfl) (fun i => ?_) (k _ rfl)
  rw [xup_at]
  by_cases hi : i = j
  · subst hi; rw [if_pos rfl, if_pos rfl, f.2.2.2.1]; rfl
  · rw [if_neg hi, if_neg hi]
theorem x_putl (pc : Nat) (C : xOK p s m args meth c D z own cc nL rt) {idx ci j : Nat} {a : Nat} {r : Nat → Option Nat} {v : Int64} (d : decode cc pc = .ok (.putfield idx, 3)) (f : xFld own idx ci j .long) (hfin : ((xCl ci).2.1 j).2.2.2 = false) (g : G a = some (ci, 0, r)) (hz : z ≤ a)
    (k : ∀ L' : xL, L' = xup L a j v → X p l e R s m args below meth c D z nL Q cells slots n G I L' (pc + 3) lv st) : X p l e R s m args below meth c D z nL Q cells slots n G I L pc lv (.long v :: .ref a :: st) := by
  refine x_putv pc C d f g hz (Or.inl hfin) rfl rfl g (fun _ _ => rfl) (fun _ _ => rfl) (fun q hq => xup_row L v hq) (fun i => ?_) (k _ rfl)
  rw [xup_at]
  by_cases hi : i = j
  · subst hi; rw [if_pos rfl, if_pos rfl, f.2.2.2.1]; rfl
  · rw [if_neg hi, if_neg hi]
theorem x_putr (pc : Nat) (C : xOK p s m args meth c D z own cc nL rt) {idx ci j : Nat} {ty : FieldType} {a b : Nat} {r : Nat → Option Nat} (d : decode cc pc = .ok (.putfield idx, 3)) (f : xFld own idx ci j ty) (ht : xIsRef ty = true) (hfin : ((xCl ci).2.1 j).2.2.2 = true) (hm : meth.name = "<init>") (hcl : (xCl ci).1 = own) (g : G a = some (ci, 0, r)) (hz : z ≤ a)
    (k : ∀ G' : xG, G' = va_up G a (some (ci, 0, va_up r j (some b))) → X p l e R s m args below meth c D z nL Q cells slots n G' I L (pc + 3) lv st) : X p l e R s m args below meth c D z nL Q cells slots n G I L pc lv (.ref b :: .ref a :: st) := by
  refine x_putv pc C d f g hz (Or.inr ⟨hfin, hm, hcl⟩) ?_ ?_ (va_up_self G a _) (fun q hq => va_up_ne G _ hq) (fun _ _ => rfl) (fun _ _ => rfl) (fun i => ?_) (k _ rfl)
  · cases ty <;> first | rfl | cases ht
  · cases ty <;> first | rfl | cases ht
  · by_cases hi : i = j
    · subst hi
      rw [if_pos rfl, va_up_self, f.2.2.2.1, xV_ref ht]; rfl
    · rw [if_neg hi, va_up_ne _ _ hi]
/-! arrays: kinds 20 int, 21 long, 22 boolean, 23.. of references -/
theorem xAV_i {k : Nat} (h1 : k ≠ 21) (h2 : k < 23) (i : Int32) (l : Int64) (r : Option Nat) : xAV k i l r = .int i := by simp [xAV, h1, h2]
theorem xAV_r {k : Nat} (h : 23 ≤ k) (i : Int32) (l : Int64) (r : Option Nat) : xAV k i l r = va_rf r := by
  have h1 : k ≠ 21 := by omega
  have h2 : ¬ k < 23 := by omega
  simp [xAV, h1, h2]
theorem x_iald (pc : Nat) (C : xOK p s m args meth c D z own cc nL rt) {a len j : Nat} {r : Nat → Option Nat} {i : Int32} (d : decode cc pc = .ok (.iaload, 1)) (g : G a = some (20, len, r)) (hi : xIx i len j) (k : X p l e R s m args below meth c D z nL Q cells slots n G I L (pc + 1) lv (.int (I a j) :: st)) : X p l e R s m args below meth c D z nL Q cells slots n G I L pc lv (.int i :: .ref a :: st) := by
  intro H locs ls h1 h2 h3 h4
  obtain ⟨hn, hj, hlt⟩ := id hi
  refine W.iald (v := .int (I a j)) C.exec C.code (xRep_arr h2 g (by decide)) (C.tys (k := 0) rfl len _) (fun q => by cases q) (by rw [arrV_size]; exact hi.in) ?_ rfl rfl d (k H locs ls h1 h2 h3 h4)
  rw [hj, arrV_read _ _ hlt]; rfl
theorem x_zald (pc : Nat) (C : xOK p s m args meth c D z own cc nL rt) {a len j : Nat} {r : Nat → Option Nat} {i : Int32} (d : decode cc pc = .ok (.baload, 1)) (g : G a = some (22, len, r)) (hi : xIx i len j) (k : X p l e R s m args below meth c D z nL Q cells slots n G I L (pc + 1) lv (.int (I a j) :: st)) : X p l e R s m args below meth c D z nL Q cells slots n G I L pc lv (.int i :: .ref a :: st) := by
  intro H locs ls h1 h2 h3 h4
  obtain ⟨hn, hj, hlt⟩ := id hi
  refine W.zald (v := .int (I a j)) C.exec C.code (xRep_arr h2 g (by decide)) (C.tys (k := 2) rfl len _) (fun q => by cases q) (by rw [arrV_size]; exact hi.in) ?_ rfl rfl d (k H locs ls h1 h2 h3 h4)
  rw [hj, arrV_read _ _ hlt]; rfl
theorem x_lald (pc : Nat) (C : xOK p s m args meth c D z own cc nL rt) {a len j : Nat} {r : Nat → Option Nat} {i : Int32} (d : decode cc pc = .ok (.laload, 1)) (g : G a = some (21, len, r)) (hi : xIx i len j) (k : X p l e R s m args below meth c D z nL Q cells slots n G I L (pc + 1) lv (.long (L a j) :: st)) : X p l e R s m args below meth c D z nL Q cells slots n G I L pc lv (.int i :: .ref a :: st) := by
  intro H locs ls h1 h2 h3 h4
  obtain ⟨hn, hj, hlt⟩ := id hi
  refine W.lald (v := .long (L a j)) C.exec C.code (xRep_arr h2 g (by decide)) (C.tys (k := 1) rfl len _) (fun q => by cases q) (by rw [arrV_size]; exact hi.in) ?_ rfl rfl d (k H locs ls h1 h2 h3 h4)
  rw [hj, arrV_read _ _ hlt]; rfl
def xAC (k : Nat) : Nat := (([0, 1, 6, 9, 10] : List Nat)[k - 23]?).getD 0
theorem x_aald (pc : Nat) (C : xOK p s m args meth c D z own cc nL rt) {k0 a b len j : Nat} {r : Nat → Option Nat} {i : Int32} (d : decode cc pc = .ok (.aaload, 1)) (hk : 23 ≤ k0 ∧ k0 < 28) (g : G a = some (k0, len, r)) (hi : xIx i len j) (hr : r j = some b) (k : X p l e R s m args below meth c D z nL Q cells slots n G I L (pc + 1) lv (.ref b :: st)) : X p l e R s m args below meth c D z nL Q cells slots n G I L pc lv (.int i :: .ref a :: st) := by
  intro H locs ls h1 h2 h3 h4
  obtain ⟨hn, hj, hlt⟩ := id hi
  have hty : ∃ C0 : String, (xTys D)[k0 - 20]? = some (D.2.1 (k0 - 20), .object C0) := by
    rcases (show k0 = 23 ∨ k0 = 24 ∨ k0 = 25 ∨ k0 = 26 ∨ k0 = 27 by omega) with rfl | rfl | rfl | rfl | rfl <;> exact ⟨_, rfl⟩
  obtain ⟨C0, hty⟩ := hty
  refine W.aald (v := .ref b) (ty := .object C0) C.exec C.code (xRep_arr h2 g (by omega)) (C.tys hty len _) rfl (fun q => by cases q) (by rw [arrV_size]; exact hi.in) ?_ rfl rfl d (k H locs ls h1 h2 h3 h4)
  rw [hj, arrV_read _ _ hlt, xAV_r hk.1, hr]; rfl
theorem xRep_arr_set {H H' : Heap} (h : xRep D G I L H) {G' : xG} {I' : xI} {L' : xL} {a k0 len j : Nat} {r r' : Nat → Option Nat} {v : Value} (g : G a = some (k0, len, r)) (hk : ¬ k0 < 13) (hG : G' a = some (k0, len, r')) (hGo : ∀ q, q ≠ a → G' q = G q) (hIo : ∀ q, q ≠ a → I' q = I q) (hLo : ∀ q, q ≠ a → L' q = L q) (hval : ∀ i, xAV k0 (I' a i) (L' a i) (r' i) = if i = j then v else xAV k0 (I a i) (L a i) (r i))
    (e : H'[a]? = some ((arrV (D.2.1 (k0 - 20)) len (fun j => xAV k0 (I a j) (L a j) (r j))).setSlot j v)) (oq : ∀ q, q ≠ a → H'[q]? = H[q]?) : xRep D G' I' L' H' := by
  refine xRep_set h (a := a) (fun sh hsh => ?_) hGo hIo hLo oq
  rw [hG] at hsh
  cases hsh
  unfold xAt
  rw [if_neg hk, e, arrV_store]
  congr 2
  funext i
  show updV _ j v i = xAV k0 (I' a i) (L' a i) (r' i)
  rw [hval i]
  rfl
theorem x_iast (pc : Nat) (C : xOK p s m args meth c D z own cc nL rt) {a len j : Nat} {r : Nat → Option Nat} {i v : Int32} (d : decode cc pc = .ok (.iastore, 1)) (g : G a = some (20, len, r)) (hz : z ≤ a) (hi : xIx i len j) (k : ∀ I' : xI, I' = xup I a j v → X p l e R s m args below meth c D z nL Q cells slots n G I' L (pc + 1) lv st) : X p l e R s m args below meth c D z nL Q cells slots n G I L pc lv (.int v :: .int i :: .ref a :: st) := by
  intro H locs ls h1 h2 h3 h4
  obtain ⟨hn, hj, hlt⟩ := id hi
  refine W.iast C.exec C.code (xRep_arr h2 g (by decide)) (C.tys (k := 0) rfl len _) (fun q => by cases q) (by rw [arrV_size]; exact hi.in) rfl rfl d fun H1 e1 e2 oq => ?_
  refine k _ rfl H1 _ ls (by rw [e2]; exact h1) (xRep_arr_set (j := j) (v := .int v) h2 g (by decide) g (fun _ _ => rfl) (fun q hq => xup_row I v hq) (fun _ _ => rfl) (fun i => ?_) (by rw [← hj]; exact e1) oq) (h3.put e2 oq hz) h4
  rw [xup_at, xAV_i (by decide) (by decide), xAV_i (by decide) (by decide)]
  by_cases h : i = j <;> simp [h]
theorem x_zast (pc : Nat) (C : xOK p s m args meth c D z own cc nL rt) {a len j : Nat} {r : Nat → Option Nat} {i v : Int32} (d : decode cc pc = .ok (.bastore, 1)) (hv : narrow .boolean (.int v) = .int v) (g : G a = some (22, len, r)) (hz : z ≤ a) (hi : xIx i len j) (k : ∀ I' : xI, I' = xup I a j v → X p l e R s m args below meth c D z nL Q cells slots n G I' L (pc + 1) lv st) : X p l e R s m args below meth c D z nL Q cells slots n G I L pc lv (.int v :: .int i :: .ref a :: st) := by
  intro H locs ls h1 h2 h3 h4
  obtain ⟨hn, hj, hlt⟩ := id hi
  refine W.zast C.exec C.code (xRep_arr h2 g (by decide)) (C.tys (k := 2) rfl len _) (fun q => by cases q) (by rw [arrV_size]; exact hi.in) rfl rfl d fun H1 e1 e2 oq => ?_
  refine k _ rfl H1 _ ls (by rw [e2]; exact h1) (xRep_arr_set (j := j) (v := .int v) h2 g (by decide) g (fun _ _ => rfl) (fun q hq => xup_row I v hq) (fun _ _ => rfl) (fun i => ?_) (by rw [← hj]; rw [hv] at e1; exact e1) oq) (h3.put e2 oq hz) h4
  rw [xup_at, xAV_i (by decide) (by decide), xAV_i (by decide) (by decide)]
  by_cases h : i = j <;> simp [h]
theorem x_last (pc : Nat) (C : xOK p s m args meth c D z own cc nL rt) {a len j : Nat} {r : Nat → Option Nat} {i : Int32} {v : Int64} (d : decode cc pc = .ok (.lastore, 1)) (g : G a = some (21, len, r)) (hz : z ≤ a) (hi : xIx i len j) (k : ∀ L' : xL, L' = xup L a j v → X p l e R s m args below meth c D z nL Q cells slots n G I L' (pc + 1) lv st) : X p l e R s m args below meth c D z nL Q cells slots n G I L pc lv (.long v :: .int i :: .ref a :: st) := by
  intro H locs ls h1 h2 h3 h4
  obtain ⟨hn, hj, hlt⟩ := id hi
  refine W.last C.exec C.code (xRep_arr h2 g (by decide)) (C.tys (k := 1) rfl len _) (fun q => by cases q) (by rw [arrV_size]; exact hi.in) rfl rfl d fun H1 e1 e2 oq => ?_
  refine k _ rfl H1 _ ls (by rw [e2]; exact h1) (xRep_arr_set (j := j) (v := .long v) h2 g (by decide) g (fun _ _ => rfl) (fun _ _ => rfl) (fun q hq => xup_row L v hq) (fun i => ?_) (by rw [← hj]; exact e1) oq) (h3.put e2 oq hz) h4
  rw [xup_at]
  by_cases h : i = j <;> simp [h, xAV]
theorem x_aast (pc : Nat) (C : xOK p s m args meth c D z own cc nL rt) {k0 a b len j : Nat} {r rb : Nat → Option Nat} {i : Int32} (d : decode cc pc = .ok (.aastore, 1)) (hk : 23 ≤ k0 ∧ k0 < 28) (g : G a = some (k0, len, r)) (gb : G b = some (xAC k0, 0, rb)) (hz : z ≤ a) (hi : xIx i len j) (k : ∀ G' : xG, G' = va_up G a (some (k0, len, va_up r j (some b))) → X p l e R s m args below meth c D z nL Q cells slots n G' I L (pc + 1) lv st) : X p l e R s m args below meth c D z nL Q cells slots n G I L pc lv (.ref b :: .int i :: .ref a :: st) := by
  intro H locs ls h1 h2 h3 h4
  obtain ⟨hn, hj, hlt⟩ := id hi
  have hty : (xTys D)[k0 - 20]? = some (D.2.1 (k0 - 20), .object (xCl (xAC k0)).1) ∧ xAC k0 < 13 := by
    rcases (show k0 = 23 ∨ k0 = 24 ∨ k0 = 25 ∨ k0 = 26 ∨ k0 = 27 by omega) with rfl | rfl | rfl | rfl | rfl <;> exact ⟨rfl, by decide⟩
  obtain ⟨hty, hac⟩ := hty
  obtain ⟨cellV, g1, g2, g3, -⟩ := xRep_obj h2 gb hac
  have hcls := (C.K.1.1 (xAC k0) _ (xCl_ok hac)).2
  obtain ⟨kA, comp, k1, k2, k3, -⟩ := (C.K.1.2 _ _ hty).2
  have hcomp : comp = D.1.1 (xAC k0) := Option.some.inj (k3.symm.trans hcls.1)
  subst hcomp
  obtain ⟨kC, hkC, -⟩ := hcls.2
  refine W.aast C.exec C.code (xRep_arr h2 g (by omega)) (fun q h => by cases h) (fun h => by cases h) k1 k2 rfl hkC ⟨hn, by rw [arrV_size, hj]; exact hlt⟩ g1 (fun q h => by rw [g3] at h; cases h) (by rw [g2]; exact hkC) (by rw [g2]; exact va_assign hcls) rfl rfl d fun H1 e1 e2 oq => ?_
  refine k _ rfl H1 _ ls (by rw [e2]; exact h1) (xRep_arr_set (j := j) (v := .ref b) h2 g (by omega) (va_up_self G a _) (fun q hq => va_up_ne G _ hq) (fun _ _ => rfl) (fun _ _ => rfl) (fun i => ?_) (by rw [← hj]; exact e1) oq) (h3.put e2 oq hz) h4
  rw [xAV_r hk.1, xAV_r hk.1]
  by_cases h : i = j
  · subst h; rw [if_pos rfl, va_up_self]; rfl
  · rw [if_neg h, va_up_ne _ _ h]
theorem x_alen (pc : Nat) (C : xOK p s m args meth c D z own cc nL rt) {k0 a len : Nat} {r : Nat → Option Nat} (d : decode cc pc = .ok (.arraylength, 1)) (hk : 20 ≤ k0 ∧ k0 < 28) (g : G a = some (k0, len, r)) (k : X p l e R s m args below meth c D z nL Q cells slots n G I L (pc + 1) lv (.int (Int32.ofNat len) :: st)) : X p l e R s m args below meth c D z nL Q cells slots n G I L pc lv (.ref a :: st) := by
  intro H locs ls h1 h2 h3 h4
  have hty : ∃ ty, (xTys D)[k0 - 20]? = some (D.2.1 (k0 - 20), ty) := by
    rcases (show k0 = 20 ∨ k0 = 21 ∨ k0 = 22 ∨ k0 = 23 ∨ k0 = 24 ∨ k0 = 25 ∨ k0 = 26 ∨ k0 = 27 by omega) with rfl | rfl | rfl | rfl | rfl | rfl | rfl | rfl <;> exact ⟨_, rfl⟩
  obtain ⟨ty, hty⟩ := hty
  exact W.alen (n := Int32.ofNat len) C.exec C.code (xRep_arr h2 g (by omega)) (C.tys hty len _) (by rw [arrV_size] <;> rfl) rfl rfl d (k H locs ls h1 h2 h3 h4)
/-- the static arrays -/
theorem x_gets (pc : Nat) (C : xOK p s m args meth c D z own cc nL rt) {idx k0 : Nat} {q : String × String × Nat × (Nat → Int32)} (d : decode cc pc = .ok (.getstatic idx, 3)) (hq : xStats[k0]? = some q) (hl : Cond.fieldLink own idx q.1 q.2.1 "[I" ∈ xtbl) (k : X p l e R s m args below meth c D z nL Q cells slots n G I L (pc + 3) lv (.ref (D.2.2 k0) :: st)) : X p l e R s m args below meth c D z nL Q cells slots n G I L pc lv st :=
  fun H locs ls h1 h2 h3 h4 => va_gets C.exec C.code (C.Z k0 q hq).1 h3 C.cls (C.ts _ hl) (fun _ h => h) d (k H locs ls h1 h2 h3 h4)
theorem x_stald (pc : Nat) (C : xOK p s m args meth c D z own cc nL rt) {k0 j : Nat} {i : Int32} {q : String × String × Nat × (Nat → Int32)} (d : decode cc pc = .ok (.iaload, 1)) (hq : xStats[k0]? = some q) (hi : xIx i q.2.2.1 j) (k : X p l e R s m args below meth c D z nL Q cells slots n G I L (pc + 1) lv (.int (q.2.2.2 j) :: st)) : X p l e R s m args below meth c D z nL Q cells slots n G I L pc lv (.int i :: .ref (D.2.2 k0) :: st) :=
  fun H locs ls h1 h2 h3 h4 => va_ti C.exec C.code (C.Z k0 q hq).2 h3 hi.in (by rw [hi.2.1]) d (k H locs ls h1 h2 h3 h4)
/-! new cells: at the heap's end -/
theorem xRep_new {H H' : Heap} (h : xRep D G I L H) {sh : xS} (hn : H.size = n) (hself : xAt D (xzero I n 0) (xzero L n 0) n sh H') (oq : ∀ q, q < n → H'[q]? = H[q]?) : xRep D (va_up G n (some sh)) (xzero I n 0) (xzero L n 0) H' := by
  intro q sh' hq
  by_cases hqn : q = n
  · subst hqn
    rw [va_up_self] at hq
    cases hq
    exact hself
  · rw [va_up_ne _ _ hqn] at hq
    have hlt : q < n := by rw [← hn]; exact h.lt hq
    exact (h q sh' hq).kept (oq q hlt) (by funext k; simp [xzero, hqn]) (by funext k; simp [xzero, hqn])
theorem va_S.new {A : Nat → Prop} {H0 H H1 : Heap} {locs : List Loc} (h : va_S A H0 H locs) (z1 : H.size ≤ H1.size) (oq : ∀ q, q < H.size → H1[q]? = H[q]?) : va_S A H0 H1 locs := ⟨Nat.le_trans h.1 z1, fun x h1 h2 => (oq x (Nat.lt_of_lt_of_le h1 h.1)).trans (h.2.1 x h1 h2), h.2.2⟩
theorem x_new (pc : Nat) (C : xOK p s m args meth c D z own cc nL rt) {idx ci : Nat} (d : decode cc pc = .ok (.new idx, 3)) (hc : ci < 13) (hh : xHin ci) (hcl : Cond.classLink own idx (xCl ci).1 ∈ xtbl) (hinst : Cond.instantiable (xCl ci).1 (xCl ci).2.2 ∈ xtbl) (hini : Cond.initialized (xCl ci).1 ∈ xtbl) (hdef : ∀ j, j < (xCl ci).2.2 → defaultValue (xTy ci j) = xV (xTy ci j) 0 0 none) (hcells : cells + 1 ≤ R.cells) (hslots : slots + (xCl ci).2.2 ≤ R.slots)
    (k : ∀ (G' : xG) (I' : xI) (L' : xL), G' = va_up G n (some (ci, 0, fun _ => none)) → I' = xzero I n 0 → L' = xzero L n 0 → X p l e R s m args below meth c D z nL Q (cells + 1) (slots + (xCl ci).2.2) (n + 1) G' I' L' (pc + 3) lv (.ref n :: st)) : X p l e R s m args below meth c D z nL Q cells slots n G I L pc lv st := by
  intro H locs ls h1 h2 h3 h4
  have hKn := C.K.1.1 ci _ (xCl_ok hc)
  refine W.newcK C.exec C.code C.cls (C.ts _ hcl) (C.ts _ hinst) (C.ts _ hini) rfl d hcells hslots hKn.2.1 h1 fun H1 kC hkC e1 z1 o1 => ?_
  refine k _ _ _ rfl rfl rfl H1 locs ls z1 (xRep_new h2 h1 ?_ o1) (h3.new (by rw [z1]; omega) (fun q hq => o1 q (by rw [← h1]; exact hq))) h4
  unfold xAt
  rw [if_pos hc]
  exact (u_born (xTy ci) C.ts hh.1 hKn hkC e1 hh.2.1).to (fun j hj => by rw [hdef j hj]; simp [xzero])
theorem x_newa (pc : Nat) (C : xOK p s m args meth c D z own cc nL rt) {atype : ArrayType} (k0 : Nat) {N : Nat} {i : Int32} (d : decode cc pc = .ok (.newarray atype, 2)) (hk : k0 < 3 ∧ (xTys D)[k0]? = some (D.2.1 k0, newarray.typeOf atype)) (harr : Cond.arrayClass (newarray.typeOf atype) ∈ xtbl) (hfc : ∀ cA, va_RA s cA (newarray.typeOf atype) → s.vm.findClass ("[" ++ (newarray.typeOf atype).toString) = some cA) (hdef : defaultValue (newarray.typeOf atype) = xAV (20 + k0) 0 0 none) (hn : ¬ i < 0) (hN : i.toNatClampNeg = N) (hbytes : N * componentBytes (newarray.typeOf atype) ≤ 536870912) (hcells : cells + 1 ≤ R.cells) (hslots : slots + N ≤ R.slots)
    (k : ∀ (G' : xG) (I' : xI) (L' : xL), G' = va_up G n (some (20 + k0, N, fun _ => none)) → I' = xzero I n 0 → L' = xzero L n 0 → X p l e R s m args below meth c D z nL Q (cells + 1) (slots + N) (n + 1) G' I' L' (pc + 2) lv (.ref n :: st)) : X p l e R s m args below meth c D z nL Q cells slots n G I L pc lv (.int i :: st) := by
  intro H locs ls h1 h2 h3 h4
  refine va_newaK C.exec C.code (C.ts _ harr) rfl d rfl hn hN hbytes hcells hslots h1 fun H1 cA e1 z1 o1 hAr hNm => ?_
  have hcA : cA = D.2.1 k0 := Option.some.inj (hNm.symm.trans (hfc _ (C.K.1.2 _ _ hk.2).2))
  subst hcA
  refine k _ _ _ rfl rfl rfl H1 locs ls z1 (xRep_new h2 h1 ?_ o1) (h3.new (by rw [z1]; omega) (fun q hq => o1 q (by rw [← h1]; exact hq))) h4
  unfold xAt
  rw [if_neg (by show ¬ 20 + k0 < 13; omega), e1, hdef]
  have e : 20 + k0 - 20 = k0 := by omega
  show some (arrV (D.2.1 k0) N _) = some (arrV (D.2.1 (20 + k0 - 20)) N _)
  rw [e]
  congr 2
  funext j
  simp [xzero]
theorem x_anew (pc : Nat) (C : xOK p s m args meth c D z own cc nL rt) {idx : Nat} (k0 : Nat) {N : Nat} {i : Int32} (d : decode cc pc = .ok (.anewarray idx, 3)) (hk : 23 ≤ k0 ∧ k0 < 28) (hcl : Cond.classLink own idx (xCl (xAC k0)).1 ∈ xtbl) (hn : ¬ i < 0) (hN : i.toNatClampNeg = N) (hbytes : N * 4 ≤ 536870912) (hcells : cells + 1 ≤ R.cells) (hslots : slots + N ≤ R.slots)
    (k : ∀ (G' : xG) (I' : xI) (L' : xL), G' = va_up G n (some (k0, N, fun _ => none)) → I' = xzero I n 0 → L' = xzero L n 0 → X p l e R s m args below meth c D z nL Q (cells + 1) (slots + N) (n + 1) G' I' L' (pc + 3) lv (.ref n :: st)) : X p l e R s m args below meth c D z nL Q cells slots n G I L pc lv (.int i :: st) := by
  intro H locs ls h1 h2 h3 h4
  subst hN
  have hty : (xTys D)[k0 - 20]? = some (D.2.1 (k0 - 20), .object (xCl (xAC k0)).1) ∧ (xCl (xAC k0)).1 ∈ ([RX0, RX1, RX6, RX9, RX10] : List String) := by
    rcases (show k0 = 23 ∨ k0 = 24 ∨ k0 = 25 ∨ k0 = 26 ∨ k0 = 27 by omega) with rfl | rfl | rfl | rfl | rfl <;> exact ⟨rfl, by simp [xCl, xAC]⟩
  obtain ⟨hty, hmem⟩ := hty
  refine W.anew C.exec C.code C.cls (C.ts _ hcl) (va_AO.use (C.K.2.1 _ hmem)) rfl d rfl hn hbytes hcells hslots fun cA kA comp f1 f2 f3 f4 => ?_
  obtain ⟨_, _, _, _, _, f5⟩ := (C.K.1.2 _ _ hty).2
  have hcA : cA = D.2.1 (k0 - 20) := Option.some.inj (f1.symm.trans f5)
  subst hcA
  generalize hH1 : H.push ({ cls := D.2.1 (k0 - 20), slots := Array.replicate i.toNatClampNeg .null, vm := .none } : Cell) = H1
  have z1 : H1.size = H.size + 1 := by rw [← hH1, Array.size_push]
  have e1 : H1[n]? = some (arrV (D.2.1 (k0 - 20)) i.toNatClampNeg (fun _ => .null)) := by rw [← hH1, ← h1, Array.getElem?_push_size, ← arrV_new]
  have o1 : ∀ q : Nat, q < H.size → H1[q]? = H[q]? := fun q hq => by rw [← hH1, Array.getElem?_push, if_neg (Nat.ne_of_lt hq)]
  rw [h1]
  refine k _ _ _ rfl rfl rfl H1 locs ls (by rw [z1, h1]) (xRep_new h2 h1 ?_ (fun q hq => o1 q (by rw [h1]; exact hq))) (h3.new (by rw [z1]; omega) o1) h4
  unfold xAt
  rw [if_neg (by show ¬ k0 < 13; omega), e1]
  congr 2
  funext j
  rw [xAV_r hk.1]; rfl
end XH
end
section
/-! THE x_ LAYER, 4: answers and calls -/
theorem xN.intro {n : Nat} {G : xG} {P : Option Value → xI → xL → Prop} {v : Option Value} {I : xI} {L : xL} (h : P v I L) : xN n G P v n G I L := ⟨rfl, rfl, h⟩
section XC
variable {p : Program} {l : Launch} {e : Env} {R : Room} {s : State} {m : MethodId} {args : Array Value} {below : List Frame} {meth : Method} {c : Code} {D : xD} {z nL : Nat} {Q : State → Prop} {cells slots n n0 : Nat} {G : xG} {I : xI} {L : xL} {own : String} {cc : ByteArray} {rt : Option FieldType} {lv : List (Nat × Value)} {st : List Value} {Post : xPost}
theorem x_iret (pc : Nat) (C : xOK p s m args meth c D z own cc nL rt) {v : Int32} {ty : FieldType} (d : decode cc pc = .ok (.ireturn, 1)) (hr : rt = some ty) (hn : narrow ty (.int v) = .int v) (hn0 : n0 ≤ n) (hp : Post (some (.int v)) n G I L) : X p l e R s m args below meth c D z nL (MQ below (xQc D z n0 Post) args s cells slots (fun a => z ≤ a)) cells slots n G I L pc lv [.int v] :=
  fun H locs ls h1 h2 h3 h4 => W.zret (ty := ty) C.exec C.code (C.ret.trans hr) hn (fun t ht hW => ⟨⟨_, n, G, I, L, rfl, hp, by rw [ht, h1], hn0, by rw [ht]; exact h2⟩, h3.F ht⟩) h3.2.2 d C.locks
theorem x_lret (pc : Nat) (C : xOK p s m args meth c D z own cc nL rt) {v : Int64} (d : decode cc pc = .ok (.lreturn, 1)) (hr : rt = some .long) (hn0 : n0 ≤ n) (hp : Post (some (.long v)) n G I L) : X p l e R s m args below meth c D z nL (MQ below (xQc D z n0 Post) args s cells slots (fun a => z ≤ a)) cells slots n G I L pc lv [.long v] :=
  fun H locs ls h1 h2 h3 h4 => W.lret C.exec C.code (C.ret.trans hr) (fun t ht hW => ⟨⟨_, n, G, I, L, rfl, hp, by rw [ht, h1], hn0, by rw [ht]; exact h2⟩, h3.F ht⟩) h3.2.2 d C.locks
theorem x_vret (pc : Nat) (C : xOK p s m args meth c D z own cc nL rt) (d : decode cc pc = .ok (.return_, 1)) (hr : rt = none) (hn0 : n0 ≤ n) (hp : Post none n G I L) : X p l e R s m args below meth c D z nL (MQ below (xQc D z n0 Post) args s cells slots (fun a => z ≤ a)) cells slots n G I L pc lv [] :=
  fun H locs ls h1 h2 h3 h4 => W.vret C.exec C.code (C.ret.trans hr) (fun t ht hW => ⟨⟨_, n, G, I, L, rfl, hp, by rw [ht, h1], hn0, by rw [ht]; exact h2⟩, h3.F ht⟩) h3.2.2 d C.locks
theorem x_aret (pc : Nat) (C : xOK p s m args meth c D z own cc nL rt) {b : Nat} {ty : FieldType} (d : decode cc pc = .ok (.areturn, 1)) (hr : rt = some ty) (ht : (∃ n, ty = .object n) ∨ ∃ t, ty = .array t) (hn0 : n0 ≤ n) (hp : Post (some (.ref b)) n G I L) : X p l e R s m args below meth c D z nL (MQ below (xQc D z n0 Post) args s cells slots (fun a => z ≤ a)) cells slots n G I L pc lv [.ref b] :=
  fun H locs ls h1 h2 h3 h4 => W.aret C.exec C.code (C.ret.trans hr) ht (Or.inr ⟨_, rfl⟩) (fun t ht hW => ⟨⟨_, n, G, I, L, rfl, hp, by rw [ht, h1], hn0, by rw [ht]; exact h2⟩, h3.F ht⟩) h3.2.2 d C.locks
/-- what the tables hold of a method of ours -/
def xMt (y : MethodName) (cc : ByteArray) (nL : Nat) (ret : Option FieldType) (na : Nat) : Prop := Cond.code y cc nL ret ∈ xtbl ∧ Cond.initialized y.cls ∈ xtbl ∧ (y.cls ≠ "java/lang/invoke/MethodHandle" ∧ y.cls ≠ "java/lang/invoke/VarHandle" ∧ (parseMethodDescriptor y.desc).map (fun d => d.parameters.length) = some na)
theorem xB_blind {av : List Value} : FrameBlind (va_Pc av (xB D z n G I L)) := by
  intro a U g mk q
  obtain ⟨q0, h1, h2, h3, h4, h5⟩ := q
  exact ⟨q0, h1, h2, h3, ⟨va_K.moved (u := U) (U := U.calling g mk a) (Vm.Alike.refl U.vm) h4.1, fun C hC => va_AO.moved (u := U) (U := U.calling g mk a) (Vm.Alike.refl U.vm) (h4.2.1 C hC), fun q hq => va_Nw.same (u := U) (U := U.calling g mk a) rfl rfl (h4.2.2 q hq)⟩, xZ.moved (u := U) (U := U.calling g mk a) (Vm.Alike.refl U.vm) h5⟩
theorem xB_at (C : xOK p s m args meth c D z own cc nL rt) {H : Heap} {locs : List Loc} (h1 : H.size = n) (h2 : xRep D G I L H) (h3 : va_S (fun a => z ≤ a) s.heap H locs) {av : List Value} : ∀ U : State, U.heap = H → s.WarmedH U.vm → va_Pc av (xB D z n G I L) av.toArray U := fun U hU hW =>
  ⟨rfl, by rw [hU, h1], by rw [← h1]; exact Nat.le_trans C.zle h3.1, by rw [hU]; exact h2, xK.moved hW C.K, by rw [hU]; exact (C.Z.moved hW.alike).kept h3.2.1⟩
theorem x_run {mc ms : Nat} {pc : Nat} {ls : Array Slot} {H : Heap} {locs : List Loc} {a : Array Value} {rest st0 : List Value} (hr : va_Run p l e R s m args below meth c H locs cells slots mc ms (F0 m pc ls st0) rest (xQc D z n Post a) (fun a => z ≤ a)) (h1 : H.size = n) (h3 : va_S (fun a => z ≤ a) s.heap H locs) (h4 : lv_has ls nL lv)
    (k : ∀ (v : Option Value) (n' : Nat) (G' : xG) (I' : xI) (L' : xL), Post v n' G' I' L' → n ≤ n' → X p l e R s m args below meth c D z nL Q (cells + mc) (slots + ms) n' G' I' L' (pc + 3) lv (v.toList ++ rest)) : W p l e R s m args below meth c H locs cells slots Q (F0 m pc ls st0) := by
  intro T hT X0
  obtain ⟨v, st₀, t, T', LL, h0, X', hL, e1, e2, ⟨⟨v', n', G', I', L', hv, hp, hs', hn', hR'⟩, hz, hk⟩, stp⟩ := hr T hT X0
  cases hv
  rw [h0] at hz hk
  obtain ⟨t2, a1, b1⟩ := k v n' G' I' L' hp hn' T'.heap (locs ++ LL) ls (by rw [e1, hs']) (by rw [e1]; exact hR') ⟨Nat.le_trans h3.1 (by rw [e1]; exact hz), fun q g1 g2 => by rw [e1, hk q (Nat.lt_of_lt_of_le g1 h3.1) g2]; exact h3.2.1 q g1 g2, fun q hq => by
      rcases List.mem_append.mp hq with h | h
      · exact h3.2.2 q h
      · exact hL q h⟩ h4 T' rfl X'
  exact ⟨t2, stp t2 a1, b1⟩
theorem xCB (C : xOK p s m args meth c D z own cc nL rt) {y : MethodName} {cc' : ByteArray} {nL' fr lo mc ms na idx : Nat} {ret' : Option FieldType} (mt : xMt y cc' nL' ret' na) (lk : Cond.methodLink own idx y ∈ xtbl) (hR : fr + 1 ≤ R.frames ∧ 8 + (nL' + 11) + lo ≤ R.locals) : CallB R s args own idx y cc' nL' ret' (xws y cc' nL' ret') (xRm fr lo mc ms) mc ms na :=
  callB_of na C.ts (xws_good mt.1) rfl rfl rfl (C.ts _ mt.2.1) (C.ts _ lk) mt.2.2 hR
theorem x_callV (pc : Nat) (C : xOK p s m args meth c D z own cc nL rt) {idx : Nat} (d : decode cc pc = .ok (.invokevirtual idx, 3)) {y : MethodName} {cc' : ByteArray} {nL' fr lo mc ms ci b : Nat} {ret' : Option FieldType} {As rest : List Value} {r : Nat → Option Nat}
    (hM : xM l D z y cc' nL' ret' fr lo mc ms (.ref b :: As) n G I L Post) (mt : xMt y cc' nL' ret' As.length) (lk : Cond.methodLink own idx y ∈ xtbl) (hin : Cond.instanceMethod y ∈ xtbl) (hse : Cond.selects y.cls y y ∈ xtbl) (g : G b = some (ci, 0, r)) (hc : ci < 13 ∧ (xCl ci).1 = y.cls) (hst : st = As.reverse ++ .ref b :: rest) (hcat : (rest.map fun v => v.category).sum ≤ 8) (hR : (fr + 1 ≤ R.frames ∧ 8 + (nL' + 11) + lo ≤ R.locals) ∧ cells + mc ≤ R.cells ∧ slots + ms ≤ R.slots)
    (k : ∀ (v : Option Value) (n' : Nat) (G' : xG) (I' : xI) (L' : xL), Post v n' G' I' L' → n ≤ n' → X p l e R s m args below meth c D z nL Q (cells + mc) (slots + ms) n' G' I' L' (pc + 3) lv (v.toList ++ rest)) : X p l e R s m args below meth c D z nL Q cells slots n G I L pc lv st := by
  intro H locs ls h1 h2 h3 h4
  subst hst
  obtain ⟨cell, q1, q2, q3, -⟩ := xRep_obj h2 g hc.1
  refine x_run (va_runV (C := y.cls) (b := b) (As := As) (rest := rest) ⟨C.exec, C.code, C.maxL, C.cls, C.ts⟩ hM ⟨xCB C mt lk hR.1, C.ts _ hin, C.ts _ hse⟩ ⟨xB_blind, ⟨cell, q1, by rw [q3]; rfl, by rw [q2, ← hc.2]; exact (C.K.1.1 ci _ (xCl_ok hc.1)).2.1⟩, xB_at C h1 h2 h3⟩ rfl rfl h4.1 rfl (lv_room hcat) d hR.2) h1 h3 h4 k
theorem x_callS (pc : Nat) (C : xOK p s m args meth c D z own cc nL rt) {idx : Nat} (d : decode cc pc = .ok (.invokestatic idx, 3)) {y : MethodName} {cc' : ByteArray} {nL' fr lo mc ms : Nat} {ret' : Option FieldType} {As rest : List Value}
    (hM : xM l D z y cc' nL' ret' fr lo mc ms As n G I L Post) (mt : xMt y cc' nL' ret' As.length) (lk : Cond.methodLink own idx y ∈ xtbl) (hs : Cond.static y ∈ xtbl) (hst : st = As.reverse ++ rest) (hcat : (rest.map fun v => v.category).sum ≤ 8) (hR : (fr + 1 ≤ R.frames ∧ 8 + (nL' + 11) + lo ≤ R.locals) ∧ cells + mc ≤ R.cells ∧ slots + ms ≤ R.slots)
    (k : ∀ (v : Option Value) (n' : Nat) (G' : xG) (I' : xI) (L' : xL), Post v n' G' I' L' → n ≤ n' → X p l e R s m args below meth c D z nL Q (cells + mc) (slots + ms) n' G' I' L' (pc + 3) lv (v.toList ++ rest)) : X p l e R s m args below meth c D z nL Q cells slots n G I L pc lv st := by
  intro H locs ls h1 h2 h3 h4
  subst hst
  exact x_run (va_runS (As := As) (rest := rest) ⟨C.exec, C.code, C.maxL, C.cls, C.ts⟩ hM ⟨xCB C mt lk hR.1, C.ts _ hs⟩ ⟨xB_blind, xB_at C h1 h2 h3⟩ rfl rfl h4.1 rfl (lv_room hcat) d hR.2) h1 h3 h4 k
theorem x_callI (pc : Nat) (C : xOK p s m args meth c D z own cc nL rt) {idx : Nat} (d : decode cc pc = .ok (.invokespecial idx, 3)) {y : MethodName} {cc' : ByteArray} {nL' fr lo mc ms b : Nat} {As rest : List Value}
    (hM : xM l D z y cc' nL' none fr lo mc ms (.ref b :: As) n G I L Post) (mt : xMt y cc' nL' none As.length) (hy : y.name = "<init>") (lk : Cond.methodLink own idx y ∈ xtbl) (hin : Cond.instanceMethod y ∈ xtbl) (hst : st = As.reverse ++ .ref b :: rest) (hcat : (rest.map fun v => v.category).sum ≤ 8) (hR : (fr + 1 ≤ R.frames ∧ 8 + (nL' + 11) + lo ≤ R.locals) ∧ cells + mc ≤ R.cells ∧ slots + ms ≤ R.slots)
    (k : ∀ (v : Option Value) (n' : Nat) (G' : xG) (I' : xI) (L' : xL), Post v n' G' I' L' → n ≤ n' → X p l e R s m args below meth c D z nL Q (cells + mc) (slots + ms) n' G' I' L' (pc + 3) lv (v.toList ++ rest)) : X p l e R s m args below meth c D z nL Q cells slots n G I L pc lv st := by
  intro H locs ls h1 h2 h3 h4
  subst hst
  exact x_run (va_runI (b := b) (As := As) (rest := rest) ⟨C.exec, C.code, C.maxL, C.cls, C.ts⟩ hM ⟨xCB C mt lk hR.1, hy, C.ts _ hin⟩ ⟨xB_blind, xB_at C h1 h2 h3⟩ rfl rfl h4.1 rfl (lv_room hcat) d hR.2) h1 h3 h4 k
/-- the constructor of Complex, out of its nest mates -/
theorem x_callIN (pc : Nat) (C : xOK p s m args meth c D z own cc nL rt) {idx : Nat} (d : decode cc pc = .ok (.invokespecial idx, 3)) {cc' : ByteArray} {nL' fr lo mc ms b : Nat} {rest : List Value}
    (hM : xM l D z yX0_init cc' nL' none fr lo mc ms [.ref b] n G I L Post) (mt : xMt yX0_init cc' nL' none 0) (lk : (own, idx) ∈ xNest) (hin : Cond.instanceMethod yX0_init ∈ xtbl) (hst : st = .ref b :: rest) (hcat : (rest.map fun v => v.category).sum ≤ 8) (hR : (fr + 1 ≤ R.frames ∧ 8 + (nL' + 11) + lo ≤ R.locals) ∧ cells + mc ≤ R.cells ∧ slots + ms ≤ R.slots)
    (k : ∀ (v : Option Value) (n' : Nat) (G' : xG) (I' : xI) (L' : xL), Post v n' G' I' L' → n ≤ n' → X p l e R s m args below meth c D z nL Q (cells + mc) (slots + ms) n' G' I' L' (pc + 3) lv (v.toList ++ rest)) : X p l e R s m args below meth c D z nL Q cells slots n G I L pc lv st := by
  intro H locs ls h1 h2 h3 h4
  subst hst
  exact x_run (va_runIN (b := b) (As := []) (rest := rest) ⟨C.exec, C.code, C.maxL, C.cls, C.ts⟩ hM ⟨va_cnB 0 C.ts (xws_good mt.1) rfl rfl rfl (C.K.2.2 _ lk) (C.ts _ mt.2.1) mt.2.2 hR.1, rfl, C.ts _ hin⟩ ⟨xB_blind, xB_at C h1 h2 h3⟩ rfl rfl h4.1 rfl (lv_room hcat) d hR.2) h1 h3 h4 k
/-- Object's constructor -/
theorem x_obj (pc : Nat) (C : xOK p s m args meth c D z own cc nL rt) {idx b : Nat} (d : decode cc pc = .ok (.invokespecial idx, 3)) (lk : Cond.methodLink own idx objectInit ∈ xtbl) (hin : Cond.instanceMethod objectInit ∈ xtbl) (hco : Cond.code objectInit ⟨#[0xb1]⟩ 1 none ∈ xtbl) (hcat : (st.map fun v => v.category).sum + 12 ≤ R.locals) (hf : 1 ≤ R.frames)
    (k : X p l e R s m args below meth c D z nL Q cells slots n G I L (pc + 3) lv st) : X p l e R s m args below meth c D z nL Q cells slots n G I L pc lv (.ref b :: st) :=
  fun H locs ls h1 h2 h3 h4 => W.objInit C.exec C.code C.cls (C.ts _ lk) (C.ts _ hin) (C.ts _ hco) rfl (h4.1.trans C.maxL.symm) rfl d hf (by show 2 * 0 + _ + 12 ≤ _; omega) (k H locs ls h1 h2 h3 h4)
-- Math
theorem x_mmax (pc : Nat) (C : xOK p s m args meth c D z own cc nL rt) {idx : Nat} {x y : Int32} (d : decode cc pc = .ok (.invokestatic idx, 3)) (lk : Cond.methodLink own idx Lib.Math.max.name ∈ xtbl) (hs : Cond.static Lib.Math.max.name ∈ xtbl) (hi : Cond.initialized "java/lang/Math" ∈ xtbl) (hco : Cond.code Lib.Math.max.name Lib.Math.max.code 2 (some .int) ∈ xtbl) (hR : 1 ≤ R.frames ∧ (st.map fun v => v.category).sum + 13 ≤ R.locals ∧ cells ≤ R.cells ∧ slots ≤ R.slots)
    (k : X p l e R s m args below meth c D z nL Q cells slots n G I L (pc + 3) lv (.int (if x < y then y else x) :: st)) : X p l e R s m args below meth c D z nL Q cells slots n G I L pc lv (.int y :: .int x :: st) :=
  fun H locs ls h1 h2 h3 h4 => va_mmax C.exec C.code (C.maxL.trans h4.1.symm) C.cls (C.ts _ lk) (C.ts _ hs) (C.ts _ hi) (C.ts _ hco) hR.1 hR.2.1 hR.2.2.1 hR.2.2.2 d (k H locs ls h1 h2 h3 h4)
theorem x_mmin (pc : Nat) (C : xOK p s m args meth c D z own cc nL rt) {idx : Nat} {x y : Int32} (d : decode cc pc = .ok (.invokestatic idx, 3)) (lk : Cond.methodLink own idx Lib.Math.min.name ∈ xtbl) (hs : Cond.static Lib.Math.min.name ∈ xtbl) (hi : Cond.initialized "java/lang/Math" ∈ xtbl) (hco : Cond.code Lib.Math.min.name Lib.Math.min.code 2 (some .int) ∈ xtbl) (hR : 1 ≤ R.frames ∧ (st.map fun v => v.category).sum + 13 ≤ R.locals ∧ cells ≤ R.cells ∧ slots ≤ R.slots)
    (k : X p l e R s m args below meth c D z nL Q cells slots n G I L (pc + 3) lv (.int (if y < x then y else x) :: st)) : X p l e R s m args below meth c D z nL Q cells slots n G I L pc lv (.int y :: .int x :: st) :=
  fun H locs ls h1 h2 h3 h4 => va_mmin C.exec C.code (C.maxL.trans h4.1.symm) C.cls (C.ts _ lk) (C.ts _ hs) (C.ts _ hi) (C.ts _ hco) hR.1 hR.2.1 hR.2.2.1 hR.2.2.2 d (k H locs ls h1 h2 h3 h4)
theorem x_mabs (pc : Nat) (C : xOK p s m args meth c D z own cc nL rt) {idx : Nat} {x : Int32} (d : decode cc pc = .ok (.invokestatic idx, 3)) (lk : Cond.methodLink own idx Lib.Math.abs.name ∈ xtbl) (hs : Cond.static Lib.Math.abs.name ∈ xtbl) (hi : Cond.initialized "java/lang/Math" ∈ xtbl) (hco : Cond.code Lib.Math.abs.name Lib.Math.abs.code 1 (some .int) ∈ xtbl) (hR : 1 ≤ R.frames ∧ (st.map fun v => v.category).sum + 13 ≤ R.locals ∧ cells ≤ R.cells ∧ slots ≤ R.slots)
    (k : X p l e R s m args below meth c D z nL Q cells slots n G I L (pc + 3) lv (.int (if 0 ≤ x then x else 0 - x) :: st)) : X p l e R s m args below meth c D z nL Q cells slots n G I L pc lv (.int x :: st) :=
  fun H locs ls h1 h2 h3 h4 => va_mabs C.exec C.code (C.maxL.trans h4.1.symm) C.cls (C.ts _ lk) (C.ts _ hs) (C.ts _ hi) (C.ts _ hco) hR.1 hR.2.1 hR.2.2.1 hR.2.2.2 d (k H locs ls h1 h2 h3 h4)
theorem x_mmaxl (pc : Nat) (C : xOK p s m args meth c D z own cc nL rt) {idx : Nat} {x y : Int64} (d : decode cc pc = .ok (.invokestatic idx, 3)) (lk : Cond.methodLink own idx Lib.MathLoose.max_long.x ∈ xtbl) (hs : Cond.static Lib.MathLoose.max_long.x ∈ xtbl) (hi : Cond.initialized "java/lang/Math" ∈ xtbl) (hco : Cond.code Lib.MathLoose.max_long.x Lib.MathLoose.max_long.code 4 (some .long) ∈ xtbl) (hR : 1 ≤ R.frames ∧ (st.map fun v => v.category).sum + 15 ≤ R.locals ∧ cells ≤ R.cells ∧ slots ≤ R.slots)
    (k : X p l e R s m args below meth c D z nL Q cells slots n G I L (pc + 3) lv (.long (if y < x then x else y) :: st)) : X p l e R s m args below meth c D z nL Q cells slots n G I L pc lv (.long y :: .long x :: st) :=
  fun H locs ls h1 h2 h3 h4 => va_mmax_long C.exec C.code (C.maxL.trans h4.1.symm) C.cls (C.ts _ lk) (C.ts _ hs) (C.ts _ hi) (C.ts _ hco) hR.1 hR.2.1 hR.2.2.1 hR.2.2.2 d (k H locs ls h1 h2 h3 h4)
theorem x_mabsl (pc : Nat) (C : xOK p s m args meth c D z own cc nL rt) {idx : Nat} {x : Int64} (d : decode cc pc = .ok (.invokestatic idx, 3)) (lk : Cond.methodLink own idx Lib.MathLoose.abs_long.x ∈ xtbl) (hs : Cond.static Lib.MathLoose.abs_long.x ∈ xtbl) (hi : Cond.initialized "java/lang/Math" ∈ xtbl) (hco : Cond.code Lib.MathLoose.abs_long.x Lib.MathLoose.abs_long.code 2 (some .long) ∈ xtbl) (hR : 1 ≤ R.frames ∧ (st.map fun v => v.category).sum + 13 ≤ R.locals ∧ cells ≤ R.cells ∧ slots ≤ R.slots)
    (k : X p l e R s m args below meth c D z nL Q cells slots n G I L (pc + 3) lv (.long (if 0 < x then x else -x) :: st)) : X p l e R s m args below meth c D z nL Q cells slots n G I L pc lv (.long x :: st) :=
  fun H locs ls h1 h2 h3 h4 => va_mabs_long C.exec C.code (C.maxL.trans h4.1.symm) C.cls (C.ts _ lk) (C.ts _ hs) (C.ts _ hi) (C.ts _ hco) hR.1 hR.2.1 hR.2.2.1 hR.2.2.2 d (k H locs ls h1 h2 h3 h4)
end XC
end
section
theorem kn_L : Cond.initialized RL ∈ xtbl := xin_1 0 rfl rfl
theorem kn_X11 : Cond.initialized RX11 ∈ xtbl := xin_1 1 rfl rfl
theorem kn_X2 : Cond.initialized RX2 ∈ xtbl := xin_1 2 rfl rfl
theorem kn_X1 : Cond.initialized RX1 ∈ xtbl := xin_1 3 rfl rfl
theorem kn_X0 : Cond.initialized RX0 ∈ xtbl := xin_1 4 rfl rfl
theorem kn_X3 : Cond.initialized RX3 ∈ xtbl := xin_1 5 rfl rfl
theorem kn_X5 : Cond.initialized RX5 ∈ xtbl := xin_1 6 rfl rfl
theorem kn_X7 : Cond.initialized RX7 ∈ xtbl := xin_1 7 rfl rfl
theorem kn_X10 : Cond.initialized RX10 ∈ xtbl := xin_1 8 rfl rfl
theorem kn_X8 : Cond.initialized RX8 ∈ xtbl := xin_1 9 rfl rfl
theorem kn_X9 : Cond.initialized RX9 ∈ xtbl := xin_1 10 rfl rfl
theorem kn_X6 : Cond.initialized RX6 ∈ xtbl := xin_1 11 rfl rfl
theorem kn_J9 : Cond.initialized RJ9 ∈ xtbl := xin_1 12 rfl rfl
theorem kn_X4 : Cond.initialized RX4 ∈ xtbl := xin_1 13 rfl rfl
theorem kn_X12 : Cond.initialized RX12 ∈ xtbl := xin_1 14 rfl rfl
theorem kn_J6 : Cond.initialized RJ6 ∈ xtbl := xin_1 15 rfl rfl
theorem kl_L_7 : Cond.classLink RL 7 RX11 ∈ xtbl := xin_1 16 rfl rfl
theorem kb_X11 : Cond.instantiable RX11 6 ∈ xtbl := xin_1 17 rfl rfl
theorem km_L_9 : Cond.methodLink RL 9 yX11_init ∈ xtbl := xin_1 18 rfl rfl
theorem ki_X11_init : Cond.instanceMethod yX11_init ∈ xtbl := xin_1 19 rfl rfl
theorem kc_X11_init : Cond.code yX11_init cX11_init 2 none ∈ xtbl := xin_1 20 rfl rfl
theorem km_X11_1 : Cond.methodLink RX11 1 objectInit ∈ xtbl := xin_1 21 rfl rfl
theorem ki_obj : Cond.instanceMethod objectInit ∈ xtbl := xin_1 22 rfl rfl
theorem kc_obj : Cond.code objectInit ⟨#[0xb1]⟩ 1 none ∈ xtbl := xin_1 23 rfl rfl
theorem kl_X11_7 : Cond.classLink RX11 7 RX2 ∈ xtbl := xin_1 24 rfl rfl
theorem kb_X2 : Cond.instantiable RX2 4 ∈ xtbl := xin_1 25 rfl rfl
theorem km_X11_9 : Cond.methodLink RX11 9 yX2_init ∈ xtbl := xin_1 26 rfl rfl
theorem ki_X2_init : Cond.instanceMethod yX2_init ∈ xtbl := xin_1 27 rfl rfl
theorem kc_X2_init : Cond.code yX2_init cX2_init 1 none ∈ xtbl := xin_1 28 rfl rfl
theorem km_X2_1 : Cond.methodLink RX2 1 objectInit ∈ xtbl := xin_1 29 rfl rfl
theorem kl_X2_13 : Cond.classLink RX2 13 RX1 ∈ xtbl := xin_1 30 rfl rfl
theorem kb_X1 : Cond.instantiable RX1 3 ∈ xtbl := xin_1 31 rfl rfl
theorem km_X2_15 : Cond.methodLink RX2 15 yX1_init ∈ xtbl := xin_1 32 rfl rfl
theorem ki_X1_init : Cond.instanceMethod yX1_init ∈ xtbl := xin_1 33 rfl rfl
theorem kc_X1_init : Cond.code yX1_init cX1_init 1 none ∈ xtbl := xin_1 34 rfl rfl
theorem km_X1_1 : Cond.methodLink RX1 1 objectInit ∈ xtbl := xin_1 35 rfl rfl
theorem kl_X1_16 : Cond.classLink RX1 16 RX0 ∈ xtbl := xin_1 36 rfl rfl
theorem kb_X0 : Cond.instantiable RX0 2 ∈ xtbl := xin_1 37 rfl rfl
theorem ki_X0_init : Cond.instanceMethod yX0_init ∈ xtbl := xin_1 39 rfl rfl
theorem kc_X0_init : Cond.code yX0_init cX0_init 1 none ∈ xtbl := xin_1 40 rfl rfl
theorem km_X0_1 : Cond.methodLink RX0 1 objectInit ∈ xtbl := xin_1 41 rfl rfl
theorem kf_X0_7 : Cond.fieldLink RX0 7 "PathTracker$Complex" "re" "J" ∈ xtbl := xin_1 42 rfl rfl
theorem kf_X6_89 : Cond.fieldLink RX6 89 "PathTracker$Complex" "re" "J" ∈ xtbl := xin_1 43 rfl rfl
theorem kf_X0_13 : Cond.fieldLink RX0 13 "PathTracker$Complex" "im" "J" ∈ xtbl := xin_1 44 rfl rfl
theorem kf_X6_97 : Cond.fieldLink RX6 97 "PathTracker$Complex" "im" "J" ∈ xtbl := xin_1 45 rfl rfl
theorem ka_int : Cond.arrayClass .int ∈ xtbl := xin_1 51 rfl rfl
theorem kf_X1_9 : Cond.fieldLink RX1 9 "PathTracker$Equation" "re" "[I" ∈ xtbl := xin_1 52 rfl rfl
theorem kf_X1_13 : Cond.fieldLink RX1 13 "PathTracker$Equation" "im" "[I" ∈ xtbl := xin_1 53 rfl rfl
theorem kf_X1_19 : Cond.fieldLink RX1 19 "PathTracker$Equation" "product" "LPathTracker$Complex;" ∈ xtbl := xin_1 54 rfl rfl
theorem kf_X2_9 : Cond.fieldLink RX2 9 "PathTracker$EquationText" "signs" "[I" ∈ xtbl := xin_1 62 rfl rfl
theorem kf_X2_16 : Cond.fieldLink RX2 16 "PathTracker$EquationText" "equation" "LPathTracker$Equation;" ∈ xtbl := xin_1 63 rfl rfl
theorem kf_X2_20 : Cond.fieldLink RX2 20 "PathTracker$EquationText" "length" "I" ∈ xtbl := xin_1 64 rfl rfl
theorem kf_X2_24 : Cond.fieldLink RX2 24 "PathTracker$EquationText" "reading" "I" ∈ xtbl := xin_1 65 rfl rfl
theorem kl_X11_16 : Cond.classLink RX11 16 RX3 ∈ xtbl := xin_1 75 rfl rfl
theorem kb_X3 : Cond.instantiable RX3 8 ∈ xtbl := xin_1 76 rfl rfl
theorem km_X11_18 : Cond.methodLink RX11 18 yX3_init ∈ xtbl := xin_1 77 rfl rfl
theorem ki_X3_init : Cond.instanceMethod yX3_init ∈ xtbl := xin_1 78 rfl rfl
theorem kc_X3_init : Cond.code yX3_init cX3_init 1 none ∈ xtbl := xin_1 79 rfl rfl
theorem km_X3_1 : Cond.methodLink RX3 1 objectInit ∈ xtbl := xin_1 80 rfl rfl
theorem kl_X3_7 : Cond.classLink RX3 7 RX5 ∈ xtbl := xin_1 81 rfl rfl
theorem kb_X5 : Cond.instantiable RX5 8 ∈ xtbl := xin_1 82 rfl rfl
theorem km_X3_9 : Cond.methodLink RX3 9 yX5_init ∈ xtbl := xin_1 83 rfl rfl
theorem ki_X5_init : Cond.instanceMethod yX5_init ∈ xtbl := xin_1 84 rfl rfl
theorem kc_X5_init : Cond.code yX5_init cX5_init 2 none ∈ xtbl := xin_1 85 rfl rfl
theorem km_X5_1 : Cond.methodLink RX5 1 objectInit ∈ xtbl := xin_1 86 rfl rfl
theorem kl_X5_7 : Cond.classLink RX5 7 RX7 ∈ xtbl := xin_1 87 rfl rfl
theorem kb_X7 : Cond.instantiable RX7 1 ∈ xtbl := xin_1 88 rfl rfl
theorem km_X5_9 : Cond.methodLink RX5 9 yX7_init ∈ xtbl := xin_1 89 rfl rfl
theorem ki_X7_init : Cond.instanceMethod yX7_init ∈ xtbl := xin_1 90 rfl rfl
theorem kc_X7_init : Cond.code yX7_init cX7_init 2 none ∈ xtbl := xin_1 91 rfl rfl
theorem km_X7_1 : Cond.methodLink RX7 1 objectInit ∈ xtbl := xin_1 92 rfl rfl
theorem kl_X7_9 : Cond.classLink RX7 9 RX0 ∈ xtbl := xin_1 93 rfl rfl
theorem kf_X7_11 : Cond.fieldLink RX7 11 "PathTracker$Powers" "products" "[LPathTracker$Complex;" ∈ xtbl := xin_1 96 rfl rfl
theorem kl_X5_16 : Cond.classLink RX5 16 RX1 ∈ xtbl := xin_1 100 rfl rfl
theorem kl_X5_25 : Cond.classLink RX5 25 RX10 ∈ xtbl := xin_1 102 rfl rfl
theorem km_X5_37 : Cond.methodLink RX5 37 yX1_init ∈ xtbl := xin_1 104 rfl rfl
theorem kb_X10 : Cond.instantiable RX10 3 ∈ xtbl := xin_1 105 rfl rfl
theorem km_X5_38 : Cond.methodLink RX5 38 yX10_init ∈ xtbl := xin_1 106 rfl rfl
theorem ki_X10_init : Cond.instanceMethod yX10_init ∈ xtbl := xin_1 107 rfl rfl
theorem kc_X10_init : Cond.code yX10_init cX10_init 1 none ∈ xtbl := xin_1 108 rfl rfl
theorem km_X10_1 : Cond.methodLink RX10 1 objectInit ∈ xtbl := xin_1 109 rfl rfl
theorem kl_X10_7 : Cond.classLink RX10 7 RX0 ∈ xtbl := xin_1 110 rfl rfl
theorem kf_X10_10 : Cond.fieldLink RX10 10 "PathTracker$Tangent" "value" "LPathTracker$Complex;" ∈ xtbl := xin_1 112 rfl rfl
theorem kf_X3_110 : Cond.fieldLink RX3 110 "PathTracker$Tangent" "value" "LPathTracker$Complex;" ∈ xtbl := xin_1 113 rfl rfl
theorem kf_X1_68 : Cond.fieldLink RX1 68 "PathTracker$Tangent" "value" "LPathTracker$Complex;" ∈ xtbl := xin_1 114 rfl rfl
theorem kf_X10_16 : Cond.fieldLink RX10 16 "PathTracker$Tangent" "slopeX" "LPathTracker$Complex;" ∈ xtbl := xin_1 115 rfl rfl
theorem kf_X8_39 : Cond.fieldLink RX8 39 "PathTracker$Tangent" "slopeX" "LPathTracker$Complex;" ∈ xtbl := xin_1 116 rfl rfl
theorem kf_X1_75 : Cond.fieldLink RX1 75 "PathTracker$Tangent" "slopeX" "LPathTracker$Complex;" ∈ xtbl := xin_1 117 rfl rfl
theorem kf_X10_19 : Cond.fieldLink RX10 19 "PathTracker$Tangent" "slopeY" "LPathTracker$Complex;" ∈ xtbl := xin_1 118 rfl rfl
theorem kf_X8_44 : Cond.fieldLink RX8 44 "PathTracker$Tangent" "slopeY" "LPathTracker$Complex;" ∈ xtbl := xin_1 119 rfl rfl
theorem kf_X1_78 : Cond.fieldLink RX1 78 "PathTracker$Tangent" "slopeY" "LPathTracker$Complex;" ∈ xtbl := xin_1 120 rfl rfl
theorem kf_X5_10 : Cond.fieldLink RX5 10 "PathTracker$Homotopy" "powers" "LPathTracker$Powers;" ∈ xtbl := xin_1 128 rfl rfl
theorem kf_X5_18 : Cond.fieldLink RX5 18 "PathTracker$Homotopy" "wanted" "[LPathTracker$Equation;" ∈ xtbl := xin_1 129 rfl rfl
theorem kf_X5_22 : Cond.fieldLink RX5 22 "PathTracker$Homotopy" "starts" "[LPathTracker$Equation;" ∈ xtbl := xin_1 130 rfl rfl
theorem kf_X5_27 : Cond.fieldLink RX5 27 "PathTracker$Homotopy" "ends" "[LPathTracker$Tangent;" ∈ xtbl := xin_1 131 rfl rfl
theorem kf_X5_31 : Cond.fieldLink RX5 31 "PathTracker$Homotopy" "begins" "[LPathTracker$Tangent;" ∈ xtbl := xin_1 132 rfl rfl
theorem kf_X5_34 : Cond.fieldLink RX5 34 "PathTracker$Homotopy" "mixes" "[LPathTracker$Tangent;" ∈ xtbl := xin_1 133 rfl rfl
theorem kf_X5_61 : Cond.fieldLink RX5 61 "PathTracker$Homotopy" "gammaRe" "I" ∈ xtbl := xin_1 134 rfl rfl
theorem kf_X5_65 : Cond.fieldLink RX5 65 "PathTracker$Homotopy" "gammaIm" "I" ∈ xtbl := xin_1 135 rfl rfl
theorem kl_X3_16 : Cond.classLink RX3 16 RX8 ∈ xtbl := xin_1 153 rfl rfl
theorem kb_X8 : Cond.instantiable RX8 6 ∈ xtbl := xin_1 154 rfl rfl
theorem km_X3_18 : Cond.methodLink RX3 18 yX8_init ∈ xtbl := xin_1 155 rfl rfl
theorem ki_X8_init : Cond.instanceMethod yX8_init ∈ xtbl := xin_1 156 rfl rfl
theorem kc_X8_init : Cond.code yX8_init cX8_init 1 none ∈ xtbl := xin_1 157 rfl rfl
theorem km_X8_1 : Cond.methodLink RX8 1 objectInit ∈ xtbl := xin_1 158 rfl rfl
theorem kl_X8_7 : Cond.classLink RX8 7 RX0 ∈ xtbl := xin_1 159 rfl rfl
theorem kf_X8_10 : Cond.fieldLink RX8 10 "PathTracker$Solver" "right0" "LPathTracker$Complex;" ∈ xtbl := xin_1 161 rfl rfl
theorem kf_X3_103 : Cond.fieldLink RX3 103 "PathTracker$Solver" "right0" "LPathTracker$Complex;" ∈ xtbl := xin_1 162 rfl rfl
theorem kf_X8_16 : Cond.fieldLink RX8 16 "PathTracker$Solver" "right1" "LPathTracker$Complex;" ∈ xtbl := xin_1 163 rfl rfl
theorem kf_X3_128 : Cond.fieldLink RX3 128 "PathTracker$Solver" "right1" "LPathTracker$Complex;" ∈ xtbl := xin_1 164 rfl rfl
theorem kf_X8_19 : Cond.fieldLink RX8 19 "PathTracker$Solver" "u" "LPathTracker$Complex;" ∈ xtbl := xin_1 165 rfl rfl
theorem kf_X8_22 : Cond.fieldLink RX8 22 "PathTracker$Solver" "v" "LPathTracker$Complex;" ∈ xtbl := xin_1 166 rfl rfl
theorem kf_X8_25 : Cond.fieldLink RX8 25 "PathTracker$Solver" "determinant" "LPathTracker$Complex;" ∈ xtbl := xin_1 167 rfl rfl
theorem kf_X8_28 : Cond.fieldLink RX8 28 "PathTracker$Solver" "product" "LPathTracker$Complex;" ∈ xtbl := xin_1 168 rfl rfl
theorem kl_X3_23 : Cond.classLink RX3 23 RX0 ∈ xtbl := xin_1 182 rfl rfl
theorem kf_X3_10 : Cond.fieldLink RX3 10 "PathTracker$Follower" "homotopy" "LPathTracker$Homotopy;" ∈ xtbl := xin_1 184 rfl rfl
theorem kf_X3_19 : Cond.fieldLink RX3 19 "PathTracker$Follower" "solver" "LPathTracker$Solver;" ∈ xtbl := xin_1 185 rfl rfl
theorem kf_X3_26 : Cond.fieldLink RX3 26 "PathTracker$Follower" "x" "LPathTracker$Complex;" ∈ xtbl := xin_1 186 rfl rfl
theorem kf_X3_30 : Cond.fieldLink RX3 30 "PathTracker$Follower" "y" "LPathTracker$Complex;" ∈ xtbl := xin_1 187 rfl rfl
theorem kf_X3_43 : Cond.fieldLink RX3 43 "PathTracker$Follower" "firstStep" "I" ∈ xtbl := xin_1 188 rfl rfl
theorem kf_X3_47 : Cond.fieldLink RX3 47 "PathTracker$Follower" "rounds" "I" ∈ xtbl := xin_1 189 rfl rfl
theorem kf_X3_50 : Cond.fieldLink RX3 50 "PathTracker$Follower" "tolerance" "I" ∈ xtbl := xin_1 190 rfl rfl
theorem kf_X3_53 : Cond.fieldLink RX3 53 "PathTracker$Follower" "bound" "I" ∈ xtbl := xin_1 191 rfl rfl
theorem kl_X11_23 : Cond.classLink RX11 23 RX9 ∈ xtbl := xin_1 209 rfl rfl
theorem kb_X9 : Cond.instantiable RX9 5 ∈ xtbl := xin_1 210 rfl rfl
theorem km_X11_25 : Cond.methodLink RX11 25 yX9_init ∈ xtbl := xin_1 211 rfl rfl
theorem ki_X9_init : Cond.instanceMethod yX9_init ∈ xtbl := xin_1 212 rfl rfl
theorem kc_X9_init : Cond.code yX9_init cX9_init 2 none ∈ xtbl := xin_1 213 rfl rfl
theorem km_X9_1 : Cond.methodLink RX9 1 objectInit ∈ xtbl := xin_1 214 rfl rfl
theorem kl_X9_7 : Cond.classLink RX9 7 RX1 ∈ xtbl := xin_1 215 rfl rfl
theorem km_X9_9 : Cond.methodLink RX9 9 yX1_init ∈ xtbl := xin_1 216 rfl rfl
theorem kl_X9_23 : Cond.classLink RX9 23 RX6 ∈ xtbl := xin_1 217 rfl rfl
theorem kb_X6 : Cond.instantiable RX6 10 ∈ xtbl := xin_1 219 rfl rfl
theorem km_X9_29 : Cond.methodLink RX9 29 yX6_init ∈ xtbl := xin_1 220 rfl rfl
theorem ki_X6_init : Cond.instanceMethod yX6_init ∈ xtbl := xin_1 221 rfl rfl
theorem kc_X6_init : Cond.code yX6_init cX6_init 1 none ∈ xtbl := xin_1 222 rfl rfl
theorem km_X6_1 : Cond.methodLink RX6 1 objectInit ∈ xtbl := xin_1 223 rfl rfl
theorem kl_X6_7 : Cond.classLink RX6 7 RX0 ∈ xtbl := xin_1 224 rfl rfl
theorem kf_X6_10 : Cond.fieldLink RX6 10 "PathTracker$Path" "x" "LPathTracker$Complex;" ∈ xtbl := xin_1 226 rfl rfl
theorem kf_X3_73 : Cond.fieldLink RX3 73 "PathTracker$Path" "x" "LPathTracker$Complex;" ∈ xtbl := xin_1 227 rfl rfl
theorem kf_X6_16 : Cond.fieldLink RX6 16 "PathTracker$Path" "y" "LPathTracker$Complex;" ∈ xtbl := xin_1 228 rfl rfl
theorem kf_X3_78 : Cond.fieldLink RX3 78 "PathTracker$Path" "y" "LPathTracker$Complex;" ∈ xtbl := xin_1 229 rfl rfl
theorem kf_X6_19 : Cond.fieldLink RX6 19 "PathTracker$Path" "status" "I" ∈ xtbl := xin_1 230 rfl rfl
theorem kf_X3_56 : Cond.fieldLink RX3 56 "PathTracker$Path" "status" "I" ∈ xtbl := xin_1 231 rfl rfl
theorem kf_X11_105 : Cond.fieldLink RX11 105 "PathTracker$Path" "status" "I" ∈ xtbl := xin_1 232 rfl rfl
theorem kf_X9_92 : Cond.fieldLink RX9 92 "PathTracker$Path" "status" "I" ∈ xtbl := xin_1 233 rfl rfl
theorem kf_X6_23 : Cond.fieldLink RX6 23 "PathTracker$Path" "place" "I" ∈ xtbl := xin_1 234 rfl rfl
theorem kf_X3_64 : Cond.fieldLink RX3 64 "PathTracker$Path" "place" "I" ∈ xtbl := xin_1 235 rfl rfl
theorem kf_X11_137 : Cond.fieldLink RX11 137 "PathTracker$Path" "place" "I" ∈ xtbl := xin_1 236 rfl rfl
theorem kf_X9_109 : Cond.fieldLink RX9 109 "PathTracker$Path" "place" "I" ∈ xtbl := xin_1 237 rfl rfl
theorem kf_X6_35 : Cond.fieldLink RX6 35 "PathTracker$Path" "step" "I" ∈ xtbl := xin_1 238 rfl rfl
theorem kf_X3_61 : Cond.fieldLink RX3 61 "PathTracker$Path" "step" "I" ∈ xtbl := xin_1 239 rfl rfl
theorem kf_X11_149 : Cond.fieldLink RX11 149 "PathTracker$Path" "step" "I" ∈ xtbl := xin_2 0 rfl rfl
theorem kf_X9_112 : Cond.fieldLink RX9 112 "PathTracker$Path" "step" "I" ∈ xtbl := xin_2 1 rfl rfl
theorem kf_X6_26 : Cond.fieldLink RX6 26 "PathTracker$Path" "greatestStep" "I" ∈ xtbl := xin_2 2 rfl rfl
theorem kf_X11_125 : Cond.fieldLink RX11 125 "PathTracker$Path" "greatestStep" "I" ∈ xtbl := xin_2 3 rfl rfl
theorem kf_X6_38 : Cond.fieldLink RX6 38 "PathTracker$Path" "precision" "I" ∈ xtbl := xin_2 4 rfl rfl
theorem kf_X11_146 : Cond.fieldLink RX11 146 "PathTracker$Path" "precision" "I" ∈ xtbl := xin_2 5 rfl rfl
theorem kf_X6_41 : Cond.fieldLink RX6 41 "PathTracker$Path" "goodTries" "I" ∈ xtbl := xin_2 6 rfl rfl
theorem kf_X11_140 : Cond.fieldLink RX11 140 "PathTracker$Path" "goodTries" "I" ∈ xtbl := xin_2 7 rfl rfl
theorem kf_X6_44 : Cond.fieldLink RX6 44 "PathTracker$Path" "failedTries" "I" ∈ xtbl := xin_2 8 rfl rfl
theorem kf_X11_143 : Cond.fieldLink RX11 143 "PathTracker$Path" "failedTries" "I" ∈ xtbl := xin_2 9 rfl rfl
theorem kf_X6_47 : Cond.fieldLink RX6 47 "PathTracker$Path" "row" "I" ∈ xtbl := xin_2 10 rfl rfl
theorem kf_X9_10 : Cond.fieldLink RX9 10 "PathTracker$State" "equation0" "LPathTracker$Equation;" ∈ xtbl := xin_2 32 rfl rfl
theorem kf_X9_16 : Cond.fieldLink RX9 16 "PathTracker$State" "equation1" "LPathTracker$Equation;" ∈ xtbl := xin_2 33 rfl rfl
theorem kf_X9_19 : Cond.fieldLink RX9 19 "PathTracker$State" "settings" "[I" ∈ xtbl := xin_2 34 rfl rfl
theorem kf_X9_25 : Cond.fieldLink RX9 25 "PathTracker$State" "paths" "[LPathTracker$Path;" ∈ xtbl := xin_2 35 rfl rfl
theorem kf_X9_47 : Cond.fieldLink RX9 47 "PathTracker$State" "used" "I" ∈ xtbl := xin_2 36 rfl rfl
theorem km_X11_30 : Cond.methodLink RX11 30 yX9_putFirstState ∈ xtbl := xin_2 48 rfl rfl
theorem ki_X9_putFirstState : Cond.instanceMethod yX9_putFirstState ∈ xtbl := xin_2 49 rfl rfl
theorem ks_X9_putFirstState : Cond.selects RX9 yX9_putFirstState yX9_putFirstState ∈ xtbl := xin_2 50 rfl rfl
theorem kc_X9_putFirstState : Cond.code yX9_putFirstState cX9_putFirstState 2 none ∈ xtbl := xin_2 51 rfl rfl
theorem km_X9_30 : Cond.methodLink RX9 30 yX1_clear ∈ xtbl := xin_2 52 rfl rfl
theorem ki_X1_clear : Cond.instanceMethod yX1_clear ∈ xtbl := xin_2 53 rfl rfl
theorem ks_X1_clear : Cond.selects RX1 yX1_clear yX1_clear ∈ xtbl := xin_2 54 rfl rfl
theorem kc_X1_clear : Cond.code yX1_clear cX1_clear 2 none ∈ xtbl := xin_2 55 rfl rfl
theorem km_X9_33 : Cond.methodLink RX9 33 yX1_addTerm ∈ xtbl := xin_2 56 rfl rfl
theorem ki_X1_addTerm : Cond.instanceMethod yX1_addTerm ∈ xtbl := xin_2 57 rfl rfl
theorem ks_X1_addTerm : Cond.selects RX1 yX1_addTerm yX1_addTerm ∈ xtbl := xin_2 58 rfl rfl
theorem kc_X1_addTerm : Cond.code yX1_addTerm cX1_addTerm 6 none ∈ xtbl := xin_2 59 rfl rfl
theorem km_X1_35 : Cond.methodLink RX1 35 yX1_termOf ∈ xtbl := xin_2 60 rfl rfl
theorem kt_X1_termOf : Cond.static yX1_termOf ∈ xtbl := xin_2 61 rfl rfl
theorem kc_X1_termOf : Cond.code yX1_termOf cX1_termOf 3 (some .int) ∈ xtbl := xin_2 62 rfl rfl
theorem kf_X1_23 : Cond.fieldLink RX1 23 "PathTracker$Equation" "FIRST_TERM" "[I" ∈ xtbl := xin_2 63 rfl rfl
theorem km_X1_38 : Cond.methodLink RX1 38 yX1_heldCoefficient ∈ xtbl := xin_2 65 rfl rfl
theorem kt_X1_heldCoefficient : Cond.static yX1_heldCoefficient ∈ xtbl := xin_2 66 rfl rfl
theorem kc_X1_heldCoefficient : Cond.code yX1_heldCoefficient cX1_heldCoefficient 1 (some .int) ∈ xtbl := xin_2 67 rfl rfl
theorem km_X1_26 : Cond.methodLink RX1 26 yJ9_min_7cf53 ∈ xtbl := xin_2 68 rfl rfl
theorem kt_J9_min_7cf53 : Cond.static yJ9_min_7cf53 ∈ xtbl := xin_2 69 rfl rfl
theorem kc_J9_min_7cf53 : Cond.code yJ9_min_7cf53 cJ9_min_7cf53 2 (some .int) ∈ xtbl := xin_2 70 rfl rfl
theorem km_X1_32 : Cond.methodLink RX1 32 yJ9_max_7cf53 ∈ xtbl := xin_2 71 rfl rfl
theorem kt_J9_max_7cf53 : Cond.static yJ9_max_7cf53 ∈ xtbl := xin_2 72 rfl rfl
theorem kc_J9_max_7cf53 : Cond.code yJ9_max_7cf53 cJ9_max_7cf53 2 (some .int) ∈ xtbl := xin_2 73 rfl rfl
theorem kf_X9_37 : Cond.fieldLink RX9 37 "PathTracker$State" "FIRST_VALUE" "[I" ∈ xtbl := xin_2 74 rfl rfl
theorem km_X9_40 : Cond.methodLink RX9 40 yX9_beginPaths ∈ xtbl := xin_2 76 rfl rfl
theorem ki_X9_beginPaths : Cond.instanceMethod yX9_beginPaths ∈ xtbl := xin_2 78 rfl rfl
theorem kc_X9_beginPaths : Cond.code yX9_beginPaths cX9_beginPaths 2 none ∈ xtbl := xin_2 79 rfl rfl
theorem km_X9_64 : Cond.methodLink RX9 64 yX1_degree ∈ xtbl := xin_2 80 rfl rfl
theorem ki_X1_degree : Cond.instanceMethod yX1_degree ∈ xtbl := xin_2 81 rfl rfl
theorem ks_X1_degree : Cond.selects RX1 yX1_degree yX1_degree ∈ xtbl := xin_2 82 rfl rfl
theorem kc_X1_degree : Cond.code yX1_degree cX1_degree 3 (some .int) ∈ xtbl := xin_2 83 rfl rfl
theorem kf_X1_49 : Cond.fieldLink RX1 49 "PathTracker$Equation" "POWER_OF_X" "[I" ∈ xtbl := xin_2 84 rfl rfl
theorem kf_X1_52 : Cond.fieldLink RX1 52 "PathTracker$Equation" "POWER_OF_Y" "[I" ∈ xtbl := xin_2 86 rfl rfl
theorem km_X9_68 : Cond.methodLink RX9 68 yJ9_min_7cf53 ∈ xtbl := xin_2 88 rfl rfl
theorem km_X9_74 : Cond.methodLink RX9 74 yX9_beginPath ∈ xtbl := xin_2 89 rfl rfl
theorem ki_X9_beginPath : Cond.instanceMethod yX9_beginPath ∈ xtbl := xin_2 90 rfl rfl
theorem ks_X9_beginPath : Cond.selects RX9 yX9_beginPath yX9_beginPath ∈ xtbl := xin_2 91 rfl rfl
theorem kc_X9_beginPath : Cond.code yX9_beginPath cX9_beginPath 5 none ∈ xtbl := xin_2 92 rfl rfl
theorem km_X9_78 : Cond.methodLink RX9 78 yX9_hasPath ∈ xtbl := xin_2 93 rfl rfl
theorem ki_X9_hasPath : Cond.instanceMethod yX9_hasPath ∈ xtbl := xin_2 94 rfl rfl
theorem ks_X9_hasPath : Cond.selects RX9 yX9_hasPath yX9_hasPath ∈ xtbl := xin_2 95 rfl rfl
theorem kc_X9_hasPath : Cond.code yX9_hasPath cX9_hasPath 2 (some .boolean) ∈ xtbl := xin_2 96 rfl rfl
theorem km_X9_82 : Cond.methodLink RX9 82 yX6_begin ∈ xtbl := xin_2 97 rfl rfl
theorem ki_X6_begin : Cond.instanceMethod yX6_begin ∈ xtbl := xin_2 98 rfl rfl
theorem ks_X6_begin : Cond.selects RX6 yX6_begin yX6_begin ∈ xtbl := xin_2 99 rfl rfl
theorem kc_X6_begin : Cond.code yX6_begin cX6_begin 3 none ∈ xtbl := xin_2 100 rfl rfl
theorem km_X6_29 : Cond.methodLink RX6 29 yJ9_min_7cf53 ∈ xtbl := xin_2 101 rfl rfl
theorem km_X9_85 : Cond.methodLink RX9 85 yX6_putOnRoots ∈ xtbl := xin_2 102 rfl rfl
theorem ki_X6_putOnRoots : Cond.instanceMethod yX6_putOnRoots ∈ xtbl := xin_2 103 rfl rfl
theorem ks_X6_putOnRoots : Cond.selects RX6 yX6_putOnRoots yX6_putOnRoots ∈ xtbl := xin_2 104 rfl rfl
theorem kc_X6_putOnRoots : Cond.code yX6_putOnRoots cX6_putOnRoots 5 none ∈ xtbl := xin_2 105 rfl rfl
theorem km_X6_50 : Cond.methodLink RX6 50 yX6_unit ∈ xtbl := xin_2 106 rfl rfl
theorem ki_X6_unit : Cond.instanceMethod yX6_unit ∈ xtbl := xin_2 107 rfl rfl
theorem ks_X6_unit : Cond.selects RX6 yX6_unit yX6_unit ∈ xtbl := xin_2 108 rfl rfl
theorem kc_X6_unit : Cond.code yX6_unit cX6_unit 1 (some .long) ∈ xtbl := xin_2 109 rfl rfl
theorem kk_X6_72 : Cond.constantLong RX6 72 262144 ∈ xtbl := xin_2 110 rfl rfl
theorem kk_X6_74 : Cond.constantLong RX6 74 1024 ∈ xtbl := xin_2 111 rfl rfl
theorem km_X6_54 : Cond.methodLink RX6 54 yX6_putRootOfOne ∈ xtbl := xin_2 112 rfl rfl
theorem kt_X6_putRootOfOne : Cond.static yX6_putRootOfOne ∈ xtbl := xin_2 113 rfl rfl
theorem kc_X6_putRootOfOne : Cond.code yX6_putRootOfOne cX6_putRootOfOne 7 none ∈ xtbl := xin_2 114 rfl rfl
theorem km_X6_58 : Cond.methodLink RX6 58 yX0_put ∈ xtbl := xin_2 115 rfl rfl
theorem ki_X0_put : Cond.instanceMethod yX0_put ∈ xtbl := xin_2 116 rfl rfl
theorem ks_X0_put : Cond.selects RX0 yX0_put yX0_put ∈ xtbl := xin_2 117 rfl rfl
theorem kc_X0_put : Cond.code yX0_put cX0_put 5 none ∈ xtbl := xin_2 118 rfl rfl
theorem kk_X0_16 : Cond.constantLong RX0 16 (-1073741824) ∈ xtbl := xin_2 119 rfl rfl
theorem kk_X0_18 : Cond.constantLong RX0 18 1073741824 ∈ xtbl := xin_2 120 rfl rfl
theorem kk_X6_62 : Cond.constantLong RX6 62 866025404 ∈ xtbl := xin_2 121 rfl rfl
theorem kk_X6_64 : Cond.constantLong RX6 64 1000000000 ∈ xtbl := xin_2 122 rfl rfl
theorem kk_X6_66 : Cond.constantLong RX6 66 2 ∈ xtbl := xin_2 123 rfl rfl
theorem kl_X11_33 : Cond.classLink RX11 33 RX4 ∈ xtbl := xin_2 124 rfl rfl
theorem kb_X4 : Cond.instantiable RX4 3 ∈ xtbl := xin_2 125 rfl rfl
theorem km_X11_35 : Cond.methodLink RX11 35 yX4_init ∈ xtbl := xin_2 126 rfl rfl
theorem ki_X4_init : Cond.instanceMethod yX4_init ∈ xtbl := xin_2 127 rfl rfl
theorem kc_X4_init : Cond.code yX4_init cX4_init 2 none ∈ xtbl := xin_2 128 rfl rfl
theorem km_X4_1 : Cond.methodLink RX4 1 objectInit ∈ xtbl := xin_2 129 rfl rfl
theorem kl_X4_9 : Cond.classLink RX4 9 RX9 ∈ xtbl := xin_2 130 rfl rfl
theorem km_X4_15 : Cond.methodLink RX4 15 yX9_init ∈ xtbl := xin_2 132 rfl rfl
theorem kf_X4_11 : Cond.fieldLink RX4 11 "PathTracker$History" "ring" "[LPathTracker$State;" ∈ xtbl := xin_2 133 rfl rfl
theorem kf_X4_20 : Cond.fieldLink RX4 20 "PathTracker$History" "first" "I" ∈ xtbl := xin_2 134 rfl rfl
theorem kf_X4_16 : Cond.fieldLink RX4 16 "PathTracker$History" "size" "I" ∈ xtbl := xin_2 135 rfl rfl
theorem kf_X11_10 : Cond.fieldLink RX11 10 "PathTracker" "text" "LPathTracker$EquationText;" ∈ xtbl := xin_2 143 rfl rfl
theorem kf_X11_19 : Cond.fieldLink RX11 19 "PathTracker" "follower" "LPathTracker$Follower;" ∈ xtbl := xin_2 144 rfl rfl
theorem kf_X11_26 : Cond.fieldLink RX11 26 "PathTracker" "present" "LPathTracker$State;" ∈ xtbl := xin_2 145 rfl rfl
theorem kf_X11_36 : Cond.fieldLink RX11 36 "PathTracker" "history" "LPathTracker$History;" ∈ xtbl := xin_2 146 rfl rfl
theorem kf_X11_40 : Cond.fieldLink RX11 40 "PathTracker" "slots" "[LPathTracker$State;" ∈ xtbl := xin_2 147 rfl rfl
theorem kf_X11_44 : Cond.fieldLink RX11 44 "PathTracker" "slotFilled" "[Z" ∈ xtbl := xin_2 148 rfl rfl
theorem ka_boolean : Cond.arrayClass .boolean ∈ xtbl := xin_2 162 rfl rfl
theorem km_L_13 : Cond.methodLink RL 13 yX11_type ∈ xtbl := xin_2 163 rfl rfl
theorem ki_X11_type : Cond.instanceMethod yX11_type ∈ xtbl := xin_2 164 rfl rfl
theorem ks_X11_type : Cond.selects RX11 yX11_type yX11_type ∈ xtbl := xin_2 165 rfl rfl
theorem kc_X11_type : Cond.code yX11_type cX11_type 2 (some .int) ∈ xtbl := xin_2 166 rfl rfl
theorem kk_X11_48 : Cond.constant RX11 48 (-2000000001) ∈ xtbl := xin_2 167 rfl rfl
theorem km_X11_49 : Cond.methodLink RX11 49 yX2_append ∈ xtbl := xin_2 168 rfl rfl
theorem ki_X2_append : Cond.instanceMethod yX2_append ∈ xtbl := xin_2 169 rfl rfl
theorem ks_X2_append : Cond.selects RX2 yX2_append yX2_append ∈ xtbl := xin_2 170 rfl rfl
theorem kc_X2_append : Cond.code yX2_append cX2_append 2 (some .boolean) ∈ xtbl := xin_2 171 rfl rfl
theorem km_X11_53 : Cond.methodLink RX11 53 yX2_length ∈ xtbl := xin_2 172 rfl rfl
theorem ki_X2_length : Cond.instanceMethod yX2_length ∈ xtbl := xin_2 173 rfl rfl
theorem ks_X2_length : Cond.selects RX2 yX2_length yX2_length ∈ xtbl := xin_2 174 rfl rfl
theorem kc_X2_length : Cond.code yX2_length cX2_length 1 (some .int) ∈ xtbl := xin_2 175 rfl rfl
theorem kk_X11_57 : Cond.constant RX11 57 (-2000000003) ∈ xtbl := xin_2 176 rfl rfl
theorem km_L_18 : Cond.methodLink RL 18 yX11_wipe ∈ xtbl := xin_2 177 rfl rfl
theorem ki_X11_wipe : Cond.instanceMethod yX11_wipe ∈ xtbl := xin_2 178 rfl rfl
theorem ks_X11_wipe : Cond.selects RX11 yX11_wipe yX11_wipe ∈ xtbl := xin_2 179 rfl rfl
theorem kc_X11_wipe : Cond.code yX11_wipe cX11_wipe 2 (some .int) ∈ xtbl := xin_2 180 rfl rfl
theorem km_X11_58 : Cond.methodLink RX11 58 yX2_empty ∈ xtbl := xin_2 181 rfl rfl
theorem ki_X2_empty : Cond.instanceMethod yX2_empty ∈ xtbl := xin_2 182 rfl rfl
theorem ks_X2_empty : Cond.selects RX2 yX2_empty yX2_empty ∈ xtbl := xin_2 183 rfl rfl
theorem kc_X2_empty : Cond.code yX2_empty cX2_empty 1 none ∈ xtbl := xin_2 184 rfl rfl
theorem km_L_23 : Cond.methodLink RL 23 yX11_fault ∈ xtbl := xin_2 185 rfl rfl
theorem ki_X11_fault : Cond.instanceMethod yX11_fault ∈ xtbl := xin_2 186 rfl rfl
theorem ks_X11_fault : Cond.selects RX11 yX11_fault yX11_fault ∈ xtbl := xin_2 187 rfl rfl
theorem kc_X11_fault : Cond.code yX11_fault cX11_fault 1 (some .int) ∈ xtbl := xin_2 188 rfl rfl
theorem km_X11_61 : Cond.methodLink RX11 61 yX2_read ∈ xtbl := xin_2 189 rfl rfl
theorem ki_X2_read : Cond.instanceMethod yX2_read ∈ xtbl := xin_2 190 rfl rfl
theorem ks_X2_read : Cond.selects RX2 yX2_read yX2_read ∈ xtbl := xin_2 191 rfl rfl
theorem kc_X2_read : Cond.code yX2_read cX2_read 4 (some .boolean) ∈ xtbl := xin_2 192 rfl rfl
theorem km_X2_27 : Cond.methodLink RX2 27 yX1_clear ∈ xtbl := xin_2 193 rfl rfl
theorem km_X2_30 : Cond.methodLink RX2 30 yX2_signHere ∈ xtbl := xin_2 194 rfl rfl
theorem ki_X2_signHere : Cond.instanceMethod yX2_signHere ∈ xtbl := xin_2 196 rfl rfl
theorem kc_X2_signHere : Cond.code yX2_signHere cX2_signHere 2 (some .int) ∈ xtbl := xin_2 197 rfl rfl
theorem km_X2_34 : Cond.methodLink RX2 34 yX2_readTerm ∈ xtbl := xin_2 198 rfl rfl
theorem ki_X2_readTerm : Cond.instanceMethod yX2_readTerm ∈ xtbl := xin_2 200 rfl rfl
theorem kc_X2_readTerm : Cond.code yX2_readTerm cX2_readTerm 10 (some .boolean) ∈ xtbl := xin_2 201 rfl rfl
theorem km_X2_38 : Cond.methodLink RX2 38 yX2_isDigit ∈ xtbl := xin_2 202 rfl rfl
theorem kt_X2_isDigit : Cond.static yX2_isDigit ∈ xtbl := xin_2 203 rfl rfl
theorem kc_X2_isDigit : Cond.code yX2_isDigit cX2_isDigit 1 (some .boolean) ∈ xtbl := xin_2 204 rfl rfl
theorem km_X2_42 : Cond.methodLink RX2 42 yX2_readNumber ∈ xtbl := xin_2 205 rfl rfl
theorem ki_X2_readNumber : Cond.instanceMethod yX2_readNumber ∈ xtbl := xin_2 207 rfl rfl
theorem kc_X2_readNumber : Cond.code yX2_readNumber cX2_readNumber 3 (some .int) ∈ xtbl := xin_2 208 rfl rfl
theorem km_X2_45 : Cond.methodLink RX2 45 yX2_isUnknown ∈ xtbl := xin_2 209 rfl rfl
theorem kt_X2_isUnknown : Cond.static yX2_isUnknown ∈ xtbl := xin_2 210 rfl rfl
theorem kc_X2_isUnknown : Cond.code yX2_isUnknown cX2_isUnknown 1 (some .boolean) ∈ xtbl := xin_2 211 rfl rfl
theorem km_X2_48 : Cond.methodLink RX2 48 yX2_readFactor ∈ xtbl := xin_2 212 rfl rfl
theorem ki_X2_readFactor : Cond.instanceMethod yX2_readFactor ∈ xtbl := xin_2 214 rfl rfl
theorem kc_X2_readFactor : Cond.code yX2_readFactor cX2_readFactor 3 (some .int) ∈ xtbl := xin_2 215 rfl rfl
theorem km_X2_52 : Cond.methodLink RX2 52 yX1_addTerm ∈ xtbl := xin_2 216 rfl rfl
theorem kk_X11_65 : Cond.constant RX11 65 (-2000000004) ∈ xtbl := xin_2 217 rfl rfl
theorem km_X11_66 : Cond.methodLink RX11 66 yX2_readingPlace ∈ xtbl := xin_2 218 rfl rfl
theorem ki_X2_readingPlace : Cond.instanceMethod yX2_readingPlace ∈ xtbl := xin_2 219 rfl rfl
theorem ks_X2_readingPlace : Cond.selects RX2 yX2_readingPlace yX2_readingPlace ∈ xtbl := xin_2 220 rfl rfl
theorem kc_X2_readingPlace : Cond.code yX2_readingPlace cX2_readingPlace 1 (some .int) ∈ xtbl := xin_2 221 rfl rfl
theorem km_L_27 : Cond.methodLink RL 27 yX11_equation ∈ xtbl := xin_2 222 rfl rfl
theorem ki_X11_equation : Cond.instanceMethod yX11_equation ∈ xtbl := xin_2 223 rfl rfl
theorem ks_X11_equation : Cond.selects RX11 yX11_equation yX11_equation ∈ xtbl := xin_2 224 rfl rfl
theorem kc_X11_equation : Cond.code yX11_equation cX11_equation 3 (some .int) ∈ xtbl := xin_2 225 rfl rfl
theorem kk_X11_69 : Cond.constant RX11 69 (-2000000002) ∈ xtbl := xin_2 226 rfl rfl
theorem km_X11_70 : Cond.methodLink RX11 70 yX2_readEquation ∈ xtbl := xin_2 227 rfl rfl
theorem ki_X2_readEquation : Cond.instanceMethod yX2_readEquation ∈ xtbl := xin_2 228 rfl rfl
theorem ks_X2_readEquation : Cond.selects RX2 yX2_readEquation yX2_readEquation ∈ xtbl := xin_2 229 rfl rfl
theorem kc_X2_readEquation : Cond.code yX2_readEquation cX2_readEquation 1 (some (.object "PathTracker$Equation")) ∈ xtbl := xin_2 230 rfl rfl
theorem km_X11_74 : Cond.methodLink RX11 74 yX1_degree ∈ xtbl := xin_2 231 rfl rfl
theorem km_X11_79 : Cond.methodLink RX11 79 yX4_record ∈ xtbl := xin_2 232 rfl rfl
theorem ki_X4_record : Cond.instanceMethod yX4_record ∈ xtbl := xin_2 233 rfl rfl
theorem ks_X4_record : Cond.selects RX4 yX4_record yX4_record ∈ xtbl := xin_2 234 rfl rfl
theorem kc_X4_record : Cond.code yX4_record cX4_record 2 none ∈ xtbl := xin_2 235 rfl rfl
theorem km_X4_23 : Cond.methodLink RX4 23 yJ9_floorMod_7cf53 ∈ xtbl := xin_2 236 rfl rfl
theorem kt_J9_floorMod_7cf53 : Cond.static yJ9_floorMod_7cf53 ∈ xtbl := xin_2 237 rfl rfl
theorem kc_J9_floorMod_7cf53 : Cond.code yJ9_floorMod_7cf53 cJ9_floorMod_7cf53 3 (some .int) ∈ xtbl := xin_2 238 rfl rfl
theorem km_X4_29 : Cond.methodLink RX4 29 yX9_copy ∈ xtbl := xin_2 239 rfl rfl
theorem ki_X9_copy : Cond.instanceMethod yX9_copy ∈ xtbl := xin_3 0 rfl rfl
theorem ks_X9_copy : Cond.selects RX9 yX9_copy yX9_copy ∈ xtbl := xin_3 1 rfl rfl
theorem kc_X9_copy : Cond.code yX9_copy cX9_copy 3 none ∈ xtbl := xin_3 2 rfl rfl
theorem km_X9_43 : Cond.methodLink RX9 43 yX1_copy ∈ xtbl := xin_3 3 rfl rfl
theorem ki_X1_copy : Cond.instanceMethod yX1_copy ∈ xtbl := xin_3 4 rfl rfl
theorem ks_X1_copy : Cond.selects RX1 yX1_copy yX1_copy ∈ xtbl := xin_3 5 rfl rfl
theorem kc_X1_copy : Cond.code yX1_copy cX1_copy 3 none ∈ xtbl := xin_3 6 rfl rfl
theorem km_X9_51 : Cond.methodLink RX9 51 yX6_copy ∈ xtbl := xin_3 7 rfl rfl
theorem ki_X6_copy : Cond.instanceMethod yX6_copy ∈ xtbl := xin_3 8 rfl rfl
theorem ks_X6_copy : Cond.selects RX6 yX6_copy yX6_copy ∈ xtbl := xin_3 9 rfl rfl
theorem kc_X6_copy : Cond.code yX6_copy cX6_copy 2 none ∈ xtbl := xin_3 10 rfl rfl
theorem km_X6_68 : Cond.methodLink RX6 68 yX0_copy ∈ xtbl := xin_3 11 rfl rfl
theorem ki_X0_copy : Cond.instanceMethod yX0_copy ∈ xtbl := xin_3 12 rfl rfl
theorem ks_X0_copy : Cond.selects RX0 yX0_copy yX0_copy ∈ xtbl := xin_3 13 rfl rfl
theorem kc_X0_copy : Cond.code yX0_copy cX0_copy 2 none ∈ xtbl := xin_3 14 rfl rfl
theorem km_X11_83 : Cond.methodLink RX11 83 yX9_putEquation ∈ xtbl := xin_3 15 rfl rfl
theorem ki_X9_putEquation : Cond.instanceMethod yX9_putEquation ∈ xtbl := xin_3 16 rfl rfl
theorem ks_X9_putEquation : Cond.selects RX9 yX9_putEquation yX9_putEquation ∈ xtbl := xin_3 17 rfl rfl
theorem kc_X9_putEquation : Cond.code yX9_putEquation cX9_putEquation 3 none ∈ xtbl := xin_3 18 rfl rfl
theorem km_X9_54 : Cond.methodLink RX9 54 yX9_equationAt ∈ xtbl := xin_3 19 rfl rfl
theorem ki_X9_equationAt : Cond.instanceMethod yX9_equationAt ∈ xtbl := xin_3 20 rfl rfl
theorem ks_X9_equationAt : Cond.selects RX9 yX9_equationAt yX9_equationAt ∈ xtbl := xin_3 21 rfl rfl
theorem kc_X9_equationAt : Cond.code yX9_equationAt cX9_equationAt 2 (some (.object "PathTracker$Equation")) ∈ xtbl := xin_3 22 rfl rfl
theorem km_L_31 : Cond.methodLink RL 31 yX11_coefficient ∈ xtbl := xin_3 23 rfl rfl
theorem ki_X11_coefficient : Cond.instanceMethod yX11_coefficient ∈ xtbl := xin_3 24 rfl rfl
theorem ks_X11_coefficient : Cond.selects RX11 yX11_coefficient yX11_coefficient ∈ xtbl := xin_3 25 rfl rfl
theorem kc_X11_coefficient : Cond.code yX11_coefficient cX11_coefficient 6 (some .int) ∈ xtbl := xin_3 26 rfl rfl
theorem km_X11_87 : Cond.methodLink RX11 87 yX9_equationAt ∈ xtbl := xin_3 27 rfl rfl
theorem km_X11_91 : Cond.methodLink RX11 91 yX1_realPart ∈ xtbl := xin_3 28 rfl rfl
theorem ki_X1_realPart : Cond.instanceMethod yX1_realPart ∈ xtbl := xin_3 29 rfl rfl
theorem ks_X1_realPart : Cond.selects RX1 yX1_realPart yX1_realPart ∈ xtbl := xin_3 30 rfl rfl
theorem kc_X1_realPart : Cond.code yX1_realPart cX1_realPart 3 (some .int) ∈ xtbl := xin_3 31 rfl rfl
theorem km_X11_95 : Cond.methodLink RX11 95 yX1_imaginaryPart ∈ xtbl := xin_3 32 rfl rfl
theorem ki_X1_imaginaryPart : Cond.instanceMethod yX1_imaginaryPart ∈ xtbl := xin_3 33 rfl rfl
theorem ks_X1_imaginaryPart : Cond.selects RX1 yX1_imaginaryPart yX1_imaginaryPart ∈ xtbl := xin_3 34 rfl rfl
theorem kc_X1_imaginaryPart : Cond.code yX1_imaginaryPart cX1_imaginaryPart 3 (some .int) ∈ xtbl := xin_3 35 rfl rfl
theorem km_L_36 : Cond.methodLink RL 36 yX11_track ∈ xtbl := xin_3 36 rfl rfl
theorem ki_X11_track : Cond.instanceMethod yX11_track ∈ xtbl := xin_3 37 rfl rfl
theorem ks_X11_track : Cond.selects RX11 yX11_track yX11_track ∈ xtbl := xin_3 38 rfl rfl
theorem kc_X11_track : Cond.code yX11_track cX11_track 4 (some .int) ∈ xtbl := xin_3 39 rfl rfl
theorem km_X11_98 : Cond.methodLink RX11 98 yX9_hasPath ∈ xtbl := xin_3 40 rfl rfl
theorem km_X11_101 : Cond.methodLink RX11 101 yX9_pathAt ∈ xtbl := xin_3 41 rfl rfl
theorem ki_X9_pathAt : Cond.instanceMethod yX9_pathAt ∈ xtbl := xin_3 42 rfl rfl
theorem ks_X9_pathAt : Cond.selects RX9 yX9_pathAt yX9_pathAt ∈ xtbl := xin_3 43 rfl rfl
theorem kc_X9_pathAt : Cond.code yX9_pathAt cX9_pathAt 2 (some (.object "PathTracker$Path")) ∈ xtbl := xin_3 44 rfl rfl
theorem km_X11_111 : Cond.methodLink RX11 111 yX3_aim ∈ xtbl := xin_3 45 rfl rfl
theorem ki_X3_aim : Cond.instanceMethod yX3_aim ∈ xtbl := xin_3 46 rfl rfl
theorem ks_X3_aim : Cond.selects RX3 yX3_aim yX3_aim ∈ xtbl := xin_3 47 rfl rfl
theorem kc_X3_aim : Cond.code yX3_aim cX3_aim 2 none ∈ xtbl := xin_3 48 rfl rfl
theorem km_X3_33 : Cond.methodLink RX3 33 yX5_aim ∈ xtbl := xin_3 49 rfl rfl
theorem ki_X5_aim : Cond.instanceMethod yX5_aim ∈ xtbl := xin_3 50 rfl rfl
theorem ks_X5_aim : Cond.selects RX5 yX5_aim yX5_aim ∈ xtbl := xin_3 51 rfl rfl
theorem kc_X5_aim : Cond.code yX5_aim cX5_aim 3 none ∈ xtbl := xin_3 52 rfl rfl
theorem km_X5_39 : Cond.methodLink RX5 39 yX9_equationAt ∈ xtbl := xin_3 53 rfl rfl
theorem km_X5_45 : Cond.methodLink RX5 45 yX1_copy ∈ xtbl := xin_3 54 rfl rfl
theorem km_X5_49 : Cond.methodLink RX5 49 yX1_degree ∈ xtbl := xin_3 55 rfl rfl
theorem km_X5_53 : Cond.methodLink RX5 53 yX1_putStart ∈ xtbl := xin_3 56 rfl rfl
theorem ki_X1_putStart : Cond.instanceMethod yX1_putStart ∈ xtbl := xin_3 57 rfl rfl
theorem ks_X1_putStart : Cond.selects RX1 yX1_putStart yX1_putStart ∈ xtbl := xin_3 58 rfl rfl
theorem kc_X1_putStart : Cond.code yX1_putStart cX1_putStart 3 none ∈ xtbl := xin_3 59 rfl rfl
theorem km_X1_42 : Cond.methodLink RX1 42 yX1_clear ∈ xtbl := xin_3 60 rfl rfl
theorem km_X1_45 : Cond.methodLink RX1 45 yX1_addTerm ∈ xtbl := xin_3 61 rfl rfl
theorem km_X5_57 : Cond.methodLink RX5 57 yX9_setting ∈ xtbl := xin_3 62 rfl rfl
theorem ki_X9_setting : Cond.instanceMethod yX9_setting ∈ xtbl := xin_3 63 rfl rfl
theorem ks_X9_setting : Cond.selects RX9 yX9_setting yX9_setting ∈ xtbl := xin_3 64 rfl rfl
theorem kc_X9_setting : Cond.code yX9_setting cX9_setting 2 (some .int) ∈ xtbl := xin_3 65 rfl rfl
theorem km_X3_39 : Cond.methodLink RX3 39 yX9_setting ∈ xtbl := xin_3 66 rfl rfl
theorem km_X11_114 : Cond.methodLink RX11 114 yX3_follow ∈ xtbl := xin_3 67 rfl rfl
theorem ki_X3_follow : Cond.instanceMethod yX3_follow ∈ xtbl := xin_3 68 rfl rfl
theorem ks_X3_follow : Cond.selects RX3 yX3_follow yX3_follow ∈ xtbl := xin_3 69 rfl rfl
theorem kc_X3_follow : Cond.code yX3_follow cX3_follow 5 (some .int) ∈ xtbl := xin_3 70 rfl rfl
theorem km_X3_67 : Cond.methodLink RX3 67 yJ9_min_7cf53 ∈ xtbl := xin_3 71 rfl rfl
theorem km_X3_74 : Cond.methodLink RX3 74 yX0_copy ∈ xtbl := xin_3 72 rfl rfl
theorem km_X3_79 : Cond.methodLink RX3 79 yX6_unit ∈ xtbl := xin_3 73 rfl rfl
theorem km_X3_83 : Cond.methodLink RX3 83 yX3_predict ∈ xtbl := xin_3 74 rfl rfl
theorem ki_X3_predict : Cond.instanceMethod yX3_predict ∈ xtbl := xin_3 76 rfl rfl
theorem kc_X3_predict : Cond.code yX3_predict cX3_predict 5 (some .boolean) ∈ xtbl := xin_3 77 rfl rfl
theorem km_X3_99 : Cond.methodLink RX3 99 yX5_evaluate ∈ xtbl := xin_3 78 rfl rfl
theorem ki_X5_evaluate : Cond.instanceMethod yX5_evaluate ∈ xtbl := xin_3 79 rfl rfl
theorem ks_X5_evaluate : Cond.selects RX5 yX5_evaluate yX5_evaluate ∈ xtbl := xin_3 80 rfl rfl
theorem kc_X5_evaluate : Cond.code yX5_evaluate cX5_evaluate 7 none ∈ xtbl := xin_3 81 rfl rfl
theorem km_X5_68 : Cond.methodLink RX5 68 yX7_fill ∈ xtbl := xin_3 82 rfl rfl
theorem ki_X7_fill : Cond.instanceMethod yX7_fill ∈ xtbl := xin_3 83 rfl rfl
theorem ks_X7_fill : Cond.selects RX7 yX7_fill yX7_fill ∈ xtbl := xin_3 84 rfl rfl
theorem kc_X7_fill : Cond.code yX7_fill cX7_fill 5 none ∈ xtbl := xin_3 85 rfl rfl
theorem km_X7_18 : Cond.methodLink RX7 18 yX0_put ∈ xtbl := xin_3 86 rfl rfl
theorem km_X7_22 : Cond.methodLink RX7 22 yX0_copy ∈ xtbl := xin_3 87 rfl rfl
theorem km_X7_26 : Cond.methodLink RX7 26 yX0_putProduct ∈ xtbl := xin_3 88 rfl rfl
theorem ki_X0_putProduct : Cond.instanceMethod yX0_putProduct ∈ xtbl := xin_3 89 rfl rfl
theorem ks_X0_putProduct : Cond.selects RX0 yX0_putProduct yX0_putProduct ∈ xtbl := xin_3 90 rfl rfl
theorem kc_X0_putProduct : Cond.code yX0_putProduct cX0_putProduct 5 none ∈ xtbl := xin_3 91 rfl rfl
theorem km_X0_20 : Cond.methodLink RX0 20 yX0_put ∈ xtbl := xin_3 92 rfl rfl
theorem km_X5_72 : Cond.methodLink RX5 72 yX1_evaluate ∈ xtbl := xin_3 93 rfl rfl
theorem ki_X1_evaluate : Cond.instanceMethod yX1_evaluate ∈ xtbl := xin_3 94 rfl rfl
theorem ks_X1_evaluate : Cond.selects RX1 yX1_evaluate yX1_evaluate ∈ xtbl := xin_3 95 rfl rfl
theorem kc_X1_evaluate : Cond.code yX1_evaluate cX1_evaluate 6 none ∈ xtbl := xin_3 96 rfl rfl
theorem km_X1_55 : Cond.methodLink RX1 55 yX10_clear ∈ xtbl := xin_3 97 rfl rfl
theorem ki_X10_clear : Cond.instanceMethod yX10_clear ∈ xtbl := xin_3 98 rfl rfl
theorem ks_X10_clear : Cond.selects RX10 yX10_clear yX10_clear ∈ xtbl := xin_3 99 rfl rfl
theorem kc_X10_clear : Cond.code yX10_clear cX10_clear 1 none ∈ xtbl := xin_3 100 rfl rfl
theorem km_X10_22 : Cond.methodLink RX10 22 yX0_put ∈ xtbl := xin_3 101 rfl rfl
theorem km_X1_58 : Cond.methodLink RX1 58 yX7_at ∈ xtbl := xin_3 102 rfl rfl
theorem ki_X7_at : Cond.instanceMethod yX7_at ∈ xtbl := xin_3 103 rfl rfl
theorem ks_X7_at : Cond.selects RX7 yX7_at yX7_at ∈ xtbl := xin_3 104 rfl rfl
theorem kc_X7_at : Cond.code yX7_at cX7_at 2 (some (.object "PathTracker$Complex")) ∈ xtbl := xin_3 105 rfl rfl
theorem km_X1_64 : Cond.methodLink RX1 64 yX0_putTimesGaussian ∈ xtbl := xin_3 106 rfl rfl
theorem ki_X0_putTimesGaussian : Cond.instanceMethod yX0_putTimesGaussian ∈ xtbl := xin_3 107 rfl rfl
theorem ks_X0_putTimesGaussian : Cond.selects RX0 yX0_putTimesGaussian yX0_putTimesGaussian ∈ xtbl := xin_3 108 rfl rfl
theorem kc_X0_putTimesGaussian : Cond.code yX0_putTimesGaussian cX0_putTimesGaussian 6 none ∈ xtbl := xin_3 109 rfl rfl
theorem km_X1_71 : Cond.methodLink RX1 71 yX0_add ∈ xtbl := xin_3 110 rfl rfl
theorem ki_X0_add : Cond.instanceMethod yX0_add ∈ xtbl := xin_3 111 rfl rfl
theorem ks_X0_add : Cond.selects RX0 yX0_add yX0_add ∈ xtbl := xin_3 112 rfl rfl
theorem kc_X0_add : Cond.code yX0_add cX0_add 2 none ∈ xtbl := xin_3 113 rfl rfl
theorem km_X5_76 : Cond.methodLink RX5 76 yX10_timesGaussian ∈ xtbl := xin_3 114 rfl rfl
theorem ki_X10_timesGaussian : Cond.instanceMethod yX10_timesGaussian ∈ xtbl := xin_3 115 rfl rfl
theorem ks_X10_timesGaussian : Cond.selects RX10 yX10_timesGaussian yX10_timesGaussian ∈ xtbl := xin_3 116 rfl rfl
theorem kc_X10_timesGaussian : Cond.code yX10_timesGaussian cX10_timesGaussian 5 none ∈ xtbl := xin_3 117 rfl rfl
theorem km_X10_26 : Cond.methodLink RX10 26 yX0_putTimesGaussian ∈ xtbl := xin_3 118 rfl rfl
theorem km_X5_82 : Cond.methodLink RX5 82 yX10_putMix ∈ xtbl := xin_3 119 rfl rfl
theorem ki_X10_putMix : Cond.instanceMethod yX10_putMix ∈ xtbl := xin_3 120 rfl rfl
theorem ks_X10_putMix : Cond.selects RX10 yX10_putMix yX10_putMix ∈ xtbl := xin_3 121 rfl rfl
theorem kc_X10_putMix : Cond.code yX10_putMix cX10_putMix 7 none ∈ xtbl := xin_3 122 rfl rfl
theorem km_X10_30 : Cond.methodLink RX10 30 yX0_putMix ∈ xtbl := xin_3 123 rfl rfl
theorem ki_X0_putMix : Cond.instanceMethod yX0_putMix ∈ xtbl := xin_3 124 rfl rfl
theorem ks_X0_putMix : Cond.selects RX0 yX0_putMix yX0_putMix ∈ xtbl := xin_3 125 rfl rfl
theorem kc_X0_putMix : Cond.code yX0_putMix cX0_putMix 9 none ∈ xtbl := xin_3 126 rfl rfl
theorem km_X3_106 : Cond.methodLink RX3 106 yX5_begin ∈ xtbl := xin_3 127 rfl rfl
theorem ki_X5_begin : Cond.instanceMethod yX5_begin ∈ xtbl := xin_3 128 rfl rfl
theorem ks_X5_begin : Cond.selects RX5 yX5_begin yX5_begin ∈ xtbl := xin_3 129 rfl rfl
theorem kc_X5_begin : Cond.code yX5_begin cX5_begin 2 (some (.object "PathTracker$Tangent")) ∈ xtbl := xin_3 130 rfl rfl
theorem km_X3_115 : Cond.methodLink RX3 115 yX5_end ∈ xtbl := xin_3 131 rfl rfl
theorem ki_X5_end : Cond.instanceMethod yX5_end ∈ xtbl := xin_3 132 rfl rfl
theorem ks_X5_end : Cond.selects RX5 yX5_end yX5_end ∈ xtbl := xin_3 133 rfl rfl
theorem kc_X5_end : Cond.code yX5_end cX5_end 2 (some (.object "PathTracker$Tangent")) ∈ xtbl := xin_3 134 rfl rfl
theorem km_X3_118 : Cond.methodLink RX3 118 yX0_putDifference ∈ xtbl := xin_3 135 rfl rfl
theorem ki_X0_putDifference : Cond.instanceMethod yX0_putDifference ∈ xtbl := xin_3 136 rfl rfl
theorem ks_X0_putDifference : Cond.selects RX0 yX0_putDifference yX0_putDifference ∈ xtbl := xin_3 137 rfl rfl
theorem kc_X0_putDifference : Cond.code yX0_putDifference cX0_putDifference 3 none ∈ xtbl := xin_3 138 rfl rfl
theorem kk_X3_122 : Cond.constantLong RX3 122 1024 ∈ xtbl := xin_3 139 rfl rfl
theorem km_X3_124 : Cond.methodLink RX3 124 yX0_takeShare ∈ xtbl := xin_3 140 rfl rfl
theorem ki_X0_takeShare : Cond.instanceMethod yX0_takeShare ∈ xtbl := xin_3 141 rfl rfl
theorem ks_X0_takeShare : Cond.selects RX0 yX0_takeShare yX0_takeShare ∈ xtbl := xin_3 142 rfl rfl
theorem kc_X0_takeShare : Cond.code yX0_takeShare cX0_takeShare 5 none ∈ xtbl := xin_3 143 rfl rfl
theorem km_X3_131 : Cond.methodLink RX3 131 yX5_mix ∈ xtbl := xin_3 144 rfl rfl
theorem ki_X5_mix : Cond.instanceMethod yX5_mix ∈ xtbl := xin_3 145 rfl rfl
theorem ks_X5_mix : Cond.selects RX5 yX5_mix yX5_mix ∈ xtbl := xin_3 146 rfl rfl
theorem kc_X5_mix : Cond.code yX5_mix cX5_mix 2 (some (.object "PathTracker$Tangent")) ∈ xtbl := xin_3 147 rfl rfl
theorem km_X3_134 : Cond.methodLink RX3 134 yX8_moveBySolution ∈ xtbl := xin_3 148 rfl rfl
theorem ki_X8_moveBySolution : Cond.instanceMethod yX8_moveBySolution ∈ xtbl := xin_3 149 rfl rfl
theorem ks_X8_moveBySolution : Cond.selects RX8 yX8_moveBySolution yX8_moveBySolution ∈ xtbl := xin_3 150 rfl rfl
theorem kc_X8_moveBySolution : Cond.code yX8_moveBySolution cX8_moveBySolution 7 (some .boolean) ∈ xtbl := xin_3 151 rfl rfl
theorem km_X8_47 : Cond.methodLink RX8 47 yX8_cross ∈ xtbl := xin_3 152 rfl rfl
theorem ki_X8_cross : Cond.instanceMethod yX8_cross ∈ xtbl := xin_3 154 rfl rfl
theorem kc_X8_cross : Cond.code yX8_cross cX8_cross 8 none ∈ xtbl := xin_3 155 rfl rfl
theorem km_X8_31 : Cond.methodLink RX8 31 yX0_putProduct ∈ xtbl := xin_3 156 rfl rfl
theorem km_X8_35 : Cond.methodLink RX8 35 yX0_putDifference ∈ xtbl := xin_3 157 rfl rfl
theorem km_X8_51 : Cond.methodLink RX8 51 yX0_divideBy ∈ xtbl := xin_3 158 rfl rfl
theorem ki_X0_divideBy : Cond.instanceMethod yX0_divideBy ∈ xtbl := xin_3 159 rfl rfl
theorem ks_X0_divideBy : Cond.selects RX0 yX0_divideBy yX0_divideBy ∈ xtbl := xin_3 160 rfl rfl
theorem kc_X0_divideBy : Cond.code yX0_divideBy cX0_divideBy 6 (some .boolean) ∈ xtbl := xin_3 161 rfl rfl
theorem km_X8_55 : Cond.methodLink RX8 55 yX0_add ∈ xtbl := xin_3 162 rfl rfl
theorem km_X3_87 : Cond.methodLink RX3 87 yX3_correct ∈ xtbl := xin_3 163 rfl rfl
theorem ki_X3_correct : Cond.instanceMethod yX3_correct ∈ xtbl := xin_3 165 rfl rfl
theorem kc_X3_correct : Cond.code yX3_correct cX3_correct 9 (some .boolean) ∈ xtbl := xin_3 166 rfl rfl
theorem km_X3_138 : Cond.methodLink RX3 138 yX0_putNegative ∈ xtbl := xin_3 167 rfl rfl
theorem ki_X0_putNegative : Cond.instanceMethod yX0_putNegative ∈ xtbl := xin_3 168 rfl rfl
theorem ks_X0_putNegative : Cond.selects RX0 yX0_putNegative yX0_putNegative ∈ xtbl := xin_3 169 rfl rfl
theorem kc_X0_putNegative : Cond.code yX0_putNegative cX0_putNegative 2 none ∈ xtbl := xin_3 170 rfl rfl
theorem km_X3_141 : Cond.methodLink RX3 141 yX8_solutionSize ∈ xtbl := xin_3 171 rfl rfl
theorem ki_X8_solutionSize : Cond.instanceMethod yX8_solutionSize ∈ xtbl := xin_3 172 rfl rfl
theorem ks_X8_solutionSize : Cond.selects RX8 yX8_solutionSize yX8_solutionSize ∈ xtbl := xin_3 173 rfl rfl
theorem kc_X8_solutionSize : Cond.code yX8_solutionSize cX8_solutionSize 1 (some .long) ∈ xtbl := xin_3 174 rfl rfl
theorem km_X8_59 : Cond.methodLink RX8 59 yX0_size ∈ xtbl := xin_3 175 rfl rfl
theorem ki_X0_size : Cond.instanceMethod yX0_size ∈ xtbl := xin_3 176 rfl rfl
theorem ks_X0_size : Cond.selects RX0 yX0_size yX0_size ∈ xtbl := xin_3 177 rfl rfl
theorem kc_X0_size : Cond.code yX0_size cX0_size 1 (some .long) ∈ xtbl := xin_3 178 rfl rfl
theorem km_X0_24 : Cond.methodLink RX0 24 yJ9_abs_067f4 ∈ xtbl := xin_3 179 rfl rfl
theorem kt_J9_abs_067f4 : Cond.static yJ9_abs_067f4 ∈ xtbl := xin_3 180 rfl rfl
theorem kc_J9_abs_067f4 : Cond.code yJ9_abs_067f4 cJ9_abs_067f4 2 (some .long) ∈ xtbl := xin_3 181 rfl rfl
theorem km_X0_30 : Cond.methodLink RX0 30 yJ9_max_f86c9 ∈ xtbl := xin_3 182 rfl rfl
theorem kt_J9_max_f86c9 : Cond.static yJ9_max_f86c9 ∈ xtbl := xin_3 183 rfl rfl
theorem kc_J9_max_f86c9 : Cond.code yJ9_max_f86c9 cJ9_max_f86c9 4 (some .long) ∈ xtbl := xin_3 184 rfl rfl
theorem km_X8_63 : Cond.methodLink RX8 63 yJ9_max_f86c9 ∈ xtbl := xin_3 185 rfl rfl
theorem kk_X3_144 : Cond.constantLong RX3 144 2 ∈ xtbl := xin_3 186 rfl rfl
theorem km_X3_91 : Cond.methodLink RX3 91 yX6_moveOn ∈ xtbl := xin_3 187 rfl rfl
theorem ki_X6_moveOn : Cond.instanceMethod yX6_moveOn ∈ xtbl := xin_3 188 rfl rfl
theorem ks_X6_moveOn : Cond.selects RX6 yX6_moveOn yX6_moveOn ∈ xtbl := xin_3 189 rfl rfl
theorem kc_X6_moveOn : Cond.code yX6_moveOn cX6_moveOn 5 none ∈ xtbl := xin_3 190 rfl rfl
theorem km_X6_76 : Cond.methodLink RX6 76 yX0_size ∈ xtbl := xin_3 191 rfl rfl
theorem km_X6_79 : Cond.methodLink RX6 79 yJ9_max_f86c9 ∈ xtbl := xin_3 192 rfl rfl
theorem km_X3_95 : Cond.methodLink RX3 95 yX6_shorten ∈ xtbl := xin_3 193 rfl rfl
theorem ki_X6_shorten : Cond.instanceMethod yX6_shorten ∈ xtbl := xin_3 194 rfl rfl
theorem ks_X6_shorten : Cond.selects RX6 yX6_shorten yX6_shorten ∈ xtbl := xin_3 195 rfl rfl
theorem kc_X6_shorten : Cond.code yX6_shorten cX6_shorten 2 none ∈ xtbl := xin_3 196 rfl rfl
theorem kk_X6_83 : Cond.constantLong RX6 83 256 ∈ xtbl := xin_3 197 rfl rfl
theorem km_X6_85 : Cond.methodLink RX6 85 yX0_scale ∈ xtbl := xin_3 198 rfl rfl
theorem ki_X0_scale : Cond.instanceMethod yX0_scale ∈ xtbl := xin_3 199 rfl rfl
theorem ks_X0_scale : Cond.selects RX0 yX0_scale yX0_scale ∈ xtbl := xin_3 200 rfl rfl
theorem kc_X0_scale : Cond.code yX0_scale cX0_scale 3 none ∈ xtbl := xin_3 201 rfl rfl
theorem km_L_41 : Cond.methodLink RL 41 yX11_trackAll ∈ xtbl := xin_3 202 rfl rfl
theorem ki_X11_trackAll : Cond.instanceMethod yX11_trackAll ∈ xtbl := xin_3 203 rfl rfl
theorem ks_X11_trackAll : Cond.selects RX11 yX11_trackAll yX11_trackAll ∈ xtbl := xin_3 204 rfl rfl
theorem kc_X11_trackAll : Cond.code yX11_trackAll cX11_trackAll 4 (some .int) ∈ xtbl := xin_3 205 rfl rfl
theorem km_X11_118 : Cond.methodLink RX11 118 yX9_pathCount ∈ xtbl := xin_3 206 rfl rfl
theorem ki_X9_pathCount : Cond.instanceMethod yX9_pathCount ∈ xtbl := xin_3 207 rfl rfl
theorem ks_X9_pathCount : Cond.selects RX9 yX9_pathCount yX9_pathCount ∈ xtbl := xin_3 208 rfl rfl
theorem kc_X9_pathCount : Cond.code yX9_pathCount cX9_pathCount 1 (some .int) ∈ xtbl := xin_3 209 rfl rfl
theorem km_X11_121 : Cond.methodLink RX11 121 yX9_pathsOfStatus ∈ xtbl := xin_3 210 rfl rfl
theorem ki_X9_pathsOfStatus : Cond.instanceMethod yX9_pathsOfStatus ∈ xtbl := xin_3 211 rfl rfl
theorem ks_X9_pathsOfStatus : Cond.selects RX9 yX9_pathsOfStatus yX9_pathsOfStatus ∈ xtbl := xin_3 212 rfl rfl
theorem kc_X9_pathsOfStatus : Cond.code yX9_pathsOfStatus cX9_pathsOfStatus 4 (some .int) ∈ xtbl := xin_3 213 rfl rfl
theorem km_X9_88 : Cond.methodLink RX9 88 yX9_pathAt ∈ xtbl := xin_3 214 rfl rfl
theorem km_L_45 : Cond.methodLink RL 45 yX11_again ∈ xtbl := xin_3 215 rfl rfl
theorem ki_X11_again : Cond.instanceMethod yX11_again ∈ xtbl := xin_3 216 rfl rfl
theorem ks_X11_again : Cond.selects RX11 yX11_again yX11_again ∈ xtbl := xin_3 217 rfl rfl
theorem kc_X11_again : Cond.code yX11_again cX11_again 3 (some .int) ∈ xtbl := xin_3 218 rfl rfl
theorem km_X11_128 : Cond.methodLink RX11 128 yJ9_max_7cf53 ∈ xtbl := xin_3 219 rfl rfl
theorem km_X11_133 : Cond.methodLink RX11 133 yX9_beginPath ∈ xtbl := xin_3 220 rfl rfl
theorem km_L_49 : Cond.methodLink RL 49 yX11_path ∈ xtbl := xin_3 221 rfl rfl
theorem ki_X11_path : Cond.instanceMethod yX11_path ∈ xtbl := xin_3 222 rfl rfl
theorem ks_X11_path : Cond.selects RX11 yX11_path yX11_path ∈ xtbl := xin_3 223 rfl rfl
theorem kc_X11_path : Cond.code yX11_path cX11_path 4 (some .int) ∈ xtbl := xin_3 224 rfl rfl
theorem km_X11_152 : Cond.methodLink RX11 152 yX3_residue ∈ xtbl := xin_3 225 rfl rfl
theorem ki_X3_residue : Cond.instanceMethod yX3_residue ∈ xtbl := xin_3 226 rfl rfl
theorem ks_X3_residue : Cond.selects RX3 yX3_residue yX3_residue ∈ xtbl := xin_3 227 rfl rfl
theorem kc_X3_residue : Cond.code yX3_residue cX3_residue 4 (some .int) ∈ xtbl := xin_3 228 rfl rfl
theorem km_X3_146 : Cond.methodLink RX3 146 yX0_size ∈ xtbl := xin_3 229 rfl rfl
theorem km_X3_149 : Cond.methodLink RX3 149 yJ9_max_f86c9 ∈ xtbl := xin_3 230 rfl rfl
theorem km_X3_153 : Cond.methodLink RX3 153 yX0_thousandths ∈ xtbl := xin_3 231 rfl rfl
theorem kt_X0_thousandths : Cond.static yX0_thousandths ∈ xtbl := xin_3 232 rfl rfl
theorem kc_X0_thousandths : Cond.code yX0_thousandths cX0_thousandths 4 (some .int) ∈ xtbl := xin_3 233 rfl rfl
theorem kk_X0_34 : Cond.constantLong RX0 34 1000 ∈ xtbl := xin_3 234 rfl rfl
theorem km_X11_156 : Cond.methodLink RX11 156 yX6_part ∈ xtbl := xin_3 235 rfl rfl
theorem ki_X6_part : Cond.instanceMethod yX6_part ∈ xtbl := xin_3 236 rfl rfl
theorem ks_X6_part : Cond.selects RX6 yX6_part yX6_part ∈ xtbl := xin_3 237 rfl rfl
theorem kc_X6_part : Cond.code yX6_part cX6_part 2 (some .int) ∈ xtbl := xin_3 238 rfl rfl
theorem km_X6_93 : Cond.methodLink RX6 93 yX0_thousandths ∈ xtbl := xin_3 239 rfl rfl
theorem km_L_53 : Cond.methodLink RL 53 yX11_meets ∈ xtbl := xin_4 0 rfl rfl
theorem ki_X11_meets : Cond.instanceMethod yX11_meets ∈ xtbl := xin_4 1 rfl rfl
theorem ks_X11_meets : Cond.selects RX11 yX11_meets yX11_meets ∈ xtbl := xin_4 2 rfl rfl
theorem kc_X11_meets : Cond.code yX11_meets cX11_meets 3 (some .int) ∈ xtbl := xin_4 3 rfl rfl
theorem km_X11_159 : Cond.methodLink RX11 159 yX9_firstMetBelow ∈ xtbl := xin_4 4 rfl rfl
theorem ki_X9_firstMetBelow : Cond.instanceMethod yX9_firstMetBelow ∈ xtbl := xin_4 5 rfl rfl
theorem ks_X9_firstMetBelow : Cond.selects RX9 yX9_firstMetBelow yX9_firstMetBelow ∈ xtbl := xin_4 6 rfl rfl
theorem kc_X9_firstMetBelow : Cond.code yX9_firstMetBelow cX9_firstMetBelow 5 (some .int) ∈ xtbl := xin_4 7 rfl rfl
theorem km_X9_95 : Cond.methodLink RX9 95 yX6_isNear ∈ xtbl := xin_4 8 rfl rfl
theorem ki_X6_isNear : Cond.instanceMethod yX6_isNear ∈ xtbl := xin_4 9 rfl rfl
theorem ks_X6_isNear : Cond.selects RX6 yX6_isNear yX6_isNear ∈ xtbl := xin_4 10 rfl rfl
theorem kc_X6_isNear : Cond.code yX6_isNear cX6_isNear 6 (some .boolean) ∈ xtbl := xin_4 11 rfl rfl
theorem km_X6_100 : Cond.methodLink RX6 100 yX6_part ∈ xtbl := xin_4 12 rfl rfl
theorem km_X6_104 : Cond.methodLink RX6 104 yJ9_abs_067f4 ∈ xtbl := xin_4 13 rfl rfl
theorem km_L_57 : Cond.methodLink RL 57 yX11_next ∈ xtbl := xin_4 14 rfl rfl
theorem ki_X11_next : Cond.instanceMethod yX11_next ∈ xtbl := xin_4 15 rfl rfl
theorem ks_X11_next : Cond.selects RX11 yX11_next yX11_next ∈ xtbl := xin_4 16 rfl rfl
theorem kc_X11_next : Cond.code yX11_next cX11_next 2 (some .int) ∈ xtbl := xin_4 17 rfl rfl
theorem km_X11_162 : Cond.methodLink RX11 162 yX9_mostBehind ∈ xtbl := xin_4 18 rfl rfl
theorem ki_X9_mostBehind : Cond.instanceMethod yX9_mostBehind ∈ xtbl := xin_4 19 rfl rfl
theorem ks_X9_mostBehind : Cond.selects RX9 yX9_mostBehind yX9_mostBehind ∈ xtbl := xin_4 20 rfl rfl
theorem kc_X9_mostBehind : Cond.code yX9_mostBehind cX9_mostBehind 4 (some .int) ∈ xtbl := xin_4 21 rfl rfl
theorem km_X9_105 : Cond.methodLink RX9 105 yX9_isBehind ∈ xtbl := xin_4 22 rfl rfl
theorem kt_X9_isBehind : Cond.static yX9_isBehind ∈ xtbl := xin_4 23 rfl rfl
theorem kc_X9_isBehind : Cond.code yX9_isBehind cX9_isBehind 2 (some .boolean) ∈ xtbl := xin_4 24 rfl rfl
theorem km_L_61 : Cond.methodLink RL 61 yX11_endAt ∈ xtbl := xin_4 25 rfl rfl
theorem ki_X11_endAt : Cond.instanceMethod yX11_endAt ∈ xtbl := xin_4 26 rfl rfl
theorem ks_X11_endAt : Cond.selects RX11 yX11_endAt yX11_endAt ∈ xtbl := xin_4 27 rfl rfl
theorem kc_X11_endAt : Cond.code yX11_endAt cX11_endAt 3 (some .int) ∈ xtbl := xin_4 28 rfl rfl
theorem km_X11_165 : Cond.methodLink RX11 165 yX9_endOfRank ∈ xtbl := xin_4 29 rfl rfl
theorem ki_X9_endOfRank : Cond.instanceMethod yX9_endOfRank ∈ xtbl := xin_4 30 rfl rfl
theorem ks_X9_endOfRank : Cond.selects RX9 yX9_endOfRank yX9_endOfRank ∈ xtbl := xin_4 31 rfl rfl
theorem kc_X9_endOfRank : Cond.code yX9_endOfRank cX9_endOfRank 3 (some .int) ∈ xtbl := xin_4 32 rfl rfl
theorem km_X9_115 : Cond.methodLink RX9 115 yX9_endsBefore ∈ xtbl := xin_4 33 rfl rfl
theorem ki_X9_endsBefore : Cond.instanceMethod yX9_endsBefore ∈ xtbl := xin_4 35 rfl rfl
theorem kc_X9_endsBefore : Cond.code yX9_endsBefore cX9_endsBefore 5 (some .int) ∈ xtbl := xin_4 36 rfl rfl
theorem km_X9_119 : Cond.methodLink RX9 119 yX6_compareParts ∈ xtbl := xin_4 37 rfl rfl
theorem ki_X6_compareParts : Cond.instanceMethod yX6_compareParts ∈ xtbl := xin_4 38 rfl rfl
theorem ks_X6_compareParts : Cond.selects RX6 yX6_compareParts yX6_compareParts ∈ xtbl := xin_4 39 rfl rfl
theorem kc_X6_compareParts : Cond.code yX6_compareParts cX6_compareParts 4 (some .int) ∈ xtbl := xin_4 40 rfl rfl
theorem km_X6_110 : Cond.methodLink RX6 110 yJ6_compare_7cf53 ∈ xtbl := xin_4 41 rfl rfl
theorem kt_J6_compare_7cf53 : Cond.static yJ6_compare_7cf53 ∈ xtbl := xin_4 42 rfl rfl
theorem kc_J6_compare_7cf53 : Cond.code yJ6_compare_7cf53 cJ6_compare_7cf53 2 (some .int) ∈ xtbl := xin_4 43 rfl rfl
theorem km_L_65 : Cond.methodLink RL 65 yX11_set ∈ xtbl := xin_4 44 rfl rfl
theorem ki_X11_set : Cond.instanceMethod yX11_set ∈ xtbl := xin_4 45 rfl rfl
theorem ks_X11_set : Cond.selects RX11 yX11_set yX11_set ∈ xtbl := xin_4 46 rfl rfl
theorem kc_X11_set : Cond.code yX11_set cX11_set 4 (some .int) ∈ xtbl := xin_4 47 rfl rfl
theorem km_X11_168 : Cond.methodLink RX11 168 yX9_inRange ∈ xtbl := xin_4 48 rfl rfl
theorem kt_X9_inRange : Cond.static yX9_inRange ∈ xtbl := xin_4 49 rfl rfl
theorem kc_X9_inRange : Cond.code yX9_inRange cX9_inRange 3 (some .boolean) ∈ xtbl := xin_4 50 rfl rfl
theorem kf_X9_58 : Cond.fieldLink RX9 58 "PathTracker$State" "LEAST_VALUE" "[I" ∈ xtbl := xin_4 51 rfl rfl
theorem kf_X9_61 : Cond.fieldLink RX9 61 "PathTracker$State" "GREATEST_VALUE" "[I" ∈ xtbl := xin_4 53 rfl rfl
theorem km_X11_172 : Cond.methodLink RX11 172 yX9_isOtherGammaPartZero ∈ xtbl := xin_4 55 rfl rfl
theorem ki_X9_isOtherGammaPartZero : Cond.instanceMethod yX9_isOtherGammaPartZero ∈ xtbl := xin_4 56 rfl rfl
theorem ks_X9_isOtherGammaPartZero : Cond.selects RX9 yX9_isOtherGammaPartZero yX9_isOtherGammaPartZero ∈ xtbl := xin_4 57 rfl rfl
theorem kc_X9_isOtherGammaPartZero : Cond.code yX9_isOtherGammaPartZero cX9_isOtherGammaPartZero 2 (some .boolean) ∈ xtbl := xin_4 58 rfl rfl
theorem km_X11_175 : Cond.methodLink RX11 175 yX9_setting ∈ xtbl := xin_4 59 rfl rfl
theorem km_X11_178 : Cond.methodLink RX11 178 yX9_putSetting ∈ xtbl := xin_4 60 rfl rfl
theorem ki_X9_putSetting : Cond.instanceMethod yX9_putSetting ∈ xtbl := xin_4 61 rfl rfl
theorem ks_X9_putSetting : Cond.selects RX9 yX9_putSetting yX9_putSetting ∈ xtbl := xin_4 62 rfl rfl
theorem kc_X9_putSetting : Cond.code yX9_putSetting cX9_putSetting 3 none ∈ xtbl := xin_4 63 rfl rfl
theorem km_L_69 : Cond.methodLink RL 69 yX11_count ∈ xtbl := xin_4 64 rfl rfl
theorem ki_X11_count : Cond.instanceMethod yX11_count ∈ xtbl := xin_4 65 rfl rfl
theorem ks_X11_count : Cond.selects RX11 yX11_count yX11_count ∈ xtbl := xin_4 66 rfl rfl
theorem kc_X11_count : Cond.code yX11_count cX11_count 2 (some .int) ∈ xtbl := xin_4 67 rfl rfl
theorem km_X11_181 : Cond.methodLink RX11 181 yX9_distinctEnds ∈ xtbl := xin_4 68 rfl rfl
theorem ki_X9_distinctEnds : Cond.instanceMethod yX9_distinctEnds ∈ xtbl := xin_4 69 rfl rfl
theorem ks_X9_distinctEnds : Cond.selects RX9 yX9_distinctEnds yX9_distinctEnds ∈ xtbl := xin_4 70 rfl rfl
theorem kc_X9_distinctEnds : Cond.code yX9_distinctEnds cX9_distinctEnds 3 (some .int) ∈ xtbl := xin_4 71 rfl rfl
theorem km_X9_99 : Cond.methodLink RX9 99 yX9_firstMetBelow ∈ xtbl := xin_4 72 rfl rfl
theorem km_X11_184 : Cond.methodLink RX11 184 yX9_realEnds ∈ xtbl := xin_4 73 rfl rfl
theorem ki_X9_realEnds : Cond.instanceMethod yX9_realEnds ∈ xtbl := xin_4 74 rfl rfl
theorem ks_X9_realEnds : Cond.selects RX9 yX9_realEnds yX9_realEnds ∈ xtbl := xin_4 75 rfl rfl
theorem kc_X9_realEnds : Cond.code yX9_realEnds cX9_realEnds 3 (some .int) ∈ xtbl := xin_4 76 rfl rfl
theorem km_X9_102 : Cond.methodLink RX9 102 yX6_isReal ∈ xtbl := xin_4 77 rfl rfl
theorem ki_X6_isReal : Cond.instanceMethod yX6_isReal ∈ xtbl := xin_4 78 rfl rfl
theorem ks_X6_isReal : Cond.selects RX6 yX6_isReal yX6_isReal ∈ xtbl := xin_4 79 rfl rfl
theorem kc_X6_isReal : Cond.code yX6_isReal cX6_isReal 2 (some .boolean) ∈ xtbl := xin_4 80 rfl rfl
theorem km_X6_108 : Cond.methodLink RX6 108 yJ9_abs_0f7a4 ∈ xtbl := xin_4 81 rfl rfl
theorem kt_J9_abs_0f7a4 : Cond.static yJ9_abs_0f7a4 ∈ xtbl := xin_4 82 rfl rfl
theorem kc_J9_abs_0f7a4 : Cond.code yJ9_abs_0f7a4 cJ9_abs_0f7a4 1 (some .int) ∈ xtbl := xin_4 83 rfl rfl
theorem km_X11_187 : Cond.methodLink RX11 187 yX4_size ∈ xtbl := xin_4 84 rfl rfl
theorem ki_X4_size : Cond.instanceMethod yX4_size ∈ xtbl := xin_4 85 rfl rfl
theorem ks_X4_size : Cond.selects RX4 yX4_size yX4_size ∈ xtbl := xin_4 86 rfl rfl
theorem kc_X4_size : Cond.code yX4_size cX4_size 1 (some .int) ∈ xtbl := xin_4 87 rfl rfl
theorem km_L_73 : Cond.methodLink RL 73 yX11_undo ∈ xtbl := xin_4 88 rfl rfl
theorem ki_X11_undo : Cond.instanceMethod yX11_undo ∈ xtbl := xin_4 89 rfl rfl
theorem ks_X11_undo : Cond.selects RX11 yX11_undo yX11_undo ∈ xtbl := xin_4 90 rfl rfl
theorem kc_X11_undo : Cond.code yX11_undo cX11_undo 1 (some .int) ∈ xtbl := xin_4 91 rfl rfl
theorem km_X11_190 : Cond.methodLink RX11 190 yX4_takeBack ∈ xtbl := xin_4 92 rfl rfl
theorem ki_X4_takeBack : Cond.instanceMethod yX4_takeBack ∈ xtbl := xin_4 93 rfl rfl
theorem ks_X4_takeBack : Cond.selects RX4 yX4_takeBack yX4_takeBack ∈ xtbl := xin_4 94 rfl rfl
theorem kc_X4_takeBack : Cond.code yX4_takeBack cX4_takeBack 2 (some .boolean) ∈ xtbl := xin_4 95 rfl rfl
theorem km_L_77 : Cond.methodLink RL 77 yX11_save ∈ xtbl := xin_4 96 rfl rfl
theorem ki_X11_save : Cond.instanceMethod yX11_save ∈ xtbl := xin_4 97 rfl rfl
theorem ks_X11_save : Cond.selects RX11 yX11_save yX11_save ∈ xtbl := xin_4 98 rfl rfl
theorem kc_X11_save : Cond.code yX11_save cX11_save 2 (some .int) ∈ xtbl := xin_4 99 rfl rfl
theorem km_X11_194 : Cond.methodLink RX11 194 yX9_copy ∈ xtbl := xin_4 100 rfl rfl
theorem km_L_81 : Cond.methodLink RL 81 yX11_restore ∈ xtbl := xin_4 101 rfl rfl
theorem ki_X11_restore : Cond.instanceMethod yX11_restore ∈ xtbl := xin_4 102 rfl rfl
theorem ks_X11_restore : Cond.selects RX11 yX11_restore yX11_restore ∈ xtbl := xin_4 103 rfl rfl
theorem kc_X11_restore : Cond.code yX11_restore cX11_restore 2 (some .int) ∈ xtbl := xin_4 104 rfl rfl
theorem kl_L_10 : Cond.classLink RL 10 RX12 ∈ xtbl := xin_4 105 rfl rfl
theorem kb_X12 : Cond.instantiable RX12 24 ∈ xtbl := xin_4 106 rfl rfl
theorem km_L_12 : Cond.methodLink RL 12 yX12_init ∈ xtbl := xin_4 107 rfl rfl
theorem ki_X12_init : Cond.instanceMethod yX12_init ∈ xtbl := xin_4 108 rfl rfl
theorem kc_X12_init : Cond.code yX12_init cX12_init 1 none ∈ xtbl := xin_4 109 rfl rfl
theorem km_X12_1 : Cond.methodLink RX12 1 objectInit ∈ xtbl := xin_4 110 rfl rfl
theorem kk_X12_26 : Cond.constantLong RX12 26 1024 ∈ xtbl := xin_4 111 rfl rfl
theorem km_X12_60 : Cond.methodLink RX12 60 yX12_termOf ∈ xtbl := xin_4 112 rfl rfl
theorem kt_X12_termOf : Cond.static yX12_termOf ∈ xtbl := xin_4 113 rfl rfl
theorem kc_X12_termOf : Cond.code yX12_termOf cX12_termOf 4 (some .int) ∈ xtbl := xin_4 114 rfl rfl
theorem km_X12_64 : Cond.methodLink RX12 64 yX12_beginAll ∈ xtbl := xin_4 115 rfl rfl
theorem ki_X12_beginAll : Cond.instanceMethod yX12_beginAll ∈ xtbl := xin_4 117 rfl rfl
theorem kc_X12_beginAll : Cond.code yX12_beginAll cX12_beginAll 2 none ∈ xtbl := xin_4 118 rfl rfl
theorem km_X12_67 : Cond.methodLink RX12 67 yX12_paths ∈ xtbl := xin_4 119 rfl rfl
theorem ki_X12_paths : Cond.instanceMethod yX12_paths ∈ xtbl := xin_4 121 rfl rfl
theorem kc_X12_paths : Cond.code yX12_paths cX12_paths 1 (some .int) ∈ xtbl := xin_4 122 rfl rfl
theorem km_X12_119 : Cond.methodLink RX12 119 yX12_setting ∈ xtbl := xin_4 123 rfl rfl
theorem ki_X12_setting : Cond.instanceMethod yX12_setting ∈ xtbl := xin_4 125 rfl rfl
theorem kc_X12_setting : Cond.code yX12_setting cX12_setting 2 (some .int) ∈ xtbl := xin_4 126 rfl rfl
theorem km_X12_152 : Cond.methodLink RX12 152 yX12_begins ∈ xtbl := xin_4 127 rfl rfl
theorem ki_X12_begins : Cond.instanceMethod yX12_begins ∈ xtbl := xin_4 129 rfl rfl
theorem kc_X12_begins : Cond.code yX12_begins cX12_begins 5 none ∈ xtbl := xin_4 130 rfl rfl
theorem km_X12_146 : Cond.methodLink RX12 146 yX12_pathAt ∈ xtbl := xin_4 131 rfl rfl
theorem kt_X12_pathAt : Cond.static yX12_pathAt ∈ xtbl := xin_4 132 rfl rfl
theorem kc_X12_pathAt : Cond.code yX12_pathAt cX12_pathAt 1 (some .int) ∈ xtbl := xin_4 133 rfl rfl
theorem km_X12_149 : Cond.methodLink RX12 149 yX12_root ∈ xtbl := xin_4 134 rfl rfl
theorem ki_X12_root : Cond.instanceMethod yX12_root ∈ xtbl := xin_4 136 rfl rfl
theorem kc_X12_root : Cond.code yX12_root cX12_root 5 none ∈ xtbl := xin_4 137 rfl rfl
theorem kk_X12_140 : Cond.constantLong RX12 140 866025404 ∈ xtbl := xin_4 138 rfl rfl
theorem kk_X12_142 : Cond.constantLong RX12 142 1000000000 ∈ xtbl := xin_4 139 rfl rfl
theorem km_X12_93 : Cond.methodLink RX12 93 yX12_hold ∈ xtbl := xin_4 140 rfl rfl
theorem ki_X12_hold : Cond.instanceMethod yX12_hold ∈ xtbl := xin_4 142 rfl rfl
theorem kc_X12_hold : Cond.code yX12_hold cX12_hold 5 none ∈ xtbl := xin_4 143 rfl rfl
theorem km_X12_83 : Cond.methodLink RX12 83 yX12_held ∈ xtbl := xin_4 144 rfl rfl
theorem kt_X12_held : Cond.static yX12_held ∈ xtbl := xin_4 145 rfl rfl
theorem kc_X12_held : Cond.code yX12_held cX12_held 2 (some .long) ∈ xtbl := xin_4 146 rfl rfl
theorem kk_X12_79 : Cond.constantLong RX12 79 (-1073741824) ∈ xtbl := xin_4 147 rfl rfl
theorem kk_X12_81 : Cond.constantLong RX12 81 1073741824 ∈ xtbl := xin_4 148 rfl rfl
theorem kk_X12_144 : Cond.constantLong RX12 144 2 ∈ xtbl := xin_4 149 rfl rfl
theorem kf_X12_7 : Cond.fieldLink RX12 7 "PathTrackerModel" "p" "[I" ∈ xtbl := xin_4 150 rfl rfl
theorem kf_X12_13 : Cond.fieldLink RX12 13 "PathTrackerModel" "saved" "[I" ∈ xtbl := xin_4 151 rfl rfl
theorem kf_X12_75 : Cond.fieldLink RX12 75 "PathTrackerModel" "states" "I" ∈ xtbl := xin_4 152 rfl rfl
theorem kf_X12_16 : Cond.fieldLink RX12 16 "PathTrackerModel" "slots" "[I" ∈ xtbl := xin_4 153 rfl rfl
theorem kf_X12_19 : Cond.fieldLink RX12 19 "PathTrackerModel" "isKept" "[Z" ∈ xtbl := xin_4 154 rfl rfl
theorem kf_X12_23 : Cond.fieldLink RX12 23 "PathTrackerModel" "text" "[I" ∈ xtbl := xin_4 155 rfl rfl
theorem kf_X12_243 : Cond.fieldLink RX12 243 "PathTrackerModel" "length" "I" ∈ xtbl := xin_4 156 rfl rfl
theorem kf_X12_87 : Cond.fieldLink RX12 87 "PathTrackerModel" "re" "J" ∈ xtbl := xin_4 157 rfl rfl
theorem kf_X12_90 : Cond.fieldLink RX12 90 "PathTrackerModel" "im" "J" ∈ xtbl := xin_4 158 rfl rfl
theorem kf_X12_28 : Cond.fieldLink RX12 28 "PathTrackerModel" "unit" "J" ∈ xtbl := xin_4 159 rfl rfl
theorem kf_X12_32 : Cond.fieldLink RX12 32 "PathTrackerModel" "power" "[J" ∈ xtbl := xin_4 160 rfl rfl
theorem kf_X12_36 : Cond.fieldLink RX12 36 "PathTrackerModel" "at4" "[J" ∈ xtbl := xin_4 161 rfl rfl
theorem kf_X12_39 : Cond.fieldLink RX12 39 "PathTrackerModel" "ends" "[J" ∈ xtbl := xin_4 162 rfl rfl
theorem kf_X12_42 : Cond.fieldLink RX12 42 "PathTrackerModel" "starts" "[J" ∈ xtbl := xin_4 163 rfl rfl
theorem kf_X12_45 : Cond.fieldLink RX12 45 "PathTrackerModel" "mixed" "[J" ∈ xtbl := xin_4 164 rfl rfl
theorem kf_X12_48 : Cond.fieldLink RX12 48 "PathTrackerModel" "right" "[J" ∈ xtbl := xin_4 165 rfl rfl
theorem kf_X12_51 : Cond.fieldLink RX12 51 "PathTrackerModel" "way" "[J" ∈ xtbl := xin_4 166 rfl rfl
theorem kf_X12_54 : Cond.fieldLink RX12 54 "PathTrackerModel" "held2" "[J" ∈ xtbl := xin_4 167 rfl rfl
theorem kf_X12_247 : Cond.fieldLink RX12 247 "PathTrackerModel" "at" "I" ∈ xtbl := xin_4 168 rfl rfl
theorem kf_X12_253 : Cond.fieldLink RX12 253 "PathTrackerModel" "powerX" "I" ∈ xtbl := xin_4 169 rfl rfl
theorem kf_X12_256 : Cond.fieldLink RX12 256 "PathTrackerModel" "powerY" "I" ∈ xtbl := xin_4 170 rfl rfl
theorem kf_X12_259 : Cond.fieldLink RX12 259 "PathTrackerModel" "number" "I" ∈ xtbl := xin_4 171 rfl rfl
theorem kf_X12_265 : Cond.fieldLink RX12 265 "PathTrackerModel" "isImaginary" "Z" ∈ xtbl := xin_4 172 rfl rfl
theorem kf_X12_57 : Cond.fieldLink RX12 57 "PathTrackerModel" "told" "[I" ∈ xtbl := xin_4 173 rfl rfl
theorem ka_long : Cond.arrayClass .long ∈ xtbl := xin_4 223 rfl rfl
theorem km_L_40 : Cond.methodLink RL 40 yX12_track ∈ xtbl := xin_4 224 rfl rfl
theorem ki_X12_track : Cond.instanceMethod yX12_track ∈ xtbl := xin_4 225 rfl rfl
theorem ks_X12_track : Cond.selects RX12 yX12_track yX12_track ∈ xtbl := xin_4 226 rfl rfl
theorem kc_X12_track : Cond.code yX12_track cX12_track 3 (some .int) ∈ xtbl := xin_4 227 rfl rfl
theorem km_X12_195 : Cond.methodLink RX12 195 yX12_isPath ∈ xtbl := xin_4 228 rfl rfl
theorem ki_X12_isPath : Cond.instanceMethod yX12_isPath ∈ xtbl := xin_4 230 rfl rfl
theorem kc_X12_isPath : Cond.code yX12_isPath cX12_isPath 2 (some .boolean) ∈ xtbl := xin_4 231 rfl rfl
theorem km_X12_71 : Cond.methodLink RX12 71 yX12_in ∈ xtbl := xin_4 232 rfl rfl
theorem kt_X12_in : Cond.static yX12_in ∈ xtbl := xin_4 233 rfl rfl
theorem kc_X12_in : Cond.code yX12_in cX12_in 3 (some .boolean) ∈ xtbl := xin_4 234 rfl rfl
theorem kk_X12_198 : Cond.constant RX12 198 (-2000000001) ∈ xtbl := xin_4 235 rfl rfl
theorem km_X12_189 : Cond.methodLink RX12 189 yX12_isOnWay ∈ xtbl := xin_4 236 rfl rfl
theorem ki_X12_isOnWay : Cond.instanceMethod yX12_isOnWay ∈ xtbl := xin_4 238 rfl rfl
theorem kc_X12_isOnWay : Cond.code yX12_isOnWay cX12_isOnWay 2 (some .boolean) ∈ xtbl := xin_4 239 rfl rfl
theorem kk_X12_199 : Cond.constant RX12 199 (-2000000002) ∈ xtbl := xin_5 0 rfl rfl
theorem km_X12_200 : Cond.methodLink RX12 200 yX12_save0 ∈ xtbl := xin_5 1 rfl rfl
theorem ki_X12_save0 : Cond.instanceMethod yX12_save0 ∈ xtbl := xin_5 3 rfl rfl
theorem kc_X12_save0 : Cond.code yX12_save0 cX12_save0 2 none ∈ xtbl := xin_5 4 rfl rfl
theorem km_X12_203 : Cond.methodLink RX12 203 yX12_follows ∈ xtbl := xin_5 5 rfl rfl
theorem ki_X12_follows : Cond.instanceMethod yX12_follows ∈ xtbl := xin_5 7 rfl rfl
theorem kc_X12_follows : Cond.code yX12_follows cX12_follows 4 (some .int) ∈ xtbl := xin_5 8 rfl rfl
theorem km_X12_192 : Cond.methodLink RX12 192 yX12_tries ∈ xtbl := xin_5 9 rfl rfl
theorem ki_X12_tries : Cond.instanceMethod yX12_tries ∈ xtbl := xin_5 11 rfl rfl
theorem kc_X12_tries : Cond.code yX12_tries cX12_tries 5 none ∈ xtbl := xin_5 12 rfl rfl
theorem km_X12_172 : Cond.methodLink RX12 172 yX12_takes ∈ xtbl := xin_5 13 rfl rfl
theorem ki_X12_takes : Cond.instanceMethod yX12_takes ∈ xtbl := xin_5 15 rfl rfl
theorem kc_X12_takes : Cond.code yX12_takes cX12_takes 4 none ∈ xtbl := xin_5 16 rfl rfl
theorem km_X12_175 : Cond.methodLink RX12 175 yX12_predicts ∈ xtbl := xin_5 17 rfl rfl
theorem ki_X12_predicts : Cond.instanceMethod yX12_predicts ∈ xtbl := xin_5 19 rfl rfl
theorem kc_X12_predicts : Cond.code yX12_predicts cX12_predicts 4 (some .boolean) ∈ xtbl := xin_5 20 rfl rfl
theorem km_X12_155 : Cond.methodLink RX12 155 yX12_laySystem ∈ xtbl := xin_5 21 rfl rfl
theorem ki_X12_laySystem : Cond.instanceMethod yX12_laySystem ∈ xtbl := xin_5 23 rfl rfl
theorem kc_X12_laySystem : Cond.code yX12_laySystem cX12_laySystem 5 none ∈ xtbl := xin_5 24 rfl rfl
theorem km_X12_123 : Cond.methodLink RX12 123 yX12_layPoint ∈ xtbl := xin_5 25 rfl rfl
theorem ki_X12_layPoint : Cond.instanceMethod yX12_layPoint ∈ xtbl := xin_5 27 rfl rfl
theorem kc_X12_layPoint : Cond.code yX12_layPoint cX12_layPoint 1 none ∈ xtbl := xin_5 28 rfl rfl
theorem km_X12_104 : Cond.methodLink RX12 104 yX12_layPowers ∈ xtbl := xin_5 29 rfl rfl
theorem ki_X12_layPowers : Cond.instanceMethod yX12_layPowers ∈ xtbl := xin_5 31 rfl rfl
theorem kc_X12_layPowers : Cond.code yX12_layPowers cX12_layPowers 7 none ∈ xtbl := xin_5 32 rfl rfl
theorem km_X12_100 : Cond.methodLink RX12 100 yX12_times ∈ xtbl := xin_5 33 rfl rfl
theorem ki_X12_times : Cond.instanceMethod yX12_times ∈ xtbl := xin_5 35 rfl rfl
theorem kc_X12_times : Cond.code yX12_times cX12_times 9 none ∈ xtbl := xin_5 36 rfl rfl
theorem km_X12_116 : Cond.methodLink RX12 116 yX12_worth ∈ xtbl := xin_5 37 rfl rfl
theorem ki_X12_worth : Cond.instanceMethod yX12_worth ∈ xtbl := xin_5 39 rfl rfl
theorem kc_X12_worth : Cond.code yX12_worth cX12_worth 15 none ∈ xtbl := xin_5 40 rfl rfl
theorem km_X12_108 : Cond.methodLink RX12 108 yX12_coefficientOf ∈ xtbl := xin_5 41 rfl rfl
theorem ki_X12_coefficientOf : Cond.instanceMethod yX12_coefficientOf ∈ xtbl := xin_5 43 rfl rfl
theorem kc_X12_coefficientOf : Cond.code yX12_coefficientOf cX12_coefficientOf 7 (some .int) ∈ xtbl := xin_5 44 rfl rfl
theorem km_X12_112 : Cond.methodLink RX12 112 yX12_product ∈ xtbl := xin_5 45 rfl rfl
theorem ki_X12_product : Cond.instanceMethod yX12_product ∈ xtbl := xin_5 47 rfl rfl
theorem kc_X12_product : Cond.code yX12_product cX12_product 4 none ∈ xtbl := xin_5 48 rfl rfl
theorem km_X12_126 : Cond.methodLink RX12 126 yX12_worthWithGamma ∈ xtbl := xin_5 49 rfl rfl
theorem ki_X12_worthWithGamma : Cond.instanceMethod yX12_worthWithGamma ∈ xtbl := xin_5 51 rfl rfl
theorem kc_X12_worthWithGamma : Cond.code yX12_worthWithGamma cX12_worthWithGamma 7 none ∈ xtbl := xin_5 52 rfl rfl
theorem km_X12_159 : Cond.methodLink RX12 159 yX12_solves ∈ xtbl := xin_5 53 rfl rfl
theorem ki_X12_solves : Cond.instanceMethod yX12_solves ∈ xtbl := xin_5 55 rfl rfl
theorem kc_X12_solves : Cond.code yX12_solves cX12_solves 6 (some .boolean) ∈ xtbl := xin_5 56 rfl rfl
theorem km_X12_129 : Cond.methodLink RX12 129 yX12_cross ∈ xtbl := xin_5 57 rfl rfl
theorem ki_X12_cross : Cond.instanceMethod yX12_cross ∈ xtbl := xin_5 59 rfl rfl
theorem kc_X12_cross : Cond.code yX12_cross cX12_cross 5 none ∈ xtbl := xin_5 60 rfl rfl
theorem km_X12_133 : Cond.methodLink RX12 133 yX12_crossRight ∈ xtbl := xin_5 61 rfl rfl
theorem ki_X12_crossRight : Cond.instanceMethod yX12_crossRight ∈ xtbl := xin_5 63 rfl rfl
theorem kc_X12_crossRight : Cond.code yX12_crossRight cX12_crossRight 5 none ∈ xtbl := xin_5 64 rfl rfl
theorem km_X12_136 : Cond.methodLink RX12 136 yX12_divides ∈ xtbl := xin_5 65 rfl rfl
theorem ki_X12_divides : Cond.instanceMethod yX12_divides ∈ xtbl := xin_5 67 rfl rfl
theorem kc_X12_divides : Cond.code yX12_divides cX12_divides 11 (some .boolean) ∈ xtbl := xin_5 68 rfl rfl
theorem km_X12_163 : Cond.methodLink RX12 163 yX12_goes ∈ xtbl := xin_5 69 rfl rfl
theorem ki_X12_goes : Cond.instanceMethod yX12_goes ∈ xtbl := xin_5 71 rfl rfl
theorem kc_X12_goes : Cond.code yX12_goes cX12_goes 2 none ∈ xtbl := xin_5 72 rfl rfl
theorem km_X12_179 : Cond.methodLink RX12 179 yX12_corrects ∈ xtbl := xin_5 73 rfl rfl
theorem ki_X12_corrects : Cond.instanceMethod yX12_corrects ∈ xtbl := xin_5 75 rfl rfl
theorem kc_X12_corrects : Cond.code yX12_corrects cX12_corrects 11 (some .boolean) ∈ xtbl := xin_5 76 rfl rfl
theorem km_X12_166 : Cond.methodLink RX12 166 yX12_size ∈ xtbl := xin_5 77 rfl rfl
theorem kt_X12_size : Cond.static yX12_size ∈ xtbl := xin_5 78 rfl rfl
theorem kc_X12_size : Cond.code yX12_size cX12_size 8 (some .long) ∈ xtbl := xin_5 79 rfl rfl
theorem km_X12_97 : Cond.methodLink RX12 97 yX12_abs ∈ xtbl := xin_5 80 rfl rfl
theorem kt_X12_abs : Cond.static yX12_abs ∈ xtbl := xin_5 81 rfl rfl
theorem kc_X12_abs : Cond.code yX12_abs cX12_abs 2 (some .long) ∈ xtbl := xin_5 82 rfl rfl
theorem km_X12_183 : Cond.methodLink RX12 183 yX12_wasGood ∈ xtbl := xin_5 83 rfl rfl
theorem ki_X12_wasGood : Cond.instanceMethod yX12_wasGood ∈ xtbl := xin_5 85 rfl rfl
theorem kc_X12_wasGood : Cond.code yX12_wasGood cX12_wasGood 6 none ∈ xtbl := xin_5 86 rfl rfl
theorem km_X12_186 : Cond.methodLink RX12 186 yX12_hasFailed ∈ xtbl := xin_5 87 rfl rfl
theorem ki_X12_hasFailed : Cond.instanceMethod yX12_hasFailed ∈ xtbl := xin_5 89 rfl rfl
theorem kc_X12_hasFailed : Cond.code yX12_hasFailed cX12_hasFailed 3 none ∈ xtbl := xin_5 90 rfl rfl
theorem kk_X12_170 : Cond.constantLong RX12 170 256 ∈ xtbl := xin_5 91 rfl rfl
theorem km_L_44 : Cond.methodLink RL 44 yX12_trackAll ∈ xtbl := xin_5 92 rfl rfl
theorem ki_X12_trackAll : Cond.instanceMethod yX12_trackAll ∈ xtbl := xin_5 93 rfl rfl
theorem ks_X12_trackAll : Cond.selects RX12 yX12_trackAll yX12_trackAll ∈ xtbl := xin_5 94 rfl rfl
theorem kc_X12_trackAll : Cond.code yX12_trackAll cX12_trackAll 4 (some .int) ∈ xtbl := xin_5 95 rfl rfl
theorem km_X12_207 : Cond.methodLink RX12 207 yX12_many ∈ xtbl := xin_5 96 rfl rfl
theorem ki_X12_many : Cond.instanceMethod yX12_many ∈ xtbl := xin_5 98 rfl rfl
theorem kc_X12_many : Cond.code yX12_many cX12_many 4 (some .int) ∈ xtbl := xin_5 99 rfl rfl
theorem km_L_48 : Cond.methodLink RL 48 yX12_again ∈ xtbl := xin_5 100 rfl rfl
theorem ki_X12_again : Cond.instanceMethod yX12_again ∈ xtbl := xin_5 101 rfl rfl
theorem ks_X12_again : Cond.selects RX12 yX12_again yX12_again ∈ xtbl := xin_5 102 rfl rfl
theorem kc_X12_again : Cond.code yX12_again cX12_again 4 (some .int) ∈ xtbl := xin_5 103 rfl rfl
theorem km_L_52 : Cond.methodLink RL 52 yX12_path ∈ xtbl := xin_5 104 rfl rfl
theorem ki_X12_path : Cond.instanceMethod yX12_path ∈ xtbl := xin_5 105 rfl rfl
theorem ks_X12_path : Cond.selects RX12 yX12_path yX12_path ∈ xtbl := xin_5 106 rfl rfl
theorem kc_X12_path : Cond.code yX12_path cX12_path 4 (some .int) ∈ xtbl := xin_5 107 rfl rfl
theorem km_X12_212 : Cond.methodLink RX12 212 yX12_residue ∈ xtbl := xin_5 108 rfl rfl
theorem ki_X12_residue : Cond.instanceMethod yX12_residue ∈ xtbl := xin_5 110 rfl rfl
theorem kc_X12_residue : Cond.code yX12_residue cX12_residue 7 (some .int) ∈ xtbl := xin_5 111 rfl rfl
theorem kk_X12_210 : Cond.constantLong RX12 210 1000 ∈ xtbl := xin_5 112 rfl rfl
theorem km_X12_215 : Cond.methodLink RX12 215 yX12_thousandths ∈ xtbl := xin_5 113 rfl rfl
theorem ki_X12_thousandths : Cond.instanceMethod yX12_thousandths ∈ xtbl := xin_5 115 rfl rfl
theorem kc_X12_thousandths : Cond.code yX12_thousandths cX12_thousandths 4 (some .int) ∈ xtbl := xin_5 116 rfl rfl
theorem km_L_56 : Cond.methodLink RL 56 yX12_meets ∈ xtbl := xin_5 117 rfl rfl
theorem ki_X12_meets : Cond.instanceMethod yX12_meets ∈ xtbl := xin_5 118 rfl rfl
theorem ks_X12_meets : Cond.selects RX12 yX12_meets yX12_meets ∈ xtbl := xin_5 119 rfl rfl
theorem kc_X12_meets : Cond.code yX12_meets cX12_meets 3 (some .int) ∈ xtbl := xin_5 120 rfl rfl
theorem km_X12_218 : Cond.methodLink RX12 218 yX12_isAtEnd ∈ xtbl := xin_5 121 rfl rfl
theorem ki_X12_isAtEnd : Cond.instanceMethod yX12_isAtEnd ∈ xtbl := xin_5 123 rfl rfl
theorem kc_X12_isAtEnd : Cond.code yX12_isAtEnd cX12_isAtEnd 2 (some .boolean) ∈ xtbl := xin_5 124 rfl rfl
theorem km_X12_224 : Cond.methodLink RX12 224 yX12_firstMet ∈ xtbl := xin_5 125 rfl rfl
theorem ki_X12_firstMet : Cond.instanceMethod yX12_firstMet ∈ xtbl := xin_5 127 rfl rfl
theorem kc_X12_firstMet : Cond.code yX12_firstMet cX12_firstMet 3 (some .int) ∈ xtbl := xin_5 128 rfl rfl
theorem km_X12_221 : Cond.methodLink RX12 221 yX12_areMet ∈ xtbl := xin_5 129 rfl rfl
theorem ki_X12_areMet : Cond.instanceMethod yX12_areMet ∈ xtbl := xin_5 131 rfl rfl
theorem kc_X12_areMet : Cond.code yX12_areMet cX12_areMet 5 (some .boolean) ∈ xtbl := xin_5 132 rfl rfl
theorem kk_X12_227 : Cond.constant RX12 227 (-2000000004) ∈ xtbl := xin_5 133 rfl rfl
theorem km_L_60 : Cond.methodLink RL 60 yX12_next ∈ xtbl := xin_5 134 rfl rfl
theorem ki_X12_next : Cond.instanceMethod yX12_next ∈ xtbl := xin_5 135 rfl rfl
theorem ks_X12_next : Cond.selects RX12 yX12_next yX12_next ∈ xtbl := xin_5 136 rfl rfl
theorem kc_X12_next : Cond.code yX12_next cX12_next 6 (some .int) ∈ xtbl := xin_5 137 rfl rfl
theorem km_L_64 : Cond.methodLink RL 64 yX12_endAt ∈ xtbl := xin_5 138 rfl rfl
theorem ki_X12_endAt : Cond.instanceMethod yX12_endAt ∈ xtbl := xin_5 139 rfl rfl
theorem ks_X12_endAt : Cond.selects RX12 yX12_endAt yX12_endAt ∈ xtbl := xin_5 140 rfl rfl
theorem kc_X12_endAt : Cond.code yX12_endAt cX12_endAt 5 (some .int) ∈ xtbl := xin_5 141 rfl rfl
theorem km_X12_228 : Cond.methodLink RX12 228 yX12_isAhead ∈ xtbl := xin_5 142 rfl rfl
theorem ki_X12_isAhead : Cond.instanceMethod yX12_isAhead ∈ xtbl := xin_5 144 rfl rfl
theorem kc_X12_isAhead : Cond.code yX12_isAhead cX12_isAhead 6 (some .boolean) ∈ xtbl := xin_5 145 rfl rfl
theorem km_L_68 : Cond.methodLink RL 68 yX12_set ∈ xtbl := xin_5 146 rfl rfl
theorem ki_X12_set : Cond.instanceMethod yX12_set ∈ xtbl := xin_5 147 rfl rfl
theorem ks_X12_set : Cond.selects RX12 yX12_set yX12_set ∈ xtbl := xin_5 148 rfl rfl
theorem kc_X12_set : Cond.code yX12_set cX12_set 4 (some .int) ∈ xtbl := xin_5 149 rfl rfl
theorem km_X12_231 : Cond.methodLink RX12 231 yX12_least ∈ xtbl := xin_5 150 rfl rfl
theorem kt_X12_least : Cond.static yX12_least ∈ xtbl := xin_5 151 rfl rfl
theorem kc_X12_least : Cond.code yX12_least cX12_least 1 (some .int) ∈ xtbl := xin_5 152 rfl rfl
theorem km_X12_234 : Cond.methodLink RX12 234 yX12_most ∈ xtbl := xin_5 153 rfl rfl
theorem kt_X12_most : Cond.static yX12_most ∈ xtbl := xin_5 154 rfl rfl
theorem kc_X12_most : Cond.code yX12_most cX12_most 1 (some .int) ∈ xtbl := xin_5 155 rfl rfl
theorem km_L_72 : Cond.methodLink RL 72 yX12_count ∈ xtbl := xin_5 156 rfl rfl
theorem ki_X12_count : Cond.instanceMethod yX12_count ∈ xtbl := xin_5 157 rfl rfl
theorem ks_X12_count : Cond.selects RX12 yX12_count yX12_count ∈ xtbl := xin_5 158 rfl rfl
theorem kc_X12_count : Cond.code yX12_count cX12_count 2 (some .int) ∈ xtbl := xin_5 159 rfl rfl
theorem km_X12_237 : Cond.methodLink RX12 237 yX12_distinct ∈ xtbl := xin_5 160 rfl rfl
theorem ki_X12_distinct : Cond.instanceMethod yX12_distinct ∈ xtbl := xin_5 162 rfl rfl
theorem kc_X12_distinct : Cond.code yX12_distinct cX12_distinct 4 (some .int) ∈ xtbl := xin_5 163 rfl rfl
theorem km_X12_240 : Cond.methodLink RX12 240 yX12_reals ∈ xtbl := xin_5 164 rfl rfl
theorem ki_X12_reals : Cond.instanceMethod yX12_reals ∈ xtbl := xin_5 166 rfl rfl
theorem kc_X12_reals : Cond.code yX12_reals cX12_reals 3 (some .int) ∈ xtbl := xin_5 167 rfl rfl
theorem km_L_17 : Cond.methodLink RL 17 yX12_type ∈ xtbl := xin_5 168 rfl rfl
theorem ki_X12_type : Cond.instanceMethod yX12_type ∈ xtbl := xin_5 169 rfl rfl
theorem ks_X12_type : Cond.selects RX12 yX12_type yX12_type ∈ xtbl := xin_5 170 rfl rfl
theorem kc_X12_type : Cond.code yX12_type cX12_type 2 (some .int) ∈ xtbl := xin_5 171 rfl rfl
theorem kk_X12_246 : Cond.constant RX12 246 (-2000000003) ∈ xtbl := xin_5 172 rfl rfl
theorem km_L_22 : Cond.methodLink RL 22 yX12_wipe ∈ xtbl := xin_5 173 rfl rfl
theorem ki_X12_wipe : Cond.instanceMethod yX12_wipe ∈ xtbl := xin_5 174 rfl rfl
theorem ks_X12_wipe : Cond.selects RX12 yX12_wipe yX12_wipe ∈ xtbl := xin_5 175 rfl rfl
theorem kc_X12_wipe : Cond.code yX12_wipe cX12_wipe 2 (some .int) ∈ xtbl := xin_5 176 rfl rfl
theorem km_L_26 : Cond.methodLink RL 26 yX12_fault ∈ xtbl := xin_5 177 rfl rfl
theorem ki_X12_fault : Cond.instanceMethod yX12_fault ∈ xtbl := xin_5 178 rfl rfl
theorem ks_X12_fault : Cond.selects RX12 yX12_fault yX12_fault ∈ xtbl := xin_5 179 rfl rfl
theorem kc_X12_fault : Cond.code yX12_fault cX12_fault 2 (some .int) ∈ xtbl := xin_5 180 rfl rfl
theorem km_X12_288 : Cond.methodLink RX12 288 yX12_faultOf ∈ xtbl := xin_5 181 rfl rfl
theorem ki_X12_faultOf : Cond.instanceMethod yX12_faultOf ∈ xtbl := xin_5 183 rfl rfl
theorem kc_X12_faultOf : Cond.code yX12_faultOf cX12_faultOf 3 (some .int) ∈ xtbl := xin_5 184 rfl rfl
theorem km_X12_250 : Cond.methodLink RX12 250 yX12_here ∈ xtbl := xin_5 185 rfl rfl
theorem ki_X12_here : Cond.instanceMethod yX12_here ∈ xtbl := xin_5 187 rfl rfl
theorem kc_X12_here : Cond.code yX12_here cX12_here 1 (some .int) ∈ xtbl := xin_5 188 rfl rfl
theorem km_X12_281 : Cond.methodLink RX12 281 yX12_readTerm ∈ xtbl := xin_5 189 rfl rfl
theorem ki_X12_readTerm : Cond.instanceMethod yX12_readTerm ∈ xtbl := xin_5 191 rfl rfl
theorem kc_X12_readTerm : Cond.code yX12_readTerm cX12_readTerm 2 (some .boolean) ∈ xtbl := xin_5 192 rfl rfl
theorem km_X12_262 : Cond.methodLink RX12 262 yX12_isDigit ∈ xtbl := xin_5 193 rfl rfl
theorem ki_X12_isDigit : Cond.instanceMethod yX12_isDigit ∈ xtbl := xin_5 195 rfl rfl
theorem kc_X12_isDigit : Cond.code yX12_isDigit cX12_isDigit 1 (some .boolean) ∈ xtbl := xin_5 196 rfl rfl
theorem km_X12_269 : Cond.methodLink RX12 269 yX12_readNumber ∈ xtbl := xin_5 197 rfl rfl
theorem ki_X12_readNumber : Cond.instanceMethod yX12_readNumber ∈ xtbl := xin_5 199 rfl rfl
theorem kc_X12_readNumber : Cond.code yX12_readNumber cX12_readNumber 2 none ∈ xtbl := xin_5 200 rfl rfl
theorem km_X12_272 : Cond.methodLink RX12 272 yX12_isFactor ∈ xtbl := xin_5 201 rfl rfl
theorem ki_X12_isFactor : Cond.instanceMethod yX12_isFactor ∈ xtbl := xin_5 203 rfl rfl
theorem kc_X12_isFactor : Cond.code yX12_isFactor cX12_isFactor 1 (some .boolean) ∈ xtbl := xin_5 204 rfl rfl
theorem km_X12_275 : Cond.methodLink RX12 275 yX12_readFactor ∈ xtbl := xin_5 205 rfl rfl
theorem ki_X12_readFactor : Cond.instanceMethod yX12_readFactor ∈ xtbl := xin_5 207 rfl rfl
theorem kc_X12_readFactor : Cond.code yX12_readFactor cX12_readFactor 3 (some .boolean) ∈ xtbl := xin_5 208 rfl rfl
theorem km_X12_284 : Cond.methodLink RX12 284 yX12_adds ∈ xtbl := xin_5 209 rfl rfl
theorem ki_X12_adds : Cond.instanceMethod yX12_adds ∈ xtbl := xin_5 211 rfl rfl
theorem kc_X12_adds : Cond.code yX12_adds cX12_adds 3 none ∈ xtbl := xin_5 212 rfl rfl
theorem km_X12_278 : Cond.methodLink RX12 278 yX12_bounded ∈ xtbl := xin_5 213 rfl rfl
theorem kt_X12_bounded : Cond.static yX12_bounded ∈ xtbl := xin_5 214 rfl rfl
theorem kc_X12_bounded : Cond.code yX12_bounded cX12_bounded 1 (some .int) ∈ xtbl := xin_5 215 rfl rfl
theorem km_L_30 : Cond.methodLink RL 30 yX12_equation ∈ xtbl := xin_5 216 rfl rfl
theorem ki_X12_equation : Cond.instanceMethod yX12_equation ∈ xtbl := xin_5 217 rfl rfl
theorem ks_X12_equation : Cond.selects RX12 yX12_equation yX12_equation ∈ xtbl := xin_5 218 rfl rfl
theorem kc_X12_equation : Cond.code yX12_equation cX12_equation 4 (some .int) ∈ xtbl := xin_5 219 rfl rfl
theorem km_X12_291 : Cond.methodLink RX12 291 yX12_degreeTold ∈ xtbl := xin_5 220 rfl rfl
theorem ki_X12_degreeTold : Cond.instanceMethod yX12_degreeTold ∈ xtbl := xin_5 222 rfl rfl
theorem kc_X12_degreeTold : Cond.code yX12_degreeTold cX12_degreeTold 6 (some .int) ∈ xtbl := xin_5 223 rfl rfl
theorem km_L_35 : Cond.methodLink RL 35 yX12_coefficient ∈ xtbl := xin_5 224 rfl rfl
theorem ki_X12_coefficient : Cond.instanceMethod yX12_coefficient ∈ xtbl := xin_5 225 rfl rfl
theorem ks_X12_coefficient : Cond.selects RX12 yX12_coefficient yX12_coefficient ∈ xtbl := xin_5 226 rfl rfl
theorem kc_X12_coefficient : Cond.code yX12_coefficient cX12_coefficient 5 (some .int) ∈ xtbl := xin_5 227 rfl rfl
theorem km_L_76 : Cond.methodLink RL 76 yX12_undo ∈ xtbl := xin_5 228 rfl rfl
theorem ki_X12_undo : Cond.instanceMethod yX12_undo ∈ xtbl := xin_5 229 rfl rfl
theorem ks_X12_undo : Cond.selects RX12 yX12_undo yX12_undo ∈ xtbl := xin_5 230 rfl rfl
theorem kc_X12_undo : Cond.code yX12_undo cX12_undo 2 (some .int) ∈ xtbl := xin_5 231 rfl rfl
theorem km_L_80 : Cond.methodLink RL 80 yX12_save ∈ xtbl := xin_5 232 rfl rfl
theorem ki_X12_save : Cond.instanceMethod yX12_save ∈ xtbl := xin_5 233 rfl rfl
theorem ks_X12_save : Cond.selects RX12 yX12_save yX12_save ∈ xtbl := xin_5 234 rfl rfl
theorem kc_X12_save : Cond.code yX12_save cX12_save 3 (some .int) ∈ xtbl := xin_5 235 rfl rfl
theorem km_L_84 : Cond.methodLink RL 84 yX12_restore ∈ xtbl := xin_5 236 rfl rfl
theorem ki_X12_restore : Cond.instanceMethod yX12_restore ∈ xtbl := xin_5 237 rfl rfl
theorem ks_X12_restore : Cond.selects RX12 yX12_restore yX12_restore ∈ xtbl := xin_5 238 rfl rfl
theorem kc_X12_restore : Cond.code yX12_restore cX12_restore 3 (some .int) ∈ xtbl := xin_5 239 rfl rfl
theorem ks_X9_beginPaths : Cond.selects RX9 yX9_beginPaths yX9_beginPaths ∈ xtbl := xin_p (q := (yX9_beginPaths, 5)) 0 rfl
theorem ks_X2_signHere : Cond.selects RX2 yX2_signHere yX2_signHere ∈ xtbl := xin_p (q := (yX2_signHere, 4)) 1 rfl
theorem ks_X2_readTerm : Cond.selects RX2 yX2_readTerm yX2_readTerm ∈ xtbl := xin_p (q := (yX2_readTerm, 4)) 2 rfl
theorem ks_X2_readNumber : Cond.selects RX2 yX2_readNumber yX2_readNumber ∈ xtbl := xin_p (q := (yX2_readNumber, 4)) 3 rfl
theorem ks_X2_readFactor : Cond.selects RX2 yX2_readFactor yX2_readFactor ∈ xtbl := xin_p (q := (yX2_readFactor, 4)) 4 rfl
theorem ks_X3_predict : Cond.selects RX3 yX3_predict yX3_predict ∈ xtbl := xin_p (q := (yX3_predict, 8)) 5 rfl
theorem ks_X8_cross : Cond.selects RX8 yX8_cross yX8_cross ∈ xtbl := xin_p (q := (yX8_cross, 6)) 6 rfl
theorem ks_X3_correct : Cond.selects RX3 yX3_correct yX3_correct ∈ xtbl := xin_p (q := (yX3_correct, 8)) 7 rfl
theorem ks_X9_endsBefore : Cond.selects RX9 yX9_endsBefore yX9_endsBefore ∈ xtbl := xin_p (q := (yX9_endsBefore, 5)) 8 rfl
theorem ks_X12_beginAll : Cond.selects RX12 yX12_beginAll yX12_beginAll ∈ xtbl := xin_p (q := (yX12_beginAll, 24)) 9 rfl
theorem ks_X12_paths : Cond.selects RX12 yX12_paths yX12_paths ∈ xtbl := xin_p (q := (yX12_paths, 24)) 10 rfl
theorem ks_X12_setting : Cond.selects RX12 yX12_setting yX12_setting ∈ xtbl := xin_p (q := (yX12_setting, 24)) 11 rfl
theorem ks_X12_begins : Cond.selects RX12 yX12_begins yX12_begins ∈ xtbl := xin_p (q := (yX12_begins, 24)) 12 rfl
theorem ks_X12_root : Cond.selects RX12 yX12_root yX12_root ∈ xtbl := xin_p (q := (yX12_root, 24)) 13 rfl
theorem ks_X12_hold : Cond.selects RX12 yX12_hold yX12_hold ∈ xtbl := xin_p (q := (yX12_hold, 24)) 14 rfl
theorem ks_X12_isPath : Cond.selects RX12 yX12_isPath yX12_isPath ∈ xtbl := xin_p (q := (yX12_isPath, 24)) 15 rfl
theorem ks_X12_isOnWay : Cond.selects RX12 yX12_isOnWay yX12_isOnWay ∈ xtbl := xin_p (q := (yX12_isOnWay, 24)) 16 rfl
theorem ks_X12_save0 : Cond.selects RX12 yX12_save0 yX12_save0 ∈ xtbl := xin_p (q := (yX12_save0, 24)) 17 rfl
theorem ks_X12_follows : Cond.selects RX12 yX12_follows yX12_follows ∈ xtbl := xin_p (q := (yX12_follows, 24)) 18 rfl
theorem ks_X12_tries : Cond.selects RX12 yX12_tries yX12_tries ∈ xtbl := xin_p (q := (yX12_tries, 24)) 19 rfl
theorem ks_X12_takes : Cond.selects RX12 yX12_takes yX12_takes ∈ xtbl := xin_p (q := (yX12_takes, 24)) 20 rfl
theorem ks_X12_predicts : Cond.selects RX12 yX12_predicts yX12_predicts ∈ xtbl := xin_p (q := (yX12_predicts, 24)) 21 rfl
theorem ks_X12_laySystem : Cond.selects RX12 yX12_laySystem yX12_laySystem ∈ xtbl := xin_p (q := (yX12_laySystem, 24)) 22 rfl
theorem ks_X12_layPoint : Cond.selects RX12 yX12_layPoint yX12_layPoint ∈ xtbl := xin_p (q := (yX12_layPoint, 24)) 23 rfl
theorem ks_X12_layPowers : Cond.selects RX12 yX12_layPowers yX12_layPowers ∈ xtbl := xin_p (q := (yX12_layPowers, 24)) 24 rfl
theorem ks_X12_times : Cond.selects RX12 yX12_times yX12_times ∈ xtbl := xin_p (q := (yX12_times, 24)) 25 rfl
theorem ks_X12_worth : Cond.selects RX12 yX12_worth yX12_worth ∈ xtbl := xin_p (q := (yX12_worth, 24)) 26 rfl
theorem ks_X12_coefficientOf : Cond.selects RX12 yX12_coefficientOf yX12_coefficientOf ∈ xtbl := xin_p (q := (yX12_coefficientOf, 24)) 27 rfl
theorem ks_X12_product : Cond.selects RX12 yX12_product yX12_product ∈ xtbl := xin_p (q := (yX12_product, 24)) 28 rfl
theorem ks_X12_worthWithGamma : Cond.selects RX12 yX12_worthWithGamma yX12_worthWithGamma ∈ xtbl := xin_p (q := (yX12_worthWithGamma, 24)) 29 rfl
theorem ks_X12_solves : Cond.selects RX12 yX12_solves yX12_solves ∈ xtbl := xin_p (q := (yX12_solves, 24)) 30 rfl
theorem ks_X12_cross : Cond.selects RX12 yX12_cross yX12_cross ∈ xtbl := xin_p (q := (yX12_cross, 24)) 31 rfl
theorem ks_X12_crossRight : Cond.selects RX12 yX12_crossRight yX12_crossRight ∈ xtbl := xin_p (q := (yX12_crossRight, 24)) 32 rfl
theorem ks_X12_divides : Cond.selects RX12 yX12_divides yX12_divides ∈ xtbl := xin_p (q := (yX12_divides, 24)) 33 rfl
theorem ks_X12_goes : Cond.selects RX12 yX12_goes yX12_goes ∈ xtbl := xin_p (q := (yX12_goes, 24)) 34 rfl
theorem ks_X12_corrects : Cond.selects RX12 yX12_corrects yX12_corrects ∈ xtbl := xin_p (q := (yX12_corrects, 24)) 35 rfl
theorem ks_X12_wasGood : Cond.selects RX12 yX12_wasGood yX12_wasGood ∈ xtbl := xin_p (q := (yX12_wasGood, 24)) 36 rfl
theorem ks_X12_hasFailed : Cond.selects RX12 yX12_hasFailed yX12_hasFailed ∈ xtbl := xin_p (q := (yX12_hasFailed, 24)) 37 rfl
theorem ks_X12_many : Cond.selects RX12 yX12_many yX12_many ∈ xtbl := xin_p (q := (yX12_many, 24)) 38 rfl
theorem ks_X12_residue : Cond.selects RX12 yX12_residue yX12_residue ∈ xtbl := xin_p (q := (yX12_residue, 24)) 39 rfl
theorem ks_X12_thousandths : Cond.selects RX12 yX12_thousandths yX12_thousandths ∈ xtbl := xin_p (q := (yX12_thousandths, 24)) 40 rfl
theorem ks_X12_isAtEnd : Cond.selects RX12 yX12_isAtEnd yX12_isAtEnd ∈ xtbl := xin_p (q := (yX12_isAtEnd, 24)) 41 rfl
theorem ks_X12_firstMet : Cond.selects RX12 yX12_firstMet yX12_firstMet ∈ xtbl := xin_p (q := (yX12_firstMet, 24)) 42 rfl
theorem ks_X12_areMet : Cond.selects RX12 yX12_areMet yX12_areMet ∈ xtbl := xin_p (q := (yX12_areMet, 24)) 43 rfl
theorem ks_X12_isAhead : Cond.selects RX12 yX12_isAhead yX12_isAhead ∈ xtbl := xin_p (q := (yX12_isAhead, 24)) 44 rfl
theorem ks_X12_distinct : Cond.selects RX12 yX12_distinct yX12_distinct ∈ xtbl := xin_p (q := (yX12_distinct, 24)) 45 rfl
theorem ks_X12_reals : Cond.selects RX12 yX12_reals yX12_reals ∈ xtbl := xin_p (q := (yX12_reals, 24)) 46 rfl
theorem ks_X12_faultOf : Cond.selects RX12 yX12_faultOf yX12_faultOf ∈ xtbl := xin_p (q := (yX12_faultOf, 24)) 47 rfl
theorem ks_X12_here : Cond.selects RX12 yX12_here yX12_here ∈ xtbl := xin_p (q := (yX12_here, 24)) 48 rfl
theorem ks_X12_readTerm : Cond.selects RX12 yX12_readTerm yX12_readTerm ∈ xtbl := xin_p (q := (yX12_readTerm, 24)) 49 rfl
theorem ks_X12_isDigit : Cond.selects RX12 yX12_isDigit yX12_isDigit ∈ xtbl := xin_p (q := (yX12_isDigit, 24)) 50 rfl
theorem ks_X12_readNumber : Cond.selects RX12 yX12_readNumber yX12_readNumber ∈ xtbl := xin_p (q := (yX12_readNumber, 24)) 51 rfl
theorem ks_X12_isFactor : Cond.selects RX12 yX12_isFactor yX12_isFactor ∈ xtbl := xin_p (q := (yX12_isFactor, 24)) 52 rfl
theorem ks_X12_readFactor : Cond.selects RX12 yX12_readFactor yX12_readFactor ∈ xtbl := xin_p (q := (yX12_readFactor, 24)) 53 rfl
theorem ks_X12_adds : Cond.selects RX12 yX12_adds yX12_adds ∈ xtbl := xin_p (q := (yX12_adds, 24)) 54 rfl
theorem ks_X12_degreeTold : Cond.selects RX12 yX12_degreeTold yX12_degreeTold ∈ xtbl := xin_p (q := (yX12_degreeTold, 24)) 55 rfl
theorem hin_X0 : ∀ w ∈ u_ws RX0 TX0 2, w ∈ xtbl := List.forall_mem_cons.mpr ⟨xin_1 46 rfl rfl, List.forall_mem_cons.mpr ⟨xin_1 48 rfl rfl, (fun _ h => absurd h List.not_mem_nil)⟩⟩
theorem hin_X1 : ∀ w ∈ u_ws RX1 TX1 3, w ∈ xtbl := List.forall_mem_cons.mpr ⟨xin_1 55 rfl rfl, List.forall_mem_cons.mpr ⟨xin_1 57 rfl rfl, List.forall_mem_cons.mpr ⟨xin_1 59 rfl rfl, (fun _ h => absurd h List.not_mem_nil)⟩⟩⟩
theorem hin_X2 : ∀ w ∈ u_ws RX2 TX2 4, w ∈ xtbl := List.forall_mem_cons.mpr ⟨xin_1 66 rfl rfl, List.forall_mem_cons.mpr ⟨xin_1 68 rfl rfl, List.forall_mem_cons.mpr ⟨xin_1 70 rfl rfl, List.forall_mem_cons.mpr ⟨xin_1 72 rfl rfl, (fun _ h => absurd h List.not_mem_nil)⟩⟩⟩⟩
theorem hin_X3 : ∀ w ∈ u_ws RX3 TX3 8, w ∈ xtbl := List.forall_mem_cons.mpr ⟨xin_1 192 rfl rfl, List.forall_mem_cons.mpr ⟨xin_1 194 rfl rfl, List.forall_mem_cons.mpr ⟨xin_1 196 rfl rfl, List.forall_mem_cons.mpr ⟨xin_1 198 rfl rfl, List.forall_mem_cons.mpr ⟨xin_1 200 rfl rfl, List.forall_mem_cons.mpr ⟨xin_1 202 rfl rfl, List.forall_mem_cons.mpr ⟨xin_1 204 rfl rfl, List.forall_mem_cons.mpr ⟨xin_1 206 rfl rfl, (fun _ h => absurd h List.not_mem_nil)⟩⟩⟩⟩⟩⟩⟩⟩
theorem hin_X4 : ∀ w ∈ u_ws RX4 TX4 3, w ∈ xtbl := List.forall_mem_cons.mpr ⟨xin_2 136 rfl rfl, List.forall_mem_cons.mpr ⟨xin_2 138 rfl rfl, List.forall_mem_cons.mpr ⟨xin_2 140 rfl rfl, (fun _ h => absurd h List.not_mem_nil)⟩⟩⟩
theorem hin_X5 : ∀ w ∈ u_ws RX5 TX5 8, w ∈ xtbl := List.forall_mem_cons.mpr ⟨xin_1 136 rfl rfl, List.forall_mem_cons.mpr ⟨xin_1 138 rfl rfl, List.forall_mem_cons.mpr ⟨xin_1 140 rfl rfl, List.forall_mem_cons.mpr ⟨xin_1 142 rfl rfl, List.forall_mem_cons.mpr ⟨xin_1 144 rfl rfl, List.forall_mem_cons.mpr ⟨xin_1 146 rfl rfl, List.forall_mem_cons.mpr ⟨xin_1 148 rfl rfl, List.forall_mem_cons.mpr ⟨xin_1 150 rfl rfl, (fun _ h => absurd h List.not_mem_nil)⟩⟩⟩⟩⟩⟩⟩⟩
theorem hin_X6 : ∀ w ∈ u_ws RX6 TX6 10, w ∈ xtbl := List.forall_mem_cons.mpr ⟨xin_2 11 rfl rfl, List.forall_mem_cons.mpr ⟨xin_2 13 rfl rfl, List.forall_mem_cons.mpr ⟨xin_2 15 rfl rfl, List.forall_mem_cons.mpr ⟨xin_2 17 rfl rfl, List.forall_mem_cons.mpr ⟨xin_2 19 rfl rfl, List.forall_mem_cons.mpr ⟨xin_2 21 rfl rfl, List.forall_mem_cons.mpr ⟨xin_2 23 rfl rfl, List.forall_mem_cons.mpr ⟨xin_2 25 rfl rfl, List.forall_mem_cons.mpr ⟨xin_2 27 rfl rfl, List.forall_mem_cons.mpr ⟨xin_2 29 rfl rfl, (fun _ h => absurd h List.not_mem_nil)⟩⟩⟩⟩⟩⟩⟩⟩⟩⟩
theorem hin_X7 : ∀ w ∈ u_ws RX7 TX7 1, w ∈ xtbl := List.forall_mem_cons.mpr ⟨xin_1 97 rfl rfl, (fun _ h => absurd h List.not_mem_nil)⟩
theorem hin_X8 : ∀ w ∈ u_ws RX8 TX8 6, w ∈ xtbl := List.forall_mem_cons.mpr ⟨xin_1 169 rfl rfl, List.forall_mem_cons.mpr ⟨xin_1 171 rfl rfl, List.forall_mem_cons.mpr ⟨xin_1 173 rfl rfl, List.forall_mem_cons.mpr ⟨xin_1 175 rfl rfl, List.forall_mem_cons.mpr ⟨xin_1 177 rfl rfl, List.forall_mem_cons.mpr ⟨xin_1 179 rfl rfl, (fun _ h => absurd h List.not_mem_nil)⟩⟩⟩⟩⟩⟩
theorem hin_X9 : ∀ w ∈ u_ws RX9 TX9 5, w ∈ xtbl := List.forall_mem_cons.mpr ⟨xin_2 37 rfl rfl, List.forall_mem_cons.mpr ⟨xin_2 39 rfl rfl, List.forall_mem_cons.mpr ⟨xin_2 41 rfl rfl, List.forall_mem_cons.mpr ⟨xin_2 43 rfl rfl, List.forall_mem_cons.mpr ⟨xin_2 45 rfl rfl, (fun _ h => absurd h List.not_mem_nil)⟩⟩⟩⟩⟩
theorem hin_X10 : ∀ w ∈ u_ws RX10 TX10 3, w ∈ xtbl := List.forall_mem_cons.mpr ⟨xin_1 121 rfl rfl, List.forall_mem_cons.mpr ⟨xin_1 123 rfl rfl, List.forall_mem_cons.mpr ⟨xin_1 125 rfl rfl, (fun _ h => absurd h List.not_mem_nil)⟩⟩⟩
theorem hin_X11 : ∀ w ∈ u_ws RX11 TX11 6, w ∈ xtbl := List.forall_mem_cons.mpr ⟨xin_2 149 rfl rfl, List.forall_mem_cons.mpr ⟨xin_2 151 rfl rfl, List.forall_mem_cons.mpr ⟨xin_2 153 rfl rfl, List.forall_mem_cons.mpr ⟨xin_2 155 rfl rfl, List.forall_mem_cons.mpr ⟨xin_2 157 rfl rfl, List.forall_mem_cons.mpr ⟨xin_2 159 rfl rfl, (fun _ h => absurd h List.not_mem_nil)⟩⟩⟩⟩⟩⟩
theorem hin_X12 : ∀ w ∈ u_ws RX12 TX12 24, w ∈ xtbl := List.forall_mem_cons.mpr ⟨xin_4 174 rfl rfl, List.forall_mem_cons.mpr ⟨xin_4 176 rfl rfl, List.forall_mem_cons.mpr ⟨xin_4 178 rfl rfl, List.forall_mem_cons.mpr ⟨xin_4 180 rfl rfl, List.forall_mem_cons.mpr ⟨xin_4 182 rfl rfl, List.forall_mem_cons.mpr ⟨xin_4 184 rfl rfl, List.forall_mem_cons.mpr ⟨xin_4 186 rfl rfl, List.forall_mem_cons.mpr ⟨xin_4 188 rfl rfl, List.forall_mem_cons.mpr ⟨xin_4 190 rfl rfl, List.forall_mem_cons.mpr ⟨xin_4 192 rfl rfl, List.forall_mem_cons.mpr ⟨xin_4 194 rfl rfl, List.forall_mem_cons.mpr ⟨xin_4 196 rfl rfl, List.forall_mem_cons.mpr ⟨xin_4 198 rfl rfl, List.forall_mem_cons.mpr ⟨xin_4 200 rfl rfl, List.forall_mem_cons.mpr ⟨xin_4 202 rfl rfl, List.forall_mem_cons.mpr ⟨xin_4 204 rfl rfl, List.forall_mem_cons.mpr ⟨xin_4 206 rfl rfl, List.forall_mem_cons.mpr ⟨xin_4 208 rfl rfl, List.forall_mem_cons.mpr ⟨xin_4 210 rfl rfl, List.forall_mem_cons.mpr ⟨xin_4 212 rfl rfl, List.forall_mem_cons.mpr ⟨xin_4 214 rfl rfl, List.forall_mem_cons.mpr ⟨xin_4 216 rfl rfl, List.forall_mem_cons.mpr ⟨xin_4 218 rfl rfl, List.forall_mem_cons.mpr ⟨xin_4 220 rfl rfl, (fun _ h => absurd h List.not_mem_nil)⟩⟩⟩⟩⟩⟩⟩⟩⟩⟩⟩⟩⟩⟩⟩⟩⟩⟩⟩⟩⟩⟩⟩⟩
theorem hh_X0 : xHin 0 := ⟨by show ∀ w ∈ u_ws RX0 TX0 2, w ∈ xtbl; exact hin_X0, tyX0_ok, nmX0⟩
theorem hh_X1 : xHin 1 := ⟨by show ∀ w ∈ u_ws RX1 TX1 3, w ∈ xtbl; exact hin_X1, tyX1_ok, nmX1⟩
theorem hh_X2 : xHin 2 := ⟨by show ∀ w ∈ u_ws RX2 TX2 4, w ∈ xtbl; exact hin_X2, tyX2_ok, nmX2⟩
theorem hh_X3 : xHin 3 := ⟨by show ∀ w ∈ u_ws RX3 TX3 8, w ∈ xtbl; exact hin_X3, tyX3_ok, nmX3⟩
theorem hh_X4 : xHin 4 := ⟨by show ∀ w ∈ u_ws RX4 TX4 3, w ∈ xtbl; exact hin_X4, tyX4_ok, nmX4⟩
theorem hh_X5 : xHin 5 := ⟨by show ∀ w ∈ u_ws RX5 TX5 8, w ∈ xtbl; exact hin_X5, tyX5_ok, nmX5⟩
theorem hh_X6 : xHin 6 := ⟨by show ∀ w ∈ u_ws RX6 TX6 10, w ∈ xtbl; exact hin_X6, tyX6_ok, nmX6⟩
theorem hh_X7 : xHin 7 := ⟨by show ∀ w ∈ u_ws RX7 TX7 1, w ∈ xtbl; exact hin_X7, tyX7_ok, nmX7⟩
theorem hh_X8 : xHin 8 := ⟨by show ∀ w ∈ u_ws RX8 TX8 6, w ∈ xtbl; exact hin_X8, tyX8_ok, nmX8⟩
theorem hh_X9 : xHin 9 := ⟨by show ∀ w ∈ u_ws RX9 TX9 5, w ∈ xtbl; exact hin_X9, tyX9_ok, nmX9⟩
theorem hh_X10 : xHin 10 := ⟨by show ∀ w ∈ u_ws RX10 TX10 3, w ∈ xtbl; exact hin_X10, tyX10_ok, nmX10⟩
theorem hh_X11 : xHin 11 := ⟨by show ∀ w ∈ u_ws RX11 TX11 6, w ∈ xtbl; exact hin_X11, tyX11_ok, nmX11⟩
theorem hh_X12 : xHin 12 := ⟨by show ∀ w ∈ u_ws RX12 TX12 24, w ∈ xtbl; exact hin_X12, tyX12_ok, nmX12⟩
theorem ff_X0_7 : xFld RX0 7 0 0 (.long) := ⟨by decide, by decide, kf_X0_7, rfl, rfl, hh_X0⟩
theorem ff_X0_13 : xFld RX0 13 0 1 (.long) := ⟨by decide, by decide, kf_X0_13, rfl, rfl, hh_X0⟩
theorem ff_X1_9 : xFld RX1 9 1 0 (.array .int) := ⟨by decide, by decide, kf_X1_9, rfl, rfl, hh_X1⟩
theorem ff_X1_13 : xFld RX1 13 1 1 (.array .int) := ⟨by decide, by decide, kf_X1_13, rfl, rfl, hh_X1⟩
theorem ff_X1_19 : xFld RX1 19 1 2 (.object "PathTracker$Complex") := ⟨by decide, by decide, kf_X1_19, rfl, rfl, hh_X1⟩
theorem ff_X1_68 : xFld RX1 68 10 0 (.object "PathTracker$Complex") := ⟨by decide, by decide, kf_X1_68, rfl, rfl, hh_X10⟩
theorem ff_X1_75 : xFld RX1 75 10 1 (.object "PathTracker$Complex") := ⟨by decide, by decide, kf_X1_75, rfl, rfl, hh_X10⟩
theorem ff_X1_78 : xFld RX1 78 10 2 (.object "PathTracker$Complex") := ⟨by decide, by decide, kf_X1_78, rfl, rfl, hh_X10⟩
theorem ff_X10_10 : xFld RX10 10 10 0 (.object "PathTracker$Complex") := ⟨by decide, by decide, kf_X10_10, rfl, rfl, hh_X10⟩
theorem ff_X10_16 : xFld RX10 16 10 1 (.object "PathTracker$Complex") := ⟨by decide, by decide, kf_X10_16, rfl, rfl, hh_X10⟩
theorem ff_X10_19 : xFld RX10 19 10 2 (.object "PathTracker$Complex") := ⟨by decide, by decide, kf_X10_19, rfl, rfl, hh_X10⟩
theorem ff_X11_10 : xFld RX11 10 11 0 (.object "PathTracker$EquationText") := ⟨by decide, by decide, kf_X11_10, rfl, rfl, hh_X11⟩
theorem ff_X11_19 : xFld RX11 19 11 1 (.object "PathTracker$Follower") := ⟨by decide, by decide, kf_X11_19, rfl, rfl, hh_X11⟩
theorem ff_X11_26 : xFld RX11 26 11 2 (.object "PathTracker$State") := ⟨by decide, by decide, kf_X11_26, rfl, rfl, hh_X11⟩
theorem ff_X11_36 : xFld RX11 36 11 3 (.object "PathTracker$History") := ⟨by decide, by decide, kf_X11_36, rfl, rfl, hh_X11⟩
theorem ff_X11_40 : xFld RX11 40 11 4 (.array (.object "PathTracker$State")) := ⟨by decide, by decide, kf_X11_40, rfl, rfl, hh_X11⟩
theorem ff_X11_44 : xFld RX11 44 11 5 (.array .boolean) := ⟨by decide, by decide, kf_X11_44, rfl, rfl, hh_X11⟩
theorem ff_X11_105 : xFld RX11 105 6 2 (.int) := ⟨by decide, by decide, kf_X11_105, rfl, rfl, hh_X6⟩
theorem ff_X11_125 : xFld RX11 125 6 5 (.int) := ⟨by decide, by decide, kf_X11_125, rfl, rfl, hh_X6⟩
theorem ff_X11_137 : xFld RX11 137 6 3 (.int) := ⟨by decide, by decide, kf_X11_137, rfl, rfl, hh_X6⟩
theorem ff_X11_140 : xFld RX11 140 6 7 (.int) := ⟨by decide, by decide, kf_X11_140, rfl, rfl, hh_X6⟩
theorem ff_X11_143 : xFld RX11 143 6 8 (.int) := ⟨by decide, by decide, kf_X11_143, rfl, rfl, hh_X6⟩
theorem ff_X11_146 : xFld RX11 146 6 6 (.int) := ⟨by decide, by decide, kf_X11_146, rfl, rfl, hh_X6⟩
theorem ff_X11_149 : xFld RX11 149 6 4 (.int) := ⟨by decide, by decide, kf_X11_149, rfl, rfl, hh_X6⟩
theorem ff_X12_7 : xFld RX12 7 12 0 (.array .int) := ⟨by decide, by decide, kf_X12_7, rfl, rfl, hh_X12⟩
theorem ff_X12_13 : xFld RX12 13 12 1 (.array .int) := ⟨by decide, by decide, kf_X12_13, rfl, rfl, hh_X12⟩
theorem ff_X12_16 : xFld RX12 16 12 3 (.array .int) := ⟨by decide, by decide, kf_X12_16, rfl, rfl, hh_X12⟩
theorem ff_X12_19 : xFld RX12 19 12 4 (.array .boolean) := ⟨by decide, by decide, kf_X12_19, rfl, rfl, hh_X12⟩
theorem ff_X12_23 : xFld RX12 23 12 5 (.array .int) := ⟨by decide, by decide, kf_X12_23, rfl, rfl, hh_X12⟩
theorem ff_X12_28 : xFld RX12 28 12 9 (.long) := ⟨by decide, by decide, kf_X12_28, rfl, rfl, hh_X12⟩
theorem ff_X12_32 : xFld RX12 32 12 10 (.array .long) := ⟨by decide, by decide, kf_X12_32, rfl, rfl, hh_X12⟩
theorem ff_X12_36 : xFld RX12 36 12 11 (.array .long) := ⟨by decide, by decide, kf_X12_36, rfl, rfl, hh_X12⟩
theorem ff_X12_39 : xFld RX12 39 12 12 (.array .long) := ⟨by decide, by decide, kf_X12_39, rfl, rfl, hh_X12⟩
theorem ff_X12_42 : xFld RX12 42 12 13 (.array .long) := ⟨by decide, by decide, kf_X12_42, rfl, rfl, hh_X12⟩
theorem ff_X12_45 : xFld RX12 45 12 14 (.array .long) := ⟨by decide, by decide, kf_X12_45, rfl, rfl, hh_X12⟩
theorem ff_X12_48 : xFld RX12 48 12 15 (.array .long) := ⟨by decide, by decide, kf_X12_48, rfl, rfl, hh_X12⟩
theorem ff_X12_51 : xFld RX12 51 12 16 (.array .long) := ⟨by decide, by decide, kf_X12_51, rfl, rfl, hh_X12⟩
theorem ff_X12_54 : xFld RX12 54 12 17 (.array .long) := ⟨by decide, by decide, kf_X12_54, rfl, rfl, hh_X12⟩
theorem ff_X12_57 : xFld RX12 57 12 23 (.array .int) := ⟨by decide, by decide, kf_X12_57, rfl, rfl, hh_X12⟩
theorem ff_X12_75 : xFld RX12 75 12 2 (.int) := ⟨by decide, by decide, kf_X12_75, rfl, rfl, hh_X12⟩
theorem ff_X12_87 : xFld RX12 87 12 7 (.long) := ⟨by decide, by decide, kf_X12_87, rfl, rfl, hh_X12⟩
theorem ff_X12_90 : xFld RX12 90 12 8 (.long) := ⟨by decide, by decide, kf_X12_90, rfl, rfl, hh_X12⟩
theorem ff_X12_243 : xFld RX12 243 12 6 (.int) := ⟨by decide, by decide, kf_X12_243, rfl, rfl, hh_X12⟩
theorem ff_X12_247 : xFld RX12 247 12 18 (.int) := ⟨by decide, by decide, kf_X12_247, rfl, rfl, hh_X12⟩
theorem ff_X12_253 : xFld RX12 253 12 19 (.int) := ⟨by decide, by decide, kf_X12_253, rfl, rfl, hh_X12⟩
theorem ff_X12_256 : xFld RX12 256 12 20 (.int) := ⟨by decide, by decide, kf_X12_256, rfl, rfl, hh_X12⟩
theorem ff_X12_259 : xFld RX12 259 12 21 (.int) := ⟨by decide, by decide, kf_X12_259, rfl, rfl, hh_X12⟩
theorem ff_X12_265 : xFld RX12 265 12 22 (.boolean) := ⟨by decide, by decide, kf_X12_265, rfl, rfl, hh_X12⟩
theorem ff_X2_9 : xFld RX2 9 2 0 (.array .int) := ⟨by decide, by decide, kf_X2_9, rfl, rfl, hh_X2⟩
theorem ff_X2_16 : xFld RX2 16 2 1 (.object "PathTracker$Equation") := ⟨by decide, by decide, kf_X2_16, rfl, rfl, hh_X2⟩
theorem ff_X2_20 : xFld RX2 20 2 2 (.int) := ⟨by decide, by decide, kf_X2_20, rfl, rfl, hh_X2⟩
theorem ff_X2_24 : xFld RX2 24 2 3 (.int) := ⟨by decide, by decide, kf_X2_24, rfl, rfl, hh_X2⟩
theorem ff_X3_10 : xFld RX3 10 3 0 (.object "PathTracker$Homotopy") := ⟨by decide, by decide, kf_X3_10, rfl, rfl, hh_X3⟩
theorem ff_X3_19 : xFld RX3 19 3 1 (.object "PathTracker$Solver") := ⟨by decide, by decide, kf_X3_19, rfl, rfl, hh_X3⟩
theorem ff_X3_26 : xFld RX3 26 3 2 (.object "PathTracker$Complex") := ⟨by decide, by decide, kf_X3_26, rfl, rfl, hh_X3⟩
theorem ff_X3_30 : xFld RX3 30 3 3 (.object "PathTracker$Complex") := ⟨by decide, by decide, kf_X3_30, rfl, rfl, hh_X3⟩
theorem ff_X3_43 : xFld RX3 43 3 4 (.int) := ⟨by decide, by decide, kf_X3_43, rfl, rfl, hh_X3⟩
theorem ff_X3_47 : xFld RX3 47 3 5 (.int) := ⟨by decide, by decide, kf_X3_47, rfl, rfl, hh_X3⟩
theorem ff_X3_50 : xFld RX3 50 3 6 (.int) := ⟨by decide, by decide, kf_X3_50, rfl, rfl, hh_X3⟩
theorem ff_X3_53 : xFld RX3 53 3 7 (.int) := ⟨by decide, by decide, kf_X3_53, rfl, rfl, hh_X3⟩
theorem ff_X3_56 : xFld RX3 56 6 2 (.int) := ⟨by decide, by decide, kf_X3_56, rfl, rfl, hh_X6⟩
theorem ff_X3_61 : xFld RX3 61 6 4 (.int) := ⟨by decide, by decide, kf_X3_61, rfl, rfl, hh_X6⟩
theorem ff_X3_64 : xFld RX3 64 6 3 (.int) := ⟨by decide, by decide, kf_X3_64, rfl, rfl, hh_X6⟩
theorem ff_X3_73 : xFld RX3 73 6 0 (.object "PathTracker$Complex") := ⟨by decide, by decide, kf_X3_73, rfl, rfl, hh_X6⟩
theorem ff_X3_78 : xFld RX3 78 6 1 (.object "PathTracker$Complex") := ⟨by decide, by decide, kf_X3_78, rfl, rfl, hh_X6⟩
theorem ff_X3_103 : xFld RX3 103 8 0 (.object "PathTracker$Complex") := ⟨by decide, by decide, kf_X3_103, rfl, rfl, hh_X8⟩
theorem ff_X3_110 : xFld RX3 110 10 0 (.object "PathTracker$Complex") := ⟨by decide, by decide, kf_X3_110, rfl, rfl, hh_X10⟩
theorem ff_X3_128 : xFld RX3 128 8 1 (.object "PathTracker$Complex") := ⟨by decide, by decide, kf_X3_128, rfl, rfl, hh_X8⟩
theorem ff_X4_11 : xFld RX4 11 4 0 (.array (.object "PathTracker$State")) := ⟨by decide, by decide, kf_X4_11, rfl, rfl, hh_X4⟩
theorem ff_X4_16 : xFld RX4 16 4 2 (.int) := ⟨by decide, by decide, kf_X4_16, rfl, rfl, hh_X4⟩
theorem ff_X4_20 : xFld RX4 20 4 1 (.int) := ⟨by decide, by decide, kf_X4_20, rfl, rfl, hh_X4⟩
theorem ff_X5_10 : xFld RX5 10 5 0 (.object "PathTracker$Powers") := ⟨by decide, by decide, kf_X5_10, rfl, rfl, hh_X5⟩
theorem ff_X5_18 : xFld RX5 18 5 1 (.array (.object "PathTracker$Equation")) := ⟨by decide, by decide, kf_X5_18, rfl, rfl, hh_X5⟩
theorem ff_X5_22 : xFld RX5 22 5 2 (.array (.object "PathTracker$Equation")) := ⟨by decide, by decide, kf_X5_22, rfl, rfl, hh_X5⟩
theorem ff_X5_27 : xFld RX5 27 5 3 (.array (.object "PathTracker$Tangent")) := ⟨by decide, by decide, kf_X5_27, rfl, rfl, hh_X5⟩
theorem ff_X5_31 : xFld RX5 31 5 4 (.array (.object "PathTracker$Tangent")) := ⟨by decide, by decide, kf_X5_31, rfl, rfl, hh_X5⟩
theorem ff_X5_34 : xFld RX5 34 5 5 (.array (.object "PathTracker$Tangent")) := ⟨by decide, by decide, kf_X5_34, rfl, rfl, hh_X5⟩
theorem ff_X5_61 : xFld RX5 61 5 6 (.int) := ⟨by decide, by decide, kf_X5_61, rfl, rfl, hh_X5⟩
theorem ff_X5_65 : xFld RX5 65 5 7 (.int) := ⟨by decide, by decide, kf_X5_65, rfl, rfl, hh_X5⟩
theorem ff_X6_10 : xFld RX6 10 6 0 (.object "PathTracker$Complex") := ⟨by decide, by decide, kf_X6_10, rfl, rfl, hh_X6⟩
theorem ff_X6_16 : xFld RX6 16 6 1 (.object "PathTracker$Complex") := ⟨by decide, by decide, kf_X6_16, rfl, rfl, hh_X6⟩
theorem ff_X6_19 : xFld RX6 19 6 2 (.int) := ⟨by decide, by decide, kf_X6_19, rfl, rfl, hh_X6⟩
theorem ff_X6_23 : xFld RX6 23 6 3 (.int) := ⟨by decide, by decide, kf_X6_23, rfl, rfl, hh_X6⟩
theorem ff_X6_26 : xFld RX6 26 6 5 (.int) := ⟨by decide, by decide, kf_X6_26, rfl, rfl, hh_X6⟩
theorem ff_X6_35 : xFld RX6 35 6 4 (.int) := ⟨by decide, by decide, kf_X6_35, rfl, rfl, hh_X6⟩
theorem ff_X6_38 : xFld RX6 38 6 6 (.int) := ⟨by decide, by decide, kf_X6_38, rfl, rfl, hh_X6⟩
theorem ff_X6_41 : xFld RX6 41 6 7 (.int) := ⟨by decide, by decide, kf_X6_41, rfl, rfl, hh_X6⟩
theorem ff_X6_44 : xFld RX6 44 6 8 (.int) := ⟨by decide, by decide, kf_X6_44, rfl, rfl, hh_X6⟩
theorem ff_X6_47 : xFld RX6 47 6 9 (.int) := ⟨by decide, by decide, kf_X6_47, rfl, rfl, hh_X6⟩
theorem ff_X6_89 : xFld RX6 89 0 0 (.long) := ⟨by decide, by decide, kf_X6_89, rfl, rfl, hh_X0⟩
theorem ff_X6_97 : xFld RX6 97 0 1 (.long) := ⟨by decide, by decide, kf_X6_97, rfl, rfl, hh_X0⟩
theorem ff_X7_11 : xFld RX7 11 7 0 (.array (.object "PathTracker$Complex")) := ⟨by decide, by decide, kf_X7_11, rfl, rfl, hh_X7⟩
theorem ff_X8_10 : xFld RX8 10 8 0 (.object "PathTracker$Complex") := ⟨by decide, by decide, kf_X8_10, rfl, rfl, hh_X8⟩
theorem ff_X8_16 : xFld RX8 16 8 1 (.object "PathTracker$Complex") := ⟨by decide, by decide, kf_X8_16, rfl, rfl, hh_X8⟩
theorem ff_X8_19 : xFld RX8 19 8 2 (.object "PathTracker$Complex") := ⟨by decide, by decide, kf_X8_19, rfl, rfl, hh_X8⟩
theorem ff_X8_22 : xFld RX8 22 8 3 (.object "PathTracker$Complex") := ⟨by decide, by decide, kf_X8_22, rfl, rfl, hh_X8⟩
theorem ff_X8_25 : xFld RX8 25 8 4 (.object "PathTracker$Complex") := ⟨by decide, by decide, kf_X8_25, rfl, rfl, hh_X8⟩
theorem ff_X8_28 : xFld RX8 28 8 5 (.object "PathTracker$Complex") := ⟨by decide, by decide, kf_X8_28, rfl, rfl, hh_X8⟩
theorem ff_X8_39 : xFld RX8 39 10 1 (.object "PathTracker$Complex") := ⟨by decide, by decide, kf_X8_39, rfl, rfl, hh_X10⟩
theorem ff_X8_44 : xFld RX8 44 10 2 (.object "PathTracker$Complex") := ⟨by decide, by decide, kf_X8_44, rfl, rfl, hh_X10⟩
theorem ff_X9_10 : xFld RX9 10 9 0 (.object "PathTracker$Equation") := ⟨by decide, by decide, kf_X9_10, rfl, rfl, hh_X9⟩
theorem ff_X9_16 : xFld RX9 16 9 1 (.object "PathTracker$Equation") := ⟨by decide, by decide, kf_X9_16, rfl, rfl, hh_X9⟩
theorem ff_X9_19 : xFld RX9 19 9 2 (.array .int) := ⟨by decide, by decide, kf_X9_19, rfl, rfl, hh_X9⟩
theorem ff_X9_25 : xFld RX9 25 9 3 (.array (.object "PathTracker$Path")) := ⟨by decide, by decide, kf_X9_25, rfl, rfl, hh_X9⟩
theorem ff_X9_47 : xFld RX9 47 9 4 (.int) := ⟨by decide, by decide, kf_X9_47, rfl, rfl, hh_X9⟩
theorem ff_X9_92 : xFld RX9 92 6 2 (.int) := ⟨by decide, by decide, kf_X9_92, rfl, rfl, hh_X6⟩
theorem ff_X9_109 : xFld RX9 109 6 3 (.int) := ⟨by decide, by decide, kf_X9_109, rfl, rfl, hh_X6⟩
theorem ff_X9_112 : xFld RX9 112 6 4 (.int) := ⟨by decide, by decide, kf_X9_112, rfl, rfl, hh_X6⟩
theorem mt_X0_init : xMt yX0_init cX0_init 1 none 0 := ⟨kc_X0_init, kn_X0, by decide +kernel⟩
theorem mt_X0_put : xMt yX0_put cX0_put 5 none 2 := ⟨kc_X0_put, kn_X0, by decide +kernel⟩
theorem mt_X0_copy : xMt yX0_copy cX0_copy 2 none 1 := ⟨kc_X0_copy, kn_X0, by decide +kernel⟩
theorem mt_X0_add : xMt yX0_add cX0_add 2 none 1 := ⟨kc_X0_add, kn_X0, by decide +kernel⟩
theorem mt_X0_putDifference : xMt yX0_putDifference cX0_putDifference 3 none 2 := ⟨kc_X0_putDifference, kn_X0, by decide +kernel⟩
theorem mt_X0_putNegative : xMt yX0_putNegative cX0_putNegative 2 none 1 := ⟨kc_X0_putNegative, kn_X0, by decide +kernel⟩
theorem mt_X0_scale : xMt yX0_scale cX0_scale 3 none 1 := ⟨kc_X0_scale, kn_X0, by decide +kernel⟩
theorem mt_X0_takeShare : xMt yX0_takeShare cX0_takeShare 5 none 2 := ⟨kc_X0_takeShare, kn_X0, by decide +kernel⟩
theorem mt_X0_putMix : xMt yX0_putMix cX0_putMix 9 none 4 := ⟨kc_X0_putMix, kn_X0, by decide +kernel⟩
theorem mt_X0_putTimesGaussian : xMt yX0_putTimesGaussian cX0_putTimesGaussian 6 none 3 := ⟨kc_X0_putTimesGaussian, kn_X0, by decide +kernel⟩
theorem mt_X0_putProduct : xMt yX0_putProduct cX0_putProduct 5 none 3 := ⟨kc_X0_putProduct, kn_X0, by decide +kernel⟩
theorem mt_X0_divideBy : xMt yX0_divideBy cX0_divideBy 6 (some .boolean) 2 := ⟨kc_X0_divideBy, kn_X0, by decide +kernel⟩
theorem mt_X0_size : xMt yX0_size cX0_size 1 (some .long) 0 := ⟨kc_X0_size, kn_X0, by decide +kernel⟩
theorem mt_X0_thousandths : xMt yX0_thousandths cX0_thousandths 4 (some .int) 2 := ⟨kc_X0_thousandths, kn_X0, by decide +kernel⟩
theorem mt_X1_init : xMt yX1_init cX1_init 1 none 0 := ⟨kc_X1_init, kn_X1, by decide +kernel⟩
theorem mt_X1_termOf : xMt yX1_termOf cX1_termOf 3 (some .int) 2 := ⟨kc_X1_termOf, kn_X1, by decide +kernel⟩
theorem mt_X1_heldCoefficient : xMt yX1_heldCoefficient cX1_heldCoefficient 1 (some .int) 1 := ⟨kc_X1_heldCoefficient, kn_X1, by decide +kernel⟩
theorem mt_X1_clear : xMt yX1_clear cX1_clear 2 none 0 := ⟨kc_X1_clear, kn_X1, by decide +kernel⟩
theorem mt_X1_copy : xMt yX1_copy cX1_copy 3 none 1 := ⟨kc_X1_copy, kn_X1, by decide +kernel⟩
theorem mt_X1_addTerm : xMt yX1_addTerm cX1_addTerm 6 none 4 := ⟨kc_X1_addTerm, kn_X1, by decide +kernel⟩
theorem mt_X1_putStart : xMt yX1_putStart cX1_putStart 3 none 2 := ⟨kc_X1_putStart, kn_X1, by decide +kernel⟩
theorem mt_X1_realPart : xMt yX1_realPart cX1_realPart 3 (some .int) 2 := ⟨kc_X1_realPart, kn_X1, by decide +kernel⟩
theorem mt_X1_imaginaryPart : xMt yX1_imaginaryPart cX1_imaginaryPart 3 (some .int) 2 := ⟨kc_X1_imaginaryPart, kn_X1, by decide +kernel⟩
theorem mt_X1_degree : xMt yX1_degree cX1_degree 3 (some .int) 0 := ⟨kc_X1_degree, kn_X1, by decide +kernel⟩
theorem mt_X10_clear : xMt yX10_clear cX10_clear 1 none 0 := ⟨kc_X10_clear, kn_X10, by decide +kernel⟩
theorem mt_X7_at : xMt yX7_at cX7_at 2 (some (.object "PathTracker$Complex")) 1 := ⟨kc_X7_at, kn_X7, by decide +kernel⟩
theorem mt_X1_evaluate : xMt yX1_evaluate cX1_evaluate 6 none 2 := ⟨kc_X1_evaluate, kn_X1, by decide +kernel⟩
theorem mt_X2_init : xMt yX2_init cX2_init 1 none 0 := ⟨kc_X2_init, kn_X2, by decide +kernel⟩
theorem mt_X2_length : xMt yX2_length cX2_length 1 (some .int) 0 := ⟨kc_X2_length, kn_X2, by decide +kernel⟩
theorem mt_X2_append : xMt yX2_append cX2_append 2 (some .boolean) 1 := ⟨kc_X2_append, kn_X2, by decide +kernel⟩
theorem mt_X2_empty : xMt yX2_empty cX2_empty 1 none 0 := ⟨kc_X2_empty, kn_X2, by decide +kernel⟩
theorem mt_X2_readingPlace : xMt yX2_readingPlace cX2_readingPlace 1 (some .int) 0 := ⟨kc_X2_readingPlace, kn_X2, by decide +kernel⟩
theorem mt_X2_readEquation : xMt yX2_readEquation cX2_readEquation 1 (some (.object "PathTracker$Equation")) 0 := ⟨kc_X2_readEquation, kn_X2, by decide +kernel⟩
theorem mt_X2_signHere : xMt yX2_signHere cX2_signHere 2 (some .int) 0 := ⟨kc_X2_signHere, kn_X2, by decide +kernel⟩
theorem mt_X2_isDigit : xMt yX2_isDigit cX2_isDigit 1 (some .boolean) 1 := ⟨kc_X2_isDigit, kn_X2, by decide +kernel⟩
theorem mt_X2_readNumber : xMt yX2_readNumber cX2_readNumber 3 (some .int) 0 := ⟨kc_X2_readNumber, kn_X2, by decide +kernel⟩
theorem mt_X2_isUnknown : xMt yX2_isUnknown cX2_isUnknown 1 (some .boolean) 1 := ⟨kc_X2_isUnknown, kn_X2, by decide +kernel⟩
theorem mt_X2_readFactor : xMt yX2_readFactor cX2_readFactor 3 (some .int) 1 := ⟨kc_X2_readFactor, kn_X2, by decide +kernel⟩
theorem mt_X2_readTerm : xMt yX2_readTerm cX2_readTerm 10 (some .boolean) 1 := ⟨kc_X2_readTerm, kn_X2, by decide +kernel⟩
theorem mt_X2_read : xMt yX2_read cX2_read 4 (some .boolean) 0 := ⟨kc_X2_read, kn_X2, by decide +kernel⟩
theorem mt_X7_init : xMt yX7_init cX7_init 2 none 0 := ⟨kc_X7_init, kn_X7, by decide +kernel⟩
theorem mt_X10_init : xMt yX10_init cX10_init 1 none 0 := ⟨kc_X10_init, kn_X10, by decide +kernel⟩
theorem mt_X5_init : xMt yX5_init cX5_init 2 none 0 := ⟨kc_X5_init, kn_X5, by decide +kernel⟩
theorem mt_X8_init : xMt yX8_init cX8_init 1 none 0 := ⟨kc_X8_init, kn_X8, by decide +kernel⟩
theorem mt_X3_init : xMt yX3_init cX3_init 1 none 0 := ⟨kc_X3_init, kn_X3, by decide +kernel⟩
theorem mt_X9_equationAt : xMt yX9_equationAt cX9_equationAt 2 (some (.object "PathTracker$Equation")) 1 := ⟨kc_X9_equationAt, kn_X9, by decide +kernel⟩
theorem mt_X9_setting : xMt yX9_setting cX9_setting 2 (some .int) 1 := ⟨kc_X9_setting, kn_X9, by decide +kernel⟩
theorem mt_X5_aim : xMt yX5_aim cX5_aim 3 none 1 := ⟨kc_X5_aim, kn_X5, by decide +kernel⟩
theorem mt_X3_aim : xMt yX3_aim cX3_aim 2 none 1 := ⟨kc_X3_aim, kn_X3, by decide +kernel⟩
theorem mt_X6_unit : xMt yX6_unit cX6_unit 1 (some .long) 0 := ⟨kc_X6_unit, kn_X6, by decide +kernel⟩
theorem mt_X7_fill : xMt yX7_fill cX7_fill 5 none 3 := ⟨kc_X7_fill, kn_X7, by decide +kernel⟩
theorem mt_X10_timesGaussian : xMt yX10_timesGaussian cX10_timesGaussian 5 none 2 := ⟨kc_X10_timesGaussian, kn_X10, by decide +kernel⟩
theorem mt_X10_putMix : xMt yX10_putMix cX10_putMix 7 none 4 := ⟨kc_X10_putMix, kn_X10, by decide +kernel⟩
theorem mt_X5_evaluate : xMt yX5_evaluate cX5_evaluate 7 none 4 := ⟨kc_X5_evaluate, kn_X5, by decide +kernel⟩
theorem mt_X5_begin : xMt yX5_begin cX5_begin 2 (some (.object "PathTracker$Tangent")) 1 := ⟨kc_X5_begin, kn_X5, by decide +kernel⟩
theorem mt_X5_end : xMt yX5_end cX5_end 2 (some (.object "PathTracker$Tangent")) 1 := ⟨kc_X5_end, kn_X5, by decide +kernel⟩
theorem mt_X5_mix : xMt yX5_mix cX5_mix 2 (some (.object "PathTracker$Tangent")) 1 := ⟨kc_X5_mix, kn_X5, by decide +kernel⟩
theorem mt_X8_cross : xMt yX8_cross cX8_cross 8 none 6 := ⟨kc_X8_cross, kn_X8, by decide +kernel⟩
theorem mt_X8_moveBySolution : xMt yX8_moveBySolution cX8_moveBySolution 7 (some .boolean) 5 := ⟨kc_X8_moveBySolution, kn_X8, by decide +kernel⟩
theorem mt_X3_predict : xMt yX3_predict cX3_predict 5 (some .boolean) 3 := ⟨kc_X3_predict, kn_X3, by decide +kernel⟩
theorem mt_X8_solutionSize : xMt yX8_solutionSize cX8_solutionSize 1 (some .long) 0 := ⟨kc_X8_solutionSize, kn_X8, by decide +kernel⟩
theorem mt_X3_correct : xMt yX3_correct cX3_correct 9 (some .boolean) 2 := ⟨kc_X3_correct, kn_X3, by decide +kernel⟩
theorem mt_X6_moveOn : xMt yX6_moveOn cX6_moveOn 5 none 4 := ⟨kc_X6_moveOn, kn_X6, by decide +kernel⟩
theorem mt_X6_shorten : xMt yX6_shorten cX6_shorten 2 none 1 := ⟨kc_X6_shorten, kn_X6, by decide +kernel⟩
theorem mt_X3_follow : xMt yX3_follow cX3_follow 5 (some .int) 2 := ⟨kc_X3_follow, kn_X3, by decide +kernel⟩
theorem mt_X3_residue : xMt yX3_residue cX3_residue 4 (some .int) 1 := ⟨kc_X3_residue, kn_X3, by decide +kernel⟩
theorem mt_X6_init : xMt yX6_init cX6_init 1 none 0 := ⟨kc_X6_init, kn_X6, by decide +kernel⟩
theorem mt_X9_init : xMt yX9_init cX9_init 2 none 0 := ⟨kc_X9_init, kn_X9, by decide +kernel⟩
theorem mt_X4_init : xMt yX4_init cX4_init 2 none 0 := ⟨kc_X4_init, kn_X4, by decide +kernel⟩
theorem mt_X4_size : xMt yX4_size cX4_size 1 (some .int) 0 := ⟨kc_X4_size, kn_X4, by decide +kernel⟩
theorem mt_J9_floorMod_7cf53 : xMt yJ9_floorMod_7cf53 cJ9_floorMod_7cf53 3 (some .int) 2 := ⟨kc_J9_floorMod_7cf53, kn_J9, by decide +kernel⟩
theorem mt_X6_copy : xMt yX6_copy cX6_copy 2 none 1 := ⟨kc_X6_copy, kn_X6, by decide +kernel⟩
theorem mt_X9_copy : xMt yX9_copy cX9_copy 3 none 1 := ⟨kc_X9_copy, kn_X9, by decide +kernel⟩
theorem mt_X4_record : xMt yX4_record cX4_record 2 none 1 := ⟨kc_X4_record, kn_X4, by decide +kernel⟩
theorem mt_X4_takeBack : xMt yX4_takeBack cX4_takeBack 2 (some .boolean) 1 := ⟨kc_X4_takeBack, kn_X4, by decide +kernel⟩
theorem mt_X6_begin : xMt yX6_begin cX6_begin 3 none 2 := ⟨kc_X6_begin, kn_X6, by decide +kernel⟩
theorem mt_X6_putRootOfOne : xMt yX6_putRootOfOne cX6_putRootOfOne 7 none 4 := ⟨kc_X6_putRootOfOne, kn_X6, by decide +kernel⟩
theorem mt_X6_putOnRoots : xMt yX6_putOnRoots cX6_putOnRoots 5 none 4 := ⟨kc_X6_putOnRoots, kn_X6, by decide +kernel⟩
theorem mt_X6_part : xMt yX6_part cX6_part 2 (some .int) 1 := ⟨kc_X6_part, kn_X6, by decide +kernel⟩
theorem mt_X6_isNear : xMt yX6_isNear cX6_isNear 6 (some .boolean) 2 := ⟨kc_X6_isNear, kn_X6, by decide +kernel⟩
theorem mt_X6_isReal : xMt yX6_isReal cX6_isReal 2 (some .boolean) 1 := ⟨kc_X6_isReal, kn_X6, by decide +kernel⟩
theorem mt_J6_compare_7cf53 : xMt yJ6_compare_7cf53 cJ6_compare_7cf53 2 (some .int) 2 := ⟨kc_J6_compare_7cf53, kn_J6, by decide +kernel⟩
theorem mt_X6_compareParts : xMt yX6_compareParts cX6_compareParts 4 (some .int) 1 := ⟨kc_X6_compareParts, kn_X6, by decide +kernel⟩
theorem mt_X9_hasPath : xMt yX9_hasPath cX9_hasPath 2 (some .boolean) 1 := ⟨kc_X9_hasPath, kn_X9, by decide +kernel⟩
theorem mt_X9_beginPath : xMt yX9_beginPath cX9_beginPath 5 none 2 := ⟨kc_X9_beginPath, kn_X9, by decide +kernel⟩
theorem mt_X9_beginPaths : xMt yX9_beginPaths cX9_beginPaths 2 none 0 := ⟨kc_X9_beginPaths, kn_X9, by decide +kernel⟩
theorem mt_X9_putFirstState : xMt yX9_putFirstState cX9_putFirstState 2 none 0 := ⟨kc_X9_putFirstState, kn_X9, by decide +kernel⟩
theorem mt_X9_putEquation : xMt yX9_putEquation cX9_putEquation 3 none 2 := ⟨kc_X9_putEquation, kn_X9, by decide +kernel⟩
theorem mt_X9_inRange : xMt yX9_inRange cX9_inRange 3 (some .boolean) 2 := ⟨kc_X9_inRange, kn_X9, by decide +kernel⟩
theorem mt_X9_putSetting : xMt yX9_putSetting cX9_putSetting 3 none 2 := ⟨kc_X9_putSetting, kn_X9, by decide +kernel⟩
theorem mt_X9_isOtherGammaPartZero : xMt yX9_isOtherGammaPartZero cX9_isOtherGammaPartZero 2 (some .boolean) 1 := ⟨kc_X9_isOtherGammaPartZero, kn_X9, by decide +kernel⟩
theorem mt_X9_pathCount : xMt yX9_pathCount cX9_pathCount 1 (some .int) 0 := ⟨kc_X9_pathCount, kn_X9, by decide +kernel⟩
theorem mt_X9_pathAt : xMt yX9_pathAt cX9_pathAt 2 (some (.object "PathTracker$Path")) 1 := ⟨kc_X9_pathAt, kn_X9, by decide +kernel⟩
theorem mt_X9_pathsOfStatus : xMt yX9_pathsOfStatus cX9_pathsOfStatus 4 (some .int) 1 := ⟨kc_X9_pathsOfStatus, kn_X9, by decide +kernel⟩
theorem mt_X9_firstMetBelow : xMt yX9_firstMetBelow cX9_firstMetBelow 5 (some .int) 2 := ⟨kc_X9_firstMetBelow, kn_X9, by decide +kernel⟩
theorem mt_X9_distinctEnds : xMt yX9_distinctEnds cX9_distinctEnds 3 (some .int) 0 := ⟨kc_X9_distinctEnds, kn_X9, by decide +kernel⟩
theorem mt_X9_realEnds : xMt yX9_realEnds cX9_realEnds 3 (some .int) 0 := ⟨kc_X9_realEnds, kn_X9, by decide +kernel⟩
theorem mt_X9_isBehind : xMt yX9_isBehind cX9_isBehind 2 (some .boolean) 2 := ⟨kc_X9_isBehind, kn_X9, by decide +kernel⟩
theorem mt_X9_mostBehind : xMt yX9_mostBehind cX9_mostBehind 4 (some .int) 0 := ⟨kc_X9_mostBehind, kn_X9, by decide +kernel⟩
theorem mt_X9_endsBefore : xMt yX9_endsBefore cX9_endsBefore 5 (some .int) 1 := ⟨kc_X9_endsBefore, kn_X9, by decide +kernel⟩
theorem mt_X9_endOfRank : xMt yX9_endOfRank cX9_endOfRank 3 (some .int) 1 := ⟨kc_X9_endOfRank, kn_X9, by decide +kernel⟩
theorem mt_X11_init : xMt yX11_init cX11_init 2 none 0 := ⟨kc_X11_init, kn_X11, by decide +kernel⟩
theorem mt_X11_type : xMt yX11_type cX11_type 2 (some .int) 1 := ⟨kc_X11_type, kn_X11, by decide +kernel⟩
theorem mt_X11_wipe : xMt yX11_wipe cX11_wipe 2 (some .int) 0 := ⟨kc_X11_wipe, kn_X11, by decide +kernel⟩
theorem mt_X11_fault : xMt yX11_fault cX11_fault 1 (some .int) 0 := ⟨kc_X11_fault, kn_X11, by decide +kernel⟩
theorem mt_X11_equation : xMt yX11_equation cX11_equation 3 (some .int) 1 := ⟨kc_X11_equation, kn_X11, by decide +kernel⟩
theorem mt_X11_coefficient : xMt yX11_coefficient cX11_coefficient 6 (some .int) 4 := ⟨kc_X11_coefficient, kn_X11, by decide +kernel⟩
theorem mt_X11_track : xMt yX11_track cX11_track 4 (some .int) 2 := ⟨kc_X11_track, kn_X11, by decide +kernel⟩
theorem mt_X11_trackAll : xMt yX11_trackAll cX11_trackAll 4 (some .int) 1 := ⟨kc_X11_trackAll, kn_X11, by decide +kernel⟩
theorem mt_X11_again : xMt yX11_again cX11_again 3 (some .int) 1 := ⟨kc_X11_again, kn_X11, by decide +kernel⟩
theorem mt_X11_path : xMt yX11_path cX11_path 4 (some .int) 2 := ⟨kc_X11_path, kn_X11, by decide +kernel⟩
theorem mt_X11_meets : xMt yX11_meets cX11_meets 3 (some .int) 1 := ⟨kc_X11_meets, kn_X11, by decide +kernel⟩
theorem mt_X11_next : xMt yX11_next cX11_next 2 (some .int) 0 := ⟨kc_X11_next, kn_X11, by decide +kernel⟩
theorem mt_X11_endAt : xMt yX11_endAt cX11_endAt 3 (some .int) 1 := ⟨kc_X11_endAt, kn_X11, by decide +kernel⟩
theorem mt_X11_set : xMt yX11_set cX11_set 4 (some .int) 2 := ⟨kc_X11_set, kn_X11, by decide +kernel⟩
theorem mt_X11_count : xMt yX11_count cX11_count 2 (some .int) 1 := ⟨kc_X11_count, kn_X11, by decide +kernel⟩
theorem mt_X11_undo : xMt yX11_undo cX11_undo 1 (some .int) 0 := ⟨kc_X11_undo, kn_X11, by decide +kernel⟩
theorem mt_X11_save : xMt yX11_save cX11_save 2 (some .int) 1 := ⟨kc_X11_save, kn_X11, by decide +kernel⟩
theorem mt_X11_restore : xMt yX11_restore cX11_restore 2 (some .int) 1 := ⟨kc_X11_restore, kn_X11, by decide +kernel⟩
theorem mt_X12_termOf : xMt yX12_termOf cX12_termOf 4 (some .int) 3 := ⟨kc_X12_termOf, kn_X12, by decide +kernel⟩
theorem mt_X12_paths : xMt yX12_paths cX12_paths 1 (some .int) 0 := ⟨kc_X12_paths, kn_X12, by decide +kernel⟩
theorem mt_X12_setting : xMt yX12_setting cX12_setting 2 (some .int) 1 := ⟨kc_X12_setting, kn_X12, by decide +kernel⟩
theorem mt_X12_pathAt : xMt yX12_pathAt cX12_pathAt 1 (some .int) 1 := ⟨kc_X12_pathAt, kn_X12, by decide +kernel⟩
theorem mt_X12_held : xMt yX12_held cX12_held 2 (some .long) 1 := ⟨kc_X12_held, kn_X12, by decide +kernel⟩
theorem mt_X12_hold : xMt yX12_hold cX12_hold 5 none 2 := ⟨kc_X12_hold, kn_X12, by decide +kernel⟩
theorem mt_X12_root : xMt yX12_root cX12_root 5 none 2 := ⟨kc_X12_root, kn_X12, by decide +kernel⟩
theorem mt_X12_begins : xMt yX12_begins cX12_begins 5 none 2 := ⟨kc_X12_begins, kn_X12, by decide +kernel⟩
theorem mt_X12_beginAll : xMt yX12_beginAll cX12_beginAll 2 none 0 := ⟨kc_X12_beginAll, kn_X12, by decide +kernel⟩
theorem mt_X12_init : xMt yX12_init cX12_init 1 none 0 := ⟨kc_X12_init, kn_X12, by decide +kernel⟩
theorem mt_X12_in : xMt yX12_in cX12_in 3 (some .boolean) 3 := ⟨kc_X12_in, kn_X12, by decide +kernel⟩
theorem mt_X12_isPath : xMt yX12_isPath cX12_isPath 2 (some .boolean) 1 := ⟨kc_X12_isPath, kn_X12, by decide +kernel⟩
theorem mt_X12_save0 : xMt yX12_save0 cX12_save0 2 none 0 := ⟨kc_X12_save0, kn_X12, by decide +kernel⟩
theorem mt_X12_times : xMt yX12_times cX12_times 9 none 4 := ⟨kc_X12_times, kn_X12, by decide +kernel⟩
theorem mt_X12_divides : xMt yX12_divides cX12_divides 11 (some .boolean) 4 := ⟨kc_X12_divides, kn_X12, by decide +kernel⟩
theorem mt_X12_abs : xMt yX12_abs cX12_abs 2 (some .long) 1 := ⟨kc_X12_abs, kn_X12, by decide +kernel⟩
theorem mt_X12_size : xMt yX12_size cX12_size 8 (some .long) 2 := ⟨kc_X12_size, kn_X12, by decide +kernel⟩
theorem mt_X12_layPowers : xMt yX12_layPowers cX12_layPowers 7 none 3 := ⟨kc_X12_layPowers, kn_X12, by decide +kernel⟩
theorem mt_X12_layPoint : xMt yX12_layPoint cX12_layPoint 1 none 0 := ⟨kc_X12_layPoint, kn_X12, by decide +kernel⟩
theorem mt_X12_coefficientOf : xMt yX12_coefficientOf cX12_coefficientOf 7 (some .int) 4 := ⟨kc_X12_coefficientOf, kn_X12, by decide +kernel⟩
theorem mt_X12_product : xMt yX12_product cX12_product 4 none 2 := ⟨kc_X12_product, kn_X12, by decide +kernel⟩
theorem mt_X12_worth : xMt yX12_worth cX12_worth 15 none 2 := ⟨kc_X12_worth, kn_X12, by decide +kernel⟩
theorem mt_X12_worthWithGamma : xMt yX12_worthWithGamma cX12_worthWithGamma 7 none 2 := ⟨kc_X12_worthWithGamma, kn_X12, by decide +kernel⟩
theorem mt_X12_laySystem : xMt yX12_laySystem cX12_laySystem 5 none 1 := ⟨kc_X12_laySystem, kn_X12, by decide +kernel⟩
theorem mt_X12_cross : xMt yX12_cross cX12_cross 5 none 4 := ⟨kc_X12_cross, kn_X12, by decide +kernel⟩
theorem mt_X12_crossRight : xMt yX12_crossRight cX12_crossRight 5 none 4 := ⟨kc_X12_crossRight, kn_X12, by decide +kernel⟩
theorem mt_X12_solves : xMt yX12_solves cX12_solves 6 (some .boolean) 0 := ⟨kc_X12_solves, kn_X12, by decide +kernel⟩
theorem mt_X12_goes : xMt yX12_goes cX12_goes 2 none 0 := ⟨kc_X12_goes, kn_X12, by decide +kernel⟩
theorem mt_X12_takes : xMt yX12_takes cX12_takes 4 none 1 := ⟨kc_X12_takes, kn_X12, by decide +kernel⟩
theorem mt_X12_predicts : xMt yX12_predicts cX12_predicts 4 (some .boolean) 2 := ⟨kc_X12_predicts, kn_X12, by decide +kernel⟩
theorem mt_X12_corrects : xMt yX12_corrects cX12_corrects 11 (some .boolean) 1 := ⟨kc_X12_corrects, kn_X12, by decide +kernel⟩
theorem mt_X12_wasGood : xMt yX12_wasGood cX12_wasGood 6 none 2 := ⟨kc_X12_wasGood, kn_X12, by decide +kernel⟩
theorem mt_X12_hasFailed : xMt yX12_hasFailed cX12_hasFailed 3 none 1 := ⟨kc_X12_hasFailed, kn_X12, by decide +kernel⟩
theorem mt_X12_tries : xMt yX12_tries cX12_tries 5 none 1 := ⟨kc_X12_tries, kn_X12, by decide +kernel⟩
theorem mt_X12_isOnWay : xMt yX12_isOnWay cX12_isOnWay 2 (some .boolean) 1 := ⟨kc_X12_isOnWay, kn_X12, by decide +kernel⟩
theorem mt_X12_follows : xMt yX12_follows cX12_follows 4 (some .int) 2 := ⟨kc_X12_follows, kn_X12, by decide +kernel⟩
theorem mt_X12_many : xMt yX12_many cX12_many 4 (some .int) 1 := ⟨kc_X12_many, kn_X12, by decide +kernel⟩
theorem mt_X12_track : xMt yX12_track cX12_track 3 (some .int) 2 := ⟨kc_X12_track, kn_X12, by decide +kernel⟩
theorem mt_X12_trackAll : xMt yX12_trackAll cX12_trackAll 4 (some .int) 1 := ⟨kc_X12_trackAll, kn_X12, by decide +kernel⟩
theorem mt_X12_again : xMt yX12_again cX12_again 4 (some .int) 1 := ⟨kc_X12_again, kn_X12, by decide +kernel⟩
theorem mt_X12_thousandths : xMt yX12_thousandths cX12_thousandths 4 (some .int) 2 := ⟨kc_X12_thousandths, kn_X12, by decide +kernel⟩
theorem mt_X12_residue : xMt yX12_residue cX12_residue 7 (some .int) 1 := ⟨kc_X12_residue, kn_X12, by decide +kernel⟩
theorem mt_X12_path : xMt yX12_path cX12_path 4 (some .int) 2 := ⟨kc_X12_path, kn_X12, by decide +kernel⟩
theorem mt_X12_isAtEnd : xMt yX12_isAtEnd cX12_isAtEnd 2 (some .boolean) 1 := ⟨kc_X12_isAtEnd, kn_X12, by decide +kernel⟩
theorem mt_X12_areMet : xMt yX12_areMet cX12_areMet 5 (some .boolean) 2 := ⟨kc_X12_areMet, kn_X12, by decide +kernel⟩
theorem mt_X12_firstMet : xMt yX12_firstMet cX12_firstMet 3 (some .int) 1 := ⟨kc_X12_firstMet, kn_X12, by decide +kernel⟩
theorem mt_X12_meets : xMt yX12_meets cX12_meets 3 (some .int) 1 := ⟨kc_X12_meets, kn_X12, by decide +kernel⟩
theorem mt_X12_next : xMt yX12_next cX12_next 6 (some .int) 0 := ⟨kc_X12_next, kn_X12, by decide +kernel⟩
theorem mt_X12_isAhead : xMt yX12_isAhead cX12_isAhead 6 (some .boolean) 2 := ⟨kc_X12_isAhead, kn_X12, by decide +kernel⟩
theorem mt_X12_endAt : xMt yX12_endAt cX12_endAt 5 (some .int) 1 := ⟨kc_X12_endAt, kn_X12, by decide +kernel⟩
theorem mt_X12_least : xMt yX12_least cX12_least 1 (some .int) 1 := ⟨kc_X12_least, kn_X12, by decide +kernel⟩
theorem mt_X12_most : xMt yX12_most cX12_most 1 (some .int) 1 := ⟨kc_X12_most, kn_X12, by decide +kernel⟩
theorem mt_X12_set : xMt yX12_set cX12_set 4 (some .int) 2 := ⟨kc_X12_set, kn_X12, by decide +kernel⟩
theorem mt_X12_distinct : xMt yX12_distinct cX12_distinct 4 (some .int) 0 := ⟨kc_X12_distinct, kn_X12, by decide +kernel⟩
theorem mt_X12_reals : xMt yX12_reals cX12_reals 3 (some .int) 0 := ⟨kc_X12_reals, kn_X12, by decide +kernel⟩
theorem mt_X12_count : xMt yX12_count cX12_count 2 (some .int) 1 := ⟨kc_X12_count, kn_X12, by decide +kernel⟩
theorem mt_X12_type : xMt yX12_type cX12_type 2 (some .int) 1 := ⟨kc_X12_type, kn_X12, by decide +kernel⟩
theorem mt_X12_wipe : xMt yX12_wipe cX12_wipe 2 (some .int) 0 := ⟨kc_X12_wipe, kn_X12, by decide +kernel⟩
theorem mt_X12_here : xMt yX12_here cX12_here 1 (some .int) 0 := ⟨kc_X12_here, kn_X12, by decide +kernel⟩
theorem mt_X12_isDigit : xMt yX12_isDigit cX12_isDigit 1 (some .boolean) 0 := ⟨kc_X12_isDigit, kn_X12, by decide +kernel⟩
theorem mt_X12_isFactor : xMt yX12_isFactor cX12_isFactor 1 (some .boolean) 0 := ⟨kc_X12_isFactor, kn_X12, by decide +kernel⟩
theorem mt_X12_readFactor : xMt yX12_readFactor cX12_readFactor 3 (some .boolean) 0 := ⟨kc_X12_readFactor, kn_X12, by decide +kernel⟩
theorem mt_X12_readNumber : xMt yX12_readNumber cX12_readNumber 2 none 0 := ⟨kc_X12_readNumber, kn_X12, by decide +kernel⟩
theorem mt_X12_readTerm : xMt yX12_readTerm cX12_readTerm 2 (some .boolean) 0 := ⟨kc_X12_readTerm, kn_X12, by decide +kernel⟩
theorem mt_X12_bounded : xMt yX12_bounded cX12_bounded 1 (some .int) 1 := ⟨kc_X12_bounded, kn_X12, by decide +kernel⟩
theorem mt_X12_adds : xMt yX12_adds cX12_adds 3 none 1 := ⟨kc_X12_adds, kn_X12, by decide +kernel⟩
theorem mt_X12_faultOf : xMt yX12_faultOf cX12_faultOf 3 (some .int) 0 := ⟨kc_X12_faultOf, kn_X12, by decide +kernel⟩
theorem mt_X12_fault : xMt yX12_fault cX12_fault 2 (some .int) 0 := ⟨kc_X12_fault, kn_X12, by decide +kernel⟩
theorem mt_X12_degreeTold : xMt yX12_degreeTold cX12_degreeTold 6 (some .int) 0 := ⟨kc_X12_degreeTold, kn_X12, by decide +kernel⟩
theorem mt_X12_equation : xMt yX12_equation cX12_equation 4 (some .int) 1 := ⟨kc_X12_equation, kn_X12, by decide +kernel⟩
theorem mt_X12_coefficient : xMt yX12_coefficient cX12_coefficient 5 (some .int) 4 := ⟨kc_X12_coefficient, kn_X12, by decide +kernel⟩
theorem mt_X12_undo : xMt yX12_undo cX12_undo 2 (some .int) 0 := ⟨kc_X12_undo, kn_X12, by decide +kernel⟩
theorem mt_X12_save : xMt yX12_save cX12_save 3 (some .int) 1 := ⟨kc_X12_save, kn_X12, by decide +kernel⟩
theorem mt_X12_restore : xMt yX12_restore cX12_restore 3 (some .int) 1 := ⟨kc_X12_restore, kn_X12, by decide +kernel⟩
theorem mt_J9_abs_0f7a4 : xMt yJ9_abs_0f7a4 cJ9_abs_0f7a4 1 (some .int) 1 := ⟨kc_J9_abs_0f7a4, kn_J9, by decide +kernel⟩
theorem mt_J9_abs_067f4 : xMt yJ9_abs_067f4 cJ9_abs_067f4 2 (some .long) 1 := ⟨kc_J9_abs_067f4, kn_J9, by decide +kernel⟩
theorem mt_J9_max_7cf53 : xMt yJ9_max_7cf53 cJ9_max_7cf53 2 (some .int) 2 := ⟨kc_J9_max_7cf53, kn_J9, by decide +kernel⟩
theorem mt_J9_max_f86c9 : xMt yJ9_max_f86c9 cJ9_max_f86c9 4 (some .long) 2 := ⟨kc_J9_max_f86c9, kn_J9, by decide +kernel⟩
theorem mt_J9_min_7cf53 : xMt yJ9_min_7cf53 cJ9_min_7cf53 2 (some .int) 2 := ⟨kc_J9_min_7cf53, kn_J9, by decide +kernel⟩
end
section
/-! THE x_ LAYER, 5: fused rows, exact contracts -/
/-- an exact end -/
def xE (v0 : Option Value) (I0 : xI) (L0 : xL) : Option Value → xI → xL → Prop := fun v I' L' => v = v0 ∧ I' = I0 ∧ L' = L0
abbrev rN : Nat → Option Nat := fun _ => none
section XM
variable {p : Program} {l : Launch} {e : Env} {R : Room} {s : State} {m : MethodId} {args : Array Value} {below : List Frame} {meth : Method} {c : Code} {D : xD} {z nL : Nat} {Q : State → Prop} {cells slots n n0 : Nat} {G : xG} {I : xI} {L : xL} {own : String} {cc : ByteArray} {rt : Option FieldType} {lv : List (Nat × Value)} {st : List Value} {Post : xPost}
theorem x_lc_ge (pc : Nat) (C : xOK p s m args meth c D z own cc nL rt) {x y : Int64} {off : Int} (tgt : Nat) (d1 : decode cc pc = .ok (.lcmp, 1)) (d2 : decode cc (pc + 1) = .ok (.ifCond .ge off, 3)) (ht : ((pc + 1 : Nat) : Int) + off = (tgt : Int)) (kt : y ≤ x → X p l e R s m args below meth c D z nL Q cells slots n G I L tgt lv st) (kf : ¬ y ≤ x → X p l e R s m args below meth c D z nL Q cells slots n G I L (pc + 1 + 3) lv st) : X p l e R s m args below meth c D z nL Q cells slots n G I L pc lv (.long y :: .long x :: st) :=
  x_lcmp pc C d1 (x_if_ge (pc + 1) C tgt d2 ht (fun q => kt ((lg_cmp_ge x y).mp q)) (fun q => kf (fun h => q ((lg_cmp_ge x y).mpr h))))
theorem x_lc_lt (pc : Nat) (C : xOK p s m args meth c D z own cc nL rt) {x y : Int64} {off : Int} (tgt : Nat) (d1 : decode cc pc = .ok (.lcmp, 1)) (d2 : decode cc (pc + 1) = .ok (.ifCond .lt off, 3)) (ht : ((pc + 1 : Nat) : Int) + off = (tgt : Int)) (kt : x < y → X p l e R s m args below meth c D z nL Q cells slots n G I L tgt lv st) (kf : ¬ x < y → X p l e R s m args below meth c D z nL Q cells slots n G I L (pc + 1 + 3) lv st) : X p l e R s m args below meth c D z nL Q cells slots n G I L pc lv (.long y :: .long x :: st) :=
  x_lcmp pc C d1 (x_if_lt (pc + 1) C tgt d2 ht (fun q => kt ((lg_cmp_lt x y).mp q)) (fun q => kf (fun h => q ((lg_cmp_lt x y).mpr h))))
theorem x_lc_gt (pc : Nat) (C : xOK p s m args meth c D z own cc nL rt) {x y : Int64} {off : Int} (tgt : Nat) (d1 : decode cc pc = .ok (.lcmp, 1)) (d2 : decode cc (pc + 1) = .ok (.ifCond .gt off, 3)) (ht : ((pc + 1 : Nat) : Int) + off = (tgt : Int)) (kt : y < x → X p l e R s m args below meth c D z nL Q cells slots n G I L tgt lv st) (kf : ¬ y < x → X p l e R s m args below meth c D z nL Q cells slots n G I L (pc + 1 + 3) lv st) : X p l e R s m args below meth c D z nL Q cells slots n G I L pc lv (.long y :: .long x :: st) :=
  x_lcmp pc C d1 (x_if_gt (pc + 1) C tgt d2 ht (fun q => kt ((lg_cmp_gt x y).mp q)) (fun q => kf (fun h => q ((lg_cmp_gt x y).mpr h))))
theorem x_lc_le (pc : Nat) (C : xOK p s m args meth c D z own cc nL rt) {x y : Int64} {off : Int} (tgt : Nat) (d1 : decode cc pc = .ok (.lcmp, 1)) (d2 : decode cc (pc + 1) = .ok (.ifCond .le off, 3)) (ht : ((pc + 1 : Nat) : Int) + off = (tgt : Int)) (kt : x ≤ y → X p l e R s m args below meth c D z nL Q cells slots n G I L tgt lv st) (kf : ¬ x ≤ y → X p l e R s m args below meth c D z nL Q cells slots n G I L (pc + 1 + 3) lv st) : X p l e R s m args below meth c D z nL Q cells slots n G I L pc lv (.long y :: .long x :: st) :=
  x_lcmp pc C d1 (x_if_le (pc + 1) C tgt d2 ht (fun q => kt ((lg_cmp_le x y).mp q)) (fun q => kf (fun h => q ((lg_cmp_le x y).mpr h))))
theorem x_lc_eq (pc : Nat) (C : xOK p s m args meth c D z own cc nL rt) {x y : Int64} {off : Int} (tgt : Nat) (d1 : decode cc pc = .ok (.lcmp, 1)) (d2 : decode cc (pc + 1) = .ok (.ifCond .eq off, 3)) (ht : ((pc + 1 : Nat) : Int) + off = (tgt : Int)) (kt : x = y → X p l e R s m args below meth c D z nL Q cells slots n G I L tgt lv st) (kf : ¬ x = y → X p l e R s m args below meth c D z nL Q cells slots n G I L (pc + 1 + 3) lv st) : X p l e R s m args below meth c D z nL Q cells slots n G I L pc lv (.long y :: .long x :: st) :=
  x_lcmp pc C d1 (x_if_eq (pc + 1) C tgt d2 ht (fun q => kt ((lg_cmp_eq x y).mp q)) (fun q => kf (fun h => q ((lg_cmp_eq x y).mpr h))))
theorem x_lc_ne (pc : Nat) (C : xOK p s m args meth c D z own cc nL rt) {x y : Int64} {off : Int} (tgt : Nat) (d1 : decode cc pc = .ok (.lcmp, 1)) (d2 : decode cc (pc + 1) = .ok (.ifCond .ne off, 3)) (ht : ((pc + 1 : Nat) : Int) + off = (tgt : Int)) (kt : ¬ x = y → X p l e R s m args below meth c D z nL Q cells slots n G I L tgt lv st) (kf : x = y → X p l e R s m args below meth c D z nL Q cells slots n G I L (pc + 1 + 3) lv st) : X p l e R s m args below meth c D z nL Q cells slots n G I L pc lv (.long y :: .long x :: st) :=
  x_lcmp pc C d1 (x_if_ne (pc + 1) C tgt d2 ht (fun q => kt (fun h => q ((lg_cmp_eq x y).mpr h))) (fun q => kf ((lg_cmp_eq x y).mp q)))
theorem x_lv {pc : Nat} (lv' : List (Nat × Value)) (h : lv = lv') (k : X p l e R s m args below meth c D z nL Q cells slots n G I L pc lv' st) : X p l e R s m args below meth c D z nL Q cells slots n G I L pc lv st := h ▸ k
theorem x_st {pc : Nat} (st' : List Value) (h : st = st') (k : X p l e R s m args below meth c D z nL Q cells slots n G I L pc lv st') : X p l e R s m args below meth c D z nL Q cells slots n G I L pc lv st := h ▸ k
/-- calls of methods that make no cell, by exact contracts: the state behind is named -/
theorem x_callVe (pc : Nat) (C : xOK p s m args meth c D z own cc nL rt) {idx : Nat} (d : decode cc pc = .ok (.invokevirtual idx, 3)) {y : MethodName} {cc' : ByteArray} {nL' fr lo ci b : Nat} {ret' : Option FieldType} {As rest : List Value} {r : Nat → Option Nat} {v0 : Option Value} {I0 : xI} {L0 : xL} (st' : List Value)
    (hM : xM0 l D z y cc' nL' ret' fr lo (.ref b :: As) n G I L (xE v0 I0 L0)) (mt : xMt y cc' nL' ret' As.length) (lk : Cond.methodLink own idx y ∈ xtbl) (hin : Cond.instanceMethod y ∈ xtbl) (hse : Cond.selects y.cls y y ∈ xtbl) (g : G b = some (ci, 0, r)) (hc : ci < 13 ∧ (xCl ci).1 = y.cls) (hst : st = As.reverse ++ .ref b :: rest) (hst' : v0.toList ++ rest = st') (hcat : (rest.map fun v => v.category).sum ≤ 8) (hR : (fr + 1 ≤ R.frames ∧ 8 + (nL' + 11) + lo ≤ R.locals) ∧ cells ≤ R.cells ∧ slots ≤ R.slots)
    (k : ∀ (I' : xI) (L' : xL), I' = I0 → L' = L0 → X p l e R s m args below meth c D z nL Q cells slots n G I' L' (pc + 3) lv st') : X p l e R s m args below meth c D z nL Q cells slots n G I L pc lv st :=
  x_callV pc C d hM mt lk hin hse g hc hst hcat ⟨hR.1, hR.2⟩ (fun v n' G' I' L' hp _ => by
    obtain ⟨rfl, rfl, rfl, eI, eL⟩ := hp
    subst hst'
    exact k I' L' eI eL)
theorem x_callSe (pc : Nat) (C : xOK p s m args meth c D z own cc nL rt) {idx : Nat} (d : decode cc pc = .ok (.invokestatic idx, 3)) {y : MethodName} {cc' : ByteArray} {nL' fr lo : Nat} {ret' : Option FieldType} {As rest : List Value} {v0 : Option Value} {I0 : xI} {L0 : xL} (st' : List Value)
    (hM : xM0 l D z y cc' nL' ret' fr lo As n G I L (xE v0 I0 L0)) (mt : xMt y cc' nL' ret' As.length) (lk : Cond.methodLink own idx y ∈ xtbl) (hs : Cond.static y ∈ xtbl) (hst : st = As.reverse ++ rest) (hst' : v0.toList ++ rest = st') (hcat : (rest.map fun v => v.category).sum ≤ 8) (hR : (fr + 1 ≤ R.frames ∧ 8 + (nL' + 11) + lo ≤ R.locals) ∧ cells ≤ R.cells ∧ slots ≤ R.slots)
    (k : ∀ (I' : xI) (L' : xL), I' = I0 → L' = L0 → X p l e R s m args below meth c D z nL Q cells slots n G I' L' (pc + 3) lv st') : X p l e R s m args below meth c D z nL Q cells slots n G I L pc lv st :=
  x_callS pc C d hM mt lk hs hst hcat ⟨hR.1, hR.2⟩ (fun v n' G' I' L' hp _ => by
    obtain ⟨rfl, rfl, rfl, eI, eL⟩ := hp
    subst hst'
    exact k I' L' eI eL)
/-- the same by contracts that are relations -/
theorem x_callVp (pc : Nat) (C : xOK p s m args meth c D z own cc nL rt) {idx : Nat} (d : decode cc pc = .ok (.invokevirtual idx, 3)) {y : MethodName} {cc' : ByteArray} {nL' fr lo ci b : Nat} {ret' : Option FieldType} {As rest : List Value} {r : Nat → Option Nat} {P : Option Value → xI → xL → Prop}
    (hM : xM0 l D z y cc' nL' ret' fr lo (.ref b :: As) n G I L P) (mt : xMt y cc' nL' ret' As.length) (lk : Cond.methodLink own idx y ∈ xtbl) (hin : Cond.instanceMethod y ∈ xtbl) (hse : Cond.selects y.cls y y ∈ xtbl) (g : G b = some (ci, 0, r)) (hc : ci < 13 ∧ (xCl ci).1 = y.cls) (hst : st = As.reverse ++ .ref b :: rest) (hcat : (rest.map fun v => v.category).sum ≤ 8) (hR : (fr + 1 ≤ R.frames ∧ 8 + (nL' + 11) + lo ≤ R.locals) ∧ cells ≤ R.cells ∧ slots ≤ R.slots)
    (k : ∀ (v : Option Value) (I' : xI) (L' : xL), P v I' L' → X p l e R s m args below meth c D z nL Q cells slots n G I' L' (pc + 3) lv (v.toList ++ rest)) : X p l e R s m args below meth c D z nL Q cells slots n G I L pc lv st :=
  x_callV pc C d hM mt lk hin hse g hc hst hcat ⟨hR.1, hR.2⟩ (fun v n' G' I' L' hp _ => by
    obtain ⟨rfl, rfl, hp⟩ := hp
    exact k v I' L' hp)
theorem x_callSp (pc : Nat) (C : xOK p s m args meth c D z own cc nL rt) {idx : Nat} (d : decode cc pc = .ok (.invokestatic idx, 3)) {y : MethodName} {cc' : ByteArray} {nL' fr lo : Nat} {ret' : Option FieldType} {As rest : List Value} {P : Option Value → xI → xL → Prop}
    (hM : xM0 l D z y cc' nL' ret' fr lo As n G I L P) (mt : xMt y cc' nL' ret' As.length) (lk : Cond.methodLink own idx y ∈ xtbl) (hs : Cond.static y ∈ xtbl) (hst : st = As.reverse ++ rest) (hcat : (rest.map fun v => v.category).sum ≤ 8) (hR : (fr + 1 ≤ R.frames ∧ 8 + (nL' + 11) + lo ≤ R.locals) ∧ cells ≤ R.cells ∧ slots ≤ R.slots)
    (k : ∀ (v : Option Value) (I' : xI) (L' : xL), P v I' L' → X p l e R s m args below meth c D z nL Q cells slots n G I' L' (pc + 3) lv (v.toList ++ rest)) : X p l e R s m args below meth c D z nL Q cells slots n G I L pc lv st :=
  x_callS pc C d hM mt lk hs hst hcat ⟨hR.1, hR.2⟩ (fun v n' G' I' L' hp _ => by
    obtain ⟨rfl, rfl, hp⟩ := hp
    exact k v I' L' hp)
/-- an int on the stack's top, in other words -/
theorem x_int {pc : Nat} {x : Int32} (y : Int32) (h : x = y) (k : X p l e R s m args below meth c D z nL Q cells slots n G I L pc lv (.int y :: st)) : X p l e R s m args below meth c D z nL Q cells slots n G I L pc lv (.int x :: st) := h ▸ k
theorem x_long {pc : Nat} {x : Int64} (y : Int64) (h : x = y) (k : X p l e R s m args below meth c D z nL Q cells slots n G I L pc lv (.long y :: st)) : X p l e R s m args below meth c D z nL Q cells slots n G I L pc lv (.long x :: st) := h ▸ k
theorem x_tsOut (pc : Nat) (C : xOK p s m args meth c D z own cc nL rt) {dflt lo hi : Int} {offs : Array Int} {len : Nat} {x : Int32} (tgt : Nat) (d : decode cc pc = .ok (.tableswitch dflt lo hi offs, len)) (h : x.toInt < lo ∨ hi < x.toInt) (ht : (pc : Int) + dflt = (tgt : Int)) (k : X p l e R s m args below meth c D z nL Q cells slots n G I L tgt lv st) : X p l e R s m args below meth c D z nL Q cells slots n G I L pc lv (.int x :: st) :=
  fun H locs ls h1 h2 h3 h4 => lv_tableOut C.exec C.code d h ht (k H locs ls h1 h2 h3 h4)
theorem x_tsIn (pc : Nat) (C : xOK p s m args meth c D z own cc nL rt) {dflt lo hi v off : Int} {offs : Array Int} {len : Nat} {x : Int32} (tgt : Nat) (d : decode cc pc = .ok (.tableswitch dflt lo hi offs, len)) (hv : x.toInt = v) (h1 : ¬ v < lo) (h2 : ¬ hi < v) (ho : offs[(v - lo).toNat]? = some off) (ht : (pc : Int) + off = (tgt : Int)) (k : X p l e R s m args below meth c D z nL Q cells slots n G I L tgt lv st) : X p l e R s m args below meth c D z nL Q cells slots n G I L pc lv (.int x :: st) := by
  subst hv
  exact fun H locs ls g1 g2 g3 g4 => lv_tableIn C.exec C.code d h1 h2 ho ht (k H locs ls g1 g2 g3 g4)
end XM
-- ints that are small whole numbers
theorem nI_mul (a b : Nat) : nI a * nI b = nI (a * b) := (Int32.ofNat_mul a b).symm
theorem nI_sub {a b : Nat} (h : b ≤ a) : nI a - nI b = nI (a - b) := by
  have h1 : nI a = nI (a - b) + nI b := by rw [nI_add, Nat.sub_add_cancel h]
  rw [h1, Int32.add_sub_cancel]
theorem xIx_nI {k len : Nat} (h : k < len) (hl : len < 2147483648) : xIx (nI k) len k := ⟨nI_pos (by omega), nI_clamp (by omega), h⟩
end
section
/-! PathTracker$Complex: contracts. A Complex at a holds L a 0, L a 1. -/
/-- a part, held within 2^30 -/
def held (v : Int64) : Int64 := if -1073741824 ≤ v then (if v ≤ 1073741824 then v else 1073741824) else -1073741824
/-- both parts of the Complex at a laid anew -/
def cput (L : xL) (a : Nat) (x y : Int64) : xL := xup (xup L a 0 x) a 1 y
def cnorm (r i u : Int64) : Int64 := if u = 0 then 0 else (r * r + i * i) / u
def csize (r i : Int64) : Int64 := if (if 0 < i then i else -i) < (if 0 < r then r else -r) then (if 0 < r then r else -r) else (if 0 < i then i else -i)
def cthou (p u : Int64) : Int32 := if u = 0 then 0 else (p * 1000 / u).toInt32
theorem dX0_put_0 : decode cX0_put 0 = .ok (.aload_n 0, 1) := by decide +kernel
theorem dX0_put_1 : decode cX0_put 1 = .ok (.lload_n 1, 1) := by decide +kernel
theorem dX0_put_2 : decode cX0_put 2 = .ok (.putfield 7, 3) := by decide +kernel
theorem dX0_put_5 : decode cX0_put 5 = .ok (.aload_n 0, 1) := by decide +kernel
theorem dX0_put_6 : decode cX0_put 6 = .ok (.lload_n 3, 1) := by decide +kernel
theorem dX0_put_7 : decode cX0_put 7 = .ok (.putfield 13, 3) := by decide +kernel
theorem dX0_put_10 : decode cX0_put 10 = .ok (.aload_n 0, 1) := by decide +kernel
theorem dX0_put_11 : decode cX0_put 11 = .ok (.getfield 7, 3) := by decide +kernel
theorem dX0_put_14 : decode cX0_put 14 = .ok (.ldc2_w 16, 3) := by decide +kernel
theorem dX0_put_17 : decode cX0_put 17 = .ok (.lcmp, 1) := by decide +kernel
theorem dX0_put_18 : decode cX0_put 18 = .ok (.ifCond .ge 13, 3) := by decide +kernel
theorem dX0_put_21 : decode cX0_put 21 = .ok (.aload_n 0, 1) := by decide +kernel
theorem dX0_put_22 : decode cX0_put 22 = .ok (.ldc2_w 16, 3) := by decide +kernel
theorem dX0_put_25 : decode cX0_put 25 = .ok (.putfield 7, 3) := by decide +kernel
theorem dX0_put_28 : decode cX0_put 28 = .ok (.goto 21, 3) := by decide +kernel
theorem dX0_put_31 : decode cX0_put 31 = .ok (.aload_n 0, 1) := by decide +kernel
theorem dX0_put_32 : decode cX0_put 32 = .ok (.getfield 7, 3) := by decide +kernel
theorem dX0_put_35 : decode cX0_put 35 = .ok (.ldc2_w 18, 3) := by decide +kernel
theorem dX0_put_38 : decode cX0_put 38 = .ok (.lcmp, 1) := by decide +kernel
theorem dX0_put_39 : decode cX0_put 39 = .ok (.ifCond .le 10, 3) := by decide +kernel
theorem dX0_put_42 : decode cX0_put 42 = .ok (.aload_n 0, 1) := by decide +kernel
theorem dX0_put_43 : decode cX0_put 43 = .ok (.ldc2_w 18, 3) := by decide +kernel
theorem dX0_put_46 : decode cX0_put 46 = .ok (.putfield 7, 3) := by decide +kernel
theorem dX0_put_49 : decode cX0_put 49 = .ok (.aload_n 0, 1) := by decide +kernel
theorem dX0_put_50 : decode cX0_put 50 = .ok (.getfield 13, 3) := by decide +kernel
theorem dX0_put_53 : decode cX0_put 53 = .ok (.ldc2_w 16, 3) := by decide +kernel
theorem dX0_put_56 : decode cX0_put 56 = .ok (.lcmp, 1) := by decide +kernel
theorem dX0_put_57 : decode cX0_put 57 = .ok (.ifCond .ge 13, 3) := by decide +kernel
theorem dX0_put_60 : decode cX0_put 60 = .ok (.aload_n 0, 1) := by decide +kernel
theorem dX0_put_61 : decode cX0_put 61 = .ok (.ldc2_w 16, 3) := by decide +kernel
theorem dX0_put_64 : decode cX0_put 64 = .ok (.putfield 13, 3) := by decide +kernel
theorem dX0_put_67 : decode cX0_put 67 = .ok (.goto 21, 3) := by decide +kernel
theorem dX0_put_70 : decode cX0_put 70 = .ok (.aload_n 0, 1) := by decide +kernel
theorem dX0_put_71 : decode cX0_put 71 = .ok (.getfield 13, 3) := by decide +kernel
theorem dX0_put_74 : decode cX0_put 74 = .ok (.ldc2_w 18, 3) := by decide +kernel
theorem dX0_put_77 : decode cX0_put 77 = .ok (.lcmp, 1) := by decide +kernel
theorem dX0_put_78 : decode cX0_put 78 = .ok (.ifCond .le 10, 3) := by decide +kernel
theorem dX0_put_81 : decode cX0_put 81 = .ok (.aload_n 0, 1) := by decide +kernel
theorem dX0_put_82 : decode cX0_put 82 = .ok (.ldc2_w 18, 3) := by decide +kernel
theorem dX0_put_85 : decode cX0_put 85 = .ok (.putfield 13, 3) := by decide +kernel
theorem dX0_put_88 : decode cX0_put 88 = .ok (.return_, 1) := by decide +kernel
set_option maxHeartbeats 4000000 in
set_option maxRecDepth 100000 in
/-- put(x, y): both parts, held -/
theorem t_X0_put (l : Launch) (D : xD) (z n : Nat) (G : xG) (I : xI) (L : xL) (a : Nat) (x : Int64) (y : Int64) (ga : G a = some (0, 0, rN)) (za : z ≤ a) : xM0 l D z yX0_put cX0_put 5 none 0 0 [.ref a, .long x, .long y] n G I L (xE none I (cput L a (held x) (held y))) := by
  refine xM.of (by decide) (Nat.le_of_ble_eq_true rfl) (fun p e s m args below meth c C hnm hsz => ?_)
  refine x_lv [(0, .ref a), (1, .long x), (3, .long y)] rfl ?_
  refine x_aload_n 0 C dX0_put_0 rfl 0 rfl ?_
  refine x_lload_n 1 C dX0_put_1 rfl 1 rfl ?_
  refine x_putl 2 C dX0_put_2 ff_X0_7 rfl ga (by omega) (fun L1 eL1 => ?_)
  refine x_aload_n 5 C dX0_put_5 rfl 0 rfl ?_
  refine x_lload_n 6 C dX0_put_6 rfl 2 rfl ?_
  refine x_putl 7 C dX0_put_7 ff_X0_13 rfl ga (by omega) (fun L2 eL2 => ?_)
  refine x_aload_n 10 C dX0_put_10 rfl 0 rfl ?_
  refine x_getl 11 C dX0_put_11 ff_X0_7 ga ?_
  refine x_long x (by simp [eL1, eL2, xup]) ?_
  refine x_ldc2 14 C (-1073741824) dX0_put_14 kk_X0_16 ?_
  refine x_lc_ge 17 C 31 dX0_put_17 dX0_put_18 (by decide) (fun c3 => ?_) (fun c3 => ?_)
  · skip
    have c3o := Int64.not_lt.mpr c3
    refine x_aload_n 31 C dX0_put_31 rfl 0 rfl ?_
    refine x_getl 32 C dX0_put_32 ff_X0_7 ga ?_
    refine x_long x (by simp [eL1, eL2, xup]) ?_
    refine x_ldc2 35 C 1073741824 dX0_put_35 kk_X0_18 ?_
    refine x_lc_le 38 C 49 dX0_put_38 dX0_put_39 (by decide) (fun c4 => ?_) (fun c4 => ?_)
    · skip
      have c4o := Int64.not_lt.mpr c4
      refine x_aload_n 49 C dX0_put_49 rfl 0 rfl ?_
      refine x_getl 50 C dX0_put_50 ff_X0_13 ga ?_
      refine x_long y (by simp [eL1, eL2, xup]) ?_
      refine x_ldc2 53 C (-1073741824) dX0_put_53 kk_X0_16 ?_
      refine x_lc_ge 56 C 70 dX0_put_56 dX0_put_57 (by decide) (fun c5 => ?_) (fun c5 => ?_)
      · skip
        have c5o := Int64.not_lt.mpr c5
        refine x_aload_n 70 C dX0_put_70 rfl 0 rfl ?_
        refine x_getl 71 C dX0_put_71 ff_X0_13 ga ?_
        refine x_long y (by simp [eL1, eL2, xup]) ?_
        refine x_ldc2 74 C 1073741824 dX0_put_74 kk_X0_18 ?_
        refine x_lc_le 77 C 88 dX0_put_77 dX0_put_78 (by decide) (fun c6 => ?_) (fun c6 => ?_)
        · skip
          have c6o := Int64.not_lt.mpr c6
          refine x_vret 88 C dX0_put_88 rfl (Nat.le_refl _) (xN.intro ?_)
          subst eL1; subst eL2
          refine ⟨rfl, rfl, ?_⟩
          funext q k
          simp only [cput, held, xup, c3, c3o, c4, c4o, c5, c5o, c6, c6o, if_true, if_false]
          all_goals (by_cases h1 : q = a <;> by_cases h2 : k = 0 <;> by_cases h3 : k = 1 <;> first | rfl | simp_all)
        · skip
          have c6o := Int64.not_le.mp c6
          refine x_aload_n 81 C dX0_put_81 rfl 0 rfl ?_
          refine x_ldc2 82 C 1073741824 dX0_put_82 kk_X0_18 ?_
          refine x_putl 85 C dX0_put_85 ff_X0_13 rfl ga (by omega) (fun L7 eL7 => ?_)
          refine x_vret 88 C dX0_put_88 rfl (Nat.le_refl _) (xN.intro ?_)
          subst eL1; subst eL2; subst eL7
          refine ⟨rfl, rfl, ?_⟩
          funext q k
          simp only [cput, held, xup, c3, c3o, c4, c4o, c5, c5o, c6, c6o, if_true, if_false]
          all_goals (by_cases h1 : q = a <;> by_cases h2 : k = 0 <;> by_cases h3 : k = 1 <;> first | rfl | simp_all)
      · skip
        have c5o := Int64.not_le.mp c5
        refine x_aload_n 60 C dX0_put_60 rfl 0 rfl ?_
        refine x_ldc2 61 C (-1073741824) dX0_put_61 kk_X0_16 ?_
        refine x_putl 64 C dX0_put_64 ff_X0_13 rfl ga (by omega) (fun L8 eL8 => ?_)
        refine x_goto 67 C 88 dX0_put_67 (by decide) ?_
        refine x_vret 88 C dX0_put_88 rfl (Nat.le_refl _) (xN.intro ?_)
        subst eL1; subst eL2; subst eL8
        refine ⟨rfl, rfl, ?_⟩
        funext q k
        simp only [cput, held, xup, c3, c3o, c4, c4o, c5, c5o, if_true, if_false]
        all_goals (by_cases h1 : q = a <;> by_cases h2 : k = 0 <;> by_cases h3 : k = 1 <;> first | rfl | simp_all)
    · skip
      have c4o := Int64.not_le.mp c4
      refine x_aload_n 42 C dX0_put_42 rfl 0 rfl ?_
      refine x_ldc2 43 C 1073741824 dX0_put_43 kk_X0_18 ?_
      refine x_putl 46 C dX0_put_46 ff_X0_7 rfl ga (by omega) (fun L9 eL9 => ?_)
      refine x_aload_n 49 C dX0_put_49 rfl 0 rfl ?_
      refine x_getl 50 C dX0_put_50 ff_X0_13 ga ?_
      refine x_long y (by simp [eL1, eL2, eL9, xup]) ?_
      refine x_ldc2 53 C (-1073741824) dX0_put_53 kk_X0_16 ?_
      refine x_lc_ge 56 C 70 dX0_put_56 dX0_put_57 (by decide) (fun c10 => ?_) (fun c10 => ?_)
      · skip
        have c10o := Int64.not_lt.mpr c10
        refine x_aload_n 70 C dX0_put_70 rfl 0 rfl ?_
        refine x_getl 71 C dX0_put_71 ff_X0_13 ga ?_
        refine x_long y (by simp [eL1, eL2, eL9, xup]) ?_
        refine x_ldc2 74 C 1073741824 dX0_put_74 kk_X0_18 ?_
        refine x_lc_le 77 C 88 dX0_put_77 dX0_put_78 (by decide) (fun c11 => ?_) (fun c11 => ?_)
        · skip
          have c11o := Int64.not_lt.mpr c11
          refine x_vret 88 C dX0_put_88 rfl (Nat.le_refl _) (xN.intro ?_)
          subst eL1; subst eL2; subst eL9
          refine ⟨rfl, rfl, ?_⟩
          funext q k
          simp only [cput, held, xup, c3, c3o, c4, c4o, c10, c10o, c11, c11o, if_true, if_false]
          all_goals (by_cases h1 : q = a <;> by_cases h2 : k = 0 <;> by_cases h3 : k = 1 <;> first | rfl | simp_all)
        · skip
          have c11o := Int64.not_le.mp c11
          refine x_aload_n 81 C dX0_put_81 rfl 0 rfl ?_
          refine x_ldc2 82 C 1073741824 dX0_put_82 kk_X0_18 ?_
          refine x_putl 85 C dX0_put_85 ff_X0_13 rfl ga (by omega) (fun L12 eL12 => ?_)
          refine x_vret 88 C dX0_put_88 rfl (Nat.le_refl _) (xN.intro ?_)
          subst eL1; subst eL2; subst eL9; subst eL12
          refine ⟨rfl, rfl, ?_⟩
          funext q k
          simp only [cput, held, xup, c3, c3o, c4, c4o, c10, c10o, c11, c11o, if_true, if_false]
          all_goals (by_cases h1 : q = a <;> by_cases h2 : k = 0 <;> by_cases h3 : k = 1 <;> first | rfl | simp_all)
      · skip
        have c10o := Int64.not_le.mp c10
        refine x_aload_n 60 C dX0_put_60 rfl 0 rfl ?_
        refine x_ldc2 61 C (-1073741824) dX0_put_61 kk_X0_16 ?_
        refine x_putl 64 C dX0_put_64 ff_X0_13 rfl ga (by omega) (fun L13 eL13 => ?_)
        refine x_goto 67 C 88 dX0_put_67 (by decide) ?_
        refine x_vret 88 C dX0_put_88 rfl (Nat.le_refl _) (xN.intro ?_)
        subst eL1; subst eL2; subst eL9; subst eL13
        refine ⟨rfl, rfl, ?_⟩
        funext q k
        simp only [cput, held, xup, c3, c3o, c4, c4o, c10, c10o, if_true, if_false]
        all_goals (by_cases h1 : q = a <;> by_cases h2 : k = 0 <;> by_cases h3 : k = 1 <;> first | rfl | simp_all)
  · skip
    have c3o := Int64.not_le.mp c3
    refine x_aload_n 21 C dX0_put_21 rfl 0 rfl ?_
    refine x_ldc2 22 C (-1073741824) dX0_put_22 kk_X0_16 ?_
    refine x_putl 25 C dX0_put_25 ff_X0_7 rfl ga (by omega) (fun L14 eL14 => ?_)
    refine x_goto 28 C 49 dX0_put_28 (by decide) ?_
    refine x_aload_n 49 C dX0_put_49 rfl 0 rfl ?_
    refine x_getl 50 C dX0_put_50 ff_X0_13 ga ?_
    refine x_long y (by simp [eL1, eL2, eL14, xup]) ?_
    refine x_ldc2 53 C (-1073741824) dX0_put_53 kk_X0_16 ?_
    refine x_lc_ge 56 C 70 dX0_put_56 dX0_put_57 (by decide) (fun c15 => ?_) (fun c15 => ?_)
    · skip
      have c15o := Int64.not_lt.mpr c15
      refine x_aload_n 70 C dX0_put_70 rfl 0 rfl ?_
      refine x_getl 71 C dX0_put_71 ff_X0_13 ga ?_
      refine x_long y (by simp [eL1, eL2, eL14, xup]) ?_
      refine x_ldc2 74 C 1073741824 dX0_put_74 kk_X0_18 ?_
      refine x_lc_le 77 C 88 dX0_put_77 dX0_put_78 (by decide) (fun c16 => ?_) (fun c16 => ?_)
      · skip
        have c16o := Int64.not_lt.mpr c16
        refine x_vret 88 C dX0_put_88 rfl (Nat.le_refl _) (xN.intro ?_)
        subst eL1; subst eL2; subst eL14
        refine ⟨rfl, rfl, ?_⟩
        funext q k
        simp only [cput, held, xup, c3, c3o, c15, c15o, c16, c16o, if_true, if_false]
        all_goals (by_cases h1 : q = a <;> by_cases h2 : k = 0 <;> by_cases h3 : k = 1 <;> first | rfl | simp_all)
      · skip
        have c16o := Int64.not_le.mp c16
        refine x_aload_n 81 C dX0_put_81 rfl 0 rfl ?_
        refine x_ldc2 82 C 1073741824 dX0_put_82 kk_X0_18 ?_
        refine x_putl 85 C dX0_put_85 ff_X0_13 rfl ga (by omega) (fun L17 eL17 => ?_)
        refine x_vret 88 C dX0_put_88 rfl (Nat.le_refl _) (xN.intro ?_)
        subst eL1; subst eL2; subst eL14; subst eL17
        refine ⟨rfl, rfl, ?_⟩
        funext q k
        simp only [cput, held, xup, c3, c3o, c15, c15o, c16, c16o, if_true, if_false]
        all_goals (by_cases h1 : q = a <;> by_cases h2 : k = 0 <;> by_cases h3 : k = 1 <;> first | rfl | simp_all)
    · skip
      have c15o := Int64.not_le.mp c15
      refine x_aload_n 60 C dX0_put_60 rfl 0 rfl ?_
      refine x_ldc2 61 C (-1073741824) dX0_put_61 kk_X0_16 ?_
      refine x_putl 64 C dX0_put_64 ff_X0_13 rfl ga (by omega) (fun L18 eL18 => ?_)
      refine x_goto 67 C 88 dX0_put_67 (by decide) ?_
      refine x_vret 88 C dX0_put_88 rfl (Nat.le_refl _) (xN.intro ?_)
      subst eL1; subst eL2; subst eL14; subst eL18
      refine ⟨rfl, rfl, ?_⟩
      funext q k
      simp only [cput, held, xup, c3, c3o, c15, c15o, if_true, if_false]
      all_goals (by_cases h1 : q = a <;> by_cases h2 : k = 0 <;> by_cases h3 : k = 1 <;> first | rfl | simp_all)
theorem dX0_copy_0 : decode cX0_copy 0 = .ok (.aload_n 0, 1) := by decide +kernel
theorem dX0_copy_1 : decode cX0_copy 1 = .ok (.aload_n 1, 1) := by decide +kernel
theorem dX0_copy_2 : decode cX0_copy 2 = .ok (.getfield 7, 3) := by decide +kernel
theorem dX0_copy_5 : decode cX0_copy 5 = .ok (.putfield 7, 3) := by decide +kernel
theorem dX0_copy_8 : decode cX0_copy 8 = .ok (.aload_n 0, 1) := by decide +kernel
theorem dX0_copy_9 : decode cX0_copy 9 = .ok (.aload_n 1, 1) := by decide +kernel
theorem dX0_copy_10 : decode cX0_copy 10 = .ok (.getfield 13, 3) := by decide +kernel
theorem dX0_copy_13 : decode cX0_copy 13 = .ok (.putfield 13, 3) := by decide +kernel
theorem dX0_copy_16 : decode cX0_copy 16 = .ok (.return_, 1) := by decide +kernel
set_option maxHeartbeats 4000000 in
set_option maxRecDepth 100000 in
theorem t_X0_copy (l : Launch) (D : xD) (z n : Nat) (G : xG) (I : xI) (L : xL) (a : Nat) (b : Nat) (ga : G a = some (0, 0, rN)) (gb : G b = some (0, 0, rN)) (za : z ≤ a) : xM0 l D z yX0_copy cX0_copy 2 none 0 0 [.ref a, .ref b] n G I L (xE none I (cput L a (L b 0) (L b 1))) := by
  refine xM.of (by decide) (Nat.le_of_ble_eq_true rfl) (fun p e s m args below meth c C hnm hsz => ?_)
  refine x_lv [(0, .ref a), (1, .ref b)] rfl ?_
  refine x_aload_n 0 C dX0_copy_0 rfl 0 rfl ?_
  refine x_aload_n 1 C dX0_copy_1 rfl 1 rfl ?_
  refine x_getl 2 C dX0_copy_2 ff_X0_7 gb ?_
  refine x_putl 5 C dX0_copy_5 ff_X0_7 rfl ga (by omega) (fun L1 eL1 => ?_)
  refine x_aload_n 8 C dX0_copy_8 rfl 0 rfl ?_
  refine x_aload_n 9 C dX0_copy_9 rfl 1 rfl ?_
  refine x_getl 10 C dX0_copy_10 ff_X0_13 gb ?_
  refine x_long (L b 1) (by simp [eL1, xup, cput]) ?_
  refine x_putl 13 C dX0_copy_13 ff_X0_13 rfl ga (by omega) (fun L2 eL2 => ?_)
  refine x_vret 16 C dX0_copy_16 rfl (Nat.le_refl _) (xN.intro ?_)
  subst eL1; subst eL2
  refine ⟨rfl, rfl, ?_⟩
  simp [cput, xup]
theorem dX0_add_0 : decode cX0_add 0 = .ok (.aload_n 0, 1) := by decide +kernel
theorem dX0_add_1 : decode cX0_add 1 = .ok (.aload_n 0, 1) := by decide +kernel
theorem dX0_add_2 : decode cX0_add 2 = .ok (.getfield 7, 3) := by decide +kernel
theorem dX0_add_5 : decode cX0_add 5 = .ok (.aload_n 1, 1) := by decide +kernel
theorem dX0_add_6 : decode cX0_add 6 = .ok (.getfield 7, 3) := by decide +kernel
theorem dX0_add_9 : decode cX0_add 9 = .ok (.ladd, 1) := by decide +kernel
theorem dX0_add_10 : decode cX0_add 10 = .ok (.aload_n 0, 1) := by decide +kernel
theorem dX0_add_11 : decode cX0_add 11 = .ok (.getfield 13, 3) := by decide +kernel
theorem dX0_add_14 : decode cX0_add 14 = .ok (.aload_n 1, 1) := by decide +kernel
theorem dX0_add_15 : decode cX0_add 15 = .ok (.getfield 13, 3) := by decide +kernel
theorem dX0_add_18 : decode cX0_add 18 = .ok (.ladd, 1) := by decide +kernel
theorem dX0_add_19 : decode cX0_add 19 = .ok (.invokevirtual 20, 3) := by decide +kernel
theorem dX0_add_22 : decode cX0_add 22 = .ok (.return_, 1) := by decide +kernel
set_option maxHeartbeats 4000000 in
set_option maxRecDepth 100000 in
theorem t_X0_add (l : Launch) (D : xD) (z n : Nat) (G : xG) (I : xI) (L : xL) (a : Nat) (b : Nat) (ga : G a = some (0, 0, rN)) (gb : G b = some (0, 0, rN)) (za : z ≤ a) : xM0 l D z yX0_add cX0_add 2 none 1 24 [.ref a, .ref b] n G I L (xE none I (cput L a (held (L a 0 + L b 0)) (held (L a 1 + L b 1)))) := by
  refine xM.of (by decide) (Nat.le_of_ble_eq_true rfl) (fun p e s m args below meth c C hnm hsz => ?_)
  refine x_lv [(0, .ref a), (1, .ref b)] rfl ?_
  refine x_aload_n 0 C dX0_add_0 rfl 0 rfl ?_
  refine x_aload_n 1 C dX0_add_1 rfl 0 rfl ?_
  refine x_getl 2 C dX0_add_2 ff_X0_7 ga ?_
  refine x_aload_n 5 C dX0_add_5 rfl 1 rfl ?_
  refine x_getl 6 C dX0_add_6 ff_X0_7 gb ?_
  refine x_ladd 9 C dX0_add_9 ?_
  refine x_aload_n 10 C dX0_add_10 rfl 0 rfl ?_
  refine x_getl 11 C dX0_add_11 ff_X0_13 ga ?_
  refine x_aload_n 14 C dX0_add_14 rfl 1 rfl ?_
  refine x_getl 15 C dX0_add_15 ff_X0_13 gb ?_
  refine x_ladd 18 C dX0_add_18 ?_
  refine x_callVe 19 C dX0_add_19 (As := [.long ((L a 0) + (L b 0)), .long ((L a 1) + (L b 1))]) (rest := []) [] (t_X0_put l D z n G I L a ((L a 0) + (L b 0)) ((L a 1) + (L b 1)) ga (by omega)) mt_X0_put km_X0_20 ki_X0_put ks_X0_put ga ⟨by decide, rfl⟩ rfl rfl (Nat.le_of_ble_eq_true rfl) ⟨⟨by decide, by decide⟩, by decide, by decide⟩ (fun I1 L2 eI1 eL2 => ?_)
  replace eI1 := eI1.symm; subst eI1
  refine x_vret 22 C dX0_add_22 rfl (Nat.le_refl _) (xN.intro ?_)
  subst eL2
  refine ⟨rfl, rfl, ?_⟩
  rfl
theorem dX0_putDifference_0 : decode cX0_putDifference 0 = .ok (.aload_n 0, 1) := by decide +kernel
theorem dX0_putDifference_1 : decode cX0_putDifference 1 = .ok (.aload_n 1, 1) := by decide +kernel
theorem dX0_putDifference_2 : decode cX0_putDifference 2 = .ok (.getfield 7, 3) := by decide +kernel
theorem dX0_putDifference_5 : decode cX0_putDifference 5 = .ok (.aload_n 2, 1) := by decide +kernel
theorem dX0_putDifference_6 : decode cX0_putDifference 6 = .ok (.getfield 7, 3) := by decide +kernel
theorem dX0_putDifference_9 : decode cX0_putDifference 9 = .ok (.lsub, 1) := by decide +kernel
theorem dX0_putDifference_10 : decode cX0_putDifference 10 = .ok (.aload_n 1, 1) := by decide +kernel
theorem dX0_putDifference_11 : decode cX0_putDifference 11 = .ok (.getfield 13, 3) := by decide +kernel
theorem dX0_putDifference_14 : decode cX0_putDifference 14 = .ok (.aload_n 2, 1) := by decide +kernel
theorem dX0_putDifference_15 : decode cX0_putDifference 15 = .ok (.getfield 13, 3) := by decide +kernel
theorem dX0_putDifference_18 : decode cX0_putDifference 18 = .ok (.lsub, 1) := by decide +kernel
theorem dX0_putDifference_19 : decode cX0_putDifference 19 = .ok (.invokevirtual 20, 3) := by decide +kernel
theorem dX0_putDifference_22 : decode cX0_putDifference 22 = .ok (.return_, 1) := by decide +kernel
set_option maxHeartbeats 4000000 in
set_option maxRecDepth 100000 in
theorem t_X0_putDifference (l : Launch) (D : xD) (z n : Nat) (G : xG) (I : xI) (L : xL) (a : Nat) (b : Nat) (d : Nat) (ga : G a = some (0, 0, rN)) (gb : G b = some (0, 0, rN)) (gd : G d = some (0, 0, rN)) (za : z ≤ a) : xM0 l D z yX0_putDifference cX0_putDifference 3 none 1 24 [.ref a, .ref b, .ref d] n G I L (xE none I (cput L a (held (L b 0 - L d 0)) (held (L b 1 - L d 1)))) := by
  refine xM.of (by decide) (Nat.le_of_ble_eq_true rfl) (fun p e s m args below meth c C hnm hsz => ?_)
  refine x_lv [(0, .ref a), (1, .ref b), (2, .ref d)] rfl ?_
  refine x_aload_n 0 C dX0_putDifference_0 rfl 0 rfl ?_
  refine x_aload_n 1 C dX0_putDifference_1 rfl 1 rfl ?_
  refine x_getl 2 C dX0_putDifference_2 ff_X0_7 gb ?_
  refine x_aload_n 5 C dX0_putDifference_5 rfl 2 rfl ?_
  refine x_getl 6 C dX0_putDifference_6 ff_X0_7 gd ?_
  refine x_lsub 9 C dX0_putDifference_9 ?_
  refine x_aload_n 10 C dX0_putDifference_10 rfl 1 rfl ?_
  refine x_getl 11 C dX0_putDifference_11 ff_X0_13 gb ?_
  refine x_aload_n 14 C dX0_putDifference_14 rfl 2 rfl ?_
  refine x_getl 15 C dX0_putDifference_15 ff_X0_13 gd ?_
  refine x_lsub 18 C dX0_putDifference_18 ?_
  refine x_callVe 19 C dX0_putDifference_19 (As := [.long ((L b 0) - (L d 0)), .long ((L b 1) - (L d 1))]) (rest := []) [] (t_X0_put l D z n G I L a ((L b 0) - (L d 0)) ((L b 1) - (L d 1)) ga (by omega)) mt_X0_put km_X0_20 ki_X0_put ks_X0_put ga ⟨by decide, rfl⟩ rfl rfl (Nat.le_of_ble_eq_true rfl) ⟨⟨by decide, by decide⟩, by decide, by decide⟩ (fun I1 L2 eI1 eL2 => ?_)
  replace eI1 := eI1.symm; subst eI1
  refine x_vret 22 C dX0_putDifference_22 rfl (Nat.le_refl _) (xN.intro ?_)
  subst eL2
  refine ⟨rfl, rfl, ?_⟩
  rfl
theorem dX0_putNegative_0 : decode cX0_putNegative 0 = .ok (.aload_n 0, 1) := by decide +kernel
theorem dX0_putNegative_1 : decode cX0_putNegative 1 = .ok (.aload_n 1, 1) := by decide +kernel
theorem dX0_putNegative_2 : decode cX0_putNegative 2 = .ok (.getfield 7, 3) := by decide +kernel
theorem dX0_putNegative_5 : decode cX0_putNegative 5 = .ok (.lneg, 1) := by decide +kernel
theorem dX0_putNegative_6 : decode cX0_putNegative 6 = .ok (.aload_n 1, 1) := by decide +kernel
theorem dX0_putNegative_7 : decode cX0_putNegative 7 = .ok (.getfield 13, 3) := by decide +kernel
theorem dX0_putNegative_10 : decode cX0_putNegative 10 = .ok (.lneg, 1) := by decide +kernel
theorem dX0_putNegative_11 : decode cX0_putNegative 11 = .ok (.invokevirtual 20, 3) := by decide +kernel
theorem dX0_putNegative_14 : decode cX0_putNegative 14 = .ok (.return_, 1) := by decide +kernel
set_option maxHeartbeats 4000000 in
set_option maxRecDepth 100000 in
theorem t_X0_putNegative (l : Launch) (D : xD) (z n : Nat) (G : xG) (I : xI) (L : xL) (a : Nat) (b : Nat) (ga : G a = some (0, 0, rN)) (gb : G b = some (0, 0, rN)) (za : z ≤ a) : xM0 l D z yX0_putNegative cX0_putNegative 2 none 1 24 [.ref a, .ref b] n G I L (xE none I (cput L a (held (-(L b 0))) (held (-(L b 1))))) := by
  refine xM.of (by decide) (Nat.le_of_ble_eq_true rfl) (fun p e s m args below meth c C hnm hsz => ?_)
  refine x_lv [(0, .ref a), (1, .ref b)] rfl ?_
  refine x_aload_n 0 C dX0_putNegative_0 rfl 0 rfl ?_
  refine x_aload_n 1 C dX0_putNegative_1 rfl 1 rfl ?_
  refine x_getl 2 C dX0_putNegative_2 ff_X0_7 gb ?_
  refine x_lneg 5 C dX0_putNegative_5 ?_
  refine x_aload_n 6 C dX0_putNegative_6 rfl 1 rfl ?_
  refine x_getl 7 C dX0_putNegative_7 ff_X0_13 gb ?_
  refine x_lneg 10 C dX0_putNegative_10 ?_
  refine x_callVe 11 C dX0_putNegative_11 (As := [.long (-(L b 0)), .long (-(L b 1))]) (rest := []) [] (t_X0_put l D z n G I L a (-(L b 0)) (-(L b 1)) ga (by omega)) mt_X0_put km_X0_20 ki_X0_put ks_X0_put ga ⟨by decide, rfl⟩ rfl rfl (Nat.le_of_ble_eq_true rfl) ⟨⟨by decide, by decide⟩, by decide, by decide⟩ (fun I1 L2 eI1 eL2 => ?_)
  replace eI1 := eI1.symm; subst eI1
  refine x_vret 14 C dX0_putNegative_14 rfl (Nat.le_refl _) (xN.intro ?_)
  subst eL2
  refine ⟨rfl, rfl, ?_⟩
  rfl
theorem dX0_scale_0 : decode cX0_scale 0 = .ok (.aload_n 0, 1) := by decide +kernel
theorem dX0_scale_1 : decode cX0_scale 1 = .ok (.aload_n 0, 1) := by decide +kernel
theorem dX0_scale_2 : decode cX0_scale 2 = .ok (.getfield 7, 3) := by decide +kernel
theorem dX0_scale_5 : decode cX0_scale 5 = .ok (.lload_n 1, 1) := by decide +kernel
theorem dX0_scale_6 : decode cX0_scale 6 = .ok (.lmul, 1) := by decide +kernel
theorem dX0_scale_7 : decode cX0_scale 7 = .ok (.aload_n 0, 1) := by decide +kernel
theorem dX0_scale_8 : decode cX0_scale 8 = .ok (.getfield 13, 3) := by decide +kernel
theorem dX0_scale_11 : decode cX0_scale 11 = .ok (.lload_n 1, 1) := by decide +kernel
theorem dX0_scale_12 : decode cX0_scale 12 = .ok (.lmul, 1) := by decide +kernel
theorem dX0_scale_13 : decode cX0_scale 13 = .ok (.invokevirtual 20, 3) := by decide +kernel
theorem dX0_scale_16 : decode cX0_scale 16 = .ok (.return_, 1) := by decide +kernel
set_option maxHeartbeats 4000000 in
set_option maxRecDepth 100000 in
theorem t_X0_scale (l : Launch) (D : xD) (z n : Nat) (G : xG) (I : xI) (L : xL) (a : Nat) (x : Int64) (ga : G a = some (0, 0, rN)) (za : z ≤ a) : xM0 l D z yX0_scale cX0_scale 3 none 1 24 [.ref a, .long x] n G I L (xE none I (cput L a (held (L a 0 * x)) (held (L a 1 * x)))) := by
  refine xM.of (by decide) (Nat.le_of_ble_eq_true rfl) (fun p e s m args below meth c C hnm hsz => ?_)
  refine x_lv [(0, .ref a), (1, .long x)] rfl ?_
  refine x_aload_n 0 C dX0_scale_0 rfl 0 rfl ?_
  refine x_aload_n 1 C dX0_scale_1 rfl 0 rfl ?_
  refine x_getl 2 C dX0_scale_2 ff_X0_7 ga ?_
  refine x_lload_n 5 C dX0_scale_5 rfl 1 rfl ?_
  refine x_lmul 6 C dX0_scale_6 ?_
  refine x_aload_n 7 C dX0_scale_7 rfl 0 rfl ?_
  refine x_getl 8 C dX0_scale_8 ff_X0_13 ga ?_
  refine x_lload_n 11 C dX0_scale_11 rfl 1 rfl ?_
  refine x_lmul 12 C dX0_scale_12 ?_
  refine x_callVe 13 C dX0_scale_13 (As := [.long ((L a 0) * x), .long ((L a 1) * x)]) (rest := []) [] (t_X0_put l D z n G I L a ((L a 0) * x) ((L a 1) * x) ga (by omega)) mt_X0_put km_X0_20 ki_X0_put ks_X0_put ga ⟨by decide, rfl⟩ rfl rfl (Nat.le_of_ble_eq_true rfl) ⟨⟨by decide, by decide⟩, by decide, by decide⟩ (fun I1 L2 eI1 eL2 => ?_)
  replace eI1 := eI1.symm; subst eI1
  refine x_vret 16 C dX0_scale_16 rfl (Nat.le_refl _) (xN.intro ?_)
  subst eL2
  refine ⟨rfl, rfl, ?_⟩
  rfl
theorem dX0_takeShare_0 : decode cX0_takeShare 0 = .ok (.lload_n 3, 1) := by decide +kernel
theorem dX0_takeShare_1 : decode cX0_takeShare 1 = .ok (.lconst 0, 1) := by decide +kernel
theorem dX0_takeShare_2 : decode cX0_takeShare 2 = .ok (.lcmp, 1) := by decide +kernel
theorem dX0_takeShare_3 : decode cX0_takeShare 3 = .ok (.ifCond .eq 23, 3) := by decide +kernel
theorem dX0_takeShare_6 : decode cX0_takeShare 6 = .ok (.aload_n 0, 1) := by decide +kernel
theorem dX0_takeShare_7 : decode cX0_takeShare 7 = .ok (.aload_n 0, 1) := by decide +kernel
theorem dX0_takeShare_8 : decode cX0_takeShare 8 = .ok (.getfield 7, 3) := by decide +kernel
theorem dX0_takeShare_11 : decode cX0_takeShare 11 = .ok (.lload_n 1, 1) := by decide +kernel
theorem dX0_takeShare_12 : decode cX0_takeShare 12 = .ok (.lmul, 1) := by decide +kernel
theorem dX0_takeShare_13 : decode cX0_takeShare 13 = .ok (.lload_n 3, 1) := by decide +kernel
theorem dX0_takeShare_14 : decode cX0_takeShare 14 = .ok (.ldiv, 1) := by decide +kernel
theorem dX0_takeShare_15 : decode cX0_takeShare 15 = .ok (.aload_n 0, 1) := by decide +kernel
theorem dX0_takeShare_16 : decode cX0_takeShare 16 = .ok (.getfield 13, 3) := by decide +kernel
theorem dX0_takeShare_19 : decode cX0_takeShare 19 = .ok (.lload_n 1, 1) := by decide +kernel
theorem dX0_takeShare_20 : decode cX0_takeShare 20 = .ok (.lmul, 1) := by decide +kernel
theorem dX0_takeShare_21 : decode cX0_takeShare 21 = .ok (.lload_n 3, 1) := by decide +kernel
theorem dX0_takeShare_22 : decode cX0_takeShare 22 = .ok (.ldiv, 1) := by decide +kernel
theorem dX0_takeShare_23 : decode cX0_takeShare 23 = .ok (.invokevirtual 20, 3) := by decide +kernel
theorem dX0_takeShare_26 : decode cX0_takeShare 26 = .ok (.return_, 1) := by decide +kernel
set_option maxHeartbeats 4000000 in
set_option maxRecDepth 100000 in
theorem t_X0_takeShare (l : Launch) (D : xD) (z n : Nat) (G : xG) (I : xI) (L : xL) (a : Nat) (x : Int64) (y : Int64) (ga : G a = some (0, 0, rN)) (za : z ≤ a) : xM0 l D z yX0_takeShare cX0_takeShare 5 none 1 24 [.ref a, .long x, .long y] n G I L (xE none I (if y = 0 then L else cput L a (held (L a 0 * x / y)) (held (L a 1 * x / y)))) := by
  refine xM.of (by decide) (Nat.le_of_ble_eq_true rfl) (fun p e s m args below meth c C hnm hsz => ?_)
  refine x_lv [(0, .ref a), (1, .long x), (3, .long y)] rfl ?_
  refine x_lload_n 0 C dX0_takeShare_0 rfl 2 rfl ?_
  refine x_lconst 1 C (v := 0) dX0_takeShare_1 rfl ?_
  refine x_lc_eq 2 C 26 dX0_takeShare_2 dX0_takeShare_3 (by decide) (fun c1 => ?_) (fun c1 => ?_)
  · skip
    refine x_vret 26 C dX0_takeShare_26 rfl (Nat.le_refl _) (xN.intro ?_)
    skip
    refine ⟨rfl, rfl, ?_⟩
    simp [c1]
  · skip
    refine x_aload_n 6 C dX0_takeShare_6 rfl 0 rfl ?_
    refine x_aload_n 7 C dX0_takeShare_7 rfl 0 rfl ?_
    refine x_getl 8 C dX0_takeShare_8 ff_X0_7 ga ?_
    refine x_lload_n 11 C dX0_takeShare_11 rfl 1 rfl ?_
    refine x_lmul 12 C dX0_takeShare_12 ?_
    refine x_lload_n 13 C dX0_takeShare_13 rfl 2 rfl ?_
    refine x_ldiv 14 C dX0_takeShare_14 (by first | assumption | decide) ?_
    refine x_aload_n 15 C dX0_takeShare_15 rfl 0 rfl ?_
    refine x_getl 16 C dX0_takeShare_16 ff_X0_13 ga ?_
    refine x_lload_n 19 C dX0_takeShare_19 rfl 1 rfl ?_
    refine x_lmul 20 C dX0_takeShare_20 ?_
    refine x_lload_n 21 C dX0_takeShare_21 rfl 2 rfl ?_
    refine x_ldiv 22 C dX0_takeShare_22 (by first | assumption | decide) ?_
    refine x_callVe 23 C dX0_takeShare_23 (As := [.long (((L a 0) * x) / y), .long (((L a 1) * x) / y)]) (rest := []) [] (t_X0_put l D z n G I L a (((L a 0) * x) / y) (((L a 1) * x) / y) ga (by omega)) mt_X0_put km_X0_20 ki_X0_put ks_X0_put ga ⟨by decide, rfl⟩ rfl rfl (Nat.le_of_ble_eq_true rfl) ⟨⟨by decide, by decide⟩, by decide, by decide⟩ (fun I2 L3 eI2 eL3 => ?_)
    replace eI2 := eI2.symm; subst eI2
    refine x_vret 26 C dX0_takeShare_26 rfl (Nat.le_refl _) (xN.intro ?_)
    subst eL3
    refine ⟨rfl, rfl, ?_⟩
    simp [c1]
theorem dX0_putMix_0 : decode cX0_putMix 0 = .ok (.lload_n 2, 1) := by decide +kernel
theorem dX0_putMix_1 : decode cX0_putMix 1 = .ok (.lload 5, 2) := by decide +kernel
theorem dX0_putMix_3 : decode cX0_putMix 3 = .ok (.ladd, 1) := by decide +kernel
theorem dX0_putMix_4 : decode cX0_putMix 4 = .ok (.lstore 7, 2) := by decide +kernel
theorem dX0_putMix_6 : decode cX0_putMix 6 = .ok (.lload 7, 2) := by decide +kernel
theorem dX0_putMix_8 : decode cX0_putMix 8 = .ok (.lconst 0, 1) := by decide +kernel
theorem dX0_putMix_9 : decode cX0_putMix 9 = .ok (.lcmp, 1) := by decide +kernel
theorem dX0_putMix_10 : decode cX0_putMix 10 = .ok (.ifCond .eq 43, 3) := by decide +kernel
theorem dX0_putMix_13 : decode cX0_putMix 13 = .ok (.aload_n 0, 1) := by decide +kernel
theorem dX0_putMix_14 : decode cX0_putMix 14 = .ok (.lload_n 2, 1) := by decide +kernel
theorem dX0_putMix_15 : decode cX0_putMix 15 = .ok (.aload_n 1, 1) := by decide +kernel
theorem dX0_putMix_16 : decode cX0_putMix 16 = .ok (.getfield 7, 3) := by decide +kernel
theorem dX0_putMix_19 : decode cX0_putMix 19 = .ok (.lmul, 1) := by decide +kernel
theorem dX0_putMix_20 : decode cX0_putMix 20 = .ok (.lload 5, 2) := by decide +kernel
theorem dX0_putMix_22 : decode cX0_putMix 22 = .ok (.aload 4, 2) := by decide +kernel
theorem dX0_putMix_24 : decode cX0_putMix 24 = .ok (.getfield 7, 3) := by decide +kernel
theorem dX0_putMix_27 : decode cX0_putMix 27 = .ok (.lmul, 1) := by decide +kernel
theorem dX0_putMix_28 : decode cX0_putMix 28 = .ok (.ladd, 1) := by decide +kernel
theorem dX0_putMix_29 : decode cX0_putMix 29 = .ok (.lload 7, 2) := by decide +kernel
theorem dX0_putMix_31 : decode cX0_putMix 31 = .ok (.ldiv, 1) := by decide +kernel
theorem dX0_putMix_32 : decode cX0_putMix 32 = .ok (.lload_n 2, 1) := by decide +kernel
theorem dX0_putMix_33 : decode cX0_putMix 33 = .ok (.aload_n 1, 1) := by decide +kernel
theorem dX0_putMix_34 : decode cX0_putMix 34 = .ok (.getfield 13, 3) := by decide +kernel
theorem dX0_putMix_37 : decode cX0_putMix 37 = .ok (.lmul, 1) := by decide +kernel
theorem dX0_putMix_38 : decode cX0_putMix 38 = .ok (.lload 5, 2) := by decide +kernel
theorem dX0_putMix_40 : decode cX0_putMix 40 = .ok (.aload 4, 2) := by decide +kernel
theorem dX0_putMix_42 : decode cX0_putMix 42 = .ok (.getfield 13, 3) := by decide +kernel
theorem dX0_putMix_45 : decode cX0_putMix 45 = .ok (.lmul, 1) := by decide +kernel
theorem dX0_putMix_46 : decode cX0_putMix 46 = .ok (.ladd, 1) := by decide +kernel
theorem dX0_putMix_47 : decode cX0_putMix 47 = .ok (.lload 7, 2) := by decide +kernel
theorem dX0_putMix_49 : decode cX0_putMix 49 = .ok (.ldiv, 1) := by decide +kernel
theorem dX0_putMix_50 : decode cX0_putMix 50 = .ok (.invokevirtual 20, 3) := by decide +kernel
theorem dX0_putMix_53 : decode cX0_putMix 53 = .ok (.return_, 1) := by decide +kernel
set_option maxHeartbeats 4000000 in
set_option maxRecDepth 100000 in
theorem t_X0_putMix (l : Launch) (D : xD) (z n : Nat) (G : xG) (I : xI) (L : xL) (a : Nat) (b : Nat) (x : Int64) (d : Nat) (y : Int64) (ga : G a = some (0, 0, rN)) (gb : G b = some (0, 0, rN)) (gd : G d = some (0, 0, rN)) (za : z ≤ a) : xM0 l D z yX0_putMix cX0_putMix 9 none 1 24 [.ref a, .ref b, .long x, .ref d, .long y] n G I L (xE none I (if x + y = 0 then L else cput L a (held ((x * L b 0 + y * L d 0) / (x + y))) (held ((x * L b 1 + y * L d 1) / (x + y))))) := by
  refine xM.of (by decide) (Nat.le_of_ble_eq_true rfl) (fun p e s m args below meth c C hnm hsz => ?_)
  refine x_lv [(0, .ref a), (1, .ref b), (2, .long x), (4, .ref d), (5, .long y)] rfl ?_
  refine x_lload_n 0 C dX0_putMix_0 rfl 2 rfl ?_
  refine x_lload 1 C dX0_putMix_1 4 rfl ?_
  refine x_ladd 3 C dX0_putMix_3 ?_
  refine x_topl (fun v1 ev1 => ?_)
  refine x_lstore 4 C [(7, .long v1), (0, .ref a), (1, .ref b), (2, .long x), (4, .ref d), (5, .long y)] dX0_putMix_4 (by decide) rfl ?_
  refine x_lload 6 C dX0_putMix_6 0 rfl ?_
  refine x_lconst 8 C (v := 0) dX0_putMix_8 rfl ?_
  refine x_lc_eq 9 C 53 dX0_putMix_9 dX0_putMix_10 (by decide) (fun c2 => ?_) (fun c2 => ?_)
  · skip
    refine x_vret 53 C dX0_putMix_53 rfl (Nat.le_refl _) (xN.intro ?_)
    subst ev1
    refine ⟨rfl, rfl, ?_⟩
    simp [c2]
  · skip
    refine x_aload_n 13 C dX0_putMix_13 rfl 1 rfl ?_
    refine x_lload_n 14 C dX0_putMix_14 rfl 3 rfl ?_
    refine x_aload_n 15 C dX0_putMix_15 rfl 2 rfl ?_
    refine x_getl 16 C dX0_putMix_16 ff_X0_7 gb ?_
    refine x_lmul 19 C dX0_putMix_19 ?_
    refine x_lload 20 C dX0_putMix_20 5 rfl ?_
    refine x_aload 22 C dX0_putMix_22 4 rfl ?_
    refine x_getl 24 C dX0_putMix_24 ff_X0_7 gd ?_
    refine x_lmul 27 C dX0_putMix_27 ?_
    refine x_ladd 28 C dX0_putMix_28 ?_
    refine x_lload 29 C dX0_putMix_29 0 rfl ?_
    refine x_ldiv 31 C dX0_putMix_31 (by first | assumption | decide) ?_
    refine x_lload_n 32 C dX0_putMix_32 rfl 3 rfl ?_
    refine x_aload_n 33 C dX0_putMix_33 rfl 2 rfl ?_
    refine x_getl 34 C dX0_putMix_34 ff_X0_13 gb ?_
    refine x_lmul 37 C dX0_putMix_37 ?_
    refine x_lload 38 C dX0_putMix_38 5 rfl ?_
    refine x_aload 40 C dX0_putMix_40 4 rfl ?_
    refine x_getl 42 C dX0_putMix_42 ff_X0_13 gd ?_
    refine x_lmul 45 C dX0_putMix_45 ?_
    refine x_ladd 46 C dX0_putMix_46 ?_
    refine x_lload 47 C dX0_putMix_47 0 rfl ?_
    refine x_ldiv 49 C dX0_putMix_49 (by first | assumption | decide) ?_
    refine x_callVe 50 C dX0_putMix_50 (As := [.long (((x * (L b 0)) + (y * (L d 0))) / v1), .long (((x * (L b 1)) + (y * (L d 1))) / v1)]) (rest := []) [] (t_X0_put l D z n G I L a (((x * (L b 0)) + (y * (L d 0))) / v1) (((x * (L b 1)) + (y * (L d 1))) / v1) ga (by omega)) mt_X0_put km_X0_20 ki_X0_put ks_X0_put ga ⟨by decide, rfl⟩ rfl rfl (Nat.le_of_ble_eq_true rfl) ⟨⟨by decide, by decide⟩, by decide, by decide⟩ (fun I3 L4 eI3 eL4 => ?_)
    replace eI3 := eI3.symm; subst eI3
    refine x_vret 53 C dX0_putMix_53 rfl (Nat.le_refl _) (xN.intro ?_)
    subst ev1; subst eL4
    refine ⟨rfl, rfl, ?_⟩
    simp [c2]
theorem dX0_putTimesGaussian_0 : decode cX0_putTimesGaussian 0 = .ok (.aload_n 0, 1) := by decide +kernel
theorem dX0_putTimesGaussian_1 : decode cX0_putTimesGaussian 1 = .ok (.lload_n 2, 1) := by decide +kernel
theorem dX0_putTimesGaussian_2 : decode cX0_putTimesGaussian 2 = .ok (.aload_n 1, 1) := by decide +kernel
theorem dX0_putTimesGaussian_3 : decode cX0_putTimesGaussian 3 = .ok (.getfield 7, 3) := by decide +kernel
theorem dX0_putTimesGaussian_6 : decode cX0_putTimesGaussian 6 = .ok (.lmul, 1) := by decide +kernel
theorem dX0_putTimesGaussian_7 : decode cX0_putTimesGaussian 7 = .ok (.lload 4, 2) := by decide +kernel
theorem dX0_putTimesGaussian_9 : decode cX0_putTimesGaussian 9 = .ok (.aload_n 1, 1) := by decide +kernel
theorem dX0_putTimesGaussian_10 : decode cX0_putTimesGaussian 10 = .ok (.getfield 13, 3) := by decide +kernel
theorem dX0_putTimesGaussian_13 : decode cX0_putTimesGaussian 13 = .ok (.lmul, 1) := by decide +kernel
theorem dX0_putTimesGaussian_14 : decode cX0_putTimesGaussian 14 = .ok (.lsub, 1) := by decide +kernel
theorem dX0_putTimesGaussian_15 : decode cX0_putTimesGaussian 15 = .ok (.lload_n 2, 1) := by decide +kernel
theorem dX0_putTimesGaussian_16 : decode cX0_putTimesGaussian 16 = .ok (.aload_n 1, 1) := by decide +kernel
theorem dX0_putTimesGaussian_17 : decode cX0_putTimesGaussian 17 = .ok (.getfield 13, 3) := by decide +kernel
theorem dX0_putTimesGaussian_20 : decode cX0_putTimesGaussian 20 = .ok (.lmul, 1) := by decide +kernel
theorem dX0_putTimesGaussian_21 : decode cX0_putTimesGaussian 21 = .ok (.lload 4, 2) := by decide +kernel
theorem dX0_putTimesGaussian_23 : decode cX0_putTimesGaussian 23 = .ok (.aload_n 1, 1) := by decide +kernel
theorem dX0_putTimesGaussian_24 : decode cX0_putTimesGaussian 24 = .ok (.getfield 7, 3) := by decide +kernel
theorem dX0_putTimesGaussian_27 : decode cX0_putTimesGaussian 27 = .ok (.lmul, 1) := by decide +kernel
theorem dX0_putTimesGaussian_28 : decode cX0_putTimesGaussian 28 = .ok (.ladd, 1) := by decide +kernel
theorem dX0_putTimesGaussian_29 : decode cX0_putTimesGaussian 29 = .ok (.invokevirtual 20, 3) := by decide +kernel
theorem dX0_putTimesGaussian_32 : decode cX0_putTimesGaussian 32 = .ok (.return_, 1) := by decide +kernel
set_option maxHeartbeats 4000000 in
set_option maxRecDepth 100000 in
theorem t_X0_putTimesGaussian (l : Launch) (D : xD) (z n : Nat) (G : xG) (I : xI) (L : xL) (a : Nat) (b : Nat) (x : Int64) (y : Int64) (ga : G a = some (0, 0, rN)) (gb : G b = some (0, 0, rN)) (za : z ≤ a) : xM0 l D z yX0_putTimesGaussian cX0_putTimesGaussian 6 none 1 24 [.ref a, .ref b, .long x, .long y] n G I L (xE none I (cput L a (held (x * L b 0 - y * L b 1)) (held (x * L b 1 + y * L b 0)))) := by
  refine xM.of (by decide) (Nat.le_of_ble_eq_true rfl) (fun p e s m args below meth c C hnm hsz => ?_)
  refine x_lv [(0, .ref a), (1, .ref b), (2, .long x), (4, .long y)] rfl ?_
  refine x_aload_n 0 C dX0_putTimesGaussian_0 rfl 0 rfl ?_
  refine x_lload_n 1 C dX0_putTimesGaussian_1 rfl 2 rfl ?_
  refine x_aload_n 2 C dX0_putTimesGaussian_2 rfl 1 rfl ?_
  refine x_getl 3 C dX0_putTimesGaussian_3 ff_X0_7 gb ?_
  refine x_lmul 6 C dX0_putTimesGaussian_6 ?_
  refine x_lload 7 C dX0_putTimesGaussian_7 3 rfl ?_
  refine x_aload_n 9 C dX0_putTimesGaussian_9 rfl 1 rfl ?_
  refine x_getl 10 C dX0_putTimesGaussian_10 ff_X0_13 gb ?_
  refine x_lmul 13 C dX0_putTimesGaussian_13 ?_
  refine x_lsub 14 C dX0_putTimesGaussian_14 ?_
  refine x_lload_n 15 C dX0_putTimesGaussian_15 rfl 2 rfl ?_
  refine x_aload_n 16 C dX0_putTimesGaussian_16 rfl 1 rfl ?_
  refine x_getl 17 C dX0_putTimesGaussian_17 ff_X0_13 gb ?_
  refine x_lmul 20 C dX0_putTimesGaussian_20 ?_
  refine x_lload 21 C dX0_putTimesGaussian_21 3 rfl ?_
  refine x_aload_n 23 C dX0_putTimesGaussian_23 rfl 1 rfl ?_
  refine x_getl 24 C dX0_putTimesGaussian_24 ff_X0_7 gb ?_
  refine x_lmul 27 C dX0_putTimesGaussian_27 ?_
  refine x_ladd 28 C dX0_putTimesGaussian_28 ?_
  refine x_callVe 29 C dX0_putTimesGaussian_29 (As := [.long ((x * (L b 0)) - (y * (L b 1))), .long ((x * (L b 1)) + (y * (L b 0)))]) (rest := []) [] (t_X0_put l D z n G I L a ((x * (L b 0)) - (y * (L b 1))) ((x * (L b 1)) + (y * (L b 0))) ga (by omega)) mt_X0_put km_X0_20 ki_X0_put ks_X0_put ga ⟨by decide, rfl⟩ rfl rfl (Nat.le_of_ble_eq_true rfl) ⟨⟨by decide, by decide⟩, by decide, by decide⟩ (fun I1 L2 eI1 eL2 => ?_)
  replace eI1 := eI1.symm; subst eI1
  refine x_vret 32 C dX0_putTimesGaussian_32 rfl (Nat.le_refl _) (xN.intro ?_)
  subst eL2
  refine ⟨rfl, rfl, ?_⟩
  rfl
theorem dX0_putProduct_0 : decode cX0_putProduct 0 = .ok (.lload_n 3, 1) := by decide +kernel
theorem dX0_putProduct_1 : decode cX0_putProduct 1 = .ok (.lconst 0, 1) := by decide +kernel
theorem dX0_putProduct_2 : decode cX0_putProduct 2 = .ok (.lcmp, 1) := by decide +kernel
theorem dX0_putProduct_3 : decode cX0_putProduct 3 = .ok (.ifCond .eq 49, 3) := by decide +kernel
theorem dX0_putProduct_6 : decode cX0_putProduct 6 = .ok (.aload_n 0, 1) := by decide +kernel
theorem dX0_putProduct_7 : decode cX0_putProduct 7 = .ok (.aload_n 1, 1) := by decide +kernel
theorem dX0_putProduct_8 : decode cX0_putProduct 8 = .ok (.getfield 7, 3) := by decide +kernel
theorem dX0_putProduct_11 : decode cX0_putProduct 11 = .ok (.aload_n 2, 1) := by decide +kernel
theorem dX0_putProduct_12 : decode cX0_putProduct 12 = .ok (.getfield 7, 3) := by decide +kernel
theorem dX0_putProduct_15 : decode cX0_putProduct 15 = .ok (.lmul, 1) := by decide +kernel
theorem dX0_putProduct_16 : decode cX0_putProduct 16 = .ok (.aload_n 1, 1) := by decide +kernel
theorem dX0_putProduct_17 : decode cX0_putProduct 17 = .ok (.getfield 13, 3) := by decide +kernel
theorem dX0_putProduct_20 : decode cX0_putProduct 20 = .ok (.aload_n 2, 1) := by decide +kernel
theorem dX0_putProduct_21 : decode cX0_putProduct 21 = .ok (.getfield 13, 3) := by decide +kernel
theorem dX0_putProduct_24 : decode cX0_putProduct 24 = .ok (.lmul, 1) := by decide +kernel
theorem dX0_putProduct_25 : decode cX0_putProduct 25 = .ok (.lsub, 1) := by decide +kernel
theorem dX0_putProduct_26 : decode cX0_putProduct 26 = .ok (.lload_n 3, 1) := by decide +kernel
theorem dX0_putProduct_27 : decode cX0_putProduct 27 = .ok (.ldiv, 1) := by decide +kernel
theorem dX0_putProduct_28 : decode cX0_putProduct 28 = .ok (.aload_n 1, 1) := by decide +kernel
theorem dX0_putProduct_29 : decode cX0_putProduct 29 = .ok (.getfield 7, 3) := by decide +kernel
theorem dX0_putProduct_32 : decode cX0_putProduct 32 = .ok (.aload_n 2, 1) := by decide +kernel
theorem dX0_putProduct_33 : decode cX0_putProduct 33 = .ok (.getfield 13, 3) := by decide +kernel
theorem dX0_putProduct_36 : decode cX0_putProduct 36 = .ok (.lmul, 1) := by decide +kernel
theorem dX0_putProduct_37 : decode cX0_putProduct 37 = .ok (.aload_n 1, 1) := by decide +kernel
theorem dX0_putProduct_38 : decode cX0_putProduct 38 = .ok (.getfield 13, 3) := by decide +kernel
theorem dX0_putProduct_41 : decode cX0_putProduct 41 = .ok (.aload_n 2, 1) := by decide +kernel
theorem dX0_putProduct_42 : decode cX0_putProduct 42 = .ok (.getfield 7, 3) := by decide +kernel
theorem dX0_putProduct_45 : decode cX0_putProduct 45 = .ok (.lmul, 1) := by decide +kernel
theorem dX0_putProduct_46 : decode cX0_putProduct 46 = .ok (.ladd, 1) := by decide +kernel
theorem dX0_putProduct_47 : decode cX0_putProduct 47 = .ok (.lload_n 3, 1) := by decide +kernel
theorem dX0_putProduct_48 : decode cX0_putProduct 48 = .ok (.ldiv, 1) := by decide +kernel
theorem dX0_putProduct_49 : decode cX0_putProduct 49 = .ok (.invokevirtual 20, 3) := by decide +kernel
theorem dX0_putProduct_52 : decode cX0_putProduct 52 = .ok (.return_, 1) := by decide +kernel
set_option maxHeartbeats 4000000 in
set_option maxRecDepth 100000 in
theorem t_X0_putProduct (l : Launch) (D : xD) (z n : Nat) (G : xG) (I : xI) (L : xL) (a : Nat) (b : Nat) (d : Nat) (u : Int64) (ga : G a = some (0, 0, rN)) (gb : G b = some (0, 0, rN)) (gd : G d = some (0, 0, rN)) (za : z ≤ a) : xM0 l D z yX0_putProduct cX0_putProduct 5 none 1 24 [.ref a, .ref b, .ref d, .long u] n G I L (xE none I (if u = 0 then L else cput L a (held ((L b 0 * L d 0 - L b 1 * L d 1) / u)) (held ((L b 0 * L d 1 + L b 1 * L d 0) / u)))) := by
  refine xM.of (by decide) (Nat.le_of_ble_eq_true rfl) (fun p e s m args below meth c C hnm hsz => ?_)
  refine x_lv [(0, .ref a), (1, .ref b), (2, .ref d), (3, .long u)] rfl ?_
  refine x_lload_n 0 C dX0_putProduct_0 rfl 3 rfl ?_
  refine x_lconst 1 C (v := 0) dX0_putProduct_1 rfl ?_
  refine x_lc_eq 2 C 52 dX0_putProduct_2 dX0_putProduct_3 (by decide) (fun c1 => ?_) (fun c1 => ?_)
  · skip
    refine x_vret 52 C dX0_putProduct_52 rfl (Nat.le_refl _) (xN.intro ?_)
    skip
    refine ⟨rfl, rfl, ?_⟩
    simp [c1]
  · skip
    refine x_aload_n 6 C dX0_putProduct_6 rfl 0 rfl ?_
    refine x_aload_n 7 C dX0_putProduct_7 rfl 1 rfl ?_
    refine x_getl 8 C dX0_putProduct_8 ff_X0_7 gb ?_
    refine x_aload_n 11 C dX0_putProduct_11 rfl 2 rfl ?_
    refine x_getl 12 C dX0_putProduct_12 ff_X0_7 gd ?_
    refine x_lmul 15 C dX0_putProduct_15 ?_
    refine x_aload_n 16 C dX0_putProduct_16 rfl 1 rfl ?_
    refine x_getl 17 C dX0_putProduct_17 ff_X0_13 gb ?_
    refine x_aload_n 20 C dX0_putProduct_20 rfl 2 rfl ?_
    refine x_getl 21 C dX0_putProduct_21 ff_X0_13 gd ?_
    refine x_lmul 24 C dX0_putProduct_24 ?_
    refine x_lsub 25 C dX0_putProduct_25 ?_
    refine x_lload_n 26 C dX0_putProduct_26 rfl 3 rfl ?_
    refine x_ldiv 27 C dX0_putProduct_27 (by first | assumption | decide) ?_
    refine x_aload_n 28 C dX0_putProduct_28 rfl 1 rfl ?_
    refine x_getl 29 C dX0_putProduct_29 ff_X0_7 gb ?_
    refine x_aload_n 32 C dX0_putProduct_32 rfl 2 rfl ?_
    refine x_getl 33 C dX0_putProduct_33 ff_X0_13 gd ?_
    refine x_lmul 36 C dX0_putProduct_36 ?_
    refine x_aload_n 37 C dX0_putProduct_37 rfl 1 rfl ?_
    refine x_getl 38 C dX0_putProduct_38 ff_X0_13 gb ?_
    refine x_aload_n 41 C dX0_putProduct_41 rfl 2 rfl ?_
    refine x_getl 42 C dX0_putProduct_42 ff_X0_7 gd ?_
    refine x_lmul 45 C dX0_putProduct_45 ?_
    refine x_ladd 46 C dX0_putProduct_46 ?_
    refine x_lload_n 47 C dX0_putProduct_47 rfl 3 rfl ?_
    refine x_ldiv 48 C dX0_putProduct_48 (by first | assumption | decide) ?_
    refine x_callVe 49 C dX0_putProduct_49 (As := [.long ((((L b 0) * (L d 0)) - ((L b 1) * (L d 1))) / u), .long ((((L b 0) * (L d 1)) + ((L b 1) * (L d 0))) / u)]) (rest := []) [] (t_X0_put l D z n G I L a ((((L b 0) * (L d 0)) - ((L b 1) * (L d 1))) / u) ((((L b 0) * (L d 1)) + ((L b 1) * (L d 0))) / u) ga (by omega)) mt_X0_put km_X0_20 ki_X0_put ks_X0_put ga ⟨by decide, rfl⟩ rfl rfl (Nat.le_of_ble_eq_true rfl) ⟨⟨by decide, by decide⟩, by decide, by decide⟩ (fun I2 L3 eI2 eL3 => ?_)
    replace eI2 := eI2.symm; subst eI2
    refine x_vret 52 C dX0_putProduct_52 rfl (Nat.le_refl _) (xN.intro ?_)
    subst eL3
    refine ⟨rfl, rfl, ?_⟩
    simp [c1]
theorem dX0_divideBy_0 : decode cX0_divideBy 0 = .ok (.lload_n 2, 1) := by decide +kernel
theorem dX0_divideBy_1 : decode cX0_divideBy 1 = .ok (.lconst 0, 1) := by decide +kernel
theorem dX0_divideBy_2 : decode cX0_divideBy 2 = .ok (.lcmp, 1) := by decide +kernel
theorem dX0_divideBy_3 : decode cX0_divideBy 3 = .ok (.ifCond .ne 7, 3) := by decide +kernel
theorem dX0_divideBy_6 : decode cX0_divideBy 6 = .ok (.lconst 0, 1) := by decide +kernel
theorem dX0_divideBy_7 : decode cX0_divideBy 7 = .ok (.goto 24, 3) := by decide +kernel
theorem dX0_divideBy_10 : decode cX0_divideBy 10 = .ok (.aload_n 1, 1) := by decide +kernel
theorem dX0_divideBy_11 : decode cX0_divideBy 11 = .ok (.getfield 7, 3) := by decide +kernel
theorem dX0_divideBy_14 : decode cX0_divideBy 14 = .ok (.aload_n 1, 1) := by decide +kernel
theorem dX0_divideBy_15 : decode cX0_divideBy 15 = .ok (.getfield 7, 3) := by decide +kernel
theorem dX0_divideBy_18 : decode cX0_divideBy 18 = .ok (.lmul, 1) := by decide +kernel
theorem dX0_divideBy_19 : decode cX0_divideBy 19 = .ok (.aload_n 1, 1) := by decide +kernel
theorem dX0_divideBy_20 : decode cX0_divideBy 20 = .ok (.getfield 13, 3) := by decide +kernel
theorem dX0_divideBy_23 : decode cX0_divideBy 23 = .ok (.aload_n 1, 1) := by decide +kernel
theorem dX0_divideBy_24 : decode cX0_divideBy 24 = .ok (.getfield 13, 3) := by decide +kernel
theorem dX0_divideBy_27 : decode cX0_divideBy 27 = .ok (.lmul, 1) := by decide +kernel
theorem dX0_divideBy_28 : decode cX0_divideBy 28 = .ok (.ladd, 1) := by decide +kernel
theorem dX0_divideBy_29 : decode cX0_divideBy 29 = .ok (.lload_n 2, 1) := by decide +kernel
theorem dX0_divideBy_30 : decode cX0_divideBy 30 = .ok (.ldiv, 1) := by decide +kernel
theorem dX0_divideBy_31 : decode cX0_divideBy 31 = .ok (.lstore 4, 2) := by decide +kernel
theorem dX0_divideBy_33 : decode cX0_divideBy 33 = .ok (.lload 4, 2) := by decide +kernel
theorem dX0_divideBy_35 : decode cX0_divideBy 35 = .ok (.lconst 0, 1) := by decide +kernel
theorem dX0_divideBy_36 : decode cX0_divideBy 36 = .ok (.lcmp, 1) := by decide +kernel
theorem dX0_divideBy_37 : decode cX0_divideBy 37 = .ok (.ifCond .ne 5, 3) := by decide +kernel
theorem dX0_divideBy_40 : decode cX0_divideBy 40 = .ok (.iconst 0, 1) := by decide +kernel
theorem dX0_divideBy_41 : decode cX0_divideBy 41 = .ok (.ireturn, 1) := by decide +kernel
theorem dX0_divideBy_42 : decode cX0_divideBy 42 = .ok (.aload_n 0, 1) := by decide +kernel
theorem dX0_divideBy_43 : decode cX0_divideBy 43 = .ok (.aload_n 0, 1) := by decide +kernel
theorem dX0_divideBy_44 : decode cX0_divideBy 44 = .ok (.getfield 7, 3) := by decide +kernel
theorem dX0_divideBy_47 : decode cX0_divideBy 47 = .ok (.aload_n 1, 1) := by decide +kernel
theorem dX0_divideBy_48 : decode cX0_divideBy 48 = .ok (.getfield 7, 3) := by decide +kernel
theorem dX0_divideBy_51 : decode cX0_divideBy 51 = .ok (.lmul, 1) := by decide +kernel
theorem dX0_divideBy_52 : decode cX0_divideBy 52 = .ok (.aload_n 0, 1) := by decide +kernel
theorem dX0_divideBy_53 : decode cX0_divideBy 53 = .ok (.getfield 13, 3) := by decide +kernel
theorem dX0_divideBy_56 : decode cX0_divideBy 56 = .ok (.aload_n 1, 1) := by decide +kernel
theorem dX0_divideBy_57 : decode cX0_divideBy 57 = .ok (.getfield 13, 3) := by decide +kernel
theorem dX0_divideBy_60 : decode cX0_divideBy 60 = .ok (.lmul, 1) := by decide +kernel
theorem dX0_divideBy_61 : decode cX0_divideBy 61 = .ok (.ladd, 1) := by decide +kernel
theorem dX0_divideBy_62 : decode cX0_divideBy 62 = .ok (.lload 4, 2) := by decide +kernel
theorem dX0_divideBy_64 : decode cX0_divideBy 64 = .ok (.ldiv, 1) := by decide +kernel
theorem dX0_divideBy_65 : decode cX0_divideBy 65 = .ok (.aload_n 0, 1) := by decide +kernel
theorem dX0_divideBy_66 : decode cX0_divideBy 66 = .ok (.getfield 13, 3) := by decide +kernel
theorem dX0_divideBy_69 : decode cX0_divideBy 69 = .ok (.aload_n 1, 1) := by decide +kernel
theorem dX0_divideBy_70 : decode cX0_divideBy 70 = .ok (.getfield 7, 3) := by decide +kernel
theorem dX0_divideBy_73 : decode cX0_divideBy 73 = .ok (.lmul, 1) := by decide +kernel
theorem dX0_divideBy_74 : decode cX0_divideBy 74 = .ok (.aload_n 0, 1) := by decide +kernel
theorem dX0_divideBy_75 : decode cX0_divideBy 75 = .ok (.getfield 7, 3) := by decide +kernel
theorem dX0_divideBy_78 : decode cX0_divideBy 78 = .ok (.aload_n 1, 1) := by decide +kernel
theorem dX0_divideBy_79 : decode cX0_divideBy 79 = .ok (.getfield 13, 3) := by decide +kernel
theorem dX0_divideBy_82 : decode cX0_divideBy 82 = .ok (.lmul, 1) := by decide +kernel
theorem dX0_divideBy_83 : decode cX0_divideBy 83 = .ok (.lsub, 1) := by decide +kernel
theorem dX0_divideBy_84 : decode cX0_divideBy 84 = .ok (.lload 4, 2) := by decide +kernel
theorem dX0_divideBy_86 : decode cX0_divideBy 86 = .ok (.ldiv, 1) := by decide +kernel
theorem dX0_divideBy_87 : decode cX0_divideBy 87 = .ok (.invokevirtual 20, 3) := by decide +kernel
theorem dX0_divideBy_90 : decode cX0_divideBy 90 = .ok (.iconst 1, 1) := by decide +kernel
theorem dX0_divideBy_91 : decode cX0_divideBy 91 = .ok (.ireturn, 1) := by decide +kernel
set_option maxHeartbeats 4000000 in
set_option maxRecDepth 100000 in
theorem t_X0_divideBy (l : Launch) (D : xD) (z n : Nat) (G : xG) (I : xI) (L : xL) (a : Nat) (b : Nat) (u : Int64) (ga : G a = some (0, 0, rN)) (gb : G b = some (0, 0, rN)) (za : z ≤ a) : xM0 l D z yX0_divideBy cX0_divideBy 6 (some .boolean) 1 24 [.ref a, .ref b, .long u] n G I L (xE (some (.int (if cnorm (L b 0) (L b 1) u = 0 then 0 else 1))) I (if cnorm (L b 0) (L b 1) u = 0 then L else cput L a (held ((L a 0 * L b 0 + L a 1 * L b 1) / cnorm (L b 0) (L b 1) u)) (held ((L a 1 * L b 0 - L a 0 * L b 1) / cnorm (L b 0) (L b 1) u)))) := by
  refine xM.of (by decide) (Nat.le_of_ble_eq_true rfl) (fun p e s m args below meth c C hnm hsz => ?_)
  refine x_lv [(0, .ref a), (1, .ref b), (2, .long u)] rfl ?_
  refine x_lload_n 0 C dX0_divideBy_0 rfl 2 rfl ?_
  refine x_lconst 1 C (v := 0) dX0_divideBy_1 rfl ?_
  have hJj2 : ∀ j2 : Int64, j2 = (cnorm (L b 0) (L b 1) u) → X p l e (xRm 1 24 0 0) s m args below meth c D z 6 (MQ below (xQc D z n (xN n G (xE (some (.int (if cnorm (L b 0) (L b 1) u = 0 then 0 else 1))) I (if cnorm (L b 0) (L b 1) u = 0 then L else cput L a (held ((L a 0 * L b 0 + L a 1 * L b 1) / cnorm (L b 0) (L b 1) u)) (held ((L a 1 * L b 0 - L a 0 * L b 1) / cnorm (L b 0) (L b 1) u)))))) args s 0 0 (fun a => z ≤ a)) 0 0 n G I L 31 [(0, .ref a), (1, .ref b), (2, .long u)] [.long j2] := by
    intro j2 ej2
    refine x_lstore 31 C [(4, .long j2), (0, .ref a), (1, .ref b), (2, .long u)] dX0_divideBy_31 (by decide) rfl ?_
    refine x_lload 33 C dX0_divideBy_33 0 rfl ?_
    refine x_lconst 35 C (v := 0) dX0_divideBy_35 rfl ?_
    refine x_lc_ne 36 C 42 dX0_divideBy_36 dX0_divideBy_37 (by decide) (fun c3 => ?_) (fun c3 => ?_)
    · skip
      refine x_aload_n 42 C dX0_divideBy_42 rfl 1 rfl ?_
      refine x_aload_n 43 C dX0_divideBy_43 rfl 1 rfl ?_
      refine x_getl 44 C dX0_divideBy_44 ff_X0_7 ga ?_
      refine x_aload_n 47 C dX0_divideBy_47 rfl 2 rfl ?_
      refine x_getl 48 C dX0_divideBy_48 ff_X0_7 gb ?_
      refine x_lmul 51 C dX0_divideBy_51 ?_
      refine x_aload_n 52 C dX0_divideBy_52 rfl 1 rfl ?_
      refine x_getl 53 C dX0_divideBy_53 ff_X0_13 ga ?_
      refine x_aload_n 56 C dX0_divideBy_56 rfl 2 rfl ?_
      refine x_getl 57 C dX0_divideBy_57 ff_X0_13 gb ?_
      refine x_lmul 60 C dX0_divideBy_60 ?_
      refine x_ladd 61 C dX0_divideBy_61 ?_
      refine x_lload 62 C dX0_divideBy_62 0 rfl ?_
      refine x_ldiv 64 C dX0_divideBy_64 (by first | assumption | decide) ?_
      refine x_aload_n 65 C dX0_divideBy_65 rfl 1 rfl ?_
      refine x_getl 66 C dX0_divideBy_66 ff_X0_13 ga ?_
      refine x_aload_n 69 C dX0_divideBy_69 rfl 2 rfl ?_
      refine x_getl 70 C dX0_divideBy_70 ff_X0_7 gb ?_
      refine x_lmul 73 C dX0_divideBy_73 ?_
      refine x_aload_n 74 C dX0_divideBy_74 rfl 1 rfl ?_
      refine x_getl 75 C dX0_divideBy_75 ff_X0_7 ga ?_
      refine x_aload_n 78 C dX0_divideBy_78 rfl 2 rfl ?_
      refine x_getl 79 C dX0_divideBy_79 ff_X0_13 gb ?_
      refine x_lmul 82 C dX0_divideBy_82 ?_
      refine x_lsub 83 C dX0_divideBy_83 ?_
      refine x_lload 84 C dX0_divideBy_84 0 rfl ?_
      refine x_ldiv 86 C dX0_divideBy_86 (by first | assumption | decide) ?_
      refine x_callVe 87 C dX0_divideBy_87 (As := [.long ((((L a 0) * (L b 0)) + ((L a 1) * (L b 1))) / j2), .long ((((L a 1) * (L b 0)) - ((L a 0) * (L b 1))) / j2)]) (rest := []) [] (t_X0_put l D z n G I L a ((((L a 0) * (L b 0)) + ((L a 1) * (L b 1))) / j2) ((((L a 1) * (L b 0)) - ((L a 0) * (L b 1))) / j2) ga (by omega)) mt_X0_put km_X0_20 ki_X0_put ks_X0_put ga ⟨by decide, rfl⟩ rfl rfl (Nat.le_of_ble_eq_true rfl) ⟨⟨by decide, by decide⟩, by decide, by decide⟩ (fun I4 L5 eI4 eL5 => ?_)
      replace eI4 := eI4.symm; subst eI4
      refine x_iconst 90 C (v := 1) dX0_divideBy_90 rfl ?_
      refine x_iret 91 C dX0_divideBy_91 rfl rfl (Nat.le_refl _) (xN.intro ?_)
      subst ej2; subst eL5
      refine ⟨?_, rfl, ?_⟩ <;> simp [c3]
    · skip
      refine x_iconst 40 C (v := 0) dX0_divideBy_40 rfl ?_
      refine x_iret 41 C dX0_divideBy_41 rfl rfl (Nat.le_refl _) (xN.intro ?_)
      subst ej2
      refine ⟨?_, rfl, ?_⟩ <;> simp [c3]
  refine x_lc_ne 2 C 10 dX0_divideBy_2 dX0_divideBy_3 (by decide) (fun c1 => ?_) (fun c1 => ?_)
  · skip
    refine x_aload_n 10 C dX0_divideBy_10 rfl 1 rfl ?_
    refine x_getl 11 C dX0_divideBy_11 ff_X0_7 gb ?_
    refine x_aload_n 14 C dX0_divideBy_14 rfl 1 rfl ?_
    refine x_getl 15 C dX0_divideBy_15 ff_X0_7 gb ?_
    refine x_lmul 18 C dX0_divideBy_18 ?_
    refine x_aload_n 19 C dX0_divideBy_19 rfl 1 rfl ?_
    refine x_getl 20 C dX0_divideBy_20 ff_X0_13 gb ?_
    refine x_aload_n 23 C dX0_divideBy_23 rfl 1 rfl ?_
    refine x_getl 24 C dX0_divideBy_24 ff_X0_13 gb ?_
    refine x_lmul 27 C dX0_divideBy_27 ?_
    refine x_ladd 28 C dX0_divideBy_28 ?_
    refine x_lload_n 29 C dX0_divideBy_29 rfl 2 rfl ?_
    refine x_ldiv 30 C dX0_divideBy_30 (by first | assumption | decide) ?_
    exact hJj2 _ (by simp [cnorm, c1])
  · skip
    refine x_lconst 6 C (v := 0) dX0_divideBy_6 rfl ?_
    refine x_goto 7 C 31 dX0_divideBy_7 (by decide) ?_
    exact hJj2 _ (by simp [cnorm, c1])
theorem dX0_size_0 : decode cX0_size 0 = .ok (.aload_n 0, 1) := by decide +kernel
theorem dX0_size_1 : decode cX0_size 1 = .ok (.getfield 7, 3) := by decide +kernel
theorem dX0_size_4 : decode cX0_size 4 = .ok (.invokestatic 24, 3) := by decide +kernel
theorem dX0_size_7 : decode cX0_size 7 = .ok (.aload_n 0, 1) := by decide +kernel
theorem dX0_size_8 : decode cX0_size 8 = .ok (.getfield 13, 3) := by decide +kernel
theorem dX0_size_11 : decode cX0_size 11 = .ok (.invokestatic 24, 3) := by decide +kernel
theorem dX0_size_14 : decode cX0_size 14 = .ok (.invokestatic 30, 3) := by decide +kernel
theorem dX0_size_17 : decode cX0_size 17 = .ok (.lreturn, 1) := by decide +kernel
set_option maxHeartbeats 4000000 in
set_option maxRecDepth 100000 in
theorem t_X0_size (l : Launch) (D : xD) (z n : Nat) (G : xG) (I : xI) (L : xL) (a : Nat) (ga : G a = some (0, 0, rN)) : xM0 l D z yX0_size cX0_size 1 (some .long) 1 23 [.ref a] n G I L (xE (some (.long (csize (L a 0) (L a 1)))) I L) := by
  refine xM.of (by decide) (Nat.le_of_ble_eq_true rfl) (fun p e s m args below meth c C hnm hsz => ?_)
  refine x_lv [(0, .ref a)] rfl ?_
  refine x_aload_n 0 C dX0_size_0 rfl 0 rfl ?_
  refine x_getl 1 C dX0_size_1 ff_X0_7 ga ?_
  refine x_mabsl 4 C dX0_size_4 km_X0_24 kt_J9_abs_067f4 kn_J9 kc_J9_abs_067f4 ⟨by decide, Nat.le_of_ble_eq_true rfl, by decide, by decide⟩ ?_
  refine x_aload_n 7 C dX0_size_7 rfl 0 rfl ?_
  refine x_getl 8 C dX0_size_8 ff_X0_13 ga ?_
  refine x_mabsl 11 C dX0_size_11 km_X0_24 kt_J9_abs_067f4 kn_J9 kc_J9_abs_067f4 ⟨by decide, Nat.le_of_ble_eq_true rfl, by decide, by decide⟩ ?_
  refine x_mmaxl 14 C dX0_size_14 km_X0_30 kt_J9_max_f86c9 kn_J9 kc_J9_max_f86c9 ⟨by decide, Nat.le_of_ble_eq_true rfl, by decide, by decide⟩ ?_
  refine x_lret 17 C dX0_size_17 rfl (Nat.le_refl _) (xN.intro ?_)
  exact ⟨rfl, rfl, rfl⟩
theorem dX0_thousandths_0 : decode cX0_thousandths 0 = .ok (.lload_n 2, 1) := by decide +kernel
theorem dX0_thousandths_1 : decode cX0_thousandths 1 = .ok (.lconst 0, 1) := by decide +kernel
theorem dX0_thousandths_2 : decode cX0_thousandths 2 = .ok (.lcmp, 1) := by decide +kernel
theorem dX0_thousandths_3 : decode cX0_thousandths 3 = .ok (.ifCond .ne 7, 3) := by decide +kernel
theorem dX0_thousandths_6 : decode cX0_thousandths 6 = .ok (.iconst 0, 1) := by decide +kernel
theorem dX0_thousandths_7 : decode cX0_thousandths 7 = .ok (.goto 11, 3) := by decide +kernel
theorem dX0_thousandths_10 : decode cX0_thousandths 10 = .ok (.lload_n 0, 1) := by decide +kernel
theorem dX0_thousandths_11 : decode cX0_thousandths 11 = .ok (.ldc2_w 34, 3) := by decide +kernel
theorem dX0_thousandths_14 : decode cX0_thousandths 14 = .ok (.lmul, 1) := by decide +kernel
theorem dX0_thousandths_15 : decode cX0_thousandths 15 = .ok (.lload_n 2, 1) := by decide +kernel
theorem dX0_thousandths_16 : decode cX0_thousandths 16 = .ok (.ldiv, 1) := by decide +kernel
theorem dX0_thousandths_17 : decode cX0_thousandths 17 = .ok (.l2i, 1) := by decide +kernel
theorem dX0_thousandths_18 : decode cX0_thousandths 18 = .ok (.ireturn, 1) := by decide +kernel
set_option maxHeartbeats 4000000 in
set_option maxRecDepth 100000 in
theorem t_X0_thousandths (l : Launch) (D : xD) (z n : Nat) (G : xG) (I : xI) (L : xL) (x : Int64) (u : Int64)  : xM0 l D z yX0_thousandths cX0_thousandths 4 (some .int) 0 0 [.long x, .long u] n G I L (xE (some (.int (cthou x u))) I L) := by
  refine xM.of (by decide) (Nat.le_of_ble_eq_true rfl) (fun p e s m args below meth c C hnm hsz => ?_)
  refine x_lv [(0, .long x), (2, .long u)] rfl ?_
  refine x_lload_n 0 C dX0_thousandths_0 rfl 1 rfl ?_
  refine x_lconst 1 C (v := 0) dX0_thousandths_1 rfl ?_
  refine x_lc_ne 2 C 10 dX0_thousandths_2 dX0_thousandths_3 (by decide) (fun c1 => ?_) (fun c1 => ?_)
  · skip
    refine x_lload_n 10 C dX0_thousandths_10 rfl 0 rfl ?_
    refine x_ldc2 11 C 1000 dX0_thousandths_11 kk_X0_34 ?_
    refine x_lmul 14 C dX0_thousandths_14 ?_
    refine x_lload_n 15 C dX0_thousandths_15 rfl 1 rfl ?_
    refine x_ldiv 16 C dX0_thousandths_16 (by first | assumption | decide) ?_
    refine x_l2i 17 C dX0_thousandths_17 ?_
    refine x_iret 18 C dX0_thousandths_18 rfl rfl (Nat.le_refl _) (xN.intro ?_)
    skip
    refine ⟨?_, rfl, rfl⟩
    simp [cthou, c1]
  · skip
    refine x_iconst 6 C (v := 0) dX0_thousandths_6 rfl ?_
    refine x_goto 7 C 18 dX0_thousandths_7 (by decide) ?_
    refine x_iret 18 C dX0_thousandths_18 rfl rfl (Nat.le_refl _) (xN.intro ?_)
    skip
    refine ⟨?_, rfl, rfl⟩
    simp [cthou, c1]
end
section
/-! PathTracker$Path: contracts. A Path at a: its Complexes at a + 1, a + 2; status 2, place 3, step 4, greatest step 5, precision 6, good 7, failed 8, row 9. -/
def rPath (a : Nat) : Nat → Option Nat := va_up (va_up rN 0 (some (a + 1))) 1 (some (a + 2))
def shP (G : xG) (a : Nat) : Prop := G a = some (6, 0, rPath a) ∧ G (a + 1) = some (0, 0, rN) ∧ G (a + 2) = some (0, 0, rN)
def punit (pr : Int32) : Int64 := if pr = 18 then 262144 else 1024
/-- a part's value before it is told in thousandths -/
def pval (L : xL) (a j : Nat) : Int64 := if j = 0 then L (a + 1) 0 else if j = 1 then L (a + 1) 1 else if j = 2 then L (a + 2) 0 else L (a + 2) 1
def ppart (I : xI) (L : xL) (a j : Nat) : Int32 := cthou (pval L a j) (punit (I a 6))
def iabs (x : Int32) : Int32 := if 0 ≤ x then x else 0 - x
def labs (x : Int64) : Int64 := if 0 < x then x else -x
def imin (x y : Int32) : Int32 := if y < x then y else x
def pBegin (I : xI) (a : Nat) (s g : Int32) : xI := xup (xup (xup (xup (xup (xup (xup (xup I a 2 0) a 3 0) a 5 g) a 4 (imin s g)) a 6 10) a 7 0) a 8 0) a 9 0
def rootC (dg nu : Int32) (u : Int64) : Int64 × Int64 := if nu = 0 then (u, 0) else if dg = 2 then (-u, 0) else (-(u / 2), if nu = 1 then 866025404 * u / 1000000000 else -(866025404 * u / 1000000000))
def rootL (L : xL) (a : Nat) (dg nu : Int32) (u : Int64) : xL := cput L a (held (rootC dg nu u).1) (held (rootC dg nu u).2)
def pCopyI (I : xI) (a b : Nat) : xI := xup (xup (xup (xup (xup (xup (xup (xup I a 2 (I b 2)) a 3 (I b 3)) a 4 (I b 4)) a 5 (I b 5)) a 6 (I b 6)) a 7 (I b 7)) a 8 (I b 8)) a 9 (I b 9)
def pNear (I : xI) (L : xL) (a b : Nat) (w : Int32) (j : Nat) : Bool := decide (labs ((ppart I L a j).toInt64 - (ppart I L b j).toInt64) ≤ w.toInt64)
def pNears (I : xI) (L : xL) (a b : Nat) (w : Int32) : Bool := pNear I L a b w 0 && (pNear I L a b w 1 && (pNear I L a b w 2 && pNear I L a b w 3))
def bI (b : Bool) : Int32 := if b then 1 else 0
def icmp (x y : Int32) : Int32 := if x < y then -1 else if x = y then 0 else 1
def pCmp (I : xI) (L : xL) (a b : Nat) : Int32 := if icmp (ppart I L a 0) (ppart I L b 0) ≠ 0 then icmp (ppart I L a 0) (ppart I L b 0) else if icmp (ppart I L a 1) (ppart I L b 1) ≠ 0 then icmp (ppart I L a 1) (ppart I L b 1) else if icmp (ppart I L a 2) (ppart I L b 2) ≠ 0 then icmp (ppart I L a 2) (ppart I L b 2) else icmp (ppart I L a 3) (ppart I L b 3)
def lmax (x y : Int64) : Int64 := if y < x then x else y
def pMove1 (I : xI) (a : Nat) (h : Int32) : xI := xup (xup (xup I a 3 (I a 3 + h)) a 7 (I a 7 + 1)) a 9 (I a 9 + 1)
def pMove2 (I : xI) (a : Nat) (h : Int32) : xI := if I a 9 + 1 < 3 then pMove1 I a h else xup (xup (pMove1 I a h) a 9 0) a 4 (imin (I a 4 * 2) (I a 5))
/-- the fields behind a good try of h to a point of size m, with bound and unit -/
def pMoveI (I : xI) (a : Nat) (h bo : Int32) (m : Int64) : xI := if m ≤ bo.toInt64 * punit (I a 6) then (if I a 3 + h < 1024 then pMove2 I a h else xup (pMove2 I a h) a 2 1) else xup (pMove2 I a h) a 2 2
/-- the fields behind a failed try -/
def pFail1 (I : xI) (a : Nat) : xI := xup (xup I a 8 (I a 8 + 1)) a 9 0
def pFailI (I : xI) (a : Nat) (s : Int32) : xI := if I a 4 ≤ 1 then (if I a 6 = 10 then xup (xup (pFail1 I a) a 6 18) a 4 (imin s (I a 5)) else xup (pFail1 I a) a 2 3) else xup (pFail1 I a) a 4 (I a 4 / 2)
def pFailL (I : xI) (L : xL) (a : Nat) : xL := if I a 4 ≤ 1 ∧ I a 6 = 10 then cput (cput L (a + 1) (held (L (a + 1) 0 * 256)) (held (L (a + 1) 1 * 256))) (a + 2) (held (L (a + 2) 0 * 256)) (held (L (a + 2) 1 * 256)) else L
theorem cput_ne (L : xL) {a q : Nat} (x y : Int64) (h : q ≠ a) : cput L a x y q = L q := by funext j; simp [cput, xup, h]
theorem cput_0 (L : xL) (a : Nat) (x y : Int64) : cput L a x y a 0 = x := by simp [cput, xup]
theorem cput_1 (L : xL) (a : Nat) (x y : Int64) : cput L a x y a 1 = y := by simp [cput, xup]
theorem dX6_begin_0 : decode cX6_begin 0 = .ok (.aload_n 0, 1) := by decide +kernel
theorem dX6_begin_1 : decode cX6_begin 1 = .ok (.iconst 0, 1) := by decide +kernel
theorem dX6_begin_2 : decode cX6_begin 2 = .ok (.putfield 19, 3) := by decide +kernel
theorem dX6_begin_5 : decode cX6_begin 5 = .ok (.aload_n 0, 1) := by decide +kernel
theorem dX6_begin_6 : decode cX6_begin 6 = .ok (.iconst 0, 1) := by decide +kernel
theorem dX6_begin_7 : decode cX6_begin 7 = .ok (.putfield 23, 3) := by decide +kernel
theorem dX6_begin_10 : decode cX6_begin 10 = .ok (.aload_n 0, 1) := by decide +kernel
theorem dX6_begin_11 : decode cX6_begin 11 = .ok (.iload_n 2, 1) := by decide +kernel
theorem dX6_begin_12 : decode cX6_begin 12 = .ok (.putfield 26, 3) := by decide +kernel
theorem dX6_begin_15 : decode cX6_begin 15 = .ok (.aload_n 0, 1) := by decide +kernel
theorem dX6_begin_16 : decode cX6_begin 16 = .ok (.iload_n 1, 1) := by decide +kernel
theorem dX6_begin_17 : decode cX6_begin 17 = .ok (.iload_n 2, 1) := by decide +kernel
theorem dX6_begin_18 : decode cX6_begin 18 = .ok (.invokestatic 29, 3) := by decide +kernel
theorem dX6_begin_21 : decode cX6_begin 21 = .ok (.putfield 35, 3) := by decide +kernel
theorem dX6_begin_24 : decode cX6_begin 24 = .ok (.aload_n 0, 1) := by decide +kernel
theorem dX6_begin_25 : decode cX6_begin 25 = .ok (.bipush 10, 2) := by decide +kernel
theorem dX6_begin_27 : decode cX6_begin 27 = .ok (.putfield 38, 3) := by decide +kernel
theorem dX6_begin_30 : decode cX6_begin 30 = .ok (.aload_n 0, 1) := by decide +kernel
theorem dX6_begin_31 : decode cX6_begin 31 = .ok (.iconst 0, 1) := by decide +kernel
theorem dX6_begin_32 : decode cX6_begin 32 = .ok (.putfield 41, 3) := by decide +kernel
theorem dX6_begin_35 : decode cX6_begin 35 = .ok (.aload_n 0, 1) := by decide +kernel
theorem dX6_begin_36 : decode cX6_begin 36 = .ok (.iconst 0, 1) := by decide +kernel
theorem dX6_begin_37 : decode cX6_begin 37 = .ok (.putfield 44, 3) := by decide +kernel
theorem dX6_begin_40 : decode cX6_begin 40 = .ok (.aload_n 0, 1) := by decide +kernel
theorem dX6_begin_41 : decode cX6_begin 41 = .ok (.iconst 0, 1) := by decide +kernel
theorem dX6_begin_42 : decode cX6_begin 42 = .ok (.putfield 47, 3) := by decide +kernel
theorem dX6_begin_45 : decode cX6_begin 45 = .ok (.return_, 1) := by decide +kernel
set_option maxHeartbeats 4000000 in
set_option maxRecDepth 100000 in
theorem t_X6_begin (l : Launch) (D : xD) (z n : Nat) (G : xG) (I : xI) (L : xL) (a : Nat) (s0 : Int32) (g0 : Int32) (hP : shP G a) (za : z ≤ a) : xM0 l D z yX6_begin cX6_begin 3 none 1 23 [.ref a, .int s0, .int g0] n G I L (xE none (pBegin I a s0 g0) L) := by
  refine xM.of (by decide) (Nat.le_of_ble_eq_true rfl) (fun p e s m args below meth c C hnm hsz => ?_)
  refine x_lv [(0, .ref a), (1, .int s0), (2, .int g0)] rfl ?_
  refine x_aload_n 0 C dX6_begin_0 rfl 0 rfl ?_
  refine x_iconst 1 C (v := 0) dX6_begin_1 rfl ?_
  refine x_puti 2 C dX6_begin_2 ff_X6_19 rfl hP.1 (by omega) (fun I1 eI1 => ?_)
  refine x_aload_n 5 C dX6_begin_5 rfl 0 rfl ?_
  refine x_iconst 6 C (v := 0) dX6_begin_6 rfl ?_
  refine x_puti 7 C dX6_begin_7 ff_X6_23 rfl hP.1 (by omega) (fun I2 eI2 => ?_)
  refine x_aload_n 10 C dX6_begin_10 rfl 0 rfl ?_
  refine x_iload_n 11 C dX6_begin_11 rfl 2 rfl ?_
  refine x_puti 12 C dX6_begin_12 ff_X6_26 rfl hP.1 (by omega) (fun I3 eI3 => ?_)
  refine x_aload_n 15 C dX6_begin_15 rfl 0 rfl ?_
  refine x_iload_n 16 C dX6_begin_16 rfl 1 rfl ?_
  refine x_iload_n 17 C dX6_begin_17 rfl 2 rfl ?_
  refine x_mmin 18 C dX6_begin_18 km_X6_29 kt_J9_min_7cf53 kn_J9 kc_J9_min_7cf53 ⟨by decide, Nat.le_of_ble_eq_true rfl, by decide, by decide⟩ ?_
  refine x_int (imin s0 g0) rfl ?_
  refine x_puti 21 C dX6_begin_21 ff_X6_35 rfl hP.1 (by omega) (fun I4 eI4 => ?_)
  refine x_aload_n 24 C dX6_begin_24 rfl 0 rfl ?_
  refine x_bipush 25 C (v := 10) dX6_begin_25 rfl ?_
  refine x_puti 27 C dX6_begin_27 ff_X6_38 rfl hP.1 (by omega) (fun I5 eI5 => ?_)
  refine x_aload_n 30 C dX6_begin_30 rfl 0 rfl ?_
  refine x_iconst 31 C (v := 0) dX6_begin_31 rfl ?_
  refine x_puti 32 C dX6_begin_32 ff_X6_41 rfl hP.1 (by omega) (fun I6 eI6 => ?_)
  refine x_aload_n 35 C dX6_begin_35 rfl 0 rfl ?_
  refine x_iconst 36 C (v := 0) dX6_begin_36 rfl ?_
  refine x_puti 37 C dX6_begin_37 ff_X6_44 rfl hP.1 (by omega) (fun I7 eI7 => ?_)
  refine x_aload_n 40 C dX6_begin_40 rfl 0 rfl ?_
  refine x_iconst 41 C (v := 0) dX6_begin_41 rfl ?_
  refine x_puti 42 C dX6_begin_42 ff_X6_47 rfl hP.1 (by omega) (fun I8 eI8 => ?_)
  refine x_vret 45 C dX6_begin_45 rfl (Nat.le_refl _) (xN.intro ?_)
  subst eI1; subst eI2; subst eI3; subst eI4; subst eI5; subst eI6; subst eI7; subst eI8
  refine ⟨rfl, ?_, rfl⟩
  rfl
theorem dX6_unit_0 : decode cX6_unit 0 = .ok (.aload_n 0, 1) := by decide +kernel
theorem dX6_unit_1 : decode cX6_unit 1 = .ok (.getfield 38, 3) := by decide +kernel
theorem dX6_unit_4 : decode cX6_unit 4 = .ok (.bipush 18, 2) := by decide +kernel
theorem dX6_unit_6 : decode cX6_unit 6 = .ok (.if_icmp .ne 9, 3) := by decide +kernel
theorem dX6_unit_9 : decode cX6_unit 9 = .ok (.ldc2_w 72, 3) := by decide +kernel
theorem dX6_unit_12 : decode cX6_unit 12 = .ok (.goto 6, 3) := by decide +kernel
theorem dX6_unit_15 : decode cX6_unit 15 = .ok (.ldc2_w 74, 3) := by decide +kernel
theorem dX6_unit_18 : decode cX6_unit 18 = .ok (.lreturn, 1) := by decide +kernel
set_option maxHeartbeats 4000000 in
set_option maxRecDepth 100000 in
theorem t_X6_unit (l : Launch) (D : xD) (z n : Nat) (G : xG) (I : xI) (L : xL) (a : Nat) (hP : shP G a) : xM0 l D z yX6_unit cX6_unit 1 (some .long) 0 0 [.ref a] n G I L (xE (some (.long (punit (I a 6)))) I L) := by
  refine xM.of (by decide) (Nat.le_of_ble_eq_true rfl) (fun p e s m args below meth c C hnm hsz => ?_)
  refine x_lv [(0, .ref a)] rfl ?_
  refine x_aload_n 0 C dX6_unit_0 rfl 0 rfl ?_
  refine x_geti 1 C dX6_unit_1 ff_X6_38 hP.1 ?_
  refine x_bipush 4 C (v := 18) dX6_unit_4 rfl ?_
  refine x_icmp_ne 6 C 15 dX6_unit_6 (by decide) (fun c1 => ?_) (fun c1 => ?_)
  · skip
    refine x_ldc2 15 C 1024 dX6_unit_15 kk_X6_74 ?_
    refine x_lret 18 C dX6_unit_18 rfl (Nat.le_refl _) (xN.intro ?_)
    skip
    refine ⟨?_, rfl, rfl⟩
    simp [punit, c1]
  · skip
    refine x_ldc2 9 C 262144 dX6_unit_9 kk_X6_72 ?_
    refine x_goto 12 C 18 dX6_unit_12 (by decide) ?_
    refine x_lret 18 C dX6_unit_18 rfl (Nat.le_refl _) (xN.intro ?_)
    skip
    refine ⟨?_, rfl, rfl⟩
    simp [punit, c1]
theorem dX6_putRootOfOne_0 : decode cX6_putRootOfOne 0 = .ok (.iload_n 2, 1) := by decide +kernel
theorem dX6_putRootOfOne_1 : decode cX6_putRootOfOne 1 = .ok (.ifCond .ne 12, 3) := by decide +kernel
theorem dX6_putRootOfOne_4 : decode cX6_putRootOfOne 4 = .ok (.aload_n 0, 1) := by decide +kernel
theorem dX6_putRootOfOne_5 : decode cX6_putRootOfOne 5 = .ok (.lload_n 3, 1) := by decide +kernel
theorem dX6_putRootOfOne_6 : decode cX6_putRootOfOne 6 = .ok (.lconst 0, 1) := by decide +kernel
theorem dX6_putRootOfOne_7 : decode cX6_putRootOfOne 7 = .ok (.invokevirtual 58, 3) := by decide +kernel
theorem dX6_putRootOfOne_10 : decode cX6_putRootOfOne 10 = .ok (.goto 52, 3) := by decide +kernel
theorem dX6_putRootOfOne_13 : decode cX6_putRootOfOne 13 = .ok (.iload_n 1, 1) := by decide +kernel
theorem dX6_putRootOfOne_14 : decode cX6_putRootOfOne 14 = .ok (.iconst 2, 1) := by decide +kernel
theorem dX6_putRootOfOne_15 : decode cX6_putRootOfOne 15 = .ok (.if_icmp .ne 13, 3) := by decide +kernel
theorem dX6_putRootOfOne_18 : decode cX6_putRootOfOne 18 = .ok (.aload_n 0, 1) := by decide +kernel
theorem dX6_putRootOfOne_19 : decode cX6_putRootOfOne 19 = .ok (.lload_n 3, 1) := by decide +kernel
theorem dX6_putRootOfOne_20 : decode cX6_putRootOfOne 20 = .ok (.lneg, 1) := by decide +kernel
theorem dX6_putRootOfOne_21 : decode cX6_putRootOfOne 21 = .ok (.lconst 0, 1) := by decide +kernel
theorem dX6_putRootOfOne_22 : decode cX6_putRootOfOne 22 = .ok (.invokevirtual 58, 3) := by decide +kernel
theorem dX6_putRootOfOne_25 : decode cX6_putRootOfOne 25 = .ok (.goto 37, 3) := by decide +kernel
theorem dX6_putRootOfOne_28 : decode cX6_putRootOfOne 28 = .ok (.ldc2_w 62, 3) := by decide +kernel
theorem dX6_putRootOfOne_31 : decode cX6_putRootOfOne 31 = .ok (.lload_n 3, 1) := by decide +kernel
theorem dX6_putRootOfOne_32 : decode cX6_putRootOfOne 32 = .ok (.lmul, 1) := by decide +kernel
theorem dX6_putRootOfOne_33 : decode cX6_putRootOfOne 33 = .ok (.ldc2_w 64, 3) := by decide +kernel
theorem dX6_putRootOfOne_36 : decode cX6_putRootOfOne 36 = .ok (.ldiv, 1) := by decide +kernel
theorem dX6_putRootOfOne_37 : decode cX6_putRootOfOne 37 = .ok (.lstore 5, 2) := by decide +kernel
theorem dX6_putRootOfOne_39 : decode cX6_putRootOfOne 39 = .ok (.aload_n 0, 1) := by decide +kernel
theorem dX6_putRootOfOne_40 : decode cX6_putRootOfOne 40 = .ok (.lload_n 3, 1) := by decide +kernel
theorem dX6_putRootOfOne_41 : decode cX6_putRootOfOne 41 = .ok (.ldc2_w 66, 3) := by decide +kernel
theorem dX6_putRootOfOne_44 : decode cX6_putRootOfOne 44 = .ok (.ldiv, 1) := by decide +kernel
theorem dX6_putRootOfOne_45 : decode cX6_putRootOfOne 45 = .ok (.lneg, 1) := by decide +kernel
theorem dX6_putRootOfOne_46 : decode cX6_putRootOfOne 46 = .ok (.iload_n 2, 1) := by decide +kernel
theorem dX6_putRootOfOne_47 : decode cX6_putRootOfOne 47 = .ok (.iconst 1, 1) := by decide +kernel
theorem dX6_putRootOfOne_48 : decode cX6_putRootOfOne 48 = .ok (.if_icmp .ne 8, 3) := by decide +kernel
theorem dX6_putRootOfOne_51 : decode cX6_putRootOfOne 51 = .ok (.lload 5, 2) := by decide +kernel
theorem dX6_putRootOfOne_53 : decode cX6_putRootOfOne 53 = .ok (.goto 6, 3) := by decide +kernel
theorem dX6_putRootOfOne_56 : decode cX6_putRootOfOne 56 = .ok (.lload 5, 2) := by decide +kernel
theorem dX6_putRootOfOne_58 : decode cX6_putRootOfOne 58 = .ok (.lneg, 1) := by decide +kernel
theorem dX6_putRootOfOne_59 : decode cX6_putRootOfOne 59 = .ok (.invokevirtual 58, 3) := by decide +kernel
theorem dX6_putRootOfOne_62 : decode cX6_putRootOfOne 62 = .ok (.return_, 1) := by decide +kernel
set_option maxHeartbeats 4000000 in
set_option maxRecDepth 100000 in
theorem t_X6_putRootOfOne (l : Launch) (D : xD) (z n : Nat) (G : xG) (I : xI) (L : xL) (a : Nat) (dg : Int32) (nu : Int32) (u : Int64) (ga : G a = some (0, 0, rN)) (za : z ≤ a) : xM0 l D z yX6_putRootOfOne cX6_putRootOfOne 7 none 1 24 [.ref a, .int dg, .int nu, .long u] n G I L (xE none I (rootL L a dg nu u)) := by
  refine xM.of (by decide) (Nat.le_of_ble_eq_true rfl) (fun p e s m args below meth c C hnm hsz => ?_)
  refine x_lv [(0, .ref a), (1, .int dg), (2, .int nu), (3, .long u)] rfl ?_
  refine x_iload_n 0 C dX6_putRootOfOne_0 rfl 2 rfl ?_
  refine x_if_ne 1 C 13 dX6_putRootOfOne_1 (by decide) (fun c1 => ?_) (fun c1 => ?_)
  · skip
    refine x_iload_n 13 C dX6_putRootOfOne_13 rfl 1 rfl ?_
    refine x_iconst 14 C (v := 2) dX6_putRootOfOne_14 rfl ?_
    refine x_icmp_ne 15 C 28 dX6_putRootOfOne_15 (by decide) (fun c2 => ?_) (fun c2 => ?_)
    · skip
      refine x_ldc2 28 C 866025404 dX6_putRootOfOne_28 kk_X6_62 ?_
      refine x_lload_n 31 C dX6_putRootOfOne_31 rfl 3 rfl ?_
      refine x_lmul 32 C dX6_putRootOfOne_32 ?_
      refine x_ldc2 33 C 1000000000 dX6_putRootOfOne_33 kk_X6_64 ?_
      refine x_ldiv 36 C dX6_putRootOfOne_36 (by first | assumption | decide) ?_
      refine x_topl (fun v3 ev3 => ?_)
      refine x_lstore 37 C [(5, .long v3), (0, .ref a), (1, .int dg), (2, .int nu), (3, .long u)] dX6_putRootOfOne_37 (by decide) rfl ?_
      refine x_aload_n 39 C dX6_putRootOfOne_39 rfl 1 rfl ?_
      refine x_lload_n 40 C dX6_putRootOfOne_40 rfl 4 rfl ?_
      refine x_ldc2 41 C 2 dX6_putRootOfOne_41 kk_X6_66 ?_
      refine x_ldiv 44 C dX6_putRootOfOne_44 (by first | assumption | decide) ?_
      refine x_lneg 45 C dX6_putRootOfOne_45 ?_
      refine x_iload_n 46 C dX6_putRootOfOne_46 rfl 3 rfl ?_
      refine x_iconst 47 C (v := 1) dX6_putRootOfOne_47 rfl ?_
      refine x_icmp_ne 48 C 56 dX6_putRootOfOne_48 (by decide) (fun c4 => ?_) (fun c4 => ?_)
      · skip
        refine x_lload 56 C dX6_putRootOfOne_56 0 rfl ?_
        refine x_lneg 58 C dX6_putRootOfOne_58 ?_
        refine x_callVe 59 C dX6_putRootOfOne_59 (As := [.long (-(u / 2)), .long (-v3)]) (rest := []) [] (t_X0_put l D z n G I L a (-(u / 2)) (-v3) ga (by omega)) mt_X0_put km_X6_58 ki_X0_put ks_X0_put ga ⟨by decide, rfl⟩ rfl rfl (Nat.le_of_ble_eq_true rfl) ⟨⟨by decide, by decide⟩, by decide, by decide⟩ (fun I5 L6 eI5 eL6 => ?_)
        replace eI5 := eI5.symm; subst eI5
        refine x_vret 62 C dX6_putRootOfOne_62 rfl (Nat.le_refl _) (xN.intro ?_)
        subst ev3; subst eL6
        refine ⟨rfl, rfl, ?_⟩
        simp [rootL, rootC, c1, c2, c4]
      · skip
        refine x_lload 51 C dX6_putRootOfOne_51 0 rfl ?_
        refine x_goto 53 C 59 dX6_putRootOfOne_53 (by decide) ?_
        refine x_callVe 59 C dX6_putRootOfOne_59 (As := [.long (-(u / 2)), .long v3]) (rest := []) [] (t_X0_put l D z n G I L a (-(u / 2)) v3 ga (by omega)) mt_X0_put km_X6_58 ki_X0_put ks_X0_put ga ⟨by decide, rfl⟩ rfl rfl (Nat.le_of_ble_eq_true rfl) ⟨⟨by decide, by decide⟩, by decide, by decide⟩ (fun I7 L8 eI7 eL8 => ?_)
        replace eI7 := eI7.symm; subst eI7
        refine x_vret 62 C dX6_putRootOfOne_62 rfl (Nat.le_refl _) (xN.intro ?_)
        subst ev3; subst eL8
        refine ⟨rfl, rfl, ?_⟩
        simp [rootL, rootC, c1, c2, c4]
    · skip
      refine x_aload_n 18 C dX6_putRootOfOne_18 rfl 0 rfl ?_
      refine x_lload_n 19 C dX6_putRootOfOne_19 rfl 3 rfl ?_
      refine x_lneg 20 C dX6_putRootOfOne_20 ?_
      refine x_lconst 21 C (v := 0) dX6_putRootOfOne_21 rfl ?_
      refine x_callVe 22 C dX6_putRootOfOne_22 (As := [.long (-u), .long 0]) (rest := []) [] (t_X0_put l D z n G I L a (-u) 0 ga (by omega)) mt_X0_put km_X6_58 ki_X0_put ks_X0_put ga ⟨by decide, rfl⟩ rfl rfl (Nat.le_of_ble_eq_true rfl) ⟨⟨by decide, by decide⟩, by decide, by decide⟩ (fun I9 L10 eI9 eL10 => ?_)
      replace eI9 := eI9.symm; subst eI9
      refine x_goto 25 C 62 dX6_putRootOfOne_25 (by decide) ?_
      refine x_vret 62 C dX6_putRootOfOne_62 rfl (Nat.le_refl _) (xN.intro ?_)
      subst eL10
      refine ⟨rfl, rfl, ?_⟩
      simp [rootL, rootC, c1, c2]
  · skip
    refine x_aload_n 4 C dX6_putRootOfOne_4 rfl 0 rfl ?_
    refine x_lload_n 5 C dX6_putRootOfOne_5 rfl 3 rfl ?_
    refine x_lconst 6 C (v := 0) dX6_putRootOfOne_6 rfl ?_
    refine x_callVe 7 C dX6_putRootOfOne_7 (As := [.long u, .long 0]) (rest := []) [] (t_X0_put l D z n G I L a u 0 ga (by omega)) mt_X0_put km_X6_58 ki_X0_put ks_X0_put ga ⟨by decide, rfl⟩ rfl rfl (Nat.le_of_ble_eq_true rfl) ⟨⟨by decide, by decide⟩, by decide, by decide⟩ (fun I11 L12 eI11 eL12 => ?_)
    replace eI11 := eI11.symm; subst eI11
    refine x_goto 10 C 62 dX6_putRootOfOne_10 (by decide) ?_
    refine x_vret 62 C dX6_putRootOfOne_62 rfl (Nat.le_refl _) (xN.intro ?_)
    subst eL12
    refine ⟨rfl, rfl, ?_⟩
    simp [rootL, rootC, c1]
theorem dX6_putOnRoots_0 : decode cX6_putOnRoots 0 = .ok (.aload_n 0, 1) := by decide +kernel
theorem dX6_putOnRoots_1 : decode cX6_putOnRoots 1 = .ok (.getfield 10, 3) := by decide +kernel
theorem dX6_putOnRoots_4 : decode cX6_putOnRoots 4 = .ok (.iload_n 1, 1) := by decide +kernel
theorem dX6_putOnRoots_5 : decode cX6_putOnRoots 5 = .ok (.iload_n 2, 1) := by decide +kernel
theorem dX6_putOnRoots_6 : decode cX6_putOnRoots 6 = .ok (.aload_n 0, 1) := by decide +kernel
theorem dX6_putOnRoots_7 : decode cX6_putOnRoots 7 = .ok (.invokevirtual 50, 3) := by decide +kernel
theorem dX6_putOnRoots_10 : decode cX6_putOnRoots 10 = .ok (.invokestatic 54, 3) := by decide +kernel
theorem dX6_putOnRoots_13 : decode cX6_putOnRoots 13 = .ok (.aload_n 0, 1) := by decide +kernel
theorem dX6_putOnRoots_14 : decode cX6_putOnRoots 14 = .ok (.getfield 16, 3) := by decide +kernel
theorem dX6_putOnRoots_17 : decode cX6_putOnRoots 17 = .ok (.iload_n 3, 1) := by decide +kernel
theorem dX6_putOnRoots_18 : decode cX6_putOnRoots 18 = .ok (.iload 4, 2) := by decide +kernel
theorem dX6_putOnRoots_20 : decode cX6_putOnRoots 20 = .ok (.aload_n 0, 1) := by decide +kernel
theorem dX6_putOnRoots_21 : decode cX6_putOnRoots 21 = .ok (.invokevirtual 50, 3) := by decide +kernel
theorem dX6_putOnRoots_24 : decode cX6_putOnRoots 24 = .ok (.invokestatic 54, 3) := by decide +kernel
theorem dX6_putOnRoots_27 : decode cX6_putOnRoots 27 = .ok (.return_, 1) := by decide +kernel
set_option maxHeartbeats 4000000 in
set_option maxRecDepth 100000 in
theorem t_X6_putOnRoots (l : Launch) (D : xD) (z n : Nat) (G : xG) (I : xI) (L : xL) (a : Nat) (d1 : Int32) (n1 : Int32) (d2 : Int32) (n2 : Int32) (hP : shP G a) (za : z ≤ a) : xM0 l D z yX6_putOnRoots cX6_putOnRoots 5 none 2 50 [.ref a, .int d1, .int n1, .int d2, .int n2] n G I L (xE none I (rootL (rootL L (a + 1) d1 n1 (punit (I a 6))) (a + 2) d2 n2 (punit (I a 6)))) := by
  refine xM.of (by decide) (Nat.le_of_ble_eq_true rfl) (fun p e s m args below meth c C hnm hsz => ?_)
  refine x_lv [(0, .ref a), (1, .int d1), (2, .int n1), (3, .int d2), (4, .int n2)] rfl ?_
  refine x_aload_n 0 C dX6_putOnRoots_0 rfl 0 rfl ?_
  refine x_getr 1 C (b := a + 1) dX6_putOnRoots_1 ff_X6_10 rfl hP.1 rfl ?_
  refine x_iload_n 4 C dX6_putOnRoots_4 rfl 1 rfl ?_
  refine x_iload_n 5 C dX6_putOnRoots_5 rfl 2 rfl ?_
  refine x_aload_n 6 C dX6_putOnRoots_6 rfl 0 rfl ?_
  refine x_callVe 7 C dX6_putOnRoots_7 (As := []) (rest := [.int n1, .int d1, .ref (a + 1)]) [.long (punit (I a 6)), .int n1, .int d1, .ref (a + 1)] (t_X6_unit l D z n G I L a hP) mt_X6_unit km_X6_50 ki_X6_unit ks_X6_unit hP.1 ⟨by decide, rfl⟩ rfl rfl (Nat.le_of_ble_eq_true rfl) ⟨⟨by decide, by decide⟩, by decide, by decide⟩ (fun I1 L2 eI1 eL2 => ?_)
  replace eI1 := eI1.symm; subst eI1
  replace eL2 := eL2.symm; subst eL2
  refine x_callSe 10 C dX6_putOnRoots_10 (As := [.ref (a + 1), .int d1, .int n1, .long (punit (I a 6))]) (rest := []) [] (t_X6_putRootOfOne l D z n G I L (a + 1) d1 n1 (punit (I a 6)) hP.2.1 (by omega)) mt_X6_putRootOfOne km_X6_54 kt_X6_putRootOfOne rfl rfl (Nat.le_of_ble_eq_true rfl) ⟨⟨by decide, by decide⟩, by decide, by decide⟩ (fun I3 L4 eI3 eL4 => ?_)
  replace eI3 := eI3.symm; subst eI3
  refine x_aload_n 13 C dX6_putOnRoots_13 rfl 0 rfl ?_
  refine x_getr 14 C (b := a + 2) dX6_putOnRoots_14 ff_X6_16 rfl hP.1 rfl ?_
  refine x_iload_n 17 C dX6_putOnRoots_17 rfl 3 rfl ?_
  refine x_iload 18 C dX6_putOnRoots_18 4 rfl ?_
  refine x_aload_n 20 C dX6_putOnRoots_20 rfl 0 rfl ?_
  refine x_callVe 21 C dX6_putOnRoots_21 (As := []) (rest := [.int n2, .int d2, .ref (a + 2)]) [.long (punit (I a 6)), .int n2, .int d2, .ref (a + 2)] (t_X6_unit l D z n G I L4 a hP) mt_X6_unit km_X6_50 ki_X6_unit ks_X6_unit hP.1 ⟨by decide, rfl⟩ rfl rfl (Nat.le_of_ble_eq_true rfl) ⟨⟨by decide, by decide⟩, by decide, by decide⟩ (fun I5 L6 eI5 eL6 => ?_)
  replace eI5 := eI5.symm; subst eI5
  replace eL6 := eL6.symm; subst eL6
  refine x_callSe 24 C dX6_putOnRoots_24 (As := [.ref (a + 2), .int d2, .int n2, .long (punit (I a 6))]) (rest := []) [] (t_X6_putRootOfOne l D z n G I L4 (a + 2) d2 n2 (punit (I a 6)) hP.2.2 (by omega)) mt_X6_putRootOfOne km_X6_54 kt_X6_putRootOfOne rfl rfl (Nat.le_of_ble_eq_true rfl) ⟨⟨by decide, by decide⟩, by decide, by decide⟩ (fun I7 L8 eI7 eL8 => ?_)
  replace eI7 := eI7.symm; subst eI7
  refine x_vret 27 C dX6_putOnRoots_27 rfl (Nat.le_refl _) (xN.intro ?_)
  subst eL4; subst eL8
  exact ⟨rfl, rfl, rfl⟩
theorem dX6_copy_0 : decode cX6_copy 0 = .ok (.aload_n 0, 1) := by decide +kernel
theorem dX6_copy_1 : decode cX6_copy 1 = .ok (.getfield 10, 3) := by decide +kernel
theorem dX6_copy_4 : decode cX6_copy 4 = .ok (.aload_n 1, 1) := by decide +kernel
theorem dX6_copy_5 : decode cX6_copy 5 = .ok (.getfield 10, 3) := by decide +kernel
theorem dX6_copy_8 : decode cX6_copy 8 = .ok (.invokevirtual 68, 3) := by decide +kernel
theorem dX6_copy_11 : decode cX6_copy 11 = .ok (.aload_n 0, 1) := by decide +kernel
theorem dX6_copy_12 : decode cX6_copy 12 = .ok (.getfield 16, 3) := by decide +kernel
theorem dX6_copy_15 : decode cX6_copy 15 = .ok (.aload_n 1, 1) := by decide +kernel
theorem dX6_copy_16 : decode cX6_copy 16 = .ok (.getfield 16, 3) := by decide +kernel
theorem dX6_copy_19 : decode cX6_copy 19 = .ok (.invokevirtual 68, 3) := by decide +kernel
theorem dX6_copy_22 : decode cX6_copy 22 = .ok (.aload_n 0, 1) := by decide +kernel
theorem dX6_copy_23 : decode cX6_copy 23 = .ok (.aload_n 1, 1) := by decide +kernel
theorem dX6_copy_24 : decode cX6_copy 24 = .ok (.getfield 19, 3) := by decide +kernel
theorem dX6_copy_27 : decode cX6_copy 27 = .ok (.putfield 19, 3) := by decide +kernel
theorem dX6_copy_30 : decode cX6_copy 30 = .ok (.aload_n 0, 1) := by decide +kernel
theorem dX6_copy_31 : decode cX6_copy 31 = .ok (.aload_n 1, 1) := by decide +kernel
theorem dX6_copy_32 : decode cX6_copy 32 = .ok (.getfield 23, 3) := by decide +kernel
theorem dX6_copy_35 : decode cX6_copy 35 = .ok (.putfield 23, 3) := by decide +kernel
theorem dX6_copy_38 : decode cX6_copy 38 = .ok (.aload_n 0, 1) := by decide +kernel
theorem dX6_copy_39 : decode cX6_copy 39 = .ok (.aload_n 1, 1) := by decide +kernel
theorem dX6_copy_40 : decode cX6_copy 40 = .ok (.getfield 35, 3) := by decide +kernel
theorem dX6_copy_43 : decode cX6_copy 43 = .ok (.putfield 35, 3) := by decide +kernel
theorem dX6_copy_46 : decode cX6_copy 46 = .ok (.aload_n 0, 1) := by decide +kernel
theorem dX6_copy_47 : decode cX6_copy 47 = .ok (.aload_n 1, 1) := by decide +kernel
theorem dX6_copy_48 : decode cX6_copy 48 = .ok (.getfield 26, 3) := by decide +kernel
theorem dX6_copy_51 : decode cX6_copy 51 = .ok (.putfield 26, 3) := by decide +kernel
theorem dX6_copy_54 : decode cX6_copy 54 = .ok (.aload_n 0, 1) := by decide +kernel
theorem dX6_copy_55 : decode cX6_copy 55 = .ok (.aload_n 1, 1) := by decide +kernel
theorem dX6_copy_56 : decode cX6_copy 56 = .ok (.getfield 38, 3) := by decide +kernel
theorem dX6_copy_59 : decode cX6_copy 59 = .ok (.putfield 38, 3) := by decide +kernel
theorem dX6_copy_62 : decode cX6_copy 62 = .ok (.aload_n 0, 1) := by decide +kernel
theorem dX6_copy_63 : decode cX6_copy 63 = .ok (.aload_n 1, 1) := by decide +kernel
theorem dX6_copy_64 : decode cX6_copy 64 = .ok (.getfield 41, 3) := by decide +kernel
theorem dX6_copy_67 : decode cX6_copy 67 = .ok (.putfield 41, 3) := by decide +kernel
theorem dX6_copy_70 : decode cX6_copy 70 = .ok (.aload_n 0, 1) := by decide +kernel
theorem dX6_copy_71 : decode cX6_copy 71 = .ok (.aload_n 1, 1) := by decide +kernel
theorem dX6_copy_72 : decode cX6_copy 72 = .ok (.getfield 44, 3) := by decide +kernel
theorem dX6_copy_75 : decode cX6_copy 75 = .ok (.putfield 44, 3) := by decide +kernel
theorem dX6_copy_78 : decode cX6_copy 78 = .ok (.aload_n 0, 1) := by decide +kernel
theorem dX6_copy_79 : decode cX6_copy 79 = .ok (.aload_n 1, 1) := by decide +kernel
theorem dX6_copy_80 : decode cX6_copy 80 = .ok (.getfield 47, 3) := by decide +kernel
theorem dX6_copy_83 : decode cX6_copy 83 = .ok (.putfield 47, 3) := by decide +kernel
theorem dX6_copy_86 : decode cX6_copy 86 = .ok (.return_, 1) := by decide +kernel
set_option maxHeartbeats 4000000 in
set_option maxRecDepth 100000 in
theorem t_X6_copy (l : Launch) (D : xD) (z n : Nat) (G : xG) (I : xI) (L : xL) (a : Nat) (b : Nat) (hP : shP G a) (hPb : shP G b) (za : z ≤ a) (hab : b + 2 ≠ a + 1) : xM0 l D z yX6_copy cX6_copy 2 none 1 21 [.ref a, .ref b] n G I L (xE none (pCopyI I a b) (cput (cput L (a + 1) (L (b + 1) 0) (L (b + 1) 1)) (a + 2) (L (b + 2) 0) (L (b + 2) 1))) := by
  refine xM.of (by decide) (Nat.le_of_ble_eq_true rfl) (fun p e s m args below meth c C hnm hsz => ?_)
  refine x_lv [(0, .ref a), (1, .ref b)] rfl ?_
  refine x_aload_n 0 C dX6_copy_0 rfl 0 rfl ?_
  refine x_getr 1 C (b := a + 1) dX6_copy_1 ff_X6_10 rfl hP.1 rfl ?_
  refine x_aload_n 4 C dX6_copy_4 rfl 1 rfl ?_
  refine x_getr 5 C (b := b + 1) dX6_copy_5 ff_X6_10 rfl hPb.1 rfl ?_
  refine x_callVe 8 C dX6_copy_8 (As := [.ref (b + 1)]) (rest := []) [] (t_X0_copy l D z n G I L (a + 1) (b + 1) hP.2.1 hPb.2.1 (by omega)) mt_X0_copy km_X6_68 ki_X0_copy ks_X0_copy hP.2.1 ⟨by decide, rfl⟩ rfl rfl (Nat.le_of_ble_eq_true rfl) ⟨⟨by decide, by decide⟩, by decide, by decide⟩ (fun I1 L2 eI1 eL2 => ?_)
  replace eI1 := eI1.symm; subst eI1
  refine x_aload_n 11 C dX6_copy_11 rfl 0 rfl ?_
  refine x_getr 12 C (b := a + 2) dX6_copy_12 ff_X6_16 rfl hP.1 rfl ?_
  refine x_aload_n 15 C dX6_copy_15 rfl 1 rfl ?_
  refine x_getr 16 C (b := b + 2) dX6_copy_16 ff_X6_16 rfl hPb.1 rfl ?_
  refine x_callVe 19 C dX6_copy_19 (As := [.ref (b + 2)]) (rest := []) [] (t_X0_copy l D z n G I L2 (a + 2) (b + 2) hP.2.2 hPb.2.2 (by omega)) mt_X0_copy km_X6_68 ki_X0_copy ks_X0_copy hP.2.2 ⟨by decide, rfl⟩ rfl rfl (Nat.le_of_ble_eq_true rfl) ⟨⟨by decide, by decide⟩, by decide, by decide⟩ (fun I3 L4 eI3 eL4 => ?_)
  replace eI3 := eI3.symm; subst eI3
  refine x_aload_n 22 C dX6_copy_22 rfl 0 rfl ?_
  refine x_aload_n 23 C dX6_copy_23 rfl 1 rfl ?_
  refine x_geti 24 C dX6_copy_24 ff_X6_19 hPb.1 ?_
  refine x_puti 27 C dX6_copy_27 ff_X6_19 rfl hP.1 (by omega) (fun I5 eI5 => ?_)
  refine x_aload_n 30 C dX6_copy_30 rfl 0 rfl ?_
  refine x_aload_n 31 C dX6_copy_31 rfl 1 rfl ?_
  refine x_geti 32 C dX6_copy_32 ff_X6_23 hPb.1 ?_
  refine x_int (I b 3) (by simp [eI5, xup, cput]) ?_
  refine x_puti 35 C dX6_copy_35 ff_X6_23 rfl hP.1 (by omega) (fun I6 eI6 => ?_)
  refine x_aload_n 38 C dX6_copy_38 rfl 0 rfl ?_
  refine x_aload_n 39 C dX6_copy_39 rfl 1 rfl ?_
  refine x_geti 40 C dX6_copy_40 ff_X6_35 hPb.1 ?_
  refine x_int (I b 4) (by simp [eI5, eI6, xup, cput]) ?_
  refine x_puti 43 C dX6_copy_43 ff_X6_35 rfl hP.1 (by omega) (fun I7 eI7 => ?_)
  refine x_aload_n 46 C dX6_copy_46 rfl 0 rfl ?_
  refine x_aload_n 47 C dX6_copy_47 rfl 1 rfl ?_
  refine x_geti 48 C dX6_copy_48 ff_X6_26 hPb.1 ?_
  refine x_int (I b 5) (by simp [eI5, eI6, eI7, xup, cput]) ?_
  refine x_puti 51 C dX6_copy_51 ff_X6_26 rfl hP.1 (by omega) (fun I8 eI8 => ?_)
  refine x_aload_n 54 C dX6_copy_54 rfl 0 rfl ?_
  refine x_aload_n 55 C dX6_copy_55 rfl 1 rfl ?_
  refine x_geti 56 C dX6_copy_56 ff_X6_38 hPb.1 ?_
  refine x_int (I b 6) (by simp [eI5, eI6, eI7, eI8, xup, cput]) ?_
  refine x_puti 59 C dX6_copy_59 ff_X6_38 rfl hP.1 (by omega) (fun I9 eI9 => ?_)
  refine x_aload_n 62 C dX6_copy_62 rfl 0 rfl ?_
  refine x_aload_n 63 C dX6_copy_63 rfl 1 rfl ?_
  refine x_geti 64 C dX6_copy_64 ff_X6_41 hPb.1 ?_
  refine x_int (I b 7) (by simp [eI5, eI6, eI7, eI8, eI9, xup, cput]) ?_
  refine x_puti 67 C dX6_copy_67 ff_X6_41 rfl hP.1 (by omega) (fun I10 eI10 => ?_)
  refine x_aload_n 70 C dX6_copy_70 rfl 0 rfl ?_
  refine x_aload_n 71 C dX6_copy_71 rfl 1 rfl ?_
  refine x_geti 72 C dX6_copy_72 ff_X6_44 hPb.1 ?_
  refine x_int (I b 8) (by simp [eI5, eI6, eI7, eI8, eI9, eI10, xup, cput]) ?_
  refine x_puti 75 C dX6_copy_75 ff_X6_44 rfl hP.1 (by omega) (fun I11 eI11 => ?_)
  refine x_aload_n 78 C dX6_copy_78 rfl 0 rfl ?_
  refine x_aload_n 79 C dX6_copy_79 rfl 1 rfl ?_
  refine x_geti 80 C dX6_copy_80 ff_X6_47 hPb.1 ?_
  refine x_int (I b 9) (by simp [eI5, eI6, eI7, eI8, eI9, eI10, eI11, xup, cput]) ?_
  refine x_puti 83 C dX6_copy_83 ff_X6_47 rfl hP.1 (by omega) (fun I12 eI12 => ?_)
  refine x_vret 86 C dX6_copy_86 rfl (Nat.le_refl _) (xN.intro ?_)
  subst eL2; subst eL4; subst eI5; subst eI6; subst eI7; subst eI8; subst eI9; subst eI10; subst eI11; subst eI12
  refine ⟨rfl, rfl, ?_⟩
  rw [cput_ne L _ _ hab]
theorem dX6_part_0 : decode cX6_part 0 = .ok (.iload_n 1, 1) := by decide +kernel
theorem dX6_part_1 : decode cX6_part 1 = .ok (.tableswitch 72 0 2 #[27, 42, 57], 27) := by decide +kernel
theorem dX6_part_28 : decode cX6_part 28 = .ok (.aload_n 0, 1) := by decide +kernel
theorem dX6_part_29 : decode cX6_part 29 = .ok (.getfield 10, 3) := by decide +kernel
theorem dX6_part_32 : decode cX6_part 32 = .ok (.getfield 89, 3) := by decide +kernel
theorem dX6_part_35 : decode cX6_part 35 = .ok (.aload_n 0, 1) := by decide +kernel
theorem dX6_part_36 : decode cX6_part 36 = .ok (.invokevirtual 50, 3) := by decide +kernel
theorem dX6_part_39 : decode cX6_part 39 = .ok (.invokestatic 93, 3) := by decide +kernel
theorem dX6_part_42 : decode cX6_part 42 = .ok (.ireturn, 1) := by decide +kernel
theorem dX6_part_43 : decode cX6_part 43 = .ok (.aload_n 0, 1) := by decide +kernel
theorem dX6_part_44 : decode cX6_part 44 = .ok (.getfield 10, 3) := by decide +kernel
theorem dX6_part_47 : decode cX6_part 47 = .ok (.getfield 97, 3) := by decide +kernel
theorem dX6_part_50 : decode cX6_part 50 = .ok (.aload_n 0, 1) := by decide +kernel
theorem dX6_part_51 : decode cX6_part 51 = .ok (.invokevirtual 50, 3) := by decide +kernel
theorem dX6_part_54 : decode cX6_part 54 = .ok (.invokestatic 93, 3) := by decide +kernel
theorem dX6_part_57 : decode cX6_part 57 = .ok (.ireturn, 1) := by decide +kernel
theorem dX6_part_58 : decode cX6_part 58 = .ok (.aload_n 0, 1) := by decide +kernel
theorem dX6_part_59 : decode cX6_part 59 = .ok (.getfield 16, 3) := by decide +kernel
theorem dX6_part_62 : decode cX6_part 62 = .ok (.getfield 89, 3) := by decide +kernel
theorem dX6_part_65 : decode cX6_part 65 = .ok (.aload_n 0, 1) := by decide +kernel
theorem dX6_part_66 : decode cX6_part 66 = .ok (.invokevirtual 50, 3) := by decide +kernel
theorem dX6_part_69 : decode cX6_part 69 = .ok (.invokestatic 93, 3) := by decide +kernel
theorem dX6_part_72 : decode cX6_part 72 = .ok (.ireturn, 1) := by decide +kernel
theorem dX6_part_73 : decode cX6_part 73 = .ok (.aload_n 0, 1) := by decide +kernel
theorem dX6_part_74 : decode cX6_part 74 = .ok (.getfield 16, 3) := by decide +kernel
theorem dX6_part_77 : decode cX6_part 77 = .ok (.getfield 97, 3) := by decide +kernel
theorem dX6_part_80 : decode cX6_part 80 = .ok (.aload_n 0, 1) := by decide +kernel
theorem dX6_part_81 : decode cX6_part 81 = .ok (.invokevirtual 50, 3) := by decide +kernel
theorem dX6_part_84 : decode cX6_part 84 = .ok (.invokestatic 93, 3) := by decide +kernel
theorem dX6_part_87 : decode cX6_part 87 = .ok (.ireturn, 1) := by decide +kernel
set_option maxHeartbeats 4000000 in
set_option maxRecDepth 100000 in
theorem t_X6_part (l : Launch) (D : xD) (z n : Nat) (G : xG) (I : xI) (L : xL) (a : Nat) (j : Nat) (hP : shP G a) (hj : j < 4) : xM0 l D z yX6_part cX6_part 2 (some .int) 1 23 [.ref a, .int (nI j)] n G I L (xE (some (.int (ppart I L a j))) I L) := by
  refine xM.of (by decide) (Nat.le_of_ble_eq_true rfl) (fun p e s m args below meth c C hnm hsz => ?_)
  refine x_lv [(0, .ref a), (1, .int (nI j))] rfl ?_
  rcases (show j = 0 ∨ j = 1 ∨ j = 2 ∨ j = 3 by omega) with rfl | rfl | rfl | rfl
  · skip
    refine x_iload_n 0 C dX6_part_0 rfl 1 rfl ?_
    refine x_tsIn 1 C 28 dX6_part_1 (v := 0) rfl (by decide) (by decide) rfl (by decide) ?_
    refine x_aload_n 28 C dX6_part_28 rfl 0 rfl ?_
    refine x_getr 29 C (b := a + 1) dX6_part_29 ff_X6_10 rfl hP.1 rfl ?_
    refine x_getl 32 C dX6_part_32 ff_X6_89 hP.2.1 ?_
    refine x_aload_n 35 C dX6_part_35 rfl 0 rfl ?_
    refine x_callVe 36 C dX6_part_36 (As := []) (rest := [.long (L (a + 1) 0)]) [.long (punit (I a 6)), .long (L (a + 1) 0)] (t_X6_unit l D z n G I L a hP) mt_X6_unit km_X6_50 ki_X6_unit ks_X6_unit hP.1 ⟨by decide, rfl⟩ rfl rfl (Nat.le_of_ble_eq_true rfl) ⟨⟨by decide, by decide⟩, by decide, by decide⟩ (fun I1 L2 eI1 eL2 => ?_)
    replace eI1 := eI1.symm; subst eI1
    replace eL2 := eL2.symm; subst eL2
    refine x_callSe 39 C dX6_part_39 (As := [.long (L (a + 1) 0), .long (punit (I a 6))]) (rest := []) [.int (cthou (L (a + 1) 0) (punit (I a 6)))] (t_X0_thousandths l D z n G I L (L (a + 1) 0) (punit (I a 6)) ) mt_X0_thousandths km_X6_93 kt_X0_thousandths rfl rfl (Nat.le_of_ble_eq_true rfl) ⟨⟨by decide, by decide⟩, by decide, by decide⟩ (fun I3 L4 eI3 eL4 => ?_)
    replace eI3 := eI3.symm; subst eI3
    replace eL4 := eL4.symm; subst eL4
    refine x_iret 42 C dX6_part_42 rfl rfl (Nat.le_refl _) (xN.intro ?_)
    skip
    exact ⟨rfl, rfl, rfl⟩
  · skip
    refine x_iload_n 0 C dX6_part_0 rfl 1 rfl ?_
    refine x_tsIn 1 C 43 dX6_part_1 (v := 1) rfl (by decide) (by decide) rfl (by decide) ?_
    refine x_aload_n 43 C dX6_part_43 rfl 0 rfl ?_
    refine x_getr 44 C (b := a + 1) dX6_part_44 ff_X6_10 rfl hP.1 rfl ?_
    refine x_getl 47 C dX6_part_47 ff_X6_97 hP.2.1 ?_
    refine x_aload_n 50 C dX6_part_50 rfl 0 rfl ?_
    refine x_callVe 51 C dX6_part_51 (As := []) (rest := [.long (L (a + 1) 1)]) [.long (punit (I a 6)), .long (L (a + 1) 1)] (t_X6_unit l D z n G I L a hP) mt_X6_unit km_X6_50 ki_X6_unit ks_X6_unit hP.1 ⟨by decide, rfl⟩ rfl rfl (Nat.le_of_ble_eq_true rfl) ⟨⟨by decide, by decide⟩, by decide, by decide⟩ (fun I5 L6 eI5 eL6 => ?_)
    replace eI5 := eI5.symm; subst eI5
    replace eL6 := eL6.symm; subst eL6
    refine x_callSe 54 C dX6_part_54 (As := [.long (L (a + 1) 1), .long (punit (I a 6))]) (rest := []) [.int (cthou (L (a + 1) 1) (punit (I a 6)))] (t_X0_thousandths l D z n G I L (L (a + 1) 1) (punit (I a 6)) ) mt_X0_thousandths km_X6_93 kt_X0_thousandths rfl rfl (Nat.le_of_ble_eq_true rfl) ⟨⟨by decide, by decide⟩, by decide, by decide⟩ (fun I7 L8 eI7 eL8 => ?_)
    replace eI7 := eI7.symm; subst eI7
    replace eL8 := eL8.symm; subst eL8
    refine x_iret 57 C dX6_part_57 rfl rfl (Nat.le_refl _) (xN.intro ?_)
    skip
    exact ⟨rfl, rfl, rfl⟩
  · skip
    refine x_iload_n 0 C dX6_part_0 rfl 1 rfl ?_
    refine x_tsIn 1 C 58 dX6_part_1 (v := 2) rfl (by decide) (by decide) rfl (by decide) ?_
    refine x_aload_n 58 C dX6_part_58 rfl 0 rfl ?_
    refine x_getr 59 C (b := a + 2) dX6_part_59 ff_X6_16 rfl hP.1 rfl ?_
    refine x_getl 62 C dX6_part_62 ff_X6_89 hP.2.2 ?_
    refine x_aload_n 65 C dX6_part_65 rfl 0 rfl ?_
    refine x_callVe 66 C dX6_part_66 (As := []) (rest := [.long (L (a + 2) 0)]) [.long (punit (I a 6)), .long (L (a + 2) 0)] (t_X6_unit l D z n G I L a hP) mt_X6_unit km_X6_50 ki_X6_unit ks_X6_unit hP.1 ⟨by decide, rfl⟩ rfl rfl (Nat.le_of_ble_eq_true rfl) ⟨⟨by decide, by decide⟩, by decide, by decide⟩ (fun I9 L10 eI9 eL10 => ?_)
    replace eI9 := eI9.symm; subst eI9
    replace eL10 := eL10.symm; subst eL10
    refine x_callSe 69 C dX6_part_69 (As := [.long (L (a + 2) 0), .long (punit (I a 6))]) (rest := []) [.int (cthou (L (a + 2) 0) (punit (I a 6)))] (t_X0_thousandths l D z n G I L (L (a + 2) 0) (punit (I a 6)) ) mt_X0_thousandths km_X6_93 kt_X0_thousandths rfl rfl (Nat.le_of_ble_eq_true rfl) ⟨⟨by decide, by decide⟩, by decide, by decide⟩ (fun I11 L12 eI11 eL12 => ?_)
    replace eI11 := eI11.symm; subst eI11
    replace eL12 := eL12.symm; subst eL12
    refine x_iret 72 C dX6_part_72 rfl rfl (Nat.le_refl _) (xN.intro ?_)
    skip
    exact ⟨rfl, rfl, rfl⟩
  · skip
    refine x_iload_n 0 C dX6_part_0 rfl 1 rfl ?_
    refine x_tsOut 1 C 73 dX6_part_1 (by decide) (by decide) ?_
    refine x_aload_n 73 C dX6_part_73 rfl 0 rfl ?_
    refine x_getr 74 C (b := a + 2) dX6_part_74 ff_X6_16 rfl hP.1 rfl ?_
    refine x_getl 77 C dX6_part_77 ff_X6_97 hP.2.2 ?_
    refine x_aload_n 80 C dX6_part_80 rfl 0 rfl ?_
    refine x_callVe 81 C dX6_part_81 (As := []) (rest := [.long (L (a + 2) 1)]) [.long (punit (I a 6)), .long (L (a + 2) 1)] (t_X6_unit l D z n G I L a hP) mt_X6_unit km_X6_50 ki_X6_unit ks_X6_unit hP.1 ⟨by decide, rfl⟩ rfl rfl (Nat.le_of_ble_eq_true rfl) ⟨⟨by decide, by decide⟩, by decide, by decide⟩ (fun I13 L14 eI13 eL14 => ?_)
    replace eI13 := eI13.symm; subst eI13
    replace eL14 := eL14.symm; subst eL14
    refine x_callSe 84 C dX6_part_84 (As := [.long (L (a + 2) 1), .long (punit (I a 6))]) (rest := []) [.int (cthou (L (a + 2) 1) (punit (I a 6)))] (t_X0_thousandths l D z n G I L (L (a + 2) 1) (punit (I a 6)) ) mt_X0_thousandths km_X6_93 kt_X0_thousandths rfl rfl (Nat.le_of_ble_eq_true rfl) ⟨⟨by decide, by decide⟩, by decide, by decide⟩ (fun I15 L16 eI15 eL16 => ?_)
    replace eI15 := eI15.symm; subst eI15
    replace eL16 := eL16.symm; subst eL16
    refine x_iret 87 C dX6_part_87 rfl rfl (Nat.le_refl _) (xN.intro ?_)
    skip
    exact ⟨rfl, rfl, rfl⟩
theorem dX6_isReal_0 : decode cX6_isReal 0 = .ok (.aload_n 0, 1) := by decide +kernel
theorem dX6_isReal_1 : decode cX6_isReal 1 = .ok (.iconst 1, 1) := by decide +kernel
theorem dX6_isReal_2 : decode cX6_isReal 2 = .ok (.invokevirtual 100, 3) := by decide +kernel
theorem dX6_isReal_5 : decode cX6_isReal 5 = .ok (.invokestatic 108, 3) := by decide +kernel
theorem dX6_isReal_8 : decode cX6_isReal 8 = .ok (.iload_n 1, 1) := by decide +kernel
theorem dX6_isReal_9 : decode cX6_isReal 9 = .ok (.if_icmp .gt 19, 3) := by decide +kernel
theorem dX6_isReal_12 : decode cX6_isReal 12 = .ok (.aload_n 0, 1) := by decide +kernel
theorem dX6_isReal_13 : decode cX6_isReal 13 = .ok (.iconst 3, 1) := by decide +kernel
theorem dX6_isReal_14 : decode cX6_isReal 14 = .ok (.invokevirtual 100, 3) := by decide +kernel
theorem dX6_isReal_17 : decode cX6_isReal 17 = .ok (.invokestatic 108, 3) := by decide +kernel
theorem dX6_isReal_20 : decode cX6_isReal 20 = .ok (.iload_n 1, 1) := by decide +kernel
theorem dX6_isReal_21 : decode cX6_isReal 21 = .ok (.if_icmp .gt 7, 3) := by decide +kernel
theorem dX6_isReal_24 : decode cX6_isReal 24 = .ok (.iconst 1, 1) := by decide +kernel
theorem dX6_isReal_25 : decode cX6_isReal 25 = .ok (.goto 4, 3) := by decide +kernel
theorem dX6_isReal_28 : decode cX6_isReal 28 = .ok (.iconst 0, 1) := by decide +kernel
theorem dX6_isReal_29 : decode cX6_isReal 29 = .ok (.ireturn, 1) := by decide +kernel
set_option maxHeartbeats 4000000 in
set_option maxRecDepth 100000 in
theorem t_X6_isReal (l : Launch) (D : xD) (z n : Nat) (G : xG) (I : xI) (L : xL) (a : Nat) (w : Int32) (hP : shP G a) : xM0 l D z yX6_isReal cX6_isReal 2 (some .boolean) 2 44 [.ref a, .int w] n G I L (xE (some (.int (bI (decide (iabs (ppart I L a 1) ≤ w) && decide (iabs (ppart I L a 3) ≤ w))))) I L) := by
  refine xM.of (by decide) (Nat.le_of_ble_eq_true rfl) (fun p e s m args below meth c C hnm hsz => ?_)
  refine x_lv [(0, .ref a), (1, .int w)] rfl ?_
  refine x_aload_n 0 C dX6_isReal_0 rfl 0 rfl ?_
  refine x_iconst 1 C (v := 1) dX6_isReal_1 rfl ?_
  refine x_callVe 2 C dX6_isReal_2 (As := [.int 1]) (rest := []) [.int (ppart I L a 1)] (t_X6_part l D z n G I L a 1 hP (by first | assumption | omega)) mt_X6_part km_X6_100 ki_X6_part ks_X6_part hP.1 ⟨by decide, rfl⟩ rfl rfl (Nat.le_of_ble_eq_true rfl) ⟨⟨by decide, by decide⟩, by decide, by decide⟩ (fun I1 L2 eI1 eL2 => ?_)
  replace eI1 := eI1.symm; subst eI1
  replace eL2 := eL2.symm; subst eL2
  refine x_mabs 5 C dX6_isReal_5 km_X6_108 kt_J9_abs_0f7a4 kn_J9 kc_J9_abs_0f7a4 ⟨by decide, Nat.le_of_ble_eq_true rfl, by decide, by decide⟩ ?_
  refine x_int (iabs (ppart I L a 1)) rfl ?_
  refine x_iload_n 8 C dX6_isReal_8 rfl 1 rfl ?_
  refine x_icmp_gt 9 C 28 dX6_isReal_9 (by decide) (fun c3 => ?_) (fun c3 => ?_)
  · skip
    have c3o := Int32.not_le.mpr c3
    refine x_iconst 28 C (v := 0) dX6_isReal_28 rfl ?_
    refine x_iret 29 C dX6_isReal_29 rfl rfl (Nat.le_refl _) (xN.intro ?_)
    skip
    refine ⟨?_, rfl, rfl⟩
    simp [bI, c3, c3o]
  · skip
    have c3o := Int32.not_lt.mp c3
    refine x_aload_n 12 C dX6_isReal_12 rfl 0 rfl ?_
    refine x_iconst 13 C (v := 3) dX6_isReal_13 rfl ?_
    refine x_callVe 14 C dX6_isReal_14 (As := [.int 3]) (rest := []) [.int (ppart I L a 3)] (t_X6_part l D z n G I L a 3 hP (by first | assumption | omega)) mt_X6_part km_X6_100 ki_X6_part ks_X6_part hP.1 ⟨by decide, rfl⟩ rfl rfl (Nat.le_of_ble_eq_true rfl) ⟨⟨by decide, by decide⟩, by decide, by decide⟩ (fun I4 L5 eI4 eL5 => ?_)
    replace eI4 := eI4.symm; subst eI4
    replace eL5 := eL5.symm; subst eL5
    refine x_mabs 17 C dX6_isReal_17 km_X6_108 kt_J9_abs_0f7a4 kn_J9 kc_J9_abs_0f7a4 ⟨by decide, Nat.le_of_ble_eq_true rfl, by decide, by decide⟩ ?_
    refine x_int (iabs (ppart I L a 3)) rfl ?_
    refine x_iload_n 20 C dX6_isReal_20 rfl 1 rfl ?_
    refine x_icmp_gt 21 C 28 dX6_isReal_21 (by decide) (fun c6 => ?_) (fun c6 => ?_)
    · skip
      have c6o := Int32.not_le.mpr c6
      refine x_iconst 28 C (v := 0) dX6_isReal_28 rfl ?_
      refine x_iret 29 C dX6_isReal_29 rfl rfl (Nat.le_refl _) (xN.intro ?_)
      skip
      refine ⟨?_, rfl, rfl⟩
      simp [bI, c3, c3o, c6, c6o]
    · skip
      have c6o := Int32.not_lt.mp c6
      refine x_iconst 24 C (v := 1) dX6_isReal_24 rfl ?_
      refine x_goto 25 C 29 dX6_isReal_25 (by decide) ?_
      refine x_iret 29 C dX6_isReal_29 rfl rfl (Nat.le_refl _) (xN.intro ?_)
      skip
      refine ⟨?_, rfl, rfl⟩
      simp [bI, c3, c3o, c6, c6o]
theorem dX6_isNear_0 : decode cX6_isNear 0 = .ok (.iconst 0, 1) := by decide +kernel
theorem dX6_isNear_1 : decode cX6_isNear 1 = .ok (.istore_n 3, 1) := by decide +kernel
theorem dX6_isNear_2 : decode cX6_isNear 2 = .ok (.iload_n 3, 1) := by decide +kernel
theorem dX6_isNear_3 : decode cX6_isNear 3 = .ok (.iconst 4, 1) := by decide +kernel
theorem dX6_isNear_4 : decode cX6_isNear 4 = .ok (.if_icmp .ge 37, 3) := by decide +kernel
theorem dX6_isNear_7 : decode cX6_isNear 7 = .ok (.aload_n 0, 1) := by decide +kernel
theorem dX6_isNear_8 : decode cX6_isNear 8 = .ok (.iload_n 3, 1) := by decide +kernel
theorem dX6_isNear_9 : decode cX6_isNear 9 = .ok (.invokevirtual 100, 3) := by decide +kernel
theorem dX6_isNear_12 : decode cX6_isNear 12 = .ok (.i2l, 1) := by decide +kernel
theorem dX6_isNear_13 : decode cX6_isNear 13 = .ok (.aload_n 1, 1) := by decide +kernel
theorem dX6_isNear_14 : decode cX6_isNear 14 = .ok (.iload_n 3, 1) := by decide +kernel
theorem dX6_isNear_15 : decode cX6_isNear 15 = .ok (.invokevirtual 100, 3) := by decide +kernel
theorem dX6_isNear_18 : decode cX6_isNear 18 = .ok (.i2l, 1) := by decide +kernel
theorem dX6_isNear_19 : decode cX6_isNear 19 = .ok (.lsub, 1) := by decide +kernel
theorem dX6_isNear_20 : decode cX6_isNear 20 = .ok (.lstore 4, 2) := by decide +kernel
theorem dX6_isNear_22 : decode cX6_isNear 22 = .ok (.lload 4, 2) := by decide +kernel
theorem dX6_isNear_24 : decode cX6_isNear 24 = .ok (.invokestatic 104, 3) := by decide +kernel
theorem dX6_isNear_27 : decode cX6_isNear 27 = .ok (.iload_n 2, 1) := by decide +kernel
theorem dX6_isNear_28 : decode cX6_isNear 28 = .ok (.i2l, 1) := by decide +kernel
theorem dX6_isNear_29 : decode cX6_isNear 29 = .ok (.lcmp, 1) := by decide +kernel
theorem dX6_isNear_30 : decode cX6_isNear 30 = .ok (.ifCond .le 5, 3) := by decide +kernel
theorem dX6_isNear_33 : decode cX6_isNear 33 = .ok (.iconst 0, 1) := by decide +kernel
theorem dX6_isNear_34 : decode cX6_isNear 34 = .ok (.ireturn, 1) := by decide +kernel
theorem dX6_isNear_35 : decode cX6_isNear 35 = .ok (.iinc 3 1, 3) := by decide +kernel
theorem dX6_isNear_38 : decode cX6_isNear 38 = .ok (.goto (-36), 3) := by decide +kernel
theorem dX6_isNear_41 : decode cX6_isNear 41 = .ok (.iconst 1, 1) := by decide +kernel
theorem dX6_isNear_42 : decode cX6_isNear 42 = .ok (.ireturn, 1) := by decide +kernel
set_option maxHeartbeats 4000000 in
set_option maxRecDepth 100000 in
theorem t_X6_isNear (l : Launch) (D : xD) (z n : Nat) (G : xG) (I : xI) (L : xL) (a : Nat) (b : Nat) (w : Int32) (hP : shP G a) (hPb : shP G b) : xM0 l D z yX6_isNear cX6_isNear 6 (some .boolean) 2 44 [.ref a, .ref b, .int w] n G I L (xE (some (.int (bI (pNears I L a b w)))) I L) := by
  refine xM.of (by decide) (Nat.le_of_ble_eq_true rfl) (fun p e s m args below meth c C hnm hsz => ?_)
  refine x_lv [(0, .ref a), (1, .ref b), (2, .int w)] rfl ?_
  refine x_iconst 0 C (v := 0) dX6_isNear_0 rfl ?_
  refine x_istore_n 1 C [(3, .int 0), (0, .ref a), (1, .ref b), (2, .int w)] dX6_isNear_1 rfl (by decide) rfl ?_
  refine x_iload_n 2 C dX6_isNear_2 rfl 0 rfl ?_
  refine x_iconst 3 C (v := 4) dX6_isNear_3 rfl ?_
  refine x_icmp_ge 4 C 41 dX6_isNear_4 (by decide) (fun c1 => absurd c1 (by decide)) (fun _ => ?_)
  refine x_aload_n 7 C dX6_isNear_7 rfl 1 rfl ?_
  refine x_iload_n 8 C dX6_isNear_8 rfl 0 rfl ?_
  refine x_callVe 9 C dX6_isNear_9 (As := [.int 0]) (rest := []) [.int (ppart I L a 0)] (t_X6_part l D z n G I L a 0 hP (by first | assumption | omega)) mt_X6_part km_X6_100 ki_X6_part ks_X6_part hP.1 ⟨by decide, rfl⟩ rfl rfl (Nat.le_of_ble_eq_true rfl) ⟨⟨by decide, by decide⟩, by decide, by decide⟩ (fun I2 L3 eI2 eL3 => ?_)
  replace eI2 := eI2.symm; subst eI2
  replace eL3 := eL3.symm; subst eL3
  refine x_i2l 12 C dX6_isNear_12 ?_
  refine x_aload_n 13 C dX6_isNear_13 rfl 2 rfl ?_
  refine x_iload_n 14 C dX6_isNear_14 rfl 0 rfl ?_
  refine x_callVe 15 C dX6_isNear_15 (As := [.int 0]) (rest := [.long (Int32.toInt64 (ppart I L a 0))]) [.int (ppart I L b 0), .long (Int32.toInt64 (ppart I L a 0))] (t_X6_part l D z n G I L b 0 hPb (by first | assumption | omega)) mt_X6_part km_X6_100 ki_X6_part ks_X6_part hPb.1 ⟨by decide, rfl⟩ rfl rfl (Nat.le_of_ble_eq_true rfl) ⟨⟨by decide, by decide⟩, by decide, by decide⟩ (fun I4 L5 eI4 eL5 => ?_)
  replace eI4 := eI4.symm; subst eI4
  replace eL5 := eL5.symm; subst eL5
  refine x_i2l 18 C dX6_isNear_18 ?_
  refine x_lsub 19 C dX6_isNear_19 ?_
  refine x_topl (fun v6 ev6 => ?_)
  refine x_lstore 20 C [(4, .long v6), (3, .int 0), (0, .ref a), (1, .ref b), (2, .int w)] dX6_isNear_20 (by decide) rfl ?_
  refine x_lload 22 C dX6_isNear_22 0 rfl ?_
  refine x_mabsl 24 C dX6_isNear_24 km_X6_104 kt_J9_abs_067f4 kn_J9 kc_J9_abs_067f4 ⟨by decide, Nat.le_of_ble_eq_true rfl, by decide, by decide⟩ ?_
  refine x_long (labs (v6)) rfl ?_
  refine x_iload_n 27 C dX6_isNear_27 rfl 4 rfl ?_
  refine x_i2l 28 C dX6_isNear_28 ?_
  refine x_lc_le 29 C 35 dX6_isNear_29 dX6_isNear_30 (by decide) (fun c7 => ?_) (fun c7 => ?_)
  · skip
    have c7o := Int64.not_lt.mpr c7
    refine x_iinc 35 C [(3, .int 1), (4, .long v6), (0, .ref a), (1, .ref b), (2, .int w)] dX6_isNear_35 1 rfl (by decide) (by decide) rfl ?_
    refine x_goto 38 C 2 dX6_isNear_38 (by decide) ?_
    refine x_iload_n 2 C dX6_isNear_2 rfl 0 rfl ?_
    refine x_iconst 3 C (v := 4) dX6_isNear_3 rfl ?_
    refine x_icmp_ge 4 C 41 dX6_isNear_4 (by decide) (fun c8 => absurd c8 (by decide)) (fun _ => ?_)
    refine x_aload_n 7 C dX6_isNear_7 rfl 2 rfl ?_
    refine x_iload_n 8 C dX6_isNear_8 rfl 0 rfl ?_
    refine x_callVe 9 C dX6_isNear_9 (As := [.int 1]) (rest := []) [.int (ppart I L a 1)] (t_X6_part l D z n G I L a 1 hP (by first | assumption | omega)) mt_X6_part km_X6_100 ki_X6_part ks_X6_part hP.1 ⟨by decide, rfl⟩ rfl rfl (Nat.le_of_ble_eq_true rfl) ⟨⟨by decide, by decide⟩, by decide, by decide⟩ (fun I9 L10 eI9 eL10 => ?_)
    replace eI9 := eI9.symm; subst eI9
    replace eL10 := eL10.symm; subst eL10
    refine x_i2l 12 C dX6_isNear_12 ?_
    refine x_aload_n 13 C dX6_isNear_13 rfl 3 rfl ?_
    refine x_iload_n 14 C dX6_isNear_14 rfl 0 rfl ?_
    refine x_callVe 15 C dX6_isNear_15 (As := [.int 1]) (rest := [.long (Int32.toInt64 (ppart I L a 1))]) [.int (ppart I L b 1), .long (Int32.toInt64 (ppart I L a 1))] (t_X6_part l D z n G I L b 1 hPb (by first | assumption | omega)) mt_X6_part km_X6_100 ki_X6_part ks_X6_part hPb.1 ⟨by decide, rfl⟩ rfl rfl (Nat.le_of_ble_eq_true rfl) ⟨⟨by decide, by decide⟩, by decide, by decide⟩ (fun I11 L12 eI11 eL12 => ?_)
    replace eI11 := eI11.symm; subst eI11
    replace eL12 := eL12.symm; subst eL12
    refine x_i2l 18 C dX6_isNear_18 ?_
    refine x_lsub 19 C dX6_isNear_19 ?_
    refine x_topl (fun v13 ev13 => ?_)
    refine x_lstore 20 C [(4, .long v13), (3, .int 1), (0, .ref a), (1, .ref b), (2, .int w)] dX6_isNear_20 (by decide) rfl ?_
    refine x_lload 22 C dX6_isNear_22 0 rfl ?_
    refine x_mabsl 24 C dX6_isNear_24 km_X6_104 kt_J9_abs_067f4 kn_J9 kc_J9_abs_067f4 ⟨by decide, Nat.le_of_ble_eq_true rfl, by decide, by decide⟩ ?_
    refine x_long (labs (v13)) rfl ?_
    refine x_iload_n 27 C dX6_isNear_27 rfl 4 rfl ?_
    refine x_i2l 28 C dX6_isNear_28 ?_
    refine x_lc_le 29 C 35 dX6_isNear_29 dX6_isNear_30 (by decide) (fun c14 => ?_) (fun c14 => ?_)
    · skip
      have c14o := Int64.not_lt.mpr c14
      refine x_iinc 35 C [(3, .int 2), (4, .long v13), (0, .ref a), (1, .ref b), (2, .int w)] dX6_isNear_35 1 rfl (by decide) (by decide) rfl ?_
      refine x_goto 38 C 2 dX6_isNear_38 (by decide) ?_
      refine x_iload_n 2 C dX6_isNear_2 rfl 0 rfl ?_
      refine x_iconst 3 C (v := 4) dX6_isNear_3 rfl ?_
      refine x_icmp_ge 4 C 41 dX6_isNear_4 (by decide) (fun c15 => absurd c15 (by decide)) (fun _ => ?_)
      refine x_aload_n 7 C dX6_isNear_7 rfl 2 rfl ?_
      refine x_iload_n 8 C dX6_isNear_8 rfl 0 rfl ?_
      refine x_callVe 9 C dX6_isNear_9 (As := [.int 2]) (rest := []) [.int (ppart I L a 2)] (t_X6_part l D z n G I L a 2 hP (by first | assumption | omega)) mt_X6_part km_X6_100 ki_X6_part ks_X6_part hP.1 ⟨by decide, rfl⟩ rfl rfl (Nat.le_of_ble_eq_true rfl) ⟨⟨by decide, by decide⟩, by decide, by decide⟩ (fun I16 L17 eI16 eL17 => ?_)
      replace eI16 := eI16.symm; subst eI16
      replace eL17 := eL17.symm; subst eL17
      refine x_i2l 12 C dX6_isNear_12 ?_
      refine x_aload_n 13 C dX6_isNear_13 rfl 3 rfl ?_
      refine x_iload_n 14 C dX6_isNear_14 rfl 0 rfl ?_
      refine x_callVe 15 C dX6_isNear_15 (As := [.int 2]) (rest := [.long (Int32.toInt64 (ppart I L a 2))]) [.int (ppart I L b 2), .long (Int32.toInt64 (ppart I L a 2))] (t_X6_part l D z n G I L b 2 hPb (by first | assumption | omega)) mt_X6_part km_X6_100 ki_X6_part ks_X6_part hPb.1 ⟨by decide, rfl⟩ rfl rfl (Nat.le_of_ble_eq_true rfl) ⟨⟨by decide, by decide⟩, by decide, by decide⟩ (fun I18 L19 eI18 eL19 => ?_)
      replace eI18 := eI18.symm; subst eI18
      replace eL19 := eL19.symm; subst eL19
      refine x_i2l 18 C dX6_isNear_18 ?_
      refine x_lsub 19 C dX6_isNear_19 ?_
      refine x_topl (fun v20 ev20 => ?_)
      refine x_lstore 20 C [(4, .long v20), (3, .int 2), (0, .ref a), (1, .ref b), (2, .int w)] dX6_isNear_20 (by decide) rfl ?_
      refine x_lload 22 C dX6_isNear_22 0 rfl ?_
      refine x_mabsl 24 C dX6_isNear_24 km_X6_104 kt_J9_abs_067f4 kn_J9 kc_J9_abs_067f4 ⟨by decide, Nat.le_of_ble_eq_true rfl, by decide, by decide⟩ ?_
      refine x_long (labs (v20)) rfl ?_
      refine x_iload_n 27 C dX6_isNear_27 rfl 4 rfl ?_
      refine x_i2l 28 C dX6_isNear_28 ?_
      refine x_lc_le 29 C 35 dX6_isNear_29 dX6_isNear_30 (by decide) (fun c21 => ?_) (fun c21 => ?_)
      · skip
        have c21o := Int64.not_lt.mpr c21
        refine x_iinc 35 C [(3, .int 3), (4, .long v20), (0, .ref a), (1, .ref b), (2, .int w)] dX6_isNear_35 1 rfl (by decide) (by decide) rfl ?_
        refine x_goto 38 C 2 dX6_isNear_38 (by decide) ?_
        refine x_iload_n 2 C dX6_isNear_2 rfl 0 rfl ?_
        refine x_iconst 3 C (v := 4) dX6_isNear_3 rfl ?_
        refine x_icmp_ge 4 C 41 dX6_isNear_4 (by decide) (fun c22 => absurd c22 (by decide)) (fun _ => ?_)
        refine x_aload_n 7 C dX6_isNear_7 rfl 2 rfl ?_
        refine x_iload_n 8 C dX6_isNear_8 rfl 0 rfl ?_
        refine x_callVe 9 C dX6_isNear_9 (As := [.int 3]) (rest := []) [.int (ppart I L a 3)] (t_X6_part l D z n G I L a 3 hP (by first | assumption | omega)) mt_X6_part km_X6_100 ki_X6_part ks_X6_part hP.1 ⟨by decide, rfl⟩ rfl rfl (Nat.le_of_ble_eq_true rfl) ⟨⟨by decide, by decide⟩, by decide, by decide⟩ (fun I23 L24 eI23 eL24 => ?_)
        replace eI23 := eI23.symm; subst eI23
        replace eL24 := eL24.symm; subst eL24
        refine x_i2l 12 C dX6_isNear_12 ?_
        refine x_aload_n 13 C dX6_isNear_13 rfl 3 rfl ?_
        refine x_iload_n 14 C dX6_isNear_14 rfl 0 rfl ?_
        refine x_callVe 15 C dX6_isNear_15 (As := [.int 3]) (rest := [.long (Int32.toInt64 (ppart I L a 3))]) [.int (ppart I L b 3), .long (Int32.toInt64 (ppart I L a 3))] (t_X6_part l D z n G I L b 3 hPb (by first | assumption | omega)) mt_X6_part km_X6_100 ki_X6_part ks_X6_part hPb.1 ⟨by decide, rfl⟩ rfl rfl (Nat.le_of_ble_eq_true rfl) ⟨⟨by decide, by decide⟩, by decide, by decide⟩ (fun I25 L26 eI25 eL26 => ?_)
        replace eI25 := eI25.symm; subst eI25
        replace eL26 := eL26.symm; subst eL26
        refine x_i2l 18 C dX6_isNear_18 ?_
        refine x_lsub 19 C dX6_isNear_19 ?_
        refine x_topl (fun v27 ev27 => ?_)
        refine x_lstore 20 C [(4, .long v27), (3, .int 3), (0, .ref a), (1, .ref b), (2, .int w)] dX6_isNear_20 (by decide) rfl ?_
        refine x_lload 22 C dX6_isNear_22 0 rfl ?_
        refine x_mabsl 24 C dX6_isNear_24 km_X6_104 kt_J9_abs_067f4 kn_J9 kc_J9_abs_067f4 ⟨by decide, Nat.le_of_ble_eq_true rfl, by decide, by decide⟩ ?_
        refine x_long (labs (v27)) rfl ?_
        refine x_iload_n 27 C dX6_isNear_27 rfl 4 rfl ?_
        refine x_i2l 28 C dX6_isNear_28 ?_
        refine x_lc_le 29 C 35 dX6_isNear_29 dX6_isNear_30 (by decide) (fun c28 => ?_) (fun c28 => ?_)
        · skip
          have c28o := Int64.not_lt.mpr c28
          refine x_iinc 35 C [(3, .int 4), (4, .long v27), (0, .ref a), (1, .ref b), (2, .int w)] dX6_isNear_35 1 rfl (by decide) (by decide) rfl ?_
          refine x_goto 38 C 2 dX6_isNear_38 (by decide) ?_
          refine x_iload_n 2 C dX6_isNear_2 rfl 0 rfl ?_
          refine x_iconst 3 C (v := 4) dX6_isNear_3 rfl ?_
          refine x_icmp_ge 4 C 41 dX6_isNear_4 (by decide) (fun _ => ?_) (fun c29 => absurd (by decide) c29)
          refine x_iconst 41 C (v := 1) dX6_isNear_41 rfl ?_
          refine x_iret 42 C dX6_isNear_42 rfl rfl (Nat.le_refl _) (xN.intro ?_)
          subst ev6; subst ev13; subst ev20; subst ev27
          refine ⟨?_, rfl, rfl⟩
          simp [bI, pNears, pNear, c7, c7o, c14, c14o, c21, c21o, c28, c28o]
        · skip
          have c28o := Int64.not_le.mp c28
          refine x_iconst 33 C (v := 0) dX6_isNear_33 rfl ?_
          refine x_iret 34 C dX6_isNear_34 rfl rfl (Nat.le_refl _) (xN.intro ?_)
          subst ev6; subst ev13; subst ev20; subst ev27
          refine ⟨?_, rfl, rfl⟩
          simp [bI, pNears, pNear, c7, c7o, c14, c14o, c21, c21o, c28, c28o]
      · skip
        have c21o := Int64.not_le.mp c21
        refine x_iconst 33 C (v := 0) dX6_isNear_33 rfl ?_
        refine x_iret 34 C dX6_isNear_34 rfl rfl (Nat.le_refl _) (xN.intro ?_)
        subst ev6; subst ev13; subst ev20
        refine ⟨?_, rfl, rfl⟩
        simp [bI, pNears, pNear, c7, c7o, c14, c14o, c21, c21o]
    · skip
      have c14o := Int64.not_le.mp c14
      refine x_iconst 33 C (v := 0) dX6_isNear_33 rfl ?_
      refine x_iret 34 C dX6_isNear_34 rfl rfl (Nat.le_refl _) (xN.intro ?_)
      subst ev6; subst ev13
      refine ⟨?_, rfl, rfl⟩
      simp [bI, pNears, pNear, c7, c7o, c14, c14o]
  · skip
    have c7o := Int64.not_le.mp c7
    refine x_iconst 33 C (v := 0) dX6_isNear_33 rfl ?_
    refine x_iret 34 C dX6_isNear_34 rfl rfl (Nat.le_refl _) (xN.intro ?_)
    subst ev6
    refine ⟨?_, rfl, rfl⟩
    simp [bI, pNears, pNear, c7, c7o]
theorem dJ6_compare_7cf53_0 : decode cJ6_compare_7cf53 0 = .ok (.iload_n 0, 1) := by decide +kernel
theorem dJ6_compare_7cf53_1 : decode cJ6_compare_7cf53 1 = .ok (.iload_n 1, 1) := by decide +kernel
theorem dJ6_compare_7cf53_2 : decode cJ6_compare_7cf53 2 = .ok (.if_icmp .ge 7, 3) := by decide +kernel
theorem dJ6_compare_7cf53_5 : decode cJ6_compare_7cf53 5 = .ok (.iconst (-1), 1) := by decide +kernel
theorem dJ6_compare_7cf53_6 : decode cJ6_compare_7cf53 6 = .ok (.goto 13, 3) := by decide +kernel
theorem dJ6_compare_7cf53_9 : decode cJ6_compare_7cf53 9 = .ok (.iload_n 0, 1) := by decide +kernel
theorem dJ6_compare_7cf53_10 : decode cJ6_compare_7cf53 10 = .ok (.iload_n 1, 1) := by decide +kernel
theorem dJ6_compare_7cf53_11 : decode cJ6_compare_7cf53 11 = .ok (.if_icmp .ne 7, 3) := by decide +kernel
theorem dJ6_compare_7cf53_14 : decode cJ6_compare_7cf53 14 = .ok (.iconst 0, 1) := by decide +kernel
theorem dJ6_compare_7cf53_15 : decode cJ6_compare_7cf53 15 = .ok (.goto 4, 3) := by decide +kernel
theorem dJ6_compare_7cf53_18 : decode cJ6_compare_7cf53 18 = .ok (.iconst 1, 1) := by decide +kernel
theorem dJ6_compare_7cf53_19 : decode cJ6_compare_7cf53 19 = .ok (.ireturn, 1) := by decide +kernel
set_option maxHeartbeats 4000000 in
set_option maxRecDepth 100000 in
theorem t_J6_compare_7cf53 (l : Launch) (D : xD) (z n : Nat) (G : xG) (I : xI) (L : xL) (x : Int32) (y : Int32)  : xM0 l D z yJ6_compare_7cf53 cJ6_compare_7cf53 2 (some .int) 0 0 [.int x, .int y] n G I L (xE (some (.int (icmp x y))) I L) := by
  refine xM.of (by decide) (Nat.le_of_ble_eq_true rfl) (fun p e s m args below meth c C hnm hsz => ?_)
  refine x_lv [(0, .int x), (1, .int y)] rfl ?_
  refine x_iload_n 0 C dJ6_compare_7cf53_0 rfl 0 rfl ?_
  refine x_iload_n 1 C dJ6_compare_7cf53_1 rfl 1 rfl ?_
  refine x_icmp_ge 2 C 9 dJ6_compare_7cf53_2 (by decide) (fun c1 => ?_) (fun c1 => ?_)
  · skip
    have c1o := Int32.not_lt.mpr c1
    refine x_iload_n 9 C dJ6_compare_7cf53_9 rfl 0 rfl ?_
    refine x_iload_n 10 C dJ6_compare_7cf53_10 rfl 1 rfl ?_
    refine x_icmp_ne 11 C 18 dJ6_compare_7cf53_11 (by decide) (fun c2 => ?_) (fun c2 => ?_)
    · skip
      refine x_iconst 18 C (v := 1) dJ6_compare_7cf53_18 rfl ?_
      refine x_iret 19 C dJ6_compare_7cf53_19 rfl rfl (Nat.le_refl _) (xN.intro ?_)
      refine ⟨?_, rfl, rfl⟩
      simp [icmp, c1, c1o, c2]
    · skip
      refine x_iconst 14 C (v := 0) dJ6_compare_7cf53_14 rfl ?_
      refine x_goto 15 C 19 dJ6_compare_7cf53_15 (by decide) ?_
      refine x_iret 19 C dJ6_compare_7cf53_19 rfl rfl (Nat.le_refl _) (xN.intro ?_)
      refine ⟨?_, rfl, rfl⟩
      simp [icmp, c1, c1o, c2]
  · skip
    have c1o := Int32.not_le.mp c1
    refine x_iconst 5 C (v := (-1)) dJ6_compare_7cf53_5 rfl ?_
    refine x_goto 6 C 19 dJ6_compare_7cf53_6 (by decide) ?_
    refine x_iret 19 C dJ6_compare_7cf53_19 rfl rfl (Nat.le_refl _) (xN.intro ?_)
    refine ⟨?_, rfl, rfl⟩
    simp [icmp, c1, c1o]
theorem dX6_compareParts_0 : decode cX6_compareParts 0 = .ok (.iconst 0, 1) := by decide +kernel
theorem dX6_compareParts_1 : decode cX6_compareParts 1 = .ok (.istore_n 2, 1) := by decide +kernel
theorem dX6_compareParts_2 : decode cX6_compareParts 2 = .ok (.iload_n 2, 1) := by decide +kernel
theorem dX6_compareParts_3 : decode cX6_compareParts 3 = .ok (.iconst 4, 1) := by decide +kernel
theorem dX6_compareParts_4 : decode cX6_compareParts 4 = .ok (.if_icmp .ge 29, 3) := by decide +kernel
theorem dX6_compareParts_7 : decode cX6_compareParts 7 = .ok (.aload_n 0, 1) := by decide +kernel
theorem dX6_compareParts_8 : decode cX6_compareParts 8 = .ok (.iload_n 2, 1) := by decide +kernel
theorem dX6_compareParts_9 : decode cX6_compareParts 9 = .ok (.invokevirtual 100, 3) := by decide +kernel
theorem dX6_compareParts_12 : decode cX6_compareParts 12 = .ok (.aload_n 1, 1) := by decide +kernel
theorem dX6_compareParts_13 : decode cX6_compareParts 13 = .ok (.iload_n 2, 1) := by decide +kernel
theorem dX6_compareParts_14 : decode cX6_compareParts 14 = .ok (.invokevirtual 100, 3) := by decide +kernel
theorem dX6_compareParts_17 : decode cX6_compareParts 17 = .ok (.invokestatic 110, 3) := by decide +kernel
theorem dX6_compareParts_20 : decode cX6_compareParts 20 = .ok (.istore_n 3, 1) := by decide +kernel
theorem dX6_compareParts_21 : decode cX6_compareParts 21 = .ok (.iload_n 3, 1) := by decide +kernel
theorem dX6_compareParts_22 : decode cX6_compareParts 22 = .ok (.ifCond .eq 5, 3) := by decide +kernel
theorem dX6_compareParts_25 : decode cX6_compareParts 25 = .ok (.iload_n 3, 1) := by decide +kernel
theorem dX6_compareParts_26 : decode cX6_compareParts 26 = .ok (.ireturn, 1) := by decide +kernel
theorem dX6_compareParts_27 : decode cX6_compareParts 27 = .ok (.iinc 2 1, 3) := by decide +kernel
theorem dX6_compareParts_30 : decode cX6_compareParts 30 = .ok (.goto (-28), 3) := by decide +kernel
theorem dX6_compareParts_33 : decode cX6_compareParts 33 = .ok (.iconst 0, 1) := by decide +kernel
theorem dX6_compareParts_34 : decode cX6_compareParts 34 = .ok (.ireturn, 1) := by decide +kernel
set_option maxHeartbeats 4000000 in
set_option maxRecDepth 100000 in
theorem t_X6_compareParts (l : Launch) (D : xD) (z n : Nat) (G : xG) (I : xI) (L : xL) (a : Nat) (b : Nat) (hP : shP G a) (hPb : shP G b) : xM0 l D z yX6_compareParts cX6_compareParts 4 (some .int) 2 44 [.ref a, .ref b] n G I L (xE (some (.int (pCmp I L a b))) I L) := by
  refine xM.of (by decide) (Nat.le_of_ble_eq_true rfl) (fun p e s m args below meth c C hnm hsz => ?_)
  refine x_lv [(0, .ref a), (1, .ref b)] rfl ?_
  refine x_iconst 0 C (v := 0) dX6_compareParts_0 rfl ?_
  refine x_istore_n 1 C [(2, .int 0), (0, .ref a), (1, .ref b)] dX6_compareParts_1 rfl (by decide) rfl ?_
  refine x_iload_n 2 C dX6_compareParts_2 rfl 0 rfl ?_
  refine x_iconst 3 C (v := 4) dX6_compareParts_3 rfl ?_
  refine x_icmp_ge 4 C 33 dX6_compareParts_4 (by decide) (fun c1 => absurd c1 (by decide)) (fun _ => ?_)
  refine x_aload_n 7 C dX6_compareParts_7 rfl 1 rfl ?_
  refine x_iload_n 8 C dX6_compareParts_8 rfl 0 rfl ?_
  refine x_callVe 9 C dX6_compareParts_9 (As := [.int 0]) (rest := []) [.int (ppart I L a 0)] (t_X6_part l D z n G I L a 0 hP (by first | assumption | omega)) mt_X6_part km_X6_100 ki_X6_part ks_X6_part hP.1 ⟨by decide, rfl⟩ rfl rfl (Nat.le_of_ble_eq_true rfl) ⟨⟨by decide, by decide⟩, by decide, by decide⟩ (fun I2 L3 eI2 eL3 => ?_)
  replace eI2 := eI2.symm; subst eI2
  replace eL3 := eL3.symm; subst eL3
  refine x_aload_n 12 C dX6_compareParts_12 rfl 2 rfl ?_
  refine x_iload_n 13 C dX6_compareParts_13 rfl 0 rfl ?_
  refine x_callVe 14 C dX6_compareParts_14 (As := [.int 0]) (rest := [.int (ppart I L a 0)]) [.int (ppart I L b 0), .int (ppart I L a 0)] (t_X6_part l D z n G I L b 0 hPb (by first | assumption | omega)) mt_X6_part km_X6_100 ki_X6_part ks_X6_part hPb.1 ⟨by decide, rfl⟩ rfl rfl (Nat.le_of_ble_eq_true rfl) ⟨⟨by decide, by decide⟩, by decide, by decide⟩ (fun I4 L5 eI4 eL5 => ?_)
  replace eI4 := eI4.symm; subst eI4
  replace eL5 := eL5.symm; subst eL5
  refine x_callSe 17 C dX6_compareParts_17 (As := [.int (ppart I L a 0), .int (ppart I L b 0)]) (rest := []) [.int (icmp (ppart I L a 0) (ppart I L b 0))] (t_J6_compare_7cf53 l D z n G I L (ppart I L a 0) (ppart I L b 0) ) mt_J6_compare_7cf53 km_X6_110 kt_J6_compare_7cf53 rfl rfl (Nat.le_of_ble_eq_true rfl) ⟨⟨by decide, by decide⟩, by decide, by decide⟩ (fun I6 L7 eI6 eL7 => ?_)
  replace eI6 := eI6.symm; subst eI6
  replace eL7 := eL7.symm; subst eL7
  refine x_top (fun v8 ev8 => ?_)
  refine x_istore_n 20 C [(3, .int v8), (2, .int 0), (0, .ref a), (1, .ref b)] dX6_compareParts_20 rfl (by decide) rfl ?_
  refine x_iload_n 21 C dX6_compareParts_21 rfl 0 rfl ?_
  refine x_if_eq 22 C 27 dX6_compareParts_22 (by decide) (fun c9 => ?_) (fun c9 => ?_)
  · skip
    refine x_iinc 27 C [(2, .int 1), (3, .int v8), (0, .ref a), (1, .ref b)] dX6_compareParts_27 1 rfl (by decide) (by decide) rfl ?_
    refine x_goto 30 C 2 dX6_compareParts_30 (by decide) ?_
    refine x_iload_n 2 C dX6_compareParts_2 rfl 0 rfl ?_
    refine x_iconst 3 C (v := 4) dX6_compareParts_3 rfl ?_
    refine x_icmp_ge 4 C 33 dX6_compareParts_4 (by decide) (fun c10 => absurd c10 (by decide)) (fun _ => ?_)
    refine x_aload_n 7 C dX6_compareParts_7 rfl 2 rfl ?_
    refine x_iload_n 8 C dX6_compareParts_8 rfl 0 rfl ?_
    refine x_callVe 9 C dX6_compareParts_9 (As := [.int 1]) (rest := []) [.int (ppart I L a 1)] (t_X6_part l D z n G I L a 1 hP (by first | assumption | omega)) mt_X6_part km_X6_100 ki_X6_part ks_X6_part hP.1 ⟨by decide, rfl⟩ rfl rfl (Nat.le_of_ble_eq_true rfl) ⟨⟨by decide, by decide⟩, by decide, by decide⟩ (fun I11 L12 eI11 eL12 => ?_)
    replace eI11 := eI11.symm; subst eI11
    replace eL12 := eL12.symm; subst eL12
    refine x_aload_n 12 C dX6_compareParts_12 rfl 3 rfl ?_
    refine x_iload_n 13 C dX6_compareParts_13 rfl 0 rfl ?_
    refine x_callVe 14 C dX6_compareParts_14 (As := [.int 1]) (rest := [.int (ppart I L a 1)]) [.int (ppart I L b 1), .int (ppart I L a 1)] (t_X6_part l D z n G I L b 1 hPb (by first | assumption | omega)) mt_X6_part km_X6_100 ki_X6_part ks_X6_part hPb.1 ⟨by decide, rfl⟩ rfl rfl (Nat.le_of_ble_eq_true rfl) ⟨⟨by decide, by decide⟩, by decide, by decide⟩ (fun I13 L14 eI13 eL14 => ?_)
    replace eI13 := eI13.symm; subst eI13
    replace eL14 := eL14.symm; subst eL14
    refine x_callSe 17 C dX6_compareParts_17 (As := [.int (ppart I L a 1), .int (ppart I L b 1)]) (rest := []) [.int (icmp (ppart I L a 1) (ppart I L b 1))] (t_J6_compare_7cf53 l D z n G I L (ppart I L a 1) (ppart I L b 1) ) mt_J6_compare_7cf53 km_X6_110 kt_J6_compare_7cf53 rfl rfl (Nat.le_of_ble_eq_true rfl) ⟨⟨by decide, by decide⟩, by decide, by decide⟩ (fun I15 L16 eI15 eL16 => ?_)
    replace eI15 := eI15.symm; subst eI15
    replace eL16 := eL16.symm; subst eL16
    refine x_top (fun v17 ev17 => ?_)
    refine x_istore_n 20 C [(3, .int v17), (2, .int 1), (0, .ref a), (1, .ref b)] dX6_compareParts_20 rfl (by decide) rfl ?_
    refine x_iload_n 21 C dX6_compareParts_21 rfl 0 rfl ?_
    refine x_if_eq 22 C 27 dX6_compareParts_22 (by decide) (fun c18 => ?_) (fun c18 => ?_)
    · skip
      refine x_iinc 27 C [(2, .int 2), (3, .int v17), (0, .ref a), (1, .ref b)] dX6_compareParts_27 1 rfl (by decide) (by decide) rfl ?_
      refine x_goto 30 C 2 dX6_compareParts_30 (by decide) ?_
      refine x_iload_n 2 C dX6_compareParts_2 rfl 0 rfl ?_
      refine x_iconst 3 C (v := 4) dX6_compareParts_3 rfl ?_
      refine x_icmp_ge 4 C 33 dX6_compareParts_4 (by decide) (fun c19 => absurd c19 (by decide)) (fun _ => ?_)
      refine x_aload_n 7 C dX6_compareParts_7 rfl 2 rfl ?_
      refine x_iload_n 8 C dX6_compareParts_8 rfl 0 rfl ?_
      refine x_callVe 9 C dX6_compareParts_9 (As := [.int 2]) (rest := []) [.int (ppart I L a 2)] (t_X6_part l D z n G I L a 2 hP (by first | assumption | omega)) mt_X6_part km_X6_100 ki_X6_part ks_X6_part hP.1 ⟨by decide, rfl⟩ rfl rfl (Nat.le_of_ble_eq_true rfl) ⟨⟨by decide, by decide⟩, by decide, by decide⟩ (fun I20 L21 eI20 eL21 => ?_)
      replace eI20 := eI20.symm; subst eI20
      replace eL21 := eL21.symm; subst eL21
      refine x_aload_n 12 C dX6_compareParts_12 rfl 3 rfl ?_
      refine x_iload_n 13 C dX6_compareParts_13 rfl 0 rfl ?_
      refine x_callVe 14 C dX6_compareParts_14 (As := [.int 2]) (rest := [.int (ppart I L a 2)]) [.int (ppart I L b 2), .int (ppart I L a 2)] (t_X6_part l D z n G I L b 2 hPb (by first | assumption | omega)) mt_X6_part km_X6_100 ki_X6_part ks_X6_part hPb.1 ⟨by decide, rfl⟩ rfl rfl (Nat.le_of_ble_eq_true rfl) ⟨⟨by decide, by decide⟩, by decide, by decide⟩ (fun I22 L23 eI22 eL23 => ?_)
      replace eI22 := eI22.symm; subst eI22
      replace eL23 := eL23.symm; subst eL23
      refine x_callSe 17 C dX6_compareParts_17 (As := [.int (ppart I L a 2), .int (ppart I L b 2)]) (rest := []) [.int (icmp (ppart I L a 2) (ppart I L b 2))] (t_J6_compare_7cf53 l D z n G I L (ppart I L a 2) (ppart I L b 2) ) mt_J6_compare_7cf53 km_X6_110 kt_J6_compare_7cf53 rfl rfl (Nat.le_of_ble_eq_true rfl) ⟨⟨by decide, by decide⟩, by decide, by decide⟩ (fun I24 L25 eI24 eL25 => ?_)
      replace eI24 := eI24.symm; subst eI24
      replace eL25 := eL25.symm; subst eL25
      refine x_top (fun v26 ev26 => ?_)
      refine x_istore_n 20 C [(3, .int v26), (2, .int 2), (0, .ref a), (1, .ref b)] dX6_compareParts_20 rfl (by decide) rfl ?_
      refine x_iload_n 21 C dX6_compareParts_21 rfl 0 rfl ?_
      refine x_if_eq 22 C 27 dX6_compareParts_22 (by decide) (fun c27 => ?_) (fun c27 => ?_)
      · skip
        refine x_iinc 27 C [(2, .int 3), (3, .int v26), (0, .ref a), (1, .ref b)] dX6_compareParts_27 1 rfl (by decide) (by decide) rfl ?_
        refine x_goto 30 C 2 dX6_compareParts_30 (by decide) ?_
        refine x_iload_n 2 C dX6_compareParts_2 rfl 0 rfl ?_
        refine x_iconst 3 C (v := 4) dX6_compareParts_3 rfl ?_
        refine x_icmp_ge 4 C 33 dX6_compareParts_4 (by decide) (fun c28 => absurd c28 (by decide)) (fun _ => ?_)
        refine x_aload_n 7 C dX6_compareParts_7 rfl 2 rfl ?_
        refine x_iload_n 8 C dX6_compareParts_8 rfl 0 rfl ?_
        refine x_callVe 9 C dX6_compareParts_9 (As := [.int 3]) (rest := []) [.int (ppart I L a 3)] (t_X6_part l D z n G I L a 3 hP (by first | assumption | omega)) mt_X6_part km_X6_100 ki_X6_part ks_X6_part hP.1 ⟨by decide, rfl⟩ rfl rfl (Nat.le_of_ble_eq_true rfl) ⟨⟨by decide, by decide⟩, by decide, by decide⟩ (fun I29 L30 eI29 eL30 => ?_)
        replace eI29 := eI29.symm; subst eI29
        replace eL30 := eL30.symm; subst eL30
        refine x_aload_n 12 C dX6_compareParts_12 rfl 3 rfl ?_
        refine x_iload_n 13 C dX6_compareParts_13 rfl 0 rfl ?_
        refine x_callVe 14 C dX6_compareParts_14 (As := [.int 3]) (rest := [.int (ppart I L a 3)]) [.int (ppart I L b 3), .int (ppart I L a 3)] (t_X6_part l D z n G I L b 3 hPb (by first | assumption | omega)) mt_X6_part km_X6_100 ki_X6_part ks_X6_part hPb.1 ⟨by decide, rfl⟩ rfl rfl (Nat.le_of_ble_eq_true rfl) ⟨⟨by decide, by decide⟩, by decide, by decide⟩ (fun I31 L32 eI31 eL32 => ?_)
        replace eI31 := eI31.symm; subst eI31
        replace eL32 := eL32.symm; subst eL32
        refine x_callSe 17 C dX6_compareParts_17 (As := [.int (ppart I L a 3), .int (ppart I L b 3)]) (rest := []) [.int (icmp (ppart I L a 3) (ppart I L b 3))] (t_J6_compare_7cf53 l D z n G I L (ppart I L a 3) (ppart I L b 3) ) mt_J6_compare_7cf53 km_X6_110 kt_J6_compare_7cf53 rfl rfl (Nat.le_of_ble_eq_true rfl) ⟨⟨by decide, by decide⟩, by decide, by decide⟩ (fun I33 L34 eI33 eL34 => ?_)
        replace eI33 := eI33.symm; subst eI33
        replace eL34 := eL34.symm; subst eL34
        refine x_top (fun v35 ev35 => ?_)
        refine x_istore_n 20 C [(3, .int v35), (2, .int 3), (0, .ref a), (1, .ref b)] dX6_compareParts_20 rfl (by decide) rfl ?_
        refine x_iload_n 21 C dX6_compareParts_21 rfl 0 rfl ?_
        refine x_if_eq 22 C 27 dX6_compareParts_22 (by decide) (fun c36 => ?_) (fun c36 => ?_)
        · skip
          refine x_iinc 27 C [(2, .int 4), (3, .int v35), (0, .ref a), (1, .ref b)] dX6_compareParts_27 1 rfl (by decide) (by decide) rfl ?_
          refine x_goto 30 C 2 dX6_compareParts_30 (by decide) ?_
          refine x_iload_n 2 C dX6_compareParts_2 rfl 0 rfl ?_
          refine x_iconst 3 C (v := 4) dX6_compareParts_3 rfl ?_
          refine x_icmp_ge 4 C 33 dX6_compareParts_4 (by decide) (fun _ => ?_) (fun c37 => absurd (by decide) c37)
          refine x_iconst 33 C (v := 0) dX6_compareParts_33 rfl ?_
          refine x_iret 34 C dX6_compareParts_34 rfl rfl (Nat.le_refl _) (xN.intro ?_)
          subst ev8; subst ev17; subst ev26; subst ev35
          refine ⟨?_, rfl, rfl⟩
          simp [pCmp, c9, c18, c27, c36]
        · skip
          refine x_iload_n 25 C dX6_compareParts_25 rfl 0 rfl ?_
          refine x_iret 26 C dX6_compareParts_26 rfl rfl (Nat.le_refl _) (xN.intro ?_)
          subst ev8; subst ev17; subst ev26; subst ev35
          refine ⟨?_, rfl, rfl⟩
          simp [pCmp, c9, c18, c27, c36]
      · skip
        refine x_iload_n 25 C dX6_compareParts_25 rfl 0 rfl ?_
        refine x_iret 26 C dX6_compareParts_26 rfl rfl (Nat.le_refl _) (xN.intro ?_)
        subst ev8; subst ev17; subst ev26
        refine ⟨?_, rfl, rfl⟩
        simp [pCmp, c9, c18, c27]
    · skip
      refine x_iload_n 25 C dX6_compareParts_25 rfl 0 rfl ?_
      refine x_iret 26 C dX6_compareParts_26 rfl rfl (Nat.le_refl _) (xN.intro ?_)
      subst ev8; subst ev17
      refine ⟨?_, rfl, rfl⟩
      simp [pCmp, c9, c18]
  · skip
    refine x_iload_n 25 C dX6_compareParts_25 rfl 0 rfl ?_
    refine x_iret 26 C dX6_compareParts_26 rfl rfl (Nat.le_refl _) (xN.intro ?_)
    subst ev8
    refine ⟨?_, rfl, rfl⟩
    simp [pCmp, c9]
theorem dX6_moveOn_0 : decode cX6_moveOn 0 = .ok (.aload_n 0, 1) := by decide +kernel
theorem dX6_moveOn_1 : decode cX6_moveOn 1 = .ok (.getfield 10, 3) := by decide +kernel
theorem dX6_moveOn_4 : decode cX6_moveOn 4 = .ok (.aload_n 2, 1) := by decide +kernel
theorem dX6_moveOn_5 : decode cX6_moveOn 5 = .ok (.invokevirtual 68, 3) := by decide +kernel
theorem dX6_moveOn_8 : decode cX6_moveOn 8 = .ok (.aload_n 0, 1) := by decide +kernel
theorem dX6_moveOn_9 : decode cX6_moveOn 9 = .ok (.getfield 16, 3) := by decide +kernel
theorem dX6_moveOn_12 : decode cX6_moveOn 12 = .ok (.aload_n 3, 1) := by decide +kernel
theorem dX6_moveOn_13 : decode cX6_moveOn 13 = .ok (.invokevirtual 68, 3) := by decide +kernel
theorem dX6_moveOn_16 : decode cX6_moveOn 16 = .ok (.aload_n 0, 1) := by decide +kernel
theorem dX6_moveOn_17 : decode cX6_moveOn 17 = .ok (.dup, 1) := by decide +kernel
theorem dX6_moveOn_18 : decode cX6_moveOn 18 = .ok (.getfield 23, 3) := by decide +kernel
theorem dX6_moveOn_21 : decode cX6_moveOn 21 = .ok (.iload_n 1, 1) := by decide +kernel
theorem dX6_moveOn_22 : decode cX6_moveOn 22 = .ok (.iadd, 1) := by decide +kernel
theorem dX6_moveOn_23 : decode cX6_moveOn 23 = .ok (.putfield 23, 3) := by decide +kernel
theorem dX6_moveOn_26 : decode cX6_moveOn 26 = .ok (.aload_n 0, 1) := by decide +kernel
theorem dX6_moveOn_27 : decode cX6_moveOn 27 = .ok (.dup, 1) := by decide +kernel
theorem dX6_moveOn_28 : decode cX6_moveOn 28 = .ok (.getfield 41, 3) := by decide +kernel
theorem dX6_moveOn_31 : decode cX6_moveOn 31 = .ok (.iconst 1, 1) := by decide +kernel
theorem dX6_moveOn_32 : decode cX6_moveOn 32 = .ok (.iadd, 1) := by decide +kernel
theorem dX6_moveOn_33 : decode cX6_moveOn 33 = .ok (.putfield 41, 3) := by decide +kernel
theorem dX6_moveOn_36 : decode cX6_moveOn 36 = .ok (.aload_n 0, 1) := by decide +kernel
theorem dX6_moveOn_37 : decode cX6_moveOn 37 = .ok (.dup, 1) := by decide +kernel
theorem dX6_moveOn_38 : decode cX6_moveOn 38 = .ok (.getfield 47, 3) := by decide +kernel
theorem dX6_moveOn_41 : decode cX6_moveOn 41 = .ok (.iconst 1, 1) := by decide +kernel
theorem dX6_moveOn_42 : decode cX6_moveOn 42 = .ok (.iadd, 1) := by decide +kernel
theorem dX6_moveOn_43 : decode cX6_moveOn 43 = .ok (.putfield 47, 3) := by decide +kernel
theorem dX6_moveOn_46 : decode cX6_moveOn 46 = .ok (.aload_n 0, 1) := by decide +kernel
theorem dX6_moveOn_47 : decode cX6_moveOn 47 = .ok (.getfield 47, 3) := by decide +kernel
theorem dX6_moveOn_50 : decode cX6_moveOn 50 = .ok (.iconst 3, 1) := by decide +kernel
theorem dX6_moveOn_51 : decode cX6_moveOn 51 = .ok (.if_icmp .lt 25, 3) := by decide +kernel
theorem dX6_moveOn_54 : decode cX6_moveOn 54 = .ok (.aload_n 0, 1) := by decide +kernel
theorem dX6_moveOn_55 : decode cX6_moveOn 55 = .ok (.iconst 0, 1) := by decide +kernel
theorem dX6_moveOn_56 : decode cX6_moveOn 56 = .ok (.putfield 47, 3) := by decide +kernel
theorem dX6_moveOn_59 : decode cX6_moveOn 59 = .ok (.aload_n 0, 1) := by decide +kernel
theorem dX6_moveOn_60 : decode cX6_moveOn 60 = .ok (.aload_n 0, 1) := by decide +kernel
theorem dX6_moveOn_61 : decode cX6_moveOn 61 = .ok (.getfield 35, 3) := by decide +kernel
theorem dX6_moveOn_64 : decode cX6_moveOn 64 = .ok (.iconst 2, 1) := by decide +kernel
theorem dX6_moveOn_65 : decode cX6_moveOn 65 = .ok (.imul, 1) := by decide +kernel
theorem dX6_moveOn_66 : decode cX6_moveOn 66 = .ok (.aload_n 0, 1) := by decide +kernel
theorem dX6_moveOn_67 : decode cX6_moveOn 67 = .ok (.getfield 26, 3) := by decide +kernel
theorem dX6_moveOn_70 : decode cX6_moveOn 70 = .ok (.invokestatic 29, 3) := by decide +kernel
theorem dX6_moveOn_73 : decode cX6_moveOn 73 = .ok (.putfield 35, 3) := by decide +kernel
theorem dX6_moveOn_76 : decode cX6_moveOn 76 = .ok (.aload_n 0, 1) := by decide +kernel
theorem dX6_moveOn_77 : decode cX6_moveOn 77 = .ok (.getfield 10, 3) := by decide +kernel
theorem dX6_moveOn_80 : decode cX6_moveOn 80 = .ok (.invokevirtual 76, 3) := by decide +kernel
theorem dX6_moveOn_83 : decode cX6_moveOn 83 = .ok (.aload_n 0, 1) := by decide +kernel
theorem dX6_moveOn_84 : decode cX6_moveOn 84 = .ok (.getfield 16, 3) := by decide +kernel
theorem dX6_moveOn_87 : decode cX6_moveOn 87 = .ok (.invokevirtual 76, 3) := by decide +kernel
theorem dX6_moveOn_90 : decode cX6_moveOn 90 = .ok (.invokestatic 79, 3) := by decide +kernel
theorem dX6_moveOn_93 : decode cX6_moveOn 93 = .ok (.iload 4, 2) := by decide +kernel
theorem dX6_moveOn_95 : decode cX6_moveOn 95 = .ok (.i2l, 1) := by decide +kernel
theorem dX6_moveOn_96 : decode cX6_moveOn 96 = .ok (.aload_n 0, 1) := by decide +kernel
theorem dX6_moveOn_97 : decode cX6_moveOn 97 = .ok (.invokevirtual 50, 3) := by decide +kernel
theorem dX6_moveOn_100 : decode cX6_moveOn 100 = .ok (.lmul, 1) := by decide +kernel
theorem dX6_moveOn_101 : decode cX6_moveOn 101 = .ok (.lcmp, 1) := by decide +kernel
theorem dX6_moveOn_102 : decode cX6_moveOn 102 = .ok (.ifCond .le 11, 3) := by decide +kernel
theorem dX6_moveOn_105 : decode cX6_moveOn 105 = .ok (.aload_n 0, 1) := by decide +kernel
theorem dX6_moveOn_106 : decode cX6_moveOn 106 = .ok (.iconst 2, 1) := by decide +kernel
theorem dX6_moveOn_107 : decode cX6_moveOn 107 = .ok (.putfield 19, 3) := by decide +kernel
theorem dX6_moveOn_110 : decode cX6_moveOn 110 = .ok (.goto 18, 3) := by decide +kernel
theorem dX6_moveOn_113 : decode cX6_moveOn 113 = .ok (.aload_n 0, 1) := by decide +kernel
theorem dX6_moveOn_114 : decode cX6_moveOn 114 = .ok (.getfield 23, 3) := by decide +kernel
theorem dX6_moveOn_117 : decode cX6_moveOn 117 = .ok (.sipush 1024, 3) := by decide +kernel
theorem dX6_moveOn_120 : decode cX6_moveOn 120 = .ok (.if_icmp .lt 8, 3) := by decide +kernel
theorem dX6_moveOn_123 : decode cX6_moveOn 123 = .ok (.aload_n 0, 1) := by decide +kernel
theorem dX6_moveOn_124 : decode cX6_moveOn 124 = .ok (.iconst 1, 1) := by decide +kernel
theorem dX6_moveOn_125 : decode cX6_moveOn 125 = .ok (.putfield 19, 3) := by decide +kernel
theorem dX6_moveOn_128 : decode cX6_moveOn 128 = .ok (.return_, 1) := by decide +kernel
set_option maxHeartbeats 4000000 in
set_option maxRecDepth 100000 in
theorem t_X6_moveOn (l : Launch) (D : xD) (z n : Nat) (G : xG) (I : xI) (L : xL) (a : Nat) (h0 : Int32) (b : Nat) (d : Nat) (bo : Int32) (hP : shP G a) (gb : G b = some (0, 0, rN)) (gd : G d = some (0, 0, rN)) (za : z ≤ a) (hd : d ≠ a + 1) : xM0 l D z yX6_moveOn cX6_moveOn 5 none 2 43 [.ref a, .int h0, .ref b, .ref d, .int bo] n G I L (xE none (pMoveI I a h0 bo (lmax (csize (L b 0) (L b 1)) (csize (L d 0) (L d 1)))) (cput (cput L (a + 1) (L b 0) (L b 1)) (a + 2) (L d 0) (L d 1))) := by
  refine xM.of (by decide) (Nat.le_of_ble_eq_true rfl) (fun p e s m args below meth c C hnm hsz => ?_)
  refine x_lv [(0, .ref a), (1, .int h0), (2, .ref b), (3, .ref d), (4, .int bo)] rfl ?_
  refine x_aload_n 0 C dX6_moveOn_0 rfl 0 rfl ?_
  refine x_getr 1 C (b := a + 1) dX6_moveOn_1 ff_X6_10 rfl hP.1 rfl ?_
  refine x_aload_n 4 C dX6_moveOn_4 rfl 2 rfl ?_
  refine x_callVe 5 C dX6_moveOn_5 (As := [.ref b]) (rest := []) [] (t_X0_copy l D z n G I L (a + 1) b hP.2.1 gb (by omega)) mt_X0_copy km_X6_68 ki_X0_copy ks_X0_copy hP.2.1 ⟨by decide, rfl⟩ rfl rfl (Nat.le_of_ble_eq_true rfl) ⟨⟨by decide, by decide⟩, by decide, by decide⟩ (fun I1 L2 eI1 eL2 => ?_)
  replace eI1 := eI1.symm; subst eI1
  refine x_aload_n 8 C dX6_moveOn_8 rfl 0 rfl ?_
  refine x_getr 9 C (b := a + 2) dX6_moveOn_9 ff_X6_16 rfl hP.1 rfl ?_
  refine x_aload_n 12 C dX6_moveOn_12 rfl 3 rfl ?_
  refine x_callVe 13 C dX6_moveOn_13 (As := [.ref d]) (rest := []) [] (t_X0_copy l D z n G I L2 (a + 2) d hP.2.2 gd (by omega)) mt_X0_copy km_X6_68 ki_X0_copy ks_X0_copy hP.2.2 ⟨by decide, rfl⟩ rfl rfl (Nat.le_of_ble_eq_true rfl) ⟨⟨by decide, by decide⟩, by decide, by decide⟩ (fun I3 L4 eI3 eL4 => ?_)
  replace eI3 := eI3.symm; subst eI3
  refine x_aload_n 16 C dX6_moveOn_16 rfl 0 rfl ?_
  refine x_dup 17 C dX6_moveOn_17 rfl ?_
  refine x_geti 18 C dX6_moveOn_18 ff_X6_23 hP.1 ?_
  refine x_iload_n 21 C dX6_moveOn_21 rfl 1 rfl ?_
  refine x_iadd 22 C dX6_moveOn_22 ?_
  refine x_puti 23 C dX6_moveOn_23 ff_X6_23 rfl hP.1 (by omega) (fun I5 eI5 => ?_)
  refine x_aload_n 26 C dX6_moveOn_26 rfl 0 rfl ?_
  refine x_dup 27 C dX6_moveOn_27 rfl ?_
  refine x_geti 28 C dX6_moveOn_28 ff_X6_41 hP.1 ?_
  refine x_int (I a 7) (by simp [eI5, xup, cput, hd]) ?_
  refine x_iconst 31 C (v := 1) dX6_moveOn_31 rfl ?_
  refine x_iadd 32 C dX6_moveOn_32 ?_
  refine x_puti 33 C dX6_moveOn_33 ff_X6_41 rfl hP.1 (by omega) (fun I6 eI6 => ?_)
  refine x_aload_n 36 C dX6_moveOn_36 rfl 0 rfl ?_
  refine x_dup 37 C dX6_moveOn_37 rfl ?_
  refine x_geti 38 C dX6_moveOn_38 ff_X6_47 hP.1 ?_
  refine x_int (I a 9) (by simp [eI5, eI6, xup, cput, hd]) ?_
  refine x_iconst 41 C (v := 1) dX6_moveOn_41 rfl ?_
  refine x_iadd 42 C dX6_moveOn_42 ?_
  refine x_puti 43 C dX6_moveOn_43 ff_X6_47 rfl hP.1 (by omega) (fun I7 eI7 => ?_)
  refine x_aload_n 46 C dX6_moveOn_46 rfl 0 rfl ?_
  refine x_geti 47 C dX6_moveOn_47 ff_X6_47 hP.1 ?_
  refine x_int ((I a 9) + 1) (by simp [eI5, eI6, eI7, xup, cput, hd]) ?_
  refine x_iconst 50 C (v := 3) dX6_moveOn_50 rfl ?_
  refine x_icmp_lt 51 C 76 dX6_moveOn_51 (by decide) (fun c8 => ?_) (fun c8 => ?_)
  · skip
    have c8o := Int32.not_le.mpr c8
    refine x_aload_n 76 C dX6_moveOn_76 rfl 0 rfl ?_
    refine x_getr 77 C (b := a + 1) dX6_moveOn_77 ff_X6_10 rfl hP.1 rfl ?_
    refine x_callVe 80 C dX6_moveOn_80 (As := []) (rest := []) [.long (csize (L4 (a + 1) 0) (L4 (a + 1) 1))] (t_X0_size l D z n G I7 L4 (a + 1) hP.2.1) mt_X0_size km_X6_76 ki_X0_size ks_X0_size hP.2.1 ⟨by decide, rfl⟩ rfl rfl (Nat.le_of_ble_eq_true rfl) ⟨⟨by decide, by decide⟩, by decide, by decide⟩ (fun I9 L10 eI9 eL10 => ?_)
    replace eI9 := eI9.symm; subst eI9
    replace eL10 := eL10.symm; subst eL10
    refine x_long (csize (L b 0) (L b 1)) (by simp [eL2, eL4, eI5, eI6, eI7, cput, xup]) ?_
    refine x_aload_n 83 C dX6_moveOn_83 rfl 0 rfl ?_
    refine x_getr 84 C (b := a + 2) dX6_moveOn_84 ff_X6_16 rfl hP.1 rfl ?_
    refine x_callVe 87 C dX6_moveOn_87 (As := []) (rest := [.long (csize (L b 0) (L b 1))]) [.long (csize (L4 (a + 2) 0) (L4 (a + 2) 1)), .long (csize (L b 0) (L b 1))] (t_X0_size l D z n G I7 L4 (a + 2) hP.2.2) mt_X0_size km_X6_76 ki_X0_size ks_X0_size hP.2.2 ⟨by decide, rfl⟩ rfl rfl (Nat.le_of_ble_eq_true rfl) ⟨⟨by decide, by decide⟩, by decide, by decide⟩ (fun I11 L12 eI11 eL12 => ?_)
    replace eI11 := eI11.symm; subst eI11
    replace eL12 := eL12.symm; subst eL12
    refine x_long (csize (L d 0) (L d 1)) (by simp [eL2, eL4, eI5, eI6, eI7, cput, xup, hd]) ?_
    refine x_mmaxl 90 C dX6_moveOn_90 km_X6_79 kt_J9_max_f86c9 kn_J9 kc_J9_max_f86c9 ⟨by decide, Nat.le_of_ble_eq_true rfl, by decide, by decide⟩ ?_
    refine x_long (lmax (csize (L b 0) (L b 1)) (csize (L d 0) (L d 1))) rfl ?_
    refine x_iload 93 C dX6_moveOn_93 4 rfl ?_
    refine x_i2l 95 C dX6_moveOn_95 ?_
    refine x_aload_n 96 C dX6_moveOn_96 rfl 0 rfl ?_
    refine x_callVe 97 C dX6_moveOn_97 (As := []) (rest := [.long (Int32.toInt64 bo), .long (lmax (csize (L b 0) (L b 1)) (csize (L d 0) (L d 1)))]) [.long (punit (I7 a 6)), .long (Int32.toInt64 bo), .long (lmax (csize (L b 0) (L b 1)) (csize (L d 0) (L d 1)))] (t_X6_unit l D z n G I7 L4 a hP) mt_X6_unit km_X6_50 ki_X6_unit ks_X6_unit hP.1 ⟨by decide, rfl⟩ rfl rfl (Nat.le_of_ble_eq_true rfl) ⟨⟨by decide, by decide⟩, by decide, by decide⟩ (fun I13 L14 eI13 eL14 => ?_)
    replace eI13 := eI13.symm; subst eI13
    replace eL14 := eL14.symm; subst eL14
    refine x_long (punit (I a 6)) (by simp [eL2, eL4, eI5, eI6, eI7, xup]) ?_
    refine x_lmul 100 C dX6_moveOn_100 ?_
    refine x_lc_le 101 C 113 dX6_moveOn_101 dX6_moveOn_102 (by decide) (fun c15 => ?_) (fun c15 => ?_)
    · skip
      have c15o := Int64.not_lt.mpr c15
      refine x_aload_n 113 C dX6_moveOn_113 rfl 0 rfl ?_
      refine x_geti 114 C dX6_moveOn_114 ff_X6_23 hP.1 ?_
      refine x_int ((I a 3) + h0) (by simp [eI5, eI6, eI7, xup, cput, hd]) ?_
      refine x_sipush 117 C (v := 1024) dX6_moveOn_117 rfl ?_
      refine x_icmp_lt 120 C 128 dX6_moveOn_120 (by decide) (fun c16 => ?_) (fun c16 => ?_)
      · skip
        have c16o := Int32.not_le.mpr c16
        refine x_vret 128 C dX6_moveOn_128 rfl (Nat.le_refl _) (xN.intro ?_)
        subst eL2; subst eL4; subst eI5; subst eI6; subst eI7
        refine ⟨rfl, ?_, by rw [cput_ne _ _ _ hd]⟩
        simp [pMoveI, pMove2, pMove1, c8, c8o, c15, c15o, c16, c16o]
      · skip
        have c16o := Int32.not_lt.mp c16
        refine x_aload_n 123 C dX6_moveOn_123 rfl 0 rfl ?_
        refine x_iconst 124 C (v := 1) dX6_moveOn_124 rfl ?_
        refine x_puti 125 C dX6_moveOn_125 ff_X6_19 rfl hP.1 (by omega) (fun I17 eI17 => ?_)
        refine x_vret 128 C dX6_moveOn_128 rfl (Nat.le_refl _) (xN.intro ?_)
        subst eL2; subst eL4; subst eI5; subst eI6; subst eI7; subst eI17
        refine ⟨rfl, ?_, by rw [cput_ne _ _ _ hd]⟩
        simp [pMoveI, pMove2, pMove1, c8, c8o, c15, c15o, c16, c16o]
    · skip
      have c15o := Int64.not_le.mp c15
      refine x_aload_n 105 C dX6_moveOn_105 rfl 0 rfl ?_
      refine x_iconst 106 C (v := 2) dX6_moveOn_106 rfl ?_
      refine x_puti 107 C dX6_moveOn_107 ff_X6_19 rfl hP.1 (by omega) (fun I18 eI18 => ?_)
      refine x_goto 110 C 128 dX6_moveOn_110 (by decide) ?_
      refine x_vret 128 C dX6_moveOn_128 rfl (Nat.le_refl _) (xN.intro ?_)
      subst eL2; subst eL4; subst eI5; subst eI6; subst eI7; subst eI18
      refine ⟨rfl, ?_, by rw [cput_ne _ _ _ hd]⟩
      simp [pMoveI, pMove2, pMove1, c8, c8o, c15, c15o]
  · skip
    have c8o := Int32.not_lt.mp c8
    refine x_aload_n 54 C dX6_moveOn_54 rfl 0 rfl ?_
    refine x_iconst 55 C (v := 0) dX6_moveOn_55 rfl ?_
    refine x_puti 56 C dX6_moveOn_56 ff_X6_47 rfl hP.1 (by omega) (fun I19 eI19 => ?_)
    refine x_aload_n 59 C dX6_moveOn_59 rfl 0 rfl ?_
    refine x_aload_n 60 C dX6_moveOn_60 rfl 0 rfl ?_
    refine x_geti 61 C dX6_moveOn_61 ff_X6_35 hP.1 ?_
    refine x_int (I a 4) (by simp [eI5, eI6, eI7, eI19, xup, cput, hd]) ?_
    refine x_iconst 64 C (v := 2) dX6_moveOn_64 rfl ?_
    refine x_imul 65 C dX6_moveOn_65 ?_
    refine x_aload_n 66 C dX6_moveOn_66 rfl 0 rfl ?_
    refine x_geti 67 C dX6_moveOn_67 ff_X6_26 hP.1 ?_
    refine x_int (I a 5) (by simp [eI5, eI6, eI7, eI19, xup, cput, hd]) ?_
    refine x_mmin 70 C dX6_moveOn_70 km_X6_29 kt_J9_min_7cf53 kn_J9 kc_J9_min_7cf53 ⟨by decide, Nat.le_of_ble_eq_true rfl, by decide, by decide⟩ ?_
    refine x_int (imin (I a 4 * 2) (I a 5)) rfl ?_
    refine x_puti 73 C dX6_moveOn_73 ff_X6_35 rfl hP.1 (by omega) (fun I20 eI20 => ?_)
    refine x_aload_n 76 C dX6_moveOn_76 rfl 0 rfl ?_
    refine x_getr 77 C (b := a + 1) dX6_moveOn_77 ff_X6_10 rfl hP.1 rfl ?_
    refine x_callVe 80 C dX6_moveOn_80 (As := []) (rest := []) [.long (csize (L4 (a + 1) 0) (L4 (a + 1) 1))] (t_X0_size l D z n G I20 L4 (a + 1) hP.2.1) mt_X0_size km_X6_76 ki_X0_size ks_X0_size hP.2.1 ⟨by decide, rfl⟩ rfl rfl (Nat.le_of_ble_eq_true rfl) ⟨⟨by decide, by decide⟩, by decide, by decide⟩ (fun I21 L22 eI21 eL22 => ?_)
    replace eI21 := eI21.symm; subst eI21
    replace eL22 := eL22.symm; subst eL22
    refine x_long (csize (L b 0) (L b 1)) (by simp [eL2, eL4, eI5, eI6, eI7, eI19, eI20, cput, xup]) ?_
    refine x_aload_n 83 C dX6_moveOn_83 rfl 0 rfl ?_
    refine x_getr 84 C (b := a + 2) dX6_moveOn_84 ff_X6_16 rfl hP.1 rfl ?_
    refine x_callVe 87 C dX6_moveOn_87 (As := []) (rest := [.long (csize (L b 0) (L b 1))]) [.long (csize (L4 (a + 2) 0) (L4 (a + 2) 1)), .long (csize (L b 0) (L b 1))] (t_X0_size l D z n G I20 L4 (a + 2) hP.2.2) mt_X0_size km_X6_76 ki_X0_size ks_X0_size hP.2.2 ⟨by decide, rfl⟩ rfl rfl (Nat.le_of_ble_eq_true rfl) ⟨⟨by decide, by decide⟩, by decide, by decide⟩ (fun I23 L24 eI23 eL24 => ?_)
    replace eI23 := eI23.symm; subst eI23
    replace eL24 := eL24.symm; subst eL24
    refine x_long (csize (L d 0) (L d 1)) (by simp [eL2, eL4, eI5, eI6, eI7, eI19, eI20, cput, xup, hd]) ?_
    refine x_mmaxl 90 C dX6_moveOn_90 km_X6_79 kt_J9_max_f86c9 kn_J9 kc_J9_max_f86c9 ⟨by decide, Nat.le_of_ble_eq_true rfl, by decide, by decide⟩ ?_
    refine x_long (lmax (csize (L b 0) (L b 1)) (csize (L d 0) (L d 1))) rfl ?_
    refine x_iload 93 C dX6_moveOn_93 4 rfl ?_
    refine x_i2l 95 C dX6_moveOn_95 ?_
    refine x_aload_n 96 C dX6_moveOn_96 rfl 0 rfl ?_
    refine x_callVe 97 C dX6_moveOn_97 (As := []) (rest := [.long (Int32.toInt64 bo), .long (lmax (csize (L b 0) (L b 1)) (csize (L d 0) (L d 1)))]) [.long (punit (I20 a 6)), .long (Int32.toInt64 bo), .long (lmax (csize (L b 0) (L b 1)) (csize (L d 0) (L d 1)))] (t_X6_unit l D z n G I20 L4 a hP) mt_X6_unit km_X6_50 ki_X6_unit ks_X6_unit hP.1 ⟨by decide, rfl⟩ rfl rfl (Nat.le_of_ble_eq_true rfl) ⟨⟨by decide, by decide⟩, by decide, by decide⟩ (fun I25 L26 eI25 eL26 => ?_)
    replace eI25 := eI25.symm; subst eI25
    replace eL26 := eL26.symm; subst eL26
    refine x_long (punit (I a 6)) (by simp [eL2, eL4, eI5, eI6, eI7, eI19, eI20, xup]) ?_
    refine x_lmul 100 C dX6_moveOn_100 ?_
    refine x_lc_le 101 C 113 dX6_moveOn_101 dX6_moveOn_102 (by decide) (fun c27 => ?_) (fun c27 => ?_)
    · skip
      have c27o := Int64.not_lt.mpr c27
      refine x_aload_n 113 C dX6_moveOn_113 rfl 0 rfl ?_
      refine x_geti 114 C dX6_moveOn_114 ff_X6_23 hP.1 ?_
      refine x_int ((I a 3) + h0) (by simp [eI5, eI6, eI7, eI19, eI20, xup, cput, hd]) ?_
      refine x_sipush 117 C (v := 1024) dX6_moveOn_117 rfl ?_
      refine x_icmp_lt 120 C 128 dX6_moveOn_120 (by decide) (fun c28 => ?_) (fun c28 => ?_)
      · skip
        have c28o := Int32.not_le.mpr c28
        refine x_vret 128 C dX6_moveOn_128 rfl (Nat.le_refl _) (xN.intro ?_)
        subst eL2; subst eL4; subst eI5; subst eI6; subst eI7; subst eI19; subst eI20
        refine ⟨rfl, ?_, by rw [cput_ne _ _ _ hd]⟩
        simp [pMoveI, pMove2, pMove1, c8, c8o, c27, c27o, c28, c28o]
      · skip
        have c28o := Int32.not_lt.mp c28
        refine x_aload_n 123 C dX6_moveOn_123 rfl 0 rfl ?_
        refine x_iconst 124 C (v := 1) dX6_moveOn_124 rfl ?_
        refine x_puti 125 C dX6_moveOn_125 ff_X6_19 rfl hP.1 (by omega) (fun I29 eI29 => ?_)
        refine x_vret 128 C dX6_moveOn_128 rfl (Nat.le_refl _) (xN.intro ?_)
        subst eL2; subst eL4; subst eI5; subst eI6; subst eI7; subst eI19; subst eI20; subst eI29
        refine ⟨rfl, ?_, by rw [cput_ne _ _ _ hd]⟩
        simp [pMoveI, pMove2, pMove1, c8, c8o, c27, c27o, c28, c28o]
    · skip
      have c27o := Int64.not_le.mp c27
      refine x_aload_n 105 C dX6_moveOn_105 rfl 0 rfl ?_
      refine x_iconst 106 C (v := 2) dX6_moveOn_106 rfl ?_
      refine x_puti 107 C dX6_moveOn_107 ff_X6_19 rfl hP.1 (by omega) (fun I30 eI30 => ?_)
      refine x_goto 110 C 128 dX6_moveOn_110 (by decide) ?_
      refine x_vret 128 C dX6_moveOn_128 rfl (Nat.le_refl _) (xN.intro ?_)
      subst eL2; subst eL4; subst eI5; subst eI6; subst eI7; subst eI19; subst eI20; subst eI30
      refine ⟨rfl, ?_, by rw [cput_ne _ _ _ hd]⟩
      simp [pMoveI, pMove2, pMove1, c8, c8o, c27, c27o]
theorem dX6_shorten_0 : decode cX6_shorten 0 = .ok (.aload_n 0, 1) := by decide +kernel
theorem dX6_shorten_1 : decode cX6_shorten 1 = .ok (.dup, 1) := by decide +kernel
theorem dX6_shorten_2 : decode cX6_shorten 2 = .ok (.getfield 44, 3) := by decide +kernel
theorem dX6_shorten_5 : decode cX6_shorten 5 = .ok (.iconst 1, 1) := by decide +kernel
theorem dX6_shorten_6 : decode cX6_shorten 6 = .ok (.iadd, 1) := by decide +kernel
theorem dX6_shorten_7 : decode cX6_shorten 7 = .ok (.putfield 44, 3) := by decide +kernel
theorem dX6_shorten_10 : decode cX6_shorten 10 = .ok (.aload_n 0, 1) := by decide +kernel
theorem dX6_shorten_11 : decode cX6_shorten 11 = .ok (.iconst 0, 1) := by decide +kernel
theorem dX6_shorten_12 : decode cX6_shorten 12 = .ok (.putfield 47, 3) := by decide +kernel
theorem dX6_shorten_15 : decode cX6_shorten 15 = .ok (.aload_n 0, 1) := by decide +kernel
theorem dX6_shorten_16 : decode cX6_shorten 16 = .ok (.getfield 35, 3) := by decide +kernel
theorem dX6_shorten_19 : decode cX6_shorten 19 = .ok (.iconst 1, 1) := by decide +kernel
theorem dX6_shorten_20 : decode cX6_shorten 20 = .ok (.if_icmp .le 16, 3) := by decide +kernel
theorem dX6_shorten_23 : decode cX6_shorten 23 = .ok (.aload_n 0, 1) := by decide +kernel
theorem dX6_shorten_24 : decode cX6_shorten 24 = .ok (.aload_n 0, 1) := by decide +kernel
theorem dX6_shorten_25 : decode cX6_shorten 25 = .ok (.getfield 35, 3) := by decide +kernel
theorem dX6_shorten_28 : decode cX6_shorten 28 = .ok (.iconst 2, 1) := by decide +kernel
theorem dX6_shorten_29 : decode cX6_shorten 29 = .ok (.idiv, 1) := by decide +kernel
theorem dX6_shorten_30 : decode cX6_shorten 30 = .ok (.putfield 35, 3) := by decide +kernel
theorem dX6_shorten_33 : decode cX6_shorten 33 = .ok (.goto 58, 3) := by decide +kernel
theorem dX6_shorten_36 : decode cX6_shorten 36 = .ok (.aload_n 0, 1) := by decide +kernel
theorem dX6_shorten_37 : decode cX6_shorten 37 = .ok (.getfield 38, 3) := by decide +kernel
theorem dX6_shorten_40 : decode cX6_shorten 40 = .ok (.bipush 10, 2) := by decide +kernel
theorem dX6_shorten_42 : decode cX6_shorten 42 = .ok (.if_icmp .ne 44, 3) := by decide +kernel
theorem dX6_shorten_45 : decode cX6_shorten 45 = .ok (.aload_n 0, 1) := by decide +kernel
theorem dX6_shorten_46 : decode cX6_shorten 46 = .ok (.bipush 18, 2) := by decide +kernel
theorem dX6_shorten_48 : decode cX6_shorten 48 = .ok (.putfield 38, 3) := by decide +kernel
theorem dX6_shorten_51 : decode cX6_shorten 51 = .ok (.aload_n 0, 1) := by decide +kernel
theorem dX6_shorten_52 : decode cX6_shorten 52 = .ok (.getfield 10, 3) := by decide +kernel
theorem dX6_shorten_55 : decode cX6_shorten 55 = .ok (.ldc2_w 83, 3) := by decide +kernel
theorem dX6_shorten_58 : decode cX6_shorten 58 = .ok (.invokevirtual 85, 3) := by decide +kernel
theorem dX6_shorten_61 : decode cX6_shorten 61 = .ok (.aload_n 0, 1) := by decide +kernel
theorem dX6_shorten_62 : decode cX6_shorten 62 = .ok (.getfield 16, 3) := by decide +kernel
theorem dX6_shorten_65 : decode cX6_shorten 65 = .ok (.ldc2_w 83, 3) := by decide +kernel
theorem dX6_shorten_68 : decode cX6_shorten 68 = .ok (.invokevirtual 85, 3) := by decide +kernel
theorem dX6_shorten_71 : decode cX6_shorten 71 = .ok (.aload_n 0, 1) := by decide +kernel
theorem dX6_shorten_72 : decode cX6_shorten 72 = .ok (.iload_n 1, 1) := by decide +kernel
theorem dX6_shorten_73 : decode cX6_shorten 73 = .ok (.aload_n 0, 1) := by decide +kernel
theorem dX6_shorten_74 : decode cX6_shorten 74 = .ok (.getfield 26, 3) := by decide +kernel
theorem dX6_shorten_77 : decode cX6_shorten 77 = .ok (.invokestatic 29, 3) := by decide +kernel
theorem dX6_shorten_80 : decode cX6_shorten 80 = .ok (.putfield 35, 3) := by decide +kernel
theorem dX6_shorten_83 : decode cX6_shorten 83 = .ok (.goto 8, 3) := by decide +kernel
theorem dX6_shorten_86 : decode cX6_shorten 86 = .ok (.aload_n 0, 1) := by decide +kernel
theorem dX6_shorten_87 : decode cX6_shorten 87 = .ok (.iconst 3, 1) := by decide +kernel
theorem dX6_shorten_88 : decode cX6_shorten 88 = .ok (.putfield 19, 3) := by decide +kernel
theorem dX6_shorten_91 : decode cX6_shorten 91 = .ok (.return_, 1) := by decide +kernel
set_option maxHeartbeats 4000000 in
set_option maxRecDepth 100000 in
theorem t_X6_shorten (l : Launch) (D : xD) (z n : Nat) (G : xG) (I : xI) (L : xL) (a : Nat) (s0 : Int32) (hP : shP G a) (za : z ≤ a) : xM0 l D z yX6_shorten cX6_shorten 2 none 2 46 [.ref a, .int s0] n G I L (xE none (pFailI I a s0) (pFailL I L a)) := by
  refine xM.of (by decide) (Nat.le_of_ble_eq_true rfl) (fun p e s m args below meth c C hnm hsz => ?_)
  refine x_lv [(0, .ref a), (1, .int s0)] rfl ?_
  refine x_aload_n 0 C dX6_shorten_0 rfl 0 rfl ?_
  refine x_dup 1 C dX6_shorten_1 rfl ?_
  refine x_geti 2 C dX6_shorten_2 ff_X6_44 hP.1 ?_
  refine x_iconst 5 C (v := 1) dX6_shorten_5 rfl ?_
  refine x_iadd 6 C dX6_shorten_6 ?_
  refine x_puti 7 C dX6_shorten_7 ff_X6_44 rfl hP.1 (by omega) (fun I1 eI1 => ?_)
  refine x_aload_n 10 C dX6_shorten_10 rfl 0 rfl ?_
  refine x_iconst 11 C (v := 0) dX6_shorten_11 rfl ?_
  refine x_puti 12 C dX6_shorten_12 ff_X6_47 rfl hP.1 (by omega) (fun I2 eI2 => ?_)
  refine x_aload_n 15 C dX6_shorten_15 rfl 0 rfl ?_
  refine x_geti 16 C dX6_shorten_16 ff_X6_35 hP.1 ?_
  refine x_int (I a 4) (by simp [eI1, eI2, xup, cput]) ?_
  refine x_iconst 19 C (v := 1) dX6_shorten_19 rfl ?_
  refine x_icmp_le 20 C 36 dX6_shorten_20 (by decide) (fun c3 => ?_) (fun c3 => ?_)
  · skip
    have c3o := Int32.not_lt.mpr c3
    refine x_aload_n 36 C dX6_shorten_36 rfl 0 rfl ?_
    refine x_geti 37 C dX6_shorten_37 ff_X6_38 hP.1 ?_
    refine x_int (I a 6) (by simp [eI1, eI2, xup, cput]) ?_
    refine x_bipush 40 C (v := 10) dX6_shorten_40 rfl ?_
    refine x_icmp_ne 42 C 86 dX6_shorten_42 (by decide) (fun c4 => ?_) (fun c4 => ?_)
    · skip
      refine x_aload_n 86 C dX6_shorten_86 rfl 0 rfl ?_
      refine x_iconst 87 C (v := 3) dX6_shorten_87 rfl ?_
      refine x_puti 88 C dX6_shorten_88 ff_X6_19 rfl hP.1 (by omega) (fun I5 eI5 => ?_)
      refine x_vret 91 C dX6_shorten_91 rfl (Nat.le_refl _) (xN.intro ?_)
      subst eI1; subst eI2; subst eI5
      refine ⟨rfl, ?_, ?_⟩ <;> simp [pFailI, pFail1, pFailL, cput_ne, c3, c3o, c4]
    · skip
      refine x_aload_n 45 C dX6_shorten_45 rfl 0 rfl ?_
      refine x_bipush 46 C (v := 18) dX6_shorten_46 rfl ?_
      refine x_puti 48 C dX6_shorten_48 ff_X6_38 rfl hP.1 (by omega) (fun I6 eI6 => ?_)
      refine x_aload_n 51 C dX6_shorten_51 rfl 0 rfl ?_
      refine x_getr 52 C (b := a + 1) dX6_shorten_52 ff_X6_10 rfl hP.1 rfl ?_
      refine x_ldc2 55 C 256 dX6_shorten_55 kk_X6_83 ?_
      refine x_callVe 58 C dX6_shorten_58 (As := [.long 256]) (rest := []) [] (t_X0_scale l D z n G I6 L (a + 1) 256 hP.2.1 (by omega)) mt_X0_scale km_X6_85 ki_X0_scale ks_X0_scale hP.2.1 ⟨by decide, rfl⟩ rfl rfl (Nat.le_of_ble_eq_true rfl) ⟨⟨by decide, by decide⟩, by decide, by decide⟩ (fun I7 L8 eI7 eL8 => ?_)
      replace eI7 := eI7.symm; subst eI7
      refine x_aload_n 61 C dX6_shorten_61 rfl 0 rfl ?_
      refine x_getr 62 C (b := a + 2) dX6_shorten_62 ff_X6_16 rfl hP.1 rfl ?_
      refine x_ldc2 65 C 256 dX6_shorten_65 kk_X6_83 ?_
      refine x_callVe 68 C dX6_shorten_68 (As := [.long 256]) (rest := []) [] (t_X0_scale l D z n G I6 L8 (a + 2) 256 hP.2.2 (by omega)) mt_X0_scale km_X6_85 ki_X0_scale ks_X0_scale hP.2.2 ⟨by decide, rfl⟩ rfl rfl (Nat.le_of_ble_eq_true rfl) ⟨⟨by decide, by decide⟩, by decide, by decide⟩ (fun I9 L10 eI9 eL10 => ?_)
      replace eI9 := eI9.symm; subst eI9
      refine x_aload_n 71 C dX6_shorten_71 rfl 0 rfl ?_
      refine x_iload_n 72 C dX6_shorten_72 rfl 1 rfl ?_
      refine x_aload_n 73 C dX6_shorten_73 rfl 0 rfl ?_
      refine x_geti 74 C dX6_shorten_74 ff_X6_26 hP.1 ?_
      refine x_int (I a 5) (by simp [eI1, eI2, eI6, xup, cput]) ?_
      refine x_mmin 77 C dX6_shorten_77 km_X6_29 kt_J9_min_7cf53 kn_J9 kc_J9_min_7cf53 ⟨by decide, Nat.le_of_ble_eq_true rfl, by decide, by decide⟩ ?_
      refine x_int (imin s0 (I a 5)) rfl ?_
      refine x_puti 80 C dX6_shorten_80 ff_X6_35 rfl hP.1 (by omega) (fun I11 eI11 => ?_)
      refine x_goto 83 C 91 dX6_shorten_83 (by decide) ?_
      refine x_vret 91 C dX6_shorten_91 rfl (Nat.le_refl _) (xN.intro ?_)
      subst eI1; subst eI2; subst eI6; subst eL8; subst eL10; subst eI11
      refine ⟨rfl, ?_, ?_⟩ <;> simp [pFailI, pFail1, pFailL, cput_ne, c3, c3o, c4]
  · skip
    have c3o := Int32.not_le.mp c3
    refine x_aload_n 23 C dX6_shorten_23 rfl 0 rfl ?_
    refine x_aload_n 24 C dX6_shorten_24 rfl 0 rfl ?_
    refine x_geti 25 C dX6_shorten_25 ff_X6_35 hP.1 ?_
    refine x_int (I a 4) (by simp [eI1, eI2, xup, cput]) ?_
    refine x_iconst 28 C (v := 2) dX6_shorten_28 rfl ?_
    refine x_idiv 29 C dX6_shorten_29 (by first | assumption | decide) ?_
    refine x_puti 30 C dX6_shorten_30 ff_X6_35 rfl hP.1 (by omega) (fun I12 eI12 => ?_)
    refine x_goto 33 C 91 dX6_shorten_33 (by decide) ?_
    refine x_vret 91 C dX6_shorten_91 rfl (Nat.le_refl _) (xN.intro ?_)
    subst eI1; subst eI2; subst eI12
    refine ⟨rfl, ?_, ?_⟩ <;> simp [pFailI, pFail1, pFailL, cput_ne, c3, c3o]
end
section
/-! complex numbers as pairs; aliases of Complex's contracts in these words; Powers, Tangent, Solver -/
abbrev xC : Type := Int64 × Int64
def rd (L : xL) (a : Nat) : xC := (L a 0, L a 1)
def cw (L : xL) (a : Nat) (c : xC) : xL := cput L a c.1 c.2
def hC (c : xC) : xC := (held c.1, held c.2)
def addC (a b : xC) : xC := hC (a.1 + b.1, a.2 + b.2)
def subC (a b : xC) : xC := hC (a.1 - b.1, a.2 - b.2)
def negC (a : xC) : xC := hC (-a.1, -a.2)
def mulC (u : Int64) (a b : xC) : xC := hC ((a.1 * b.1 - a.2 * b.2) / u, (a.1 * b.2 + a.2 * b.1) / u)
def gauC (cr ci : Int64) (a : xC) : xC := hC (cr * a.1 - ci * a.2, cr * a.2 + ci * a.1)
def mixC (x : Int64) (a : xC) (y : Int64) (b : xC) : xC := hC ((x * a.1 + y * b.1) / (x + y), (x * a.2 + y * b.2) / (x + y))
def shaC (a : xC) (x y : Int64) : xC := hC (a.1 * x / y, a.2 * x / y)
def norC (b : xC) (u : Int64) : Int64 := (b.1 * b.1 + b.2 * b.2) / u
def divC (a b : xC) (u : Int64) : xC := hC ((a.1 * b.1 + a.2 * b.2) / norC b u, (a.2 * b.1 - a.1 * b.2) / norC b u)
def sizC (a : xC) : Int64 := csize a.1 a.2
theorem cw_ne (L : xL) {a q : Nat} (c : xC) (h : q ≠ a) : cw L a c q = L q := cput_ne L c.1 c.2 h
theorem rd_cw (L : xL) (a : Nat) (c : xC) : rd (cw L a c) a = c := by
  show (cput L a c.1 c.2 a 0, cput L a c.1 c.2 a 1) = c
  rw [cput_0, cput_1]
theorem rd_cw_ne (L : xL) {a q : Nat} (c : xC) (h : q ≠ a) : rd (cw L a c) q = rd L q := by
  show (cw L a c q 0, cw L a c q 1) = (L q 0, L q 1)
  rw [cw_ne L c h]
theorem rd_congr {L L' : xL} {a : Nat} (h : L' a = L a) : rd L' a = rd L a := by
  show (L' a 0, L' a 1) = (L a 0, L a 1)
  rw [h]
theorem cw_cw (L : xL) (a : Nat) (c d : xC) : cw (cw L a c) a d = cw L a d := by
  funext q k
  simp only [cw, cput, xup]
  by_cases h1 : q = a <;> by_cases h2 : k = 0 <;> by_cases h3 : k = 1 <;> simp_all
theorem cw_comm (L : xL) {a b : Nat} (c d : xC) (h : a ≠ b) : cw (cw L a c) b d = cw (cw L b d) a c := by
  funext q
  by_cases h1 : q = a
  · subst h1
    rw [cw_ne _ _ h]
    funext k
    simp only [cw, cput, xup]
    by_cases h2 : k = 0 <;> by_cases h3 : k = 1 <;> simp_all
  · by_cases h2 : q = b
    · subst h2
      rw [cw_ne _ c h1]
      funext k
      simp only [cw, cput, xup]
      by_cases h2 : k = 0 <;> by_cases h3 : k = 1 <;> simp_all
    · rw [cw_ne _ _ h2, cw_ne _ _ h1, cw_ne _ _ h1, cw_ne _ _ h2]
theorem t_X0_put_c (l : Launch) (D : xD) (z n : Nat) (G : xG) (I : xI) (L : xL) (a : Nat) (x : Int64) (y : Int64) (ga : G a = some (0, 0, rN)) (za : z ≤ a) : xM0 l D z yX0_put cX0_put 5 none 0 0 [.ref a, .long x, .long y] n G I L (xE none I (cw L a (hC (x, y)))) := by
  exact t_X0_put l D z n G I L a x y ga za
theorem t_X0_copy_c (l : Launch) (D : xD) (z n : Nat) (G : xG) (I : xI) (L : xL) (a : Nat) (b : Nat) (ga : G a = some (0, 0, rN)) (gb : G b = some (0, 0, rN)) (za : z ≤ a) : xM0 l D z yX0_copy cX0_copy 2 none 0 0 [.ref a, .ref b] n G I L (xE none I (cw L a (rd L b))) := by
  exact t_X0_copy l D z n G I L a b ga gb za
theorem t_X0_add_c (l : Launch) (D : xD) (z n : Nat) (G : xG) (I : xI) (L : xL) (a : Nat) (b : Nat) (ga : G a = some (0, 0, rN)) (gb : G b = some (0, 0, rN)) (za : z ≤ a) : xM0 l D z yX0_add cX0_add 2 none 1 24 [.ref a, .ref b] n G I L (xE none I (cw L a (addC (rd L a) (rd L b)))) := by
  exact t_X0_add l D z n G I L a b ga gb za
theorem t_X0_putDifference_c (l : Launch) (D : xD) (z n : Nat) (G : xG) (I : xI) (L : xL) (a : Nat) (b : Nat) (d : Nat) (ga : G a = some (0, 0, rN)) (gb : G b = some (0, 0, rN)) (gd : G d = some (0, 0, rN)) (za : z ≤ a) : xM0 l D z yX0_putDifference cX0_putDifference 3 none 1 24 [.ref a, .ref b, .ref d] n G I L (xE none I (cw L a (subC (rd L b) (rd L d)))) := by
  exact t_X0_putDifference l D z n G I L a b d ga gb gd za
theorem t_X0_putNegative_c (l : Launch) (D : xD) (z n : Nat) (G : xG) (I : xI) (L : xL) (a : Nat) (b : Nat) (ga : G a = some (0, 0, rN)) (gb : G b = some (0, 0, rN)) (za : z ≤ a) : xM0 l D z yX0_putNegative cX0_putNegative 2 none 1 24 [.ref a, .ref b] n G I L (xE none I (cw L a (negC (rd L b)))) := by
  exact t_X0_putNegative l D z n G I L a b ga gb za
theorem t_X0_takeShare_c (l : Launch) (D : xD) (z n : Nat) (G : xG) (I : xI) (L : xL) (a : Nat) (x : Int64) (y : Int64) (ga : G a = some (0, 0, rN)) (za : z ≤ a) (hz : ¬ y = 0) : xM0 l D z yX0_takeShare cX0_takeShare 5 none 1 24 [.ref a, .long x, .long y] n G I L (xE none I (cw L a (shaC (rd L a) x y))) := by
  have h := t_X0_takeShare l D z n G I L a x y ga za
  rw [if_neg hz] at h
  exact h
theorem t_X0_putMix_c (l : Launch) (D : xD) (z n : Nat) (G : xG) (I : xI) (L : xL) (a : Nat) (b : Nat) (x : Int64) (d : Nat) (y : Int64) (ga : G a = some (0, 0, rN)) (gb : G b = some (0, 0, rN)) (gd : G d = some (0, 0, rN)) (za : z ≤ a) (hz : ¬ x + y = 0) : xM0 l D z yX0_putMix cX0_putMix 9 none 1 24 [.ref a, .ref b, .long x, .ref d, .long y] n G I L (xE none I (cw L a (mixC x (rd L b) y (rd L d)))) := by
  have h := t_X0_putMix l D z n G I L a b x d y ga gb gd za
  rw [if_neg hz] at h
  exact h
theorem t_X0_putTimesGaussian_c (l : Launch) (D : xD) (z n : Nat) (G : xG) (I : xI) (L : xL) (a : Nat) (b : Nat) (x : Int64) (y : Int64) (ga : G a = some (0, 0, rN)) (gb : G b = some (0, 0, rN)) (za : z ≤ a) : xM0 l D z yX0_putTimesGaussian cX0_putTimesGaussian 6 none 1 24 [.ref a, .ref b, .long x, .long y] n G I L (xE none I (cw L a (gauC x y (rd L b)))) := by
  exact t_X0_putTimesGaussian l D z n G I L a b x y ga gb za
theorem t_X0_putProduct_c (l : Launch) (D : xD) (z n : Nat) (G : xG) (I : xI) (L : xL) (a : Nat) (b : Nat) (d : Nat) (u : Int64) (ga : G a = some (0, 0, rN)) (gb : G b = some (0, 0, rN)) (gd : G d = some (0, 0, rN)) (za : z ≤ a) (hz : ¬ u = 0) : xM0 l D z yX0_putProduct cX0_putProduct 5 none 1 24 [.ref a, .ref b, .ref d, .long u] n G I L (xE none I (cw L a (mulC u (rd L b) (rd L d)))) := by
  have h := t_X0_putProduct l D z n G I L a b d u ga gb gd za
  rw [if_neg hz] at h
  exact h
theorem t_X0_divideBy_c (l : Launch) (D : xD) (z n : Nat) (G : xG) (I : xI) (L : xL) (a : Nat) (b : Nat) (u : Int64) (ga : G a = some (0, 0, rN)) (gb : G b = some (0, 0, rN)) (za : z ≤ a) (hz : ¬ u = 0) : xM0 l D z yX0_divideBy cX0_divideBy 6 (some .boolean) 1 24 [.ref a, .ref b, .long u] n G I L (xE (some (.int (if norC (rd L b) u = 0 then 0 else 1))) I (if norC (rd L b) u = 0 then L else cw L a (divC (rd L a) (rd L b) u))) := by
  have h := t_X0_divideBy l D z n G I L a b u ga gb za
  simp only [cnorm, if_neg hz] at h
  exact h
theorem t_X0_divideBy_n (l : Launch) (D : xD) (z n : Nat) (G : xG) (I : xI) (L : xL) (a : Nat) (b : Nat) (u : Int64) (ga : G a = some (0, 0, rN)) (gb : G b = some (0, 0, rN)) (za : z ≤ a) (hz : ¬ u = 0) (hn : ¬ norC (rd L b) u = 0) : xM0 l D z yX0_divideBy cX0_divideBy 6 (some .boolean) 1 24 [.ref a, .ref b, .long u] n G I L (xE (some (.int 1)) I (cw L a (divC (rd L a) (rd L b) u))) := by
  have h := t_X0_divideBy_c l D z n G I L a b u ga gb za hz
  rw [if_neg hn, if_neg hn] at h
  exact h
theorem t_X0_divideBy_z (l : Launch) (D : xD) (z n : Nat) (G : xG) (I : xI) (L : xL) (a : Nat) (b : Nat) (u : Int64) (ga : G a = some (0, 0, rN)) (gb : G b = some (0, 0, rN)) (za : z ≤ a) (hz : ¬ u = 0) (hn : norC (rd L b) u = 0) : xM0 l D z yX0_divideBy cX0_divideBy 6 (some .boolean) 1 24 [.ref a, .ref b, .long u] n G I L (xE (some (.int 0)) I L) := by
  have h := t_X0_divideBy_c l D z n G I L a b u ga gb za hz
  rw [if_pos hn, if_pos hn] at h
  exact h
theorem t_X0_size_c (l : Launch) (D : xD) (z n : Nat) (G : xG) (I : xI) (L : xL) (a : Nat) (ga : G a = some (0, 0, rN)) : xM0 l D z yX0_size cX0_size 1 (some .long) 1 23 [.ref a] n G I L (xE (some (.long (sizC (rd L a)))) I L) := by
  exact t_X0_size l D z n G I L a ga
def rTan (t : Nat) : Nat → Option Nat := va_up (va_up (va_up rN 0 (some (t + 1))) 1 (some (t + 2))) 2 (some (t + 3))
def shT (G : xG) (t : Nat) : Prop := G t = some (10, 0, rTan t) ∧ G (t + 1) = some (0, 0, rN) ∧ G (t + 2) = some (0, 0, rN) ∧ G (t + 3) = some (0, 0, rN)
def tw (L : xL) (t : Nat) (v x y : xC) : xL := cw (cw (cw L (t + 1) v) (t + 2) x) (t + 3) y
def rProd (w : Nat) : Nat → Option Nat := fun k => if k < 10 then some (w + 2 + k) else none
def rPow (w : Nat) : Nat → Option Nat := va_up rN 0 (some (w + 1))
def shW (G : xG) (w : Nat) : Prop := G w = some (7, 0, rPow w) ∧ G (w + 1) = some (23, 10, rProd w) ∧ ∀ k, k < 10 → G (w + 2 + k) = some (0, 0, rN)
/-- the ten products of powers -/
def powC (x y : xC) (u : Int64) (k : Nat) : xC :=
  if k = 0 then hC (u, 0) else if k = 1 then y else if k = 2 then mulC u y y else if k = 3 then mulC u (mulC u y y) y else if k = 4 then x else if k = 5 then mulC u x y else if k = 6 then mulC u x (mulC u y y) else if k = 7 then mulC u x x else if k = 8 then mulC u (mulC u x x) y else mulC u (mulC u x x) x
def rSol (s : Nat) : Nat → Option Nat := va_up (va_up (va_up (va_up (va_up (va_up rN 0 (some (s + 1))) 1 (some (s + 2))) 2 (some (s + 3))) 3 (some (s + 4))) 4 (some (s + 5))) 5 (some (s + 6))
def shO (G : xG) (s : Nat) : Prop := G s = some (8, 0, rSol s) ∧ ∀ k, k < 6 → G (s + 1 + k) = some (0, 0, rN)
def detC (u : Int64) (a d b c : xC) : xC := subC (mulC u a d) (mulC u b c)
theorem dX10_clear_0 : decode cX10_clear 0 = .ok (.aload_n 0, 1) := by decide +kernel
theorem dX10_clear_1 : decode cX10_clear 1 = .ok (.getfield 10, 3) := by decide +kernel
theorem dX10_clear_4 : decode cX10_clear 4 = .ok (.lconst 0, 1) := by decide +kernel
theorem dX10_clear_5 : decode cX10_clear 5 = .ok (.lconst 0, 1) := by decide +kernel
theorem dX10_clear_6 : decode cX10_clear 6 = .ok (.invokevirtual 22, 3) := by decide +kernel
theorem dX10_clear_9 : decode cX10_clear 9 = .ok (.aload_n 0, 1) := by decide +kernel
theorem dX10_clear_10 : decode cX10_clear 10 = .ok (.getfield 16, 3) := by decide +kernel
theorem dX10_clear_13 : decode cX10_clear 13 = .ok (.lconst 0, 1) := by decide +kernel
theorem dX10_clear_14 : decode cX10_clear 14 = .ok (.lconst 0, 1) := by decide +kernel
theorem dX10_clear_15 : decode cX10_clear 15 = .ok (.invokevirtual 22, 3) := by decide +kernel
theorem dX10_clear_18 : decode cX10_clear 18 = .ok (.aload_n 0, 1) := by decide +kernel
theorem dX10_clear_19 : decode cX10_clear 19 = .ok (.getfield 19, 3) := by decide +kernel
theorem dX10_clear_22 : decode cX10_clear 22 = .ok (.lconst 0, 1) := by decide +kernel
theorem dX10_clear_23 : decode cX10_clear 23 = .ok (.lconst 0, 1) := by decide +kernel
theorem dX10_clear_24 : decode cX10_clear 24 = .ok (.invokevirtual 22, 3) := by decide +kernel
theorem dX10_clear_27 : decode cX10_clear 27 = .ok (.return_, 1) := by decide +kernel
set_option maxHeartbeats 4000000 in
set_option maxRecDepth 100000 in
theorem t_X10_clear (l : Launch) (D : xD) (z n : Nat) (G : xG) (I : xI) (L : xL) (t : Nat) (hT : shT G t) (za : z ≤ t) : xM0 l D z yX10_clear cX10_clear 1 none 1 24 [.ref t] n G I L (xE none I (tw L t (0, 0) (0, 0) (0, 0))) := by
  refine xM.of (by decide) (Nat.le_of_ble_eq_true rfl) (fun p e s m args below meth c C hnm hsz => ?_)
  refine x_lv [(0, .ref t)] rfl ?_
  refine x_aload_n 0 C dX10_clear_0 rfl 0 rfl ?_
  refine x_getr 1 C (b := t + 1) dX10_clear_1 ff_X10_10 rfl hT.1 rfl ?_
  refine x_lconst 4 C (v := 0) dX10_clear_4 rfl ?_
  refine x_lconst 5 C (v := 0) dX10_clear_5 rfl ?_
  refine x_callVe 6 C dX10_clear_6 (As := [.long 0, .long 0]) (rest := []) [] (t_X0_put_c l D z n G I L (t + 1) 0 0 hT.2.1 (by omega)) mt_X0_put km_X10_22 ki_X0_put ks_X0_put hT.2.1 ⟨by decide, rfl⟩ rfl rfl (Nat.le_of_ble_eq_true rfl) ⟨⟨by decide, by decide⟩, by decide, by decide⟩ (fun I1 L2 eI1 eL2 => ?_)
  replace eI1 := eI1.symm; subst eI1
  refine x_aload_n 9 C dX10_clear_9 rfl 0 rfl ?_
  refine x_getr 10 C (b := t + 2) dX10_clear_10 ff_X10_16 rfl hT.1 rfl ?_
  refine x_lconst 13 C (v := 0) dX10_clear_13 rfl ?_
  refine x_lconst 14 C (v := 0) dX10_clear_14 rfl ?_
  refine x_callVe 15 C dX10_clear_15 (As := [.long 0, .long 0]) (rest := []) [] (t_X0_put_c l D z n G I L2 (t + 2) 0 0 hT.2.2.1 (by omega)) mt_X0_put km_X10_22 ki_X0_put ks_X0_put hT.2.2.1 ⟨by decide, rfl⟩ rfl rfl (Nat.le_of_ble_eq_true rfl) ⟨⟨by decide, by decide⟩, by decide, by decide⟩ (fun I3 L4 eI3 eL4 => ?_)
  replace eI3 := eI3.symm; subst eI3
  refine x_aload_n 18 C dX10_clear_18 rfl 0 rfl ?_
  refine x_getr 19 C (b := t + 3) dX10_clear_19 ff_X10_19 rfl hT.1 rfl ?_
  refine x_lconst 22 C (v := 0) dX10_clear_22 rfl ?_
  refine x_lconst 23 C (v := 0) dX10_clear_23 rfl ?_
  refine x_callVe 24 C dX10_clear_24 (As := [.long 0, .long 0]) (rest := []) [] (t_X0_put_c l D z n G I L4 (t + 3) 0 0 hT.2.2.2 (by omega)) mt_X0_put km_X10_22 ki_X0_put ks_X0_put hT.2.2.2 ⟨by decide, rfl⟩ rfl rfl (Nat.le_of_ble_eq_true rfl) ⟨⟨by decide, by decide⟩, by decide, by decide⟩ (fun I5 L6 eI5 eL6 => ?_)
  replace eI5 := eI5.symm; subst eI5
  refine x_vret 27 C dX10_clear_27 rfl (Nat.le_refl _) (xN.intro ?_)
  subst eL2; subst eL4; subst eL6
  exact ⟨rfl, rfl, rfl⟩
theorem dX10_timesGaussian_0 : decode cX10_timesGaussian 0 = .ok (.aload_n 0, 1) := by decide +kernel
theorem dX10_timesGaussian_1 : decode cX10_timesGaussian 1 = .ok (.getfield 10, 3) := by decide +kernel
theorem dX10_timesGaussian_4 : decode cX10_timesGaussian 4 = .ok (.aload_n 0, 1) := by decide +kernel
theorem dX10_timesGaussian_5 : decode cX10_timesGaussian 5 = .ok (.getfield 10, 3) := by decide +kernel
theorem dX10_timesGaussian_8 : decode cX10_timesGaussian 8 = .ok (.lload_n 1, 1) := by decide +kernel
theorem dX10_timesGaussian_9 : decode cX10_timesGaussian 9 = .ok (.lload_n 3, 1) := by decide +kernel
theorem dX10_timesGaussian_10 : decode cX10_timesGaussian 10 = .ok (.invokevirtual 26, 3) := by decide +kernel
theorem dX10_timesGaussian_13 : decode cX10_timesGaussian 13 = .ok (.aload_n 0, 1) := by decide +kernel
theorem dX10_timesGaussian_14 : decode cX10_timesGaussian 14 = .ok (.getfield 16, 3) := by decide +kernel
theorem dX10_timesGaussian_17 : decode cX10_timesGaussian 17 = .ok (.aload_n 0, 1) := by decide +kernel
theorem dX10_timesGaussian_18 : decode cX10_timesGaussian 18 = .ok (.getfield 16, 3) := by decide +kernel
theorem dX10_timesGaussian_21 : decode cX10_timesGaussian 21 = .ok (.lload_n 1, 1) := by decide +kernel
theorem dX10_timesGaussian_22 : decode cX10_timesGaussian 22 = .ok (.lload_n 3, 1) := by decide +kernel
theorem dX10_timesGaussian_23 : decode cX10_timesGaussian 23 = .ok (.invokevirtual 26, 3) := by decide +kernel
theorem dX10_timesGaussian_26 : decode cX10_timesGaussian 26 = .ok (.aload_n 0, 1) := by decide +kernel
theorem dX10_timesGaussian_27 : decode cX10_timesGaussian 27 = .ok (.getfield 19, 3) := by decide +kernel
theorem dX10_timesGaussian_30 : decode cX10_timesGaussian 30 = .ok (.aload_n 0, 1) := by decide +kernel
theorem dX10_timesGaussian_31 : decode cX10_timesGaussian 31 = .ok (.getfield 19, 3) := by decide +kernel
theorem dX10_timesGaussian_34 : decode cX10_timesGaussian 34 = .ok (.lload_n 1, 1) := by decide +kernel
theorem dX10_timesGaussian_35 : decode cX10_timesGaussian 35 = .ok (.lload_n 3, 1) := by decide +kernel
theorem dX10_timesGaussian_36 : decode cX10_timesGaussian 36 = .ok (.invokevirtual 26, 3) := by decide +kernel
theorem dX10_timesGaussian_39 : decode cX10_timesGaussian 39 = .ok (.return_, 1) := by decide +kernel
set_option maxHeartbeats 4000000 in
set_option maxRecDepth 100000 in
theorem t_X10_timesGaussian (l : Launch) (D : xD) (z n : Nat) (G : xG) (I : xI) (L : xL) (t : Nat) (x : Int64) (y : Int64) (hT : shT G t) (za : z ≤ t) : xM0 l D z yX10_timesGaussian cX10_timesGaussian 5 none 2 49 [.ref t, .long x, .long y] n G I L (xE none I (tw L t (gauC x y (rd L (t + 1))) (gauC x y (rd L (t + 2))) (gauC x y (rd L (t + 3))))) := by
  refine xM.of (by decide) (Nat.le_of_ble_eq_true rfl) (fun p e s m args below meth c C hnm hsz => ?_)
  refine x_lv [(0, .ref t), (1, .long x), (3, .long y)] rfl ?_
  refine x_aload_n 0 C dX10_timesGaussian_0 rfl 0 rfl ?_
  refine x_getr 1 C (b := t + 1) dX10_timesGaussian_1 ff_X10_10 rfl hT.1 rfl ?_
  refine x_aload_n 4 C dX10_timesGaussian_4 rfl 0 rfl ?_
  refine x_getr 5 C (b := t + 1) dX10_timesGaussian_5 ff_X10_10 rfl hT.1 rfl ?_
  refine x_lload_n 8 C dX10_timesGaussian_8 rfl 1 rfl ?_
  refine x_lload_n 9 C dX10_timesGaussian_9 rfl 2 rfl ?_
  refine x_callVe 10 C dX10_timesGaussian_10 (As := [.ref (t + 1), .long x, .long y]) (rest := []) [] (t_X0_putTimesGaussian_c l D z n G I L (t + 1) (t + 1) x y hT.2.1 hT.2.1 (by omega)) mt_X0_putTimesGaussian km_X10_26 ki_X0_putTimesGaussian ks_X0_putTimesGaussian hT.2.1 ⟨by decide, rfl⟩ rfl rfl (Nat.le_of_ble_eq_true rfl) ⟨⟨by decide, by decide⟩, by decide, by decide⟩ (fun I1 L2 eI1 eL2 => ?_)
  replace eI1 := eI1.symm; subst eI1
  refine x_aload_n 13 C dX10_timesGaussian_13 rfl 0 rfl ?_
  refine x_getr 14 C (b := t + 2) dX10_timesGaussian_14 ff_X10_16 rfl hT.1 rfl ?_
  refine x_aload_n 17 C dX10_timesGaussian_17 rfl 0 rfl ?_
  refine x_getr 18 C (b := t + 2) dX10_timesGaussian_18 ff_X10_16 rfl hT.1 rfl ?_
  refine x_lload_n 21 C dX10_timesGaussian_21 rfl 1 rfl ?_
  refine x_lload_n 22 C dX10_timesGaussian_22 rfl 2 rfl ?_
  refine x_callVe 23 C dX10_timesGaussian_23 (As := [.ref (t + 2), .long x, .long y]) (rest := []) [] (t_X0_putTimesGaussian_c l D z n G I L2 (t + 2) (t + 2) x y hT.2.2.1 hT.2.2.1 (by omega)) mt_X0_putTimesGaussian km_X10_26 ki_X0_putTimesGaussian ks_X0_putTimesGaussian hT.2.2.1 ⟨by decide, rfl⟩ rfl rfl (Nat.le_of_ble_eq_true rfl) ⟨⟨by decide, by decide⟩, by decide, by decide⟩ (fun I3 L4 eI3 eL4 => ?_)
  replace eI3 := eI3.symm; subst eI3
  refine x_aload_n 26 C dX10_timesGaussian_26 rfl 0 rfl ?_
  refine x_getr 27 C (b := t + 3) dX10_timesGaussian_27 ff_X10_19 rfl hT.1 rfl ?_
  refine x_aload_n 30 C dX10_timesGaussian_30 rfl 0 rfl ?_
  refine x_getr 31 C (b := t + 3) dX10_timesGaussian_31 ff_X10_19 rfl hT.1 rfl ?_
  refine x_lload_n 34 C dX10_timesGaussian_34 rfl 1 rfl ?_
  refine x_lload_n 35 C dX10_timesGaussian_35 rfl 2 rfl ?_
  refine x_callVe 36 C dX10_timesGaussian_36 (As := [.ref (t + 3), .long x, .long y]) (rest := []) [] (t_X0_putTimesGaussian_c l D z n G I L4 (t + 3) (t + 3) x y hT.2.2.2 hT.2.2.2 (by omega)) mt_X0_putTimesGaussian km_X10_26 ki_X0_putTimesGaussian ks_X0_putTimesGaussian hT.2.2.2 ⟨by decide, rfl⟩ rfl rfl (Nat.le_of_ble_eq_true rfl) ⟨⟨by decide, by decide⟩, by decide, by decide⟩ (fun I5 L6 eI5 eL6 => ?_)
  replace eI5 := eI5.symm; subst eI5
  refine x_vret 39 C dX10_timesGaussian_39 rfl (Nat.le_refl _) (xN.intro ?_)
  subst eL2; subst eL4; subst eL6
  refine ⟨rfl, rfl, ?_⟩
  simp [tw, rd_cw_ne]
theorem dX10_putMix_0 : decode cX10_putMix 0 = .ok (.aload_n 0, 1) := by decide +kernel
theorem dX10_putMix_1 : decode cX10_putMix 1 = .ok (.getfield 10, 3) := by decide +kernel
theorem dX10_putMix_4 : decode cX10_putMix 4 = .ok (.aload_n 1, 1) := by decide +kernel
theorem dX10_putMix_5 : decode cX10_putMix 5 = .ok (.getfield 10, 3) := by decide +kernel
theorem dX10_putMix_8 : decode cX10_putMix 8 = .ok (.lload_n 2, 1) := by decide +kernel
theorem dX10_putMix_9 : decode cX10_putMix 9 = .ok (.aload 4, 2) := by decide +kernel
theorem dX10_putMix_11 : decode cX10_putMix 11 = .ok (.getfield 10, 3) := by decide +kernel
theorem dX10_putMix_14 : decode cX10_putMix 14 = .ok (.lload 5, 2) := by decide +kernel
theorem dX10_putMix_16 : decode cX10_putMix 16 = .ok (.invokevirtual 30, 3) := by decide +kernel
theorem dX10_putMix_19 : decode cX10_putMix 19 = .ok (.aload_n 0, 1) := by decide +kernel
theorem dX10_putMix_20 : decode cX10_putMix 20 = .ok (.getfield 16, 3) := by decide +kernel
theorem dX10_putMix_23 : decode cX10_putMix 23 = .ok (.aload_n 1, 1) := by decide +kernel
theorem dX10_putMix_24 : decode cX10_putMix 24 = .ok (.getfield 16, 3) := by decide +kernel
theorem dX10_putMix_27 : decode cX10_putMix 27 = .ok (.lload_n 2, 1) := by decide +kernel
theorem dX10_putMix_28 : decode cX10_putMix 28 = .ok (.aload 4, 2) := by decide +kernel
theorem dX10_putMix_30 : decode cX10_putMix 30 = .ok (.getfield 16, 3) := by decide +kernel
theorem dX10_putMix_33 : decode cX10_putMix 33 = .ok (.lload 5, 2) := by decide +kernel
theorem dX10_putMix_35 : decode cX10_putMix 35 = .ok (.invokevirtual 30, 3) := by decide +kernel
theorem dX10_putMix_38 : decode cX10_putMix 38 = .ok (.aload_n 0, 1) := by decide +kernel
theorem dX10_putMix_39 : decode cX10_putMix 39 = .ok (.getfield 19, 3) := by decide +kernel
theorem dX10_putMix_42 : decode cX10_putMix 42 = .ok (.aload_n 1, 1) := by decide +kernel
theorem dX10_putMix_43 : decode cX10_putMix 43 = .ok (.getfield 19, 3) := by decide +kernel
theorem dX10_putMix_46 : decode cX10_putMix 46 = .ok (.lload_n 2, 1) := by decide +kernel
theorem dX10_putMix_47 : decode cX10_putMix 47 = .ok (.aload 4, 2) := by decide +kernel
theorem dX10_putMix_49 : decode cX10_putMix 49 = .ok (.getfield 19, 3) := by decide +kernel
theorem dX10_putMix_52 : decode cX10_putMix 52 = .ok (.lload 5, 2) := by decide +kernel
theorem dX10_putMix_54 : decode cX10_putMix 54 = .ok (.invokevirtual 30, 3) := by decide +kernel
theorem dX10_putMix_57 : decode cX10_putMix 57 = .ok (.return_, 1) := by decide +kernel
set_option maxHeartbeats 4000000 in
set_option maxRecDepth 100000 in
theorem t_X10_putMix (l : Launch) (D : xD) (z n : Nat) (G : xG) (I : xI) (L : xL) (t : Nat) (a : Nat) (x : Int64) (b : Nat) (y : Int64) (hT : shT G t) (hTa : shT G a) (hTb : shT G b) (za : z ≤ t) (hta : t + 3 < a ∨ a + 3 < t) (htb : t + 3 < b ∨ b + 3 < t) (hxy : ¬ x + y = 0) : xM0 l D z yX10_putMix cX10_putMix 7 none 2 52 [.ref t, .ref a, .long x, .ref b, .long y] n G I L (xE none I (tw L t (mixC x (rd L (a + 1)) y (rd L (b + 1))) (mixC x (rd L (a + 2)) y (rd L (b + 2))) (mixC x (rd L (a + 3)) y (rd L (b + 3))))) := by
  refine xM.of (by decide) (Nat.le_of_ble_eq_true rfl) (fun p e s m args below meth c C hnm hsz => ?_)
  refine x_lv [(0, .ref t), (1, .ref a), (2, .long x), (4, .ref b), (5, .long y)] rfl ?_
  refine x_aload_n 0 C dX10_putMix_0 rfl 0 rfl ?_
  refine x_getr 1 C (b := t + 1) dX10_putMix_1 ff_X10_10 rfl hT.1 rfl ?_
  refine x_aload_n 4 C dX10_putMix_4 rfl 1 rfl ?_
  refine x_getr 5 C (b := a + 1) dX10_putMix_5 ff_X10_10 rfl hTa.1 rfl ?_
  refine x_lload_n 8 C dX10_putMix_8 rfl 2 rfl ?_
  refine x_aload 9 C dX10_putMix_9 3 rfl ?_
  refine x_getr 11 C (b := b + 1) dX10_putMix_11 ff_X10_10 rfl hTb.1 rfl ?_
  refine x_lload 14 C dX10_putMix_14 4 rfl ?_
  refine x_callVe 16 C dX10_putMix_16 (As := [.ref (a + 1), .long x, .ref (b + 1), .long y]) (rest := []) [] (t_X0_putMix_c l D z n G I L (t + 1) (a + 1) x (b + 1) y hT.2.1 hTa.2.1 hTb.2.1 (by omega) (by first | assumption | omega)) mt_X0_putMix km_X10_30 ki_X0_putMix ks_X0_putMix hT.2.1 ⟨by decide, rfl⟩ rfl rfl (Nat.le_of_ble_eq_true rfl) ⟨⟨by decide, by decide⟩, by decide, by decide⟩ (fun I1 L2 eI1 eL2 => ?_)
  replace eI1 := eI1.symm; subst eI1
  refine x_aload_n 19 C dX10_putMix_19 rfl 0 rfl ?_
  refine x_getr 20 C (b := t + 2) dX10_putMix_20 ff_X10_16 rfl hT.1 rfl ?_
  refine x_aload_n 23 C dX10_putMix_23 rfl 1 rfl ?_
  refine x_getr 24 C (b := a + 2) dX10_putMix_24 ff_X10_16 rfl hTa.1 rfl ?_
  refine x_lload_n 27 C dX10_putMix_27 rfl 2 rfl ?_
  refine x_aload 28 C dX10_putMix_28 3 rfl ?_
  refine x_getr 30 C (b := b + 2) dX10_putMix_30 ff_X10_16 rfl hTb.1 rfl ?_
  refine x_lload 33 C dX10_putMix_33 4 rfl ?_
  refine x_callVe 35 C dX10_putMix_35 (As := [.ref (a + 2), .long x, .ref (b + 2), .long y]) (rest := []) [] (t_X0_putMix_c l D z n G I L2 (t + 2) (a + 2) x (b + 2) y hT.2.2.1 hTa.2.2.1 hTb.2.2.1 (by omega) (by first | assumption | omega)) mt_X0_putMix km_X10_30 ki_X0_putMix ks_X0_putMix hT.2.2.1 ⟨by decide, rfl⟩ rfl rfl (Nat.le_of_ble_eq_true rfl) ⟨⟨by decide, by decide⟩, by decide, by decide⟩ (fun I3 L4 eI3 eL4 => ?_)
  replace eI3 := eI3.symm; subst eI3
  refine x_aload_n 38 C dX10_putMix_38 rfl 0 rfl ?_
  refine x_getr 39 C (b := t + 3) dX10_putMix_39 ff_X10_19 rfl hT.1 rfl ?_
  refine x_aload_n 42 C dX10_putMix_42 rfl 1 rfl ?_
  refine x_getr 43 C (b := a + 3) dX10_putMix_43 ff_X10_19 rfl hTa.1 rfl ?_
  refine x_lload_n 46 C dX10_putMix_46 rfl 2 rfl ?_
  refine x_aload 47 C dX10_putMix_47 3 rfl ?_
  refine x_getr 49 C (b := b + 3) dX10_putMix_49 ff_X10_19 rfl hTb.1 rfl ?_
  refine x_lload 52 C dX10_putMix_52 4 rfl ?_
  refine x_callVe 54 C dX10_putMix_54 (As := [.ref (a + 3), .long x, .ref (b + 3), .long y]) (rest := []) [] (t_X0_putMix_c l D z n G I L4 (t + 3) (a + 3) x (b + 3) y hT.2.2.2 hTa.2.2.2 hTb.2.2.2 (by omega) (by first | assumption | omega)) mt_X0_putMix km_X10_30 ki_X0_putMix ks_X0_putMix hT.2.2.2 ⟨by decide, rfl⟩ rfl rfl (Nat.le_of_ble_eq_true rfl) ⟨⟨by decide, by decide⟩, by decide, by decide⟩ (fun I5 L6 eI5 eL6 => ?_)
  replace eI5 := eI5.symm; subst eI5
  refine x_vret 57 C dX10_putMix_57 rfl (Nat.le_refl _) (xN.intro ?_)
  subst eL2; subst eL4; subst eL6
  refine ⟨rfl, rfl, ?_⟩
  have a1 : a + 2 ≠ t + 1 := by omega
  have a2 : a + 3 ≠ t + 1 := by omega
  have a3 : a + 3 ≠ t + 2 := by omega
  have b1 : b + 2 ≠ t + 1 := by omega
  have b2 : b + 3 ≠ t + 1 := by omega
  have b3 : b + 3 ≠ t + 2 := by omega
  rw [rd_cw_ne _ _ a1, rd_cw_ne _ _ b1, rd_cw_ne _ _ a3, rd_cw_ne _ _ a2, rd_cw_ne _ _ b3, rd_cw_ne _ _ b2]
  rfl
theorem dX7_at_0 : decode cX7_at 0 = .ok (.aload_n 0, 1) := by decide +kernel
theorem dX7_at_1 : decode cX7_at 1 = .ok (.getfield 11, 3) := by decide +kernel
theorem dX7_at_4 : decode cX7_at 4 = .ok (.iload_n 1, 1) := by decide +kernel
theorem dX7_at_5 : decode cX7_at 5 = .ok (.ifCond .lt 16, 3) := by decide +kernel
theorem dX7_at_8 : decode cX7_at 8 = .ok (.iload_n 1, 1) := by decide +kernel
theorem dX7_at_9 : decode cX7_at 9 = .ok (.aload_n 0, 1) := by decide +kernel
theorem dX7_at_10 : decode cX7_at 10 = .ok (.getfield 11, 3) := by decide +kernel
theorem dX7_at_13 : decode cX7_at 13 = .ok (.arraylength, 1) := by decide +kernel
theorem dX7_at_14 : decode cX7_at 14 = .ok (.if_icmp .ge 7, 3) := by decide +kernel
theorem dX7_at_17 : decode cX7_at 17 = .ok (.iload_n 1, 1) := by decide +kernel
theorem dX7_at_18 : decode cX7_at 18 = .ok (.goto 4, 3) := by decide +kernel
theorem dX7_at_21 : decode cX7_at 21 = .ok (.iconst 0, 1) := by decide +kernel
theorem dX7_at_22 : decode cX7_at 22 = .ok (.aaload, 1) := by decide +kernel
theorem dX7_at_23 : decode cX7_at 23 = .ok (.areturn, 1) := by decide +kernel
set_option maxHeartbeats 4000000 in
set_option maxRecDepth 100000 in
theorem t_X7_at (l : Launch) (D : xD) (z n : Nat) (G : xG) (I : xI) (L : xL) (w : Nat) (k : Nat) (hW : shW G w) (hk : k < 10) : xM0 l D z yX7_at cX7_at 2 (some (.object "PathTracker$Complex")) 0 0 [.ref w, .int (nI k)] n G I L (xE (some (.ref (w + 2 + k))) I L) := by
  refine xM.of (by decide) (Nat.le_of_ble_eq_true rfl) (fun p e s m args below meth c C hnm hsz => ?_)
  refine x_lv [(0, .ref w), (1, .int (nI k))] rfl ?_
  refine x_aload_n 0 C dX7_at_0 rfl 0 rfl ?_
  refine x_getr 1 C (b := w + 1) dX7_at_1 ff_X7_11 rfl hW.1 rfl ?_
  refine x_iload_n 4 C dX7_at_4 rfl 1 rfl ?_
  refine x_if_lt 5 C 21 dX7_at_5 (by decide) (fun c1 => absurd c1 (nI_pos (n := k) (by omega))) (fun _ => ?_)
  refine x_iload_n 8 C dX7_at_8 rfl 1 rfl ?_
  refine x_aload_n 9 C dX7_at_9 rfl 0 rfl ?_
  refine x_getr 10 C (b := w + 1) dX7_at_10 ff_X7_11 rfl hW.1 rfl ?_
  refine x_alen 13 C dX7_at_13 (by decide) hW.2.1 ?_
  refine x_icmp_ge 14 C 21 dX7_at_14 (by decide) (fun c2 => absurd c2 (fun h => absurd ((nI_leI (a := 10) (b := k) (by omega) (by omega)).mp h) (by omega))) (fun _ => ?_)
  refine x_iload_n 17 C dX7_at_17 rfl 1 rfl ?_
  refine x_goto 18 C 22 dX7_at_18 (by decide) ?_
  refine x_aald 22 C (b := w + 2 + k) (j := k) dX7_at_22 (by decide) hW.2.1 (xIx_nI (by omega) (by decide)) (if_pos (by omega)) ?_
  refine x_aret 23 C dX7_at_23 rfl (Or.inl ⟨_, rfl⟩) (Nat.le_refl _) (xN.intro ?_)
  exact ⟨rfl, rfl, rfl⟩
theorem dX7_fill_0 : decode cX7_fill 0 = .ok (.aload_n 0, 1) := by decide +kernel
theorem dX7_fill_1 : decode cX7_fill 1 = .ok (.getfield 11, 3) := by decide +kernel
theorem dX7_fill_4 : decode cX7_fill 4 = .ok (.iconst 0, 1) := by decide +kernel
theorem dX7_fill_5 : decode cX7_fill 5 = .ok (.aaload, 1) := by decide +kernel
theorem dX7_fill_6 : decode cX7_fill 6 = .ok (.lload_n 3, 1) := by decide +kernel
theorem dX7_fill_7 : decode cX7_fill 7 = .ok (.lconst 0, 1) := by decide +kernel
theorem dX7_fill_8 : decode cX7_fill 8 = .ok (.invokevirtual 18, 3) := by decide +kernel
theorem dX7_fill_11 : decode cX7_fill 11 = .ok (.aload_n 0, 1) := by decide +kernel
theorem dX7_fill_12 : decode cX7_fill 12 = .ok (.getfield 11, 3) := by decide +kernel
theorem dX7_fill_15 : decode cX7_fill 15 = .ok (.iconst 1, 1) := by decide +kernel
theorem dX7_fill_16 : decode cX7_fill 16 = .ok (.aaload, 1) := by decide +kernel
theorem dX7_fill_17 : decode cX7_fill 17 = .ok (.aload_n 2, 1) := by decide +kernel
theorem dX7_fill_18 : decode cX7_fill 18 = .ok (.invokevirtual 22, 3) := by decide +kernel
theorem dX7_fill_21 : decode cX7_fill 21 = .ok (.aload_n 0, 1) := by decide +kernel
theorem dX7_fill_22 : decode cX7_fill 22 = .ok (.getfield 11, 3) := by decide +kernel
theorem dX7_fill_25 : decode cX7_fill 25 = .ok (.iconst 2, 1) := by decide +kernel
theorem dX7_fill_26 : decode cX7_fill 26 = .ok (.aaload, 1) := by decide +kernel
theorem dX7_fill_27 : decode cX7_fill 27 = .ok (.aload_n 2, 1) := by decide +kernel
theorem dX7_fill_28 : decode cX7_fill 28 = .ok (.aload_n 2, 1) := by decide +kernel
theorem dX7_fill_29 : decode cX7_fill 29 = .ok (.lload_n 3, 1) := by decide +kernel
theorem dX7_fill_30 : decode cX7_fill 30 = .ok (.invokevirtual 26, 3) := by decide +kernel
theorem dX7_fill_33 : decode cX7_fill 33 = .ok (.aload_n 0, 1) := by decide +kernel
theorem dX7_fill_34 : decode cX7_fill 34 = .ok (.getfield 11, 3) := by decide +kernel
theorem dX7_fill_37 : decode cX7_fill 37 = .ok (.iconst 3, 1) := by decide +kernel
theorem dX7_fill_38 : decode cX7_fill 38 = .ok (.aaload, 1) := by decide +kernel
theorem dX7_fill_39 : decode cX7_fill 39 = .ok (.aload_n 0, 1) := by decide +kernel
theorem dX7_fill_40 : decode cX7_fill 40 = .ok (.getfield 11, 3) := by decide +kernel
theorem dX7_fill_43 : decode cX7_fill 43 = .ok (.iconst 2, 1) := by decide +kernel
theorem dX7_fill_44 : decode cX7_fill 44 = .ok (.aaload, 1) := by decide +kernel
theorem dX7_fill_45 : decode cX7_fill 45 = .ok (.aload_n 2, 1) := by decide +kernel
theorem dX7_fill_46 : decode cX7_fill 46 = .ok (.lload_n 3, 1) := by decide +kernel
theorem dX7_fill_47 : decode cX7_fill 47 = .ok (.invokevirtual 26, 3) := by decide +kernel
theorem dX7_fill_50 : decode cX7_fill 50 = .ok (.aload_n 0, 1) := by decide +kernel
theorem dX7_fill_51 : decode cX7_fill 51 = .ok (.getfield 11, 3) := by decide +kernel
theorem dX7_fill_54 : decode cX7_fill 54 = .ok (.iconst 4, 1) := by decide +kernel
theorem dX7_fill_55 : decode cX7_fill 55 = .ok (.aaload, 1) := by decide +kernel
theorem dX7_fill_56 : decode cX7_fill 56 = .ok (.aload_n 1, 1) := by decide +kernel
theorem dX7_fill_57 : decode cX7_fill 57 = .ok (.invokevirtual 22, 3) := by decide +kernel
theorem dX7_fill_60 : decode cX7_fill 60 = .ok (.aload_n 0, 1) := by decide +kernel
theorem dX7_fill_61 : decode cX7_fill 61 = .ok (.getfield 11, 3) := by decide +kernel
theorem dX7_fill_64 : decode cX7_fill 64 = .ok (.iconst 5, 1) := by decide +kernel
theorem dX7_fill_65 : decode cX7_fill 65 = .ok (.aaload, 1) := by decide +kernel
theorem dX7_fill_66 : decode cX7_fill 66 = .ok (.aload_n 1, 1) := by decide +kernel
theorem dX7_fill_67 : decode cX7_fill 67 = .ok (.aload_n 2, 1) := by decide +kernel
theorem dX7_fill_68 : decode cX7_fill 68 = .ok (.lload_n 3, 1) := by decide +kernel
theorem dX7_fill_69 : decode cX7_fill 69 = .ok (.invokevirtual 26, 3) := by decide +kernel
theorem dX7_fill_72 : decode cX7_fill 72 = .ok (.aload_n 0, 1) := by decide +kernel
theorem dX7_fill_73 : decode cX7_fill 73 = .ok (.getfield 11, 3) := by decide +kernel
theorem dX7_fill_76 : decode cX7_fill 76 = .ok (.bipush 6, 2) := by decide +kernel
theorem dX7_fill_78 : decode cX7_fill 78 = .ok (.aaload, 1) := by decide +kernel
theorem dX7_fill_79 : decode cX7_fill 79 = .ok (.aload_n 1, 1) := by decide +kernel
theorem dX7_fill_80 : decode cX7_fill 80 = .ok (.aload_n 0, 1) := by decide +kernel
theorem dX7_fill_81 : decode cX7_fill 81 = .ok (.getfield 11, 3) := by decide +kernel
theorem dX7_fill_84 : decode cX7_fill 84 = .ok (.iconst 2, 1) := by decide +kernel
theorem dX7_fill_85 : decode cX7_fill 85 = .ok (.aaload, 1) := by decide +kernel
theorem dX7_fill_86 : decode cX7_fill 86 = .ok (.lload_n 3, 1) := by decide +kernel
theorem dX7_fill_87 : decode cX7_fill 87 = .ok (.invokevirtual 26, 3) := by decide +kernel
theorem dX7_fill_90 : decode cX7_fill 90 = .ok (.aload_n 0, 1) := by decide +kernel
theorem dX7_fill_91 : decode cX7_fill 91 = .ok (.getfield 11, 3) := by decide +kernel
theorem dX7_fill_94 : decode cX7_fill 94 = .ok (.bipush 7, 2) := by decide +kernel
theorem dX7_fill_96 : decode cX7_fill 96 = .ok (.aaload, 1) := by decide +kernel
theorem dX7_fill_97 : decode cX7_fill 97 = .ok (.aload_n 1, 1) := by decide +kernel
theorem dX7_fill_98 : decode cX7_fill 98 = .ok (.aload_n 1, 1) := by decide +kernel
theorem dX7_fill_99 : decode cX7_fill 99 = .ok (.lload_n 3, 1) := by decide +kernel
theorem dX7_fill_100 : decode cX7_fill 100 = .ok (.invokevirtual 26, 3) := by decide +kernel
theorem dX7_fill_103 : decode cX7_fill 103 = .ok (.aload_n 0, 1) := by decide +kernel
theorem dX7_fill_104 : decode cX7_fill 104 = .ok (.getfield 11, 3) := by decide +kernel
theorem dX7_fill_107 : decode cX7_fill 107 = .ok (.bipush 8, 2) := by decide +kernel
theorem dX7_fill_109 : decode cX7_fill 109 = .ok (.aaload, 1) := by decide +kernel
theorem dX7_fill_110 : decode cX7_fill 110 = .ok (.aload_n 0, 1) := by decide +kernel
theorem dX7_fill_111 : decode cX7_fill 111 = .ok (.getfield 11, 3) := by decide +kernel
theorem dX7_fill_114 : decode cX7_fill 114 = .ok (.bipush 7, 2) := by decide +kernel
theorem dX7_fill_116 : decode cX7_fill 116 = .ok (.aaload, 1) := by decide +kernel
theorem dX7_fill_117 : decode cX7_fill 117 = .ok (.aload_n 2, 1) := by decide +kernel
theorem dX7_fill_118 : decode cX7_fill 118 = .ok (.lload_n 3, 1) := by decide +kernel
theorem dX7_fill_119 : decode cX7_fill 119 = .ok (.invokevirtual 26, 3) := by decide +kernel
theorem dX7_fill_122 : decode cX7_fill 122 = .ok (.aload_n 0, 1) := by decide +kernel
theorem dX7_fill_123 : decode cX7_fill 123 = .ok (.getfield 11, 3) := by decide +kernel
theorem dX7_fill_126 : decode cX7_fill 126 = .ok (.bipush 9, 2) := by decide +kernel
theorem dX7_fill_128 : decode cX7_fill 128 = .ok (.aaload, 1) := by decide +kernel
theorem dX7_fill_129 : decode cX7_fill 129 = .ok (.aload_n 0, 1) := by decide +kernel
theorem dX7_fill_130 : decode cX7_fill 130 = .ok (.getfield 11, 3) := by decide +kernel
theorem dX7_fill_133 : decode cX7_fill 133 = .ok (.bipush 7, 2) := by decide +kernel
theorem dX7_fill_135 : decode cX7_fill 135 = .ok (.aaload, 1) := by decide +kernel
theorem dX7_fill_136 : decode cX7_fill 136 = .ok (.aload_n 1, 1) := by decide +kernel
theorem dX7_fill_137 : decode cX7_fill 137 = .ok (.lload_n 3, 1) := by decide +kernel
theorem dX7_fill_138 : decode cX7_fill 138 = .ok (.invokevirtual 26, 3) := by decide +kernel
theorem dX7_fill_141 : decode cX7_fill 141 = .ok (.return_, 1) := by decide +kernel
set_option maxHeartbeats 4000000 in
set_option maxRecDepth 100000 in
theorem t_X7_fill (l : Launch) (D : xD) (z n : Nat) (G : xG) (I : xI) (L : xL) (w : Nat) (a : Nat) (b : Nat) (u : Int64) (hW : shW G w) (ga : G a = some (0, 0, rN)) (gb : G b = some (0, 0, rN)) (zw : z ≤ w) (ha : a < w ∨ w + 12 ≤ a) (hb : b < w ∨ w + 12 ≤ b) (hu : ¬ u = 0) : xM0 l D z yX7_fill cX7_fill 5 none 2 48 [.ref w, .ref a, .ref b, .long u] n G I L (fun v' I' L' => v' = none ∧ I' = I ∧ (∀ k, k < 10 → rd L' (w + 2 + k) = powC (rd L a) (rd L b) u k) ∧ (∀ q, (q < w + 2 ∨ w + 12 ≤ q) → L' q = L q)) := by
  refine xM.of (by decide) (Nat.le_of_ble_eq_true rfl) (fun p e s m args below meth c C hnm hsz => ?_)
  refine x_lv [(0, .ref w), (1, .ref a), (2, .ref b), (3, .long u)] rfl ?_
  refine x_aload_n 0 C dX7_fill_0 rfl 0 rfl ?_
  refine x_getr 1 C (b := w + 1) dX7_fill_1 ff_X7_11 rfl hW.1 rfl ?_
  refine x_iconst 4 C (v := 0) dX7_fill_4 rfl ?_
  refine x_aald 5 C (b := w + 2 + 0) (j := 0) dX7_fill_5 (by decide) hW.2.1 ⟨by decide, by decide, by decide⟩ rfl ?_
  refine x_lload_n 6 C dX7_fill_6 rfl 3 rfl ?_
  refine x_lconst 7 C (v := 0) dX7_fill_7 rfl ?_
  refine x_callVe 8 C dX7_fill_8 (As := [.long u, .long 0]) (rest := []) [] (t_X0_put_c l D z n G I L (w + 2 + 0) u 0 (hW.2.2 0 (by decide)) (by omega)) mt_X0_put km_X7_18 ki_X0_put ks_X0_put (hW.2.2 0 (by decide)) ⟨by decide, rfl⟩ rfl rfl (Nat.le_of_ble_eq_true rfl) ⟨⟨by decide, by decide⟩, by decide, by decide⟩ (fun I1 L2 eI1 eL2 => ?_)
  replace eI1 := eI1.symm; subst eI1
  refine x_aload_n 11 C dX7_fill_11 rfl 0 rfl ?_
  refine x_getr 12 C (b := w + 1) dX7_fill_12 ff_X7_11 rfl hW.1 rfl ?_
  refine x_iconst 15 C (v := 1) dX7_fill_15 rfl ?_
  refine x_aald 16 C (b := w + 2 + 1) (j := 1) dX7_fill_16 (by decide) hW.2.1 ⟨by decide, by decide, by decide⟩ rfl ?_
  refine x_aload_n 17 C dX7_fill_17 rfl 2 rfl ?_
  refine x_callVe 18 C dX7_fill_18 (As := [.ref b]) (rest := []) [] (t_X0_copy_c l D z n G I L2 (w + 2 + 1) b (hW.2.2 1 (by decide)) gb (by omega)) mt_X0_copy km_X7_22 ki_X0_copy ks_X0_copy (hW.2.2 1 (by decide)) ⟨by decide, rfl⟩ rfl rfl (Nat.le_of_ble_eq_true rfl) ⟨⟨by decide, by decide⟩, by decide, by decide⟩ (fun I3 L4 eI3 eL4 => ?_)
  replace eI3 := eI3.symm; subst eI3
  refine x_aload_n 21 C dX7_fill_21 rfl 0 rfl ?_
  refine x_getr 22 C (b := w + 1) dX7_fill_22 ff_X7_11 rfl hW.1 rfl ?_
  refine x_iconst 25 C (v := 2) dX7_fill_25 rfl ?_
  refine x_aald 26 C (b := w + 2 + 2) (j := 2) dX7_fill_26 (by decide) hW.2.1 ⟨by decide, by decide, by decide⟩ rfl ?_
  refine x_aload_n 27 C dX7_fill_27 rfl 2 rfl ?_
  refine x_aload_n 28 C dX7_fill_28 rfl 2 rfl ?_
  refine x_lload_n 29 C dX7_fill_29 rfl 3 rfl ?_
  refine x_callVe 30 C dX7_fill_30 (As := [.ref b, .ref b, .long u]) (rest := []) [] (t_X0_putProduct_c l D z n G I L4 (w + 2 + 2) b b u (hW.2.2 2 (by decide)) gb gb (by omega) (by first | assumption | omega)) mt_X0_putProduct km_X7_26 ki_X0_putProduct ks_X0_putProduct (hW.2.2 2 (by decide)) ⟨by decide, rfl⟩ rfl rfl (Nat.le_of_ble_eq_true rfl) ⟨⟨by decide, by decide⟩, by decide, by decide⟩ (fun I5 L6 eI5 eL6 => ?_)
  replace eI5 := eI5.symm; subst eI5
  refine x_aload_n 33 C dX7_fill_33 rfl 0 rfl ?_
  refine x_getr 34 C (b := w + 1) dX7_fill_34 ff_X7_11 rfl hW.1 rfl ?_
  refine x_iconst 37 C (v := 3) dX7_fill_37 rfl ?_
  refine x_aald 38 C (b := w + 2 + 3) (j := 3) dX7_fill_38 (by decide) hW.2.1 ⟨by decide, by decide, by decide⟩ rfl ?_
  refine x_aload_n 39 C dX7_fill_39 rfl 0 rfl ?_
  refine x_getr 40 C (b := w + 1) dX7_fill_40 ff_X7_11 rfl hW.1 rfl ?_
  refine x_iconst 43 C (v := 2) dX7_fill_43 rfl ?_
  refine x_aald 44 C (b := w + 2 + 2) (j := 2) dX7_fill_44 (by decide) hW.2.1 ⟨by decide, by decide, by decide⟩ rfl ?_
  refine x_aload_n 45 C dX7_fill_45 rfl 2 rfl ?_
  refine x_lload_n 46 C dX7_fill_46 rfl 3 rfl ?_
  refine x_callVe 47 C dX7_fill_47 (As := [.ref (w + 2 + 2), .ref b, .long u]) (rest := []) [] (t_X0_putProduct_c l D z n G I L6 (w + 2 + 3) (w + 2 + 2) b u (hW.2.2 3 (by decide)) (hW.2.2 2 (by decide)) gb (by omega) (by first | assumption | omega)) mt_X0_putProduct km_X7_26 ki_X0_putProduct ks_X0_putProduct (hW.2.2 3 (by decide)) ⟨by decide, rfl⟩ rfl rfl (Nat.le_of_ble_eq_true rfl) ⟨⟨by decide, by decide⟩, by decide, by decide⟩ (fun I7 L8 eI7 eL8 => ?_)
  replace eI7 := eI7.symm; subst eI7
  refine x_aload_n 50 C dX7_fill_50 rfl 0 rfl ?_
  refine x_getr 51 C (b := w + 1) dX7_fill_51 ff_X7_11 rfl hW.1 rfl ?_
  refine x_iconst 54 C (v := 4) dX7_fill_54 rfl ?_
  refine x_aald 55 C (b := w + 2 + 4) (j := 4) dX7_fill_55 (by decide) hW.2.1 ⟨by decide, by decide, by decide⟩ rfl ?_
  refine x_aload_n 56 C dX7_fill_56 rfl 1 rfl ?_
  refine x_callVe 57 C dX7_fill_57 (As := [.ref a]) (rest := []) [] (t_X0_copy_c l D z n G I L8 (w + 2 + 4) a (hW.2.2 4 (by decide)) ga (by omega)) mt_X0_copy km_X7_22 ki_X0_copy ks_X0_copy (hW.2.2 4 (by decide)) ⟨by decide, rfl⟩ rfl rfl (Nat.le_of_ble_eq_true rfl) ⟨⟨by decide, by decide⟩, by decide, by decide⟩ (fun I9 L10 eI9 eL10 => ?_)
  replace eI9 := eI9.symm; subst eI9
  refine x_aload_n 60 C dX7_fill_60 rfl 0 rfl ?_
  refine x_getr 61 C (b := w + 1) dX7_fill_61 ff_X7_11 rfl hW.1 rfl ?_
  refine x_iconst 64 C (v := 5) dX7_fill_64 rfl ?_
  refine x_aald 65 C (b := w + 2 + 5) (j := 5) dX7_fill_65 (by decide) hW.2.1 ⟨by decide, by decide, by decide⟩ rfl ?_
  refine x_aload_n 66 C dX7_fill_66 rfl 1 rfl ?_
  refine x_aload_n 67 C dX7_fill_67 rfl 2 rfl ?_
  refine x_lload_n 68 C dX7_fill_68 rfl 3 rfl ?_
  refine x_callVe 69 C dX7_fill_69 (As := [.ref a, .ref b, .long u]) (rest := []) [] (t_X0_putProduct_c l D z n G I L10 (w + 2 + 5) a b u (hW.2.2 5 (by decide)) ga gb (by omega) (by first | assumption | omega)) mt_X0_putProduct km_X7_26 ki_X0_putProduct ks_X0_putProduct (hW.2.2 5 (by decide)) ⟨by decide, rfl⟩ rfl rfl (Nat.le_of_ble_eq_true rfl) ⟨⟨by decide, by decide⟩, by decide, by decide⟩ (fun I11 L12 eI11 eL12 => ?_)
  replace eI11 := eI11.symm; subst eI11
  refine x_aload_n 72 C dX7_fill_72 rfl 0 rfl ?_
  refine x_getr 73 C (b := w + 1) dX7_fill_73 ff_X7_11 rfl hW.1 rfl ?_
  refine x_bipush 76 C (v := 6) dX7_fill_76 rfl ?_
  refine x_aald 78 C (b := w + 2 + 6) (j := 6) dX7_fill_78 (by decide) hW.2.1 ⟨by decide, by decide, by decide⟩ rfl ?_
  refine x_aload_n 79 C dX7_fill_79 rfl 1 rfl ?_
  refine x_aload_n 80 C dX7_fill_80 rfl 0 rfl ?_
  refine x_getr 81 C (b := w + 1) dX7_fill_81 ff_X7_11 rfl hW.1 rfl ?_
  refine x_iconst 84 C (v := 2) dX7_fill_84 rfl ?_
  refine x_aald 85 C (b := w + 2 + 2) (j := 2) dX7_fill_85 (by decide) hW.2.1 ⟨by decide, by decide, by decide⟩ rfl ?_
  refine x_lload_n 86 C dX7_fill_86 rfl 3 rfl ?_
  refine x_callVe 87 C dX7_fill_87 (As := [.ref a, .ref (w + 2 + 2), .long u]) (rest := []) [] (t_X0_putProduct_c l D z n G I L12 (w + 2 + 6) a (w + 2 + 2) u (hW.2.2 6 (by decide)) ga (hW.2.2 2 (by decide)) (by omega) (by first | assumption | omega)) mt_X0_putProduct km_X7_26 ki_X0_putProduct ks_X0_putProduct (hW.2.2 6 (by decide)) ⟨by decide, rfl⟩ rfl rfl (Nat.le_of_ble_eq_true rfl) ⟨⟨by decide, by decide⟩, by decide, by decide⟩ (fun I13 L14 eI13 eL14 => ?_)
  replace eI13 := eI13.symm; subst eI13
  refine x_aload_n 90 C dX7_fill_90 rfl 0 rfl ?_
  refine x_getr 91 C (b := w + 1) dX7_fill_91 ff_X7_11 rfl hW.1 rfl ?_
  refine x_bipush 94 C (v := 7) dX7_fill_94 rfl ?_
  refine x_aald 96 C (b := w + 2 + 7) (j := 7) dX7_fill_96 (by decide) hW.2.1 ⟨by decide, by decide, by decide⟩ rfl ?_
  refine x_aload_n 97 C dX7_fill_97 rfl 1 rfl ?_
  refine x_aload_n 98 C dX7_fill_98 rfl 1 rfl ?_
  refine x_lload_n 99 C dX7_fill_99 rfl 3 rfl ?_
  refine x_callVe 100 C dX7_fill_100 (As := [.ref a, .ref a, .long u]) (rest := []) [] (t_X0_putProduct_c l D z n G I L14 (w + 2 + 7) a a u (hW.2.2 7 (by decide)) ga ga (by omega) (by first | assumption | omega)) mt_X0_putProduct km_X7_26 ki_X0_putProduct ks_X0_putProduct (hW.2.2 7 (by decide)) ⟨by decide, rfl⟩ rfl rfl (Nat.le_of_ble_eq_true rfl) ⟨⟨by decide, by decide⟩, by decide, by decide⟩ (fun I15 L16 eI15 eL16 => ?_)
  replace eI15 := eI15.symm; subst eI15
  refine x_aload_n 103 C dX7_fill_103 rfl 0 rfl ?_
  refine x_getr 104 C (b := w + 1) dX7_fill_104 ff_X7_11 rfl hW.1 rfl ?_
  refine x_bipush 107 C (v := 8) dX7_fill_107 rfl ?_
  refine x_aald 109 C (b := w + 2 + 8) (j := 8) dX7_fill_109 (by decide) hW.2.1 ⟨by decide, by decide, by decide⟩ rfl ?_
  refine x_aload_n 110 C dX7_fill_110 rfl 0 rfl ?_
  refine x_getr 111 C (b := w + 1) dX7_fill_111 ff_X7_11 rfl hW.1 rfl ?_
  refine x_bipush 114 C (v := 7) dX7_fill_114 rfl ?_
  refine x_aald 116 C (b := w + 2 + 7) (j := 7) dX7_fill_116 (by decide) hW.2.1 ⟨by decide, by decide, by decide⟩ rfl ?_
  refine x_aload_n 117 C dX7_fill_117 rfl 2 rfl ?_
  refine x_lload_n 118 C dX7_fill_118 rfl 3 rfl ?_
  refine x_callVe 119 C dX7_fill_119 (As := [.ref (w + 2 + 7), .ref b, .long u]) (rest := []) [] (t_X0_putProduct_c l D z n G I L16 (w + 2 + 8) (w + 2 + 7) b u (hW.2.2 8 (by decide)) (hW.2.2 7 (by decide)) gb (by omega) (by first | assumption | omega)) mt_X0_putProduct km_X7_26 ki_X0_putProduct ks_X0_putProduct (hW.2.2 8 (by decide)) ⟨by decide, rfl⟩ rfl rfl (Nat.le_of_ble_eq_true rfl) ⟨⟨by decide, by decide⟩, by decide, by decide⟩ (fun I17 L18 eI17 eL18 => ?_)
  replace eI17 := eI17.symm; subst eI17
  refine x_aload_n 122 C dX7_fill_122 rfl 0 rfl ?_
  refine x_getr 123 C (b := w + 1) dX7_fill_123 ff_X7_11 rfl hW.1 rfl ?_
  refine x_bipush 126 C (v := 9) dX7_fill_126 rfl ?_
  refine x_aald 128 C (b := w + 2 + 9) (j := 9) dX7_fill_128 (by decide) hW.2.1 ⟨by decide, by decide, by decide⟩ rfl ?_
  refine x_aload_n 129 C dX7_fill_129 rfl 0 rfl ?_
  refine x_getr 130 C (b := w + 1) dX7_fill_130 ff_X7_11 rfl hW.1 rfl ?_
  refine x_bipush 133 C (v := 7) dX7_fill_133 rfl ?_
  refine x_aald 135 C (b := w + 2 + 7) (j := 7) dX7_fill_135 (by decide) hW.2.1 ⟨by decide, by decide, by decide⟩ rfl ?_
  refine x_aload_n 136 C dX7_fill_136 rfl 1 rfl ?_
  refine x_lload_n 137 C dX7_fill_137 rfl 3 rfl ?_
  refine x_callVe 138 C dX7_fill_138 (As := [.ref (w + 2 + 7), .ref a, .long u]) (rest := []) [] (t_X0_putProduct_c l D z n G I L18 (w + 2 + 9) (w + 2 + 7) a u (hW.2.2 9 (by decide)) (hW.2.2 7 (by decide)) ga (by omega) (by first | assumption | omega)) mt_X0_putProduct km_X7_26 ki_X0_putProduct ks_X0_putProduct (hW.2.2 9 (by decide)) ⟨by decide, rfl⟩ rfl rfl (Nat.le_of_ble_eq_true rfl) ⟨⟨by decide, by decide⟩, by decide, by decide⟩ (fun I19 L20 eI19 eL20 => ?_)
  replace eI19 := eI19.symm; subst eI19
  refine x_vret 141 C dX7_fill_141 rfl (Nat.le_refl _) (xN.intro ?_)
  subst eL2; subst eL4; subst eL6; subst eL8; subst eL10; subst eL12; subst eL14; subst eL16; subst eL18; subst eL20
  have a0 : a ≠ w + 2 + 0 := by omega
  have a1 : a ≠ w + 2 + 1 := by omega
  have a2 : a ≠ w + 2 + 2 := by omega
  have a3 : a ≠ w + 2 + 3 := by omega
  have a4 : a ≠ w + 2 + 4 := by omega
  have a5 : a ≠ w + 2 + 5 := by omega
  have a6 : a ≠ w + 2 + 6 := by omega
  have a7 : a ≠ w + 2 + 7 := by omega
  have a8 : a ≠ w + 2 + 8 := by omega
  have a9 : a ≠ w + 2 + 9 := by omega
  have b0 : b ≠ w + 2 + 0 := by omega
  have b1 : b ≠ w + 2 + 1 := by omega
  have b2 : b ≠ w + 2 + 2 := by omega
  have b3 : b ≠ w + 2 + 3 := by omega
  have b4 : b ≠ w + 2 + 4 := by omega
  have b5 : b ≠ w + 2 + 5 := by omega
  have b6 : b ≠ w + 2 + 6 := by omega
  have b7 : b ≠ w + 2 + 7 := by omega
  have b8 : b ≠ w + 2 + 8 := by omega
  have b9 : b ≠ w + 2 + 9 := by omega
  refine ⟨rfl, rfl, fun k hk => ?_, fun q hq => ?_⟩
  · rcases (show k = 0 ∨ k = 1 ∨ k = 2 ∨ k = 3 ∨ k = 4 ∨ k = 5 ∨ k = 6 ∨ k = 7 ∨ k = 8 ∨ k = 9 by omega) with rfl | rfl | rfl | rfl | rfl | rfl | rfl | rfl | rfl | rfl <;> simp [powC, rd_cw, rd_cw_ne, a0, a1, a2, a3, a4, a5, a6, a7, a8, a9, b0, b1, b2, b3, b4, b5, b6, b7, b8, b9]
  · repeat rw [cw_ne _ _ (by omega)]
theorem dX8_cross_0 : decode cX8_cross 0 = .ok (.aload_n 1, 1) := by decide +kernel
theorem dX8_cross_1 : decode cX8_cross 1 = .ok (.aload_n 2, 1) := by decide +kernel
theorem dX8_cross_2 : decode cX8_cross 2 = .ok (.aload_n 3, 1) := by decide +kernel
theorem dX8_cross_3 : decode cX8_cross 3 = .ok (.lload 6, 2) := by decide +kernel
theorem dX8_cross_5 : decode cX8_cross 5 = .ok (.invokevirtual 31, 3) := by decide +kernel
theorem dX8_cross_8 : decode cX8_cross 8 = .ok (.aload_n 0, 1) := by decide +kernel
theorem dX8_cross_9 : decode cX8_cross 9 = .ok (.getfield 28, 3) := by decide +kernel
theorem dX8_cross_12 : decode cX8_cross 12 = .ok (.aload 4, 2) := by decide +kernel
theorem dX8_cross_14 : decode cX8_cross 14 = .ok (.aload 5, 2) := by decide +kernel
theorem dX8_cross_16 : decode cX8_cross 16 = .ok (.lload 6, 2) := by decide +kernel
theorem dX8_cross_18 : decode cX8_cross 18 = .ok (.invokevirtual 31, 3) := by decide +kernel
theorem dX8_cross_21 : decode cX8_cross 21 = .ok (.aload_n 1, 1) := by decide +kernel
theorem dX8_cross_22 : decode cX8_cross 22 = .ok (.aload_n 1, 1) := by decide +kernel
theorem dX8_cross_23 : decode cX8_cross 23 = .ok (.aload_n 0, 1) := by decide +kernel
theorem dX8_cross_24 : decode cX8_cross 24 = .ok (.getfield 28, 3) := by decide +kernel
theorem dX8_cross_27 : decode cX8_cross 27 = .ok (.invokevirtual 35, 3) := by decide +kernel
theorem dX8_cross_30 : decode cX8_cross 30 = .ok (.return_, 1) := by decide +kernel
set_option maxHeartbeats 4000000 in
set_option maxRecDepth 100000 in
theorem t_X8_cross (l : Launch) (D : xD) (z n : Nat) (G : xG) (I : xI) (L : xL) (s0 : Nat) (t : Nat) (a : Nat) (d : Nat) (b : Nat) (e0 : Nat) (u : Int64) (hO : shO G s0) (gt : G t = some (0, 0, rN)) (ga : G a = some (0, 0, rN)) (gd : G d = some (0, 0, rN)) (gb : G b = some (0, 0, rN)) (ge0 : G e0 = some (0, 0, rN)) (zs : z ≤ s0) (zt : z ≤ t) (hts : t ≠ s0 + 1 + 5) (hbt : b ≠ t) (het : e0 ≠ t) (hu : ¬ u = 0) : xM0 l D z yX8_cross cX8_cross 8 none 2 48 [.ref s0, .ref t, .ref a, .ref d, .ref b, .ref e0, .long u] n G I L (xE none I (cw (cw L (s0 + 1 + 5) (mulC u (rd L b) (rd L e0))) t (detC u (rd L a) (rd L d) (rd L b) (rd L e0)))) := by
  refine xM.of (by decide) (Nat.le_of_ble_eq_true rfl) (fun p e s m args below meth c C hnm hsz => ?_)
  refine x_lv [(0, .ref s0), (1, .ref t), (2, .ref a), (3, .ref d), (4, .ref b), (5, .ref e0), (6, .long u)] rfl ?_
  refine x_aload_n 0 C dX8_cross_0 rfl 1 rfl ?_
  refine x_aload_n 1 C dX8_cross_1 rfl 2 rfl ?_
  refine x_aload_n 2 C dX8_cross_2 rfl 3 rfl ?_
  refine x_lload 3 C dX8_cross_3 6 rfl ?_
  refine x_callVe 5 C dX8_cross_5 (As := [.ref a, .ref d, .long u]) (rest := []) [] (t_X0_putProduct_c l D z n G I L t a d u gt ga gd (by omega) (by first | assumption | omega)) mt_X0_putProduct km_X8_31 ki_X0_putProduct ks_X0_putProduct gt ⟨by decide, rfl⟩ rfl rfl (Nat.le_of_ble_eq_true rfl) ⟨⟨by decide, by decide⟩, by decide, by decide⟩ (fun I1 L2 eI1 eL2 => ?_)
  replace eI1 := eI1.symm; subst eI1
  refine x_aload_n 8 C dX8_cross_8 rfl 0 rfl ?_
  refine x_getr 9 C (b := s0 + 1 + 5) dX8_cross_9 ff_X8_28 rfl hO.1 rfl ?_
  refine x_aload 12 C dX8_cross_12 4 rfl ?_
  refine x_aload 14 C dX8_cross_14 5 rfl ?_
  refine x_lload 16 C dX8_cross_16 6 rfl ?_
  refine x_callVe 18 C dX8_cross_18 (As := [.ref b, .ref e0, .long u]) (rest := []) [] (t_X0_putProduct_c l D z n G I L2 (s0 + 1 + 5) b e0 u (hO.2 5 (by decide)) gb ge0 (by omega) (by first | assumption | omega)) mt_X0_putProduct km_X8_31 ki_X0_putProduct ks_X0_putProduct (hO.2 5 (by decide)) ⟨by decide, rfl⟩ rfl rfl (Nat.le_of_ble_eq_true rfl) ⟨⟨by decide, by decide⟩, by decide, by decide⟩ (fun I3 L4 eI3 eL4 => ?_)
  replace eI3 := eI3.symm; subst eI3
  refine x_aload_n 21 C dX8_cross_21 rfl 1 rfl ?_
  refine x_aload_n 22 C dX8_cross_22 rfl 1 rfl ?_
  refine x_aload_n 23 C dX8_cross_23 rfl 0 rfl ?_
  refine x_getr 24 C (b := s0 + 1 + 5) dX8_cross_24 ff_X8_28 rfl hO.1 rfl ?_
  refine x_callVe 27 C dX8_cross_27 (As := [.ref t, .ref (s0 + 1 + 5)]) (rest := []) [] (t_X0_putDifference_c l D z n G I L4 t t (s0 + 1 + 5) gt gt (hO.2 5 (by decide)) (by omega)) mt_X0_putDifference km_X8_35 ki_X0_putDifference ks_X0_putDifference gt ⟨by decide, rfl⟩ rfl rfl (Nat.le_of_ble_eq_true rfl) ⟨⟨by decide, by decide⟩, by decide, by decide⟩ (fun I5 L6 eI5 eL6 => ?_)
  replace eI5 := eI5.symm; subst eI5
  refine x_vret 30 C dX8_cross_30 rfl (Nat.le_refl _) (xN.intro ?_)
  subst eL2; subst eL4; subst eL6
  refine ⟨rfl, rfl, ?_⟩
  rw [rd_cw_ne _ _ hbt, rd_cw_ne _ _ het, rd_cw_ne _ _ hts, rd_cw, rd_cw, cw_comm _ _ _ hts, cw_cw]
  rfl
end
section
/-! Solver.moveBySolution; PathTracker$Equation: an Equation at q holds its parts in the arrays q + 1, q + 2, and a Complex of its own at q + 3 -/
theorem ite01 {P : Prop} [Decidable P] (h : (if P then (0 : Int32) else 1) = 0) : P := by
  by_cases hp : P
  · exact hp
  · rw [if_neg hp] at h; exact absurd h (by decide)
theorem ite01n {P : Prop} [Decidable P] (h : ¬ (if P then (0 : Int32) else 1) = 0) : ¬ P := fun hp => h (if_pos hp)
def solD (u : Int64) (fx fy gx gy : xC) : xC := detC u fx gy fy gx
def solU (u : Int64) (fx fy gx gy r0 r1 : xC) : xC := divC (detC u r0 gy fy r1) (solD u fx fy gx gy) u
def solV (u : Int64) (fx fy gx gy r0 r1 : xC) : xC := divC (detC u fx r1 r0 gx) (solD u fx fy gx gy) u
def solN (u : Int64) (fx fy gx gy : xC) : Int64 := norC (solD u fx fy gx gy) u
def tX (k : Nat) : Nat := ([0, 0, 0, 0, 1, 1, 1, 2, 2, 3] : List Nat).getD k 0
def tY (k : Nat) : Nat := ([0, 1, 2, 3, 0, 1, 2, 0, 1, 0] : List Nat).getD k 0
def tm (i j : Nat) : Nat := (if i = 0 then 0 else if i = 1 then 4 else if i = 2 then 7 else 9) + j
theorem tXY (k : Nat) : tX k + tY k ≤ 3 := by
  rcases Nat.lt_or_ge k 10 with h | h
  · rcases (show k = 0 ∨ k = 1 ∨ k = 2 ∨ k = 3 ∨ k = 4 ∨ k = 5 ∨ k = 6 ∨ k = 7 ∨ k = 8 ∨ k = 9 by omega) with rfl | rfl | rfl | rfl | rfl | rfl | rfl | rfl | rfl | rfl <;> decide
  · have e1 : tX k = 0 := by simp [tX, List.getElem?_eq_none, h]
    have e2 : tY k = 0 := by simp [tY, List.getElem?_eq_none, h]
    omega
theorem xPx_n (k : Nat) : xPx k = nI (tX k) := by
  rcases Nat.lt_or_ge k 10 with h | h
  · rcases (show k = 0 ∨ k = 1 ∨ k = 2 ∨ k = 3 ∨ k = 4 ∨ k = 5 ∨ k = 6 ∨ k = 7 ∨ k = 8 ∨ k = 9 by omega) with rfl | rfl | rfl | rfl | rfl | rfl | rfl | rfl | rfl | rfl <;> decide
  · simp [xPx, tX, List.getElem?_eq_none, h]; rfl
theorem xPy_n (k : Nat) : xPy k = nI (tY k) := by
  rcases Nat.lt_or_ge k 10 with h | h
  · rcases (show k = 0 ∨ k = 1 ∨ k = 2 ∨ k = 3 ∨ k = 4 ∨ k = 5 ∨ k = 6 ∨ k = 7 ∨ k = 8 ∨ k = 9 by omega) with rfl | rfl | rfl | rfl | rfl | rfl | rfl | rfl | rfl | rfl <;> decide
  · simp [xPy, tY, List.getElem?_eq_none, h]; rfl
theorem xFt_n {i : Nat} (h : i < 4) : xFt i = nI (tm i 0) := by
  rcases (show i = 0 ∨ i = 1 ∨ i = 2 ∨ i = 3 by omega) with rfl | rfl | rfl | rfl <;> decide
theorem tm_lt {i j : Nat} (h : i + j ≤ 3) : tm i j < 10 := by
  unfold tm
  split
  · omega
  · split
    · omega
    · split <;> omega
def rEq (q : Nat) : Nat → Option Nat := va_up (va_up (va_up rN 0 (some (q + 1))) 1 (some (q + 2))) 2 (some (q + 3))
def shE (G : xG) (q : Nat) : Prop := G q = some (1, 0, rEq q) ∧ G (q + 1) = some (20, 10, rN) ∧ G (q + 2) = some (20, 10, rN) ∧ G (q + 3) = some (0, 0, rN)
def imax (x y : Int32) : Int32 := if x < y then y else x
def heldc (x : Int32) : Int32 := imax (-999) (imin 999 x)
def eqFill (I : xI) (q k : Nat) (f g : Nat → Int32) : xI := fun a j => if a = q + 1 ∧ j < k then f j else if a = q + 2 ∧ j < k then g j else I a j
theorem eqFill_0 (I : xI) (q : Nat) (f g : Nat → Int32) : eqFill I q 0 f g = I := by funext a j; simp [eqFill]
theorem eqFill_succ (I : xI) (q k : Nat) (f g : Nat → Int32) : xup (xup (eqFill I q k f g) (q + 1) k (f k)) (q + 2) k (g k) = eqFill I q (k + 1) f g := by
  funext a j
  have e : (j < k + 1) ↔ (j < k ∨ j = k) := by omega
  simp only [eqFill, xup, e]
  by_cases h1 : a = q + 1 <;> by_cases h2 : a = q + 2 <;> by_cases h3 : j = k <;> by_cases h4 : j < k <;> simp_all
def addT (I : xI) (q m : Nat) (pr pi : Int32) : xI := xup (xup I (q + 1) m (heldc (I (q + 1) m + pr))) (q + 2) m (heldc (I (q + 2) m + pi))
/-- the start equation of a degree -/
def stRe (m : Nat) (j : Nat) : Int32 := if j = m then 1 else if j = 0 then -1 else 0
def dgN (cr ci : Nat → Int32) : Nat → Nat
  | 0 => 0
  | k + 1 => if cr k = 0 ∧ ci k = 0 then dgN cr ci k else max (dgN cr ci k) (tX k + tY k)
theorem dgN_le (cr ci : Nat → Int32) : ∀ k, dgN cr ci k ≤ 3
  | 0 => Nat.zero_le _
  | k + 1 => by
    have h := dgN_le cr ci k
    have h2 := tXY k
    simp only [dgN]
    split
    · exact h
    · omega
theorem imax_nI {a b : Nat} (ha : a < 2147483648) (hb : b < 2147483648) : (if nI a < nI b then nI b else nI a) = nI (max a b) := by
  by_cases h : a < b
  · rw [if_pos (nI_lt h (by omega)), Nat.max_eq_right (by omega)]
  · rw [if_neg (nI_nlt (by omega) (by omega)), Nat.max_eq_left (by omega)]
/-- value and slopes of an equation, term by term -/
def evV (cr ci : Nat → Int32) (pw : Nat → xC) : Nat → xC
  | 0 => (0, 0)
  | k + 1 => if cr k = 0 ∧ ci k = 0 then evV cr ci pw k else addC (evV cr ci pw k) (gauC (cr k).toInt64 (ci k).toInt64 (pw k))
def evX (cr ci : Nat → Int32) (pw : Nat → xC) : Nat → xC
  | 0 => (0, 0)
  | k + 1 => if cr k = 0 ∧ ci k = 0 then evX cr ci pw k else if 0 < tX k then addC (evX cr ci pw k) (gauC (nI (tX k) * cr k).toInt64 (nI (tX k) * ci k).toInt64 (pw (tm (tX k - 1) (tY k)))) else evX cr ci pw k
def evY (cr ci : Nat → Int32) (pw : Nat → xC) : Nat → xC
  | 0 => (0, 0)
  | k + 1 => if cr k = 0 ∧ ci k = 0 then evY cr ci pw k else if 0 < tY k then addC (evY cr ci pw k) (gauC (nI (tY k) * cr k).toInt64 (nI (tY k) * ci k).toInt64 (pw (tm (tX k) (tY k - 1)))) else evY cr ci pw k

theorem dX8_moveBySolution_0 : decode cX8_moveBySolution 0 = .ok (.aload_n 0, 1) := by decide +kernel
theorem dX8_moveBySolution_1 : decode cX8_moveBySolution 1 = .ok (.aload_n 0, 1) := by decide +kernel
theorem dX8_moveBySolution_2 : decode cX8_moveBySolution 2 = .ok (.getfield 25, 3) := by decide +kernel
theorem dX8_moveBySolution_5 : decode cX8_moveBySolution 5 = .ok (.aload_n 1, 1) := by decide +kernel
theorem dX8_moveBySolution_6 : decode cX8_moveBySolution 6 = .ok (.getfield 39, 3) := by decide +kernel
theorem dX8_moveBySolution_9 : decode cX8_moveBySolution 9 = .ok (.aload_n 2, 1) := by decide +kernel
theorem dX8_moveBySolution_10 : decode cX8_moveBySolution 10 = .ok (.getfield 44, 3) := by decide +kernel
theorem dX8_moveBySolution_13 : decode cX8_moveBySolution 13 = .ok (.aload_n 1, 1) := by decide +kernel
theorem dX8_moveBySolution_14 : decode cX8_moveBySolution 14 = .ok (.getfield 44, 3) := by decide +kernel
theorem dX8_moveBySolution_17 : decode cX8_moveBySolution 17 = .ok (.aload_n 2, 1) := by decide +kernel
theorem dX8_moveBySolution_18 : decode cX8_moveBySolution 18 = .ok (.getfield 39, 3) := by decide +kernel
theorem dX8_moveBySolution_21 : decode cX8_moveBySolution 21 = .ok (.lload 5, 2) := by decide +kernel
theorem dX8_moveBySolution_23 : decode cX8_moveBySolution 23 = .ok (.invokevirtual 47, 3) := by decide +kernel
theorem dX8_moveBySolution_26 : decode cX8_moveBySolution 26 = .ok (.aload_n 0, 1) := by decide +kernel
theorem dX8_moveBySolution_27 : decode cX8_moveBySolution 27 = .ok (.aload_n 0, 1) := by decide +kernel
theorem dX8_moveBySolution_28 : decode cX8_moveBySolution 28 = .ok (.getfield 19, 3) := by decide +kernel
theorem dX8_moveBySolution_31 : decode cX8_moveBySolution 31 = .ok (.aload_n 0, 1) := by decide +kernel
theorem dX8_moveBySolution_32 : decode cX8_moveBySolution 32 = .ok (.getfield 10, 3) := by decide +kernel
theorem dX8_moveBySolution_35 : decode cX8_moveBySolution 35 = .ok (.aload_n 2, 1) := by decide +kernel
theorem dX8_moveBySolution_36 : decode cX8_moveBySolution 36 = .ok (.getfield 44, 3) := by decide +kernel
theorem dX8_moveBySolution_39 : decode cX8_moveBySolution 39 = .ok (.aload_n 1, 1) := by decide +kernel
theorem dX8_moveBySolution_40 : decode cX8_moveBySolution 40 = .ok (.getfield 44, 3) := by decide +kernel
theorem dX8_moveBySolution_43 : decode cX8_moveBySolution 43 = .ok (.aload_n 0, 1) := by decide +kernel
theorem dX8_moveBySolution_44 : decode cX8_moveBySolution 44 = .ok (.getfield 16, 3) := by decide +kernel
theorem dX8_moveBySolution_47 : decode cX8_moveBySolution 47 = .ok (.lload 5, 2) := by decide +kernel
theorem dX8_moveBySolution_49 : decode cX8_moveBySolution 49 = .ok (.invokevirtual 47, 3) := by decide +kernel
theorem dX8_moveBySolution_52 : decode cX8_moveBySolution 52 = .ok (.aload_n 0, 1) := by decide +kernel
theorem dX8_moveBySolution_53 : decode cX8_moveBySolution 53 = .ok (.aload_n 0, 1) := by decide +kernel
theorem dX8_moveBySolution_54 : decode cX8_moveBySolution 54 = .ok (.getfield 22, 3) := by decide +kernel
theorem dX8_moveBySolution_57 : decode cX8_moveBySolution 57 = .ok (.aload_n 1, 1) := by decide +kernel
theorem dX8_moveBySolution_58 : decode cX8_moveBySolution 58 = .ok (.getfield 39, 3) := by decide +kernel
theorem dX8_moveBySolution_61 : decode cX8_moveBySolution 61 = .ok (.aload_n 0, 1) := by decide +kernel
theorem dX8_moveBySolution_62 : decode cX8_moveBySolution 62 = .ok (.getfield 16, 3) := by decide +kernel
theorem dX8_moveBySolution_65 : decode cX8_moveBySolution 65 = .ok (.aload_n 0, 1) := by decide +kernel
theorem dX8_moveBySolution_66 : decode cX8_moveBySolution 66 = .ok (.getfield 10, 3) := by decide +kernel
theorem dX8_moveBySolution_69 : decode cX8_moveBySolution 69 = .ok (.aload_n 2, 1) := by decide +kernel
theorem dX8_moveBySolution_70 : decode cX8_moveBySolution 70 = .ok (.getfield 39, 3) := by decide +kernel
theorem dX8_moveBySolution_73 : decode cX8_moveBySolution 73 = .ok (.lload 5, 2) := by decide +kernel
theorem dX8_moveBySolution_75 : decode cX8_moveBySolution 75 = .ok (.invokevirtual 47, 3) := by decide +kernel
theorem dX8_moveBySolution_78 : decode cX8_moveBySolution 78 = .ok (.aload_n 0, 1) := by decide +kernel
theorem dX8_moveBySolution_79 : decode cX8_moveBySolution 79 = .ok (.getfield 19, 3) := by decide +kernel
theorem dX8_moveBySolution_82 : decode cX8_moveBySolution 82 = .ok (.aload_n 0, 1) := by decide +kernel
theorem dX8_moveBySolution_83 : decode cX8_moveBySolution 83 = .ok (.getfield 25, 3) := by decide +kernel
theorem dX8_moveBySolution_86 : decode cX8_moveBySolution 86 = .ok (.lload 5, 2) := by decide +kernel
theorem dX8_moveBySolution_88 : decode cX8_moveBySolution 88 = .ok (.invokevirtual 51, 3) := by decide +kernel
theorem dX8_moveBySolution_91 : decode cX8_moveBySolution 91 = .ok (.ifCond .eq 19, 3) := by decide +kernel
theorem dX8_moveBySolution_94 : decode cX8_moveBySolution 94 = .ok (.aload_n 0, 1) := by decide +kernel
theorem dX8_moveBySolution_95 : decode cX8_moveBySolution 95 = .ok (.getfield 22, 3) := by decide +kernel
theorem dX8_moveBySolution_98 : decode cX8_moveBySolution 98 = .ok (.aload_n 0, 1) := by decide +kernel
theorem dX8_moveBySolution_99 : decode cX8_moveBySolution 99 = .ok (.getfield 25, 3) := by decide +kernel
theorem dX8_moveBySolution_102 : decode cX8_moveBySolution 102 = .ok (.lload 5, 2) := by decide +kernel
theorem dX8_moveBySolution_104 : decode cX8_moveBySolution 104 = .ok (.invokevirtual 51, 3) := by decide +kernel
theorem dX8_moveBySolution_107 : decode cX8_moveBySolution 107 = .ok (.ifCond .ne 5, 3) := by decide +kernel
theorem dX8_moveBySolution_110 : decode cX8_moveBySolution 110 = .ok (.iconst 0, 1) := by decide +kernel
theorem dX8_moveBySolution_111 : decode cX8_moveBySolution 111 = .ok (.ireturn, 1) := by decide +kernel
theorem dX8_moveBySolution_112 : decode cX8_moveBySolution 112 = .ok (.aload_n 3, 1) := by decide +kernel
theorem dX8_moveBySolution_113 : decode cX8_moveBySolution 113 = .ok (.aload_n 0, 1) := by decide +kernel
theorem dX8_moveBySolution_114 : decode cX8_moveBySolution 114 = .ok (.getfield 19, 3) := by decide +kernel
theorem dX8_moveBySolution_117 : decode cX8_moveBySolution 117 = .ok (.invokevirtual 55, 3) := by decide +kernel
theorem dX8_moveBySolution_120 : decode cX8_moveBySolution 120 = .ok (.aload 4, 2) := by decide +kernel
theorem dX8_moveBySolution_122 : decode cX8_moveBySolution 122 = .ok (.aload_n 0, 1) := by decide +kernel
theorem dX8_moveBySolution_123 : decode cX8_moveBySolution 123 = .ok (.getfield 22, 3) := by decide +kernel
theorem dX8_moveBySolution_126 : decode cX8_moveBySolution 126 = .ok (.invokevirtual 55, 3) := by decide +kernel
theorem dX8_moveBySolution_129 : decode cX8_moveBySolution 129 = .ok (.iconst 1, 1) := by decide +kernel
theorem dX8_moveBySolution_130 : decode cX8_moveBySolution 130 = .ok (.ireturn, 1) := by decide +kernel
set_option maxHeartbeats 4000000 in
set_option maxRecDepth 100000 in
theorem t_X8_moveBySolution (l : Launch) (D : xD) (z n : Nat) (G : xG) (I : xI) (L : xL) (s0 : Nat) (t1 : Nat) (t2 : Nat) (x : Nat) (y : Nat) (u : Int64) (hO : shO G s0) (h1 : shT G t1) (h2 : shT G t2) (gx : G x = some (0, 0, rN)) (gy : G y = some (0, 0, rN)) (zs : z ≤ s0) (zx : z ≤ x) (zy : z ≤ y) (d1 : t1 + 3 < s0 ∨ s0 + 6 < t1) (d2 : t2 + 3 < s0 ∨ s0 + 6 < t2) (dx : x < s0 ∨ s0 + 6 < x) (dy : y < s0 ∨ s0 + 6 < y) (hxy : x ≠ y) (hu : ¬ u = 0) : xM0 l D z yX8_moveBySolution cX8_moveBySolution 7 (some .boolean) 3 75 [.ref s0, .ref t1, .ref t2, .ref x, .ref y, .long u] n G I L (fun v' I' L' => v' = (some (.int (if solN u (rd L (t1 + 2)) (rd L (t1 + 3)) (rd L (t2 + 2)) (rd L (t2 + 3)) = 0 then 0 else 1))) ∧ I' = I ∧ (rd L' x = if solN u (rd L (t1 + 2)) (rd L (t1 + 3)) (rd L (t2 + 2)) (rd L (t2 + 3)) = 0 then rd L x else addC (rd L x) (solU u (rd L (t1 + 2)) (rd L (t1 + 3)) (rd L (t2 + 2)) (rd L (t2 + 3)) (rd L (s0 + 1 + 0)) (rd L (s0 + 1 + 1)))) ∧ (rd L' y = if solN u (rd L (t1 + 2)) (rd L (t1 + 3)) (rd L (t2 + 2)) (rd L (t2 + 3)) = 0 then rd L y else addC (rd L y) (solV u (rd L (t1 + 2)) (rd L (t1 + 3)) (rd L (t2 + 2)) (rd L (t2 + 3)) (rd L (s0 + 1 + 0)) (rd L (s0 + 1 + 1)))) ∧ (¬ solN u (rd L (t1 + 2)) (rd L (t1 + 3)) (rd L (t2 + 2)) (rd L (t2 + 3)) = 0 → rd L' (s0 + 1 + 2) = solU u (rd L (t1 + 2)) (rd L (t1 + 3)) (rd L (t2 + 2)) (rd L (t2 + 3)) (rd L (s0 + 1 + 0)) (rd L (s0 + 1 + 1)) ∧ rd L' (s0 + 1 + 3) = solV u (rd L (t1 + 2)) (rd L (t1 + 3)) (rd L (t2 + 2)) (rd L (t2 + 3)) (rd L (s0 + 1 + 0)) (rd L (s0 + 1 + 1))) ∧ (∀ q, (q < s0 + 3 ∨ s0 + 6 < q) → q ≠ x → q ≠ y → L' q = L q)) := by
  refine xM.of (by decide) (Nat.le_of_ble_eq_true rfl) (fun p e s m args below meth c C hnm hsz => ?_)
  refine x_lv [(0, .ref s0), (1, .ref t1), (2, .ref t2), (3, .ref x), (4, .ref y), (5, .long u)] rfl ?_
  refine x_aload_n 0 C dX8_moveBySolution_0 rfl 0 rfl ?_
  refine x_aload_n 1 C dX8_moveBySolution_1 rfl 0 rfl ?_
  refine x_getr 2 C (b := s0 + 1 + 4) dX8_moveBySolution_2 ff_X8_25 rfl hO.1 rfl ?_
  refine x_aload_n 5 C dX8_moveBySolution_5 rfl 1 rfl ?_
  refine x_getr 6 C (b := t1 + 2) dX8_moveBySolution_6 ff_X8_39 rfl h1.1 rfl ?_
  refine x_aload_n 9 C dX8_moveBySolution_9 rfl 2 rfl ?_
  refine x_getr 10 C (b := t2 + 3) dX8_moveBySolution_10 ff_X8_44 rfl h2.1 rfl ?_
  refine x_aload_n 13 C dX8_moveBySolution_13 rfl 1 rfl ?_
  refine x_getr 14 C (b := t1 + 3) dX8_moveBySolution_14 ff_X8_44 rfl h1.1 rfl ?_
  refine x_aload_n 17 C dX8_moveBySolution_17 rfl 2 rfl ?_
  refine x_getr 18 C (b := t2 + 2) dX8_moveBySolution_18 ff_X8_39 rfl h2.1 rfl ?_
  refine x_lload 21 C dX8_moveBySolution_21 5 rfl ?_
  refine x_callVe 23 C dX8_moveBySolution_23 (As := [.ref (s0 + 1 + 4), .ref (t1 + 2), .ref (t2 + 3), .ref (t1 + 3), .ref (t2 + 2), .long u]) (rest := []) [] (t_X8_cross l D z n G I L s0 (s0 + 1 + 4) (t1 + 2) (t2 + 3) (t1 + 3) (t2 + 2) u hO (hO.2 4 (by decide)) h1.2.2.1 h2.2.2.2 h1.2.2.2 h2.2.2.1 (by omega) (by omega) (by first | assumption | omega) (by first | assumption | omega) (by first | assumption | omega) (by first | assumption | omega)) mt_X8_cross km_X8_47 ki_X8_cross ks_X8_cross hO.1 ⟨by decide, rfl⟩ rfl rfl (Nat.le_of_ble_eq_true rfl) ⟨⟨by decide, by decide⟩, by decide, by decide⟩ (fun I1 L2 eI1 eL2 => ?_)
  replace eI1 := eI1.symm; subst eI1
  have k3 : rd L2 (t1 + 2) = rd L (t1 + 2) := by rw [eL2, rd_cw_ne _ _ (by omega), rd_cw_ne _ _ (by omega)]
  have k4 : rd L2 (t1 + 3) = rd L (t1 + 3) := by rw [eL2, rd_cw_ne _ _ (by omega), rd_cw_ne _ _ (by omega)]
  have k5 : rd L2 (t2 + 2) = rd L (t2 + 2) := by rw [eL2, rd_cw_ne _ _ (by omega), rd_cw_ne _ _ (by omega)]
  have k6 : rd L2 (t2 + 3) = rd L (t2 + 3) := by rw [eL2, rd_cw_ne _ _ (by omega), rd_cw_ne _ _ (by omega)]
  have k7 : rd L2 (s0 + 1 + 0) = rd L (s0 + 1 + 0) := by rw [eL2, rd_cw_ne _ _ (by omega), rd_cw_ne _ _ (by omega)]
  have k8 : rd L2 (s0 + 1 + 1) = rd L (s0 + 1 + 1) := by rw [eL2, rd_cw_ne _ _ (by omega), rd_cw_ne _ _ (by omega)]
  have k9 : rd L2 (s0 + 1 + 2) = rd L (s0 + 1 + 2) := by rw [eL2, rd_cw_ne _ _ (by omega), rd_cw_ne _ _ (by omega)]
  have k10 : rd L2 (s0 + 1 + 3) = rd L (s0 + 1 + 3) := by rw [eL2, rd_cw_ne _ _ (by omega), rd_cw_ne _ _ (by omega)]
  have k11 : rd L2 (s0 + 1 + 4) = detC u (rd L (t1 + 2)) (rd L (t2 + 3)) (rd L (t1 + 3)) (rd L (t2 + 2)) := by rw [eL2, rd_cw]
  have k12 : rd L2 (s0 + 1 + 5) = mulC u (rd L (t1 + 3)) (rd L (t2 + 2)) := by rw [eL2, rd_cw_ne _ _ (by omega), rd_cw]
  have k13 : rd L2 x = rd L x := by rw [eL2, rd_cw_ne _ _ (by omega), rd_cw_ne _ _ (by omega)]
  have k14 : rd L2 y = rd L y := by rw [eL2, rd_cw_ne _ _ (by omega), rd_cw_ne _ _ (by omega)]
  refine x_aload_n 26 C dX8_moveBySolution_26 rfl 0 rfl ?_
  refine x_aload_n 27 C dX8_moveBySolution_27 rfl 0 rfl ?_
  refine x_getr 28 C (b := s0 + 1 + 2) dX8_moveBySolution_28 ff_X8_19 rfl hO.1 rfl ?_
  refine x_aload_n 31 C dX8_moveBySolution_31 rfl 0 rfl ?_
  refine x_getr 32 C (b := s0 + 1 + 0) dX8_moveBySolution_32 ff_X8_10 rfl hO.1 rfl ?_
  refine x_aload_n 35 C dX8_moveBySolution_35 rfl 2 rfl ?_
  refine x_getr 36 C (b := t2 + 3) dX8_moveBySolution_36 ff_X8_44 rfl h2.1 rfl ?_
  refine x_aload_n 39 C dX8_moveBySolution_39 rfl 1 rfl ?_
  refine x_getr 40 C (b := t1 + 3) dX8_moveBySolution_40 ff_X8_44 rfl h1.1 rfl ?_
  refine x_aload_n 43 C dX8_moveBySolution_43 rfl 0 rfl ?_
  refine x_getr 44 C (b := s0 + 1 + 1) dX8_moveBySolution_44 ff_X8_16 rfl hO.1 rfl ?_
  refine x_lload 47 C dX8_moveBySolution_47 5 rfl ?_
  refine x_callVe 49 C dX8_moveBySolution_49 (As := [.ref (s0 + 1 + 2), .ref (s0 + 1 + 0), .ref (t2 + 3), .ref (t1 + 3), .ref (s0 + 1 + 1), .long u]) (rest := []) [] (t_X8_cross l D z n G I L2 s0 (s0 + 1 + 2) (s0 + 1 + 0) (t2 + 3) (t1 + 3) (s0 + 1 + 1) u hO (hO.2 2 (by decide)) (hO.2 0 (by decide)) h2.2.2.2 h1.2.2.2 (hO.2 1 (by decide)) (by omega) (by omega) (by first | assumption | omega) (by first | assumption | omega) (by first | assumption | omega) (by first | assumption | omega)) mt_X8_cross km_X8_47 ki_X8_cross ks_X8_cross hO.1 ⟨by decide, rfl⟩ rfl rfl (Nat.le_of_ble_eq_true rfl) ⟨⟨by decide, by decide⟩, by decide, by decide⟩ (fun I15 L16 eI15 eL16 => ?_)
  replace eI15 := eI15.symm; subst eI15
  have k17 : rd L16 (t1 + 2) = rd L (t1 + 2) := by rw [eL16, rd_cw_ne _ _ (by omega), rd_cw_ne _ _ (by omega)]; exact k3
  have k18 : rd L16 (t1 + 3) = rd L (t1 + 3) := by rw [eL16, rd_cw_ne _ _ (by omega), rd_cw_ne _ _ (by omega)]; exact k4
  have k19 : rd L16 (t2 + 2) = rd L (t2 + 2) := by rw [eL16, rd_cw_ne _ _ (by omega), rd_cw_ne _ _ (by omega)]; exact k5
  have k20 : rd L16 (t2 + 3) = rd L (t2 + 3) := by rw [eL16, rd_cw_ne _ _ (by omega), rd_cw_ne _ _ (by omega)]; exact k6
  have k21 : rd L16 (s0 + 1 + 0) = rd L (s0 + 1 + 0) := by rw [eL16, rd_cw_ne _ _ (by omega), rd_cw_ne _ _ (by omega)]; exact k7
  have k22 : rd L16 (s0 + 1 + 1) = rd L (s0 + 1 + 1) := by rw [eL16, rd_cw_ne _ _ (by omega), rd_cw_ne _ _ (by omega)]; exact k8
  have k23 : rd L16 (s0 + 1 + 2) = detC u (rd L (s0 + 1 + 0)) (rd L (t2 + 3)) (rd L (t1 + 3)) (rd L (s0 + 1 + 1)) := by rw [eL16, rd_cw]; simp only [k7, k6, k4, k8]
  have k24 : rd L16 (s0 + 1 + 3) = rd L (s0 + 1 + 3) := by rw [eL16, rd_cw_ne _ _ (by omega), rd_cw_ne _ _ (by omega)]; exact k10
  have k25 : rd L16 (s0 + 1 + 4) = detC u (rd L (t1 + 2)) (rd L (t2 + 3)) (rd L (t1 + 3)) (rd L (t2 + 2)) := by rw [eL16, rd_cw_ne _ _ (by omega), rd_cw_ne _ _ (by omega)]; exact k11
  have k26 : rd L16 (s0 + 1 + 5) = mulC u (rd L (t1 + 3)) (rd L (s0 + 1 + 1)) := by rw [eL16, rd_cw_ne _ _ (by omega), rd_cw]; simp only [k4, k8]
  have k27 : rd L16 x = rd L x := by rw [eL16, rd_cw_ne _ _ (by omega), rd_cw_ne _ _ (by omega)]; exact k13
  have k28 : rd L16 y = rd L y := by rw [eL16, rd_cw_ne _ _ (by omega), rd_cw_ne _ _ (by omega)]; exact k14
  refine x_aload_n 52 C dX8_moveBySolution_52 rfl 0 rfl ?_
  refine x_aload_n 53 C dX8_moveBySolution_53 rfl 0 rfl ?_
  refine x_getr 54 C (b := s0 + 1 + 3) dX8_moveBySolution_54 ff_X8_22 rfl hO.1 rfl ?_
  refine x_aload_n 57 C dX8_moveBySolution_57 rfl 1 rfl ?_
  refine x_getr 58 C (b := t1 + 2) dX8_moveBySolution_58 ff_X8_39 rfl h1.1 rfl ?_
  refine x_aload_n 61 C dX8_moveBySolution_61 rfl 0 rfl ?_
  refine x_getr 62 C (b := s0 + 1 + 1) dX8_moveBySolution_62 ff_X8_16 rfl hO.1 rfl ?_
  refine x_aload_n 65 C dX8_moveBySolution_65 rfl 0 rfl ?_
  refine x_getr 66 C (b := s0 + 1 + 0) dX8_moveBySolution_66 ff_X8_10 rfl hO.1 rfl ?_
  refine x_aload_n 69 C dX8_moveBySolution_69 rfl 2 rfl ?_
  refine x_getr 70 C (b := t2 + 2) dX8_moveBySolution_70 ff_X8_39 rfl h2.1 rfl ?_
  refine x_lload 73 C dX8_moveBySolution_73 5 rfl ?_
  refine x_callVe 75 C dX8_moveBySolution_75 (As := [.ref (s0 + 1 + 3), .ref (t1 + 2), .ref (s0 + 1 + 1), .ref (s0 + 1 + 0), .ref (t2 + 2), .long u]) (rest := []) [] (t_X8_cross l D z n G I L16 s0 (s0 + 1 + 3) (t1 + 2) (s0 + 1 + 1) (s0 + 1 + 0) (t2 + 2) u hO (hO.2 3 (by decide)) h1.2.2.1 (hO.2 1 (by decide)) (hO.2 0 (by decide)) h2.2.2.1 (by omega) (by omega) (by first | assumption | omega) (by first | assumption | omega) (by first | assumption | omega) (by first | assumption | omega)) mt_X8_cross km_X8_47 ki_X8_cross ks_X8_cross hO.1 ⟨by decide, rfl⟩ rfl rfl (Nat.le_of_ble_eq_true rfl) ⟨⟨by decide, by decide⟩, by decide, by decide⟩ (fun I29 L30 eI29 eL30 => ?_)
  replace eI29 := eI29.symm; subst eI29
  have k31 : rd L30 (t1 + 2) = rd L (t1 + 2) := by rw [eL30, rd_cw_ne _ _ (by omega), rd_cw_ne _ _ (by omega)]; exact k17
  have k32 : rd L30 (t1 + 3) = rd L (t1 + 3) := by rw [eL30, rd_cw_ne _ _ (by omega), rd_cw_ne _ _ (by omega)]; exact k18
  have k33 : rd L30 (t2 + 2) = rd L (t2 + 2) := by rw [eL30, rd_cw_ne _ _ (by omega), rd_cw_ne _ _ (by omega)]; exact k19
  have k34 : rd L30 (t2 + 3) = rd L (t2 + 3) := by rw [eL30, rd_cw_ne _ _ (by omega), rd_cw_ne _ _ (by omega)]; exact k20
  have k35 : rd L30 (s0 + 1 + 0) = rd L (s0 + 1 + 0) := by rw [eL30, rd_cw_ne _ _ (by omega), rd_cw_ne _ _ (by omega)]; exact k21
  have k36 : rd L30 (s0 + 1 + 1) = rd L (s0 + 1 + 1) := by rw [eL30, rd_cw_ne _ _ (by omega), rd_cw_ne _ _ (by omega)]; exact k22
  have k37 : rd L30 (s0 + 1 + 2) = detC u (rd L (s0 + 1 + 0)) (rd L (t2 + 3)) (rd L (t1 + 3)) (rd L (s0 + 1 + 1)) := by rw [eL30, rd_cw_ne _ _ (by omega), rd_cw_ne _ _ (by omega)]; exact k23
  have k38 : rd L30 (s0 + 1 + 3) = detC u (rd L (t1 + 2)) (rd L (s0 + 1 + 1)) (rd L (s0 + 1 + 0)) (rd L (t2 + 2)) := by rw [eL30, rd_cw]; simp only [k17, k22, k21, k19]
  have k39 : rd L30 (s0 + 1 + 4) = detC u (rd L (t1 + 2)) (rd L (t2 + 3)) (rd L (t1 + 3)) (rd L (t2 + 2)) := by rw [eL30, rd_cw_ne _ _ (by omega), rd_cw_ne _ _ (by omega)]; exact k25
  have k40 : rd L30 (s0 + 1 + 5) = mulC u (rd L (s0 + 1 + 0)) (rd L (t2 + 2)) := by rw [eL30, rd_cw_ne _ _ (by omega), rd_cw]; simp only [k21, k19]
  have k41 : rd L30 x = rd L x := by rw [eL30, rd_cw_ne _ _ (by omega), rd_cw_ne _ _ (by omega)]; exact k27
  have k42 : rd L30 y = rd L y := by rw [eL30, rd_cw_ne _ _ (by omega), rd_cw_ne _ _ (by omega)]; exact k28
  by_cases hn : solN u (rd L (t1 + 2)) (rd L (t1 + 3)) (rd L (t2 + 2)) (rd L (t2 + 3)) = 0
  · skip
    refine x_aload_n 78 C dX8_moveBySolution_78 rfl 0 rfl ?_
    refine x_getr 79 C (b := s0 + 1 + 2) dX8_moveBySolution_79 ff_X8_19 rfl hO.1 rfl ?_
    refine x_aload_n 82 C dX8_moveBySolution_82 rfl 0 rfl ?_
    refine x_getr 83 C (b := s0 + 1 + 4) dX8_moveBySolution_83 ff_X8_25 rfl hO.1 rfl ?_
    refine x_lload 86 C dX8_moveBySolution_86 5 rfl ?_
    refine x_callVe 88 C dX8_moveBySolution_88 (As := [.ref (s0 + 1 + 4), .long u]) (rest := []) [.int 0] (t_X0_divideBy_z l D z n G I L30 (s0 + 1 + 2) (s0 + 1 + 4) u (hO.2 2 (by decide)) (hO.2 4 (by decide)) (by omega) (by first | assumption | omega) (by rw [k39]; exact hn)) mt_X0_divideBy km_X8_51 ki_X0_divideBy ks_X0_divideBy (hO.2 2 (by decide)) ⟨by decide, rfl⟩ rfl rfl (Nat.le_of_ble_eq_true rfl) ⟨⟨by decide, by decide⟩, by decide, by decide⟩ (fun I43 L44 eI43 eL44 => ?_)
    replace eI43 := eI43.symm; subst eI43
    replace eL44 := eL44.symm; subst eL44
    refine x_if_eq 91 C 110 dX8_moveBySolution_91 (by decide) (fun _ => ?_) (fun c45 => absurd (by decide) c45)
    refine x_iconst 110 C (v := 0) dX8_moveBySolution_110 rfl ?_
    refine x_iret 111 C dX8_moveBySolution_111 rfl rfl (Nat.le_refl _) (xN.intro ?_)
    refine ⟨by rw [if_pos hn], rfl, by rw [if_pos hn]; exact k41, by rw [if_pos hn]; exact k42, fun h => absurd hn h, fun q g1 g2 g3 => ?_⟩
    rw [eL30, cw_ne _ _ (by omega), cw_ne _ _ (by omega)]; rw [eL16, cw_ne _ _ (by omega), cw_ne _ _ (by omega)]; rw [eL2, cw_ne _ _ (by omega), cw_ne _ _ (by omega)]
  · skip
    refine x_aload_n 78 C dX8_moveBySolution_78 rfl 0 rfl ?_
    refine x_getr 79 C (b := s0 + 1 + 2) dX8_moveBySolution_79 ff_X8_19 rfl hO.1 rfl ?_
    refine x_aload_n 82 C dX8_moveBySolution_82 rfl 0 rfl ?_
    refine x_getr 83 C (b := s0 + 1 + 4) dX8_moveBySolution_83 ff_X8_25 rfl hO.1 rfl ?_
    refine x_lload 86 C dX8_moveBySolution_86 5 rfl ?_
    refine x_callVe 88 C dX8_moveBySolution_88 (As := [.ref (s0 + 1 + 4), .long u]) (rest := []) [.int 1] (t_X0_divideBy_n l D z n G I L30 (s0 + 1 + 2) (s0 + 1 + 4) u (hO.2 2 (by decide)) (hO.2 4 (by decide)) (by omega) (by first | assumption | omega) (by rw [k39]; exact hn)) mt_X0_divideBy km_X8_51 ki_X0_divideBy ks_X0_divideBy (hO.2 2 (by decide)) ⟨by decide, rfl⟩ rfl rfl (Nat.le_of_ble_eq_true rfl) ⟨⟨by decide, by decide⟩, by decide, by decide⟩ (fun I46 L47 eI46 eL47 => ?_)
    replace eI46 := eI46.symm; subst eI46
    have k48 : rd L47 (t1 + 2) = rd L (t1 + 2) := by rw [eL47, rd_cw_ne _ _ (by omega)]; exact k31
    have k49 : rd L47 (t1 + 3) = rd L (t1 + 3) := by rw [eL47, rd_cw_ne _ _ (by omega)]; exact k32
    have k50 : rd L47 (t2 + 2) = rd L (t2 + 2) := by rw [eL47, rd_cw_ne _ _ (by omega)]; exact k33
    have k51 : rd L47 (t2 + 3) = rd L (t2 + 3) := by rw [eL47, rd_cw_ne _ _ (by omega)]; exact k34
    have k52 : rd L47 (s0 + 1 + 0) = rd L (s0 + 1 + 0) := by rw [eL47, rd_cw_ne _ _ (by omega)]; exact k35
    have k53 : rd L47 (s0 + 1 + 1) = rd L (s0 + 1 + 1) := by rw [eL47, rd_cw_ne _ _ (by omega)]; exact k36
    have k54 : rd L47 (s0 + 1 + 2) = divC (detC u (rd L (s0 + 1 + 0)) (rd L (t2 + 3)) (rd L (t1 + 3)) (rd L (s0 + 1 + 1))) (detC u (rd L (t1 + 2)) (rd L (t2 + 3)) (rd L (t1 + 3)) (rd L (t2 + 2))) u := by rw [eL47, rd_cw]; simp only [k37, k39]
    have k55 : rd L47 (s0 + 1 + 3) = detC u (rd L (t1 + 2)) (rd L (s0 + 1 + 1)) (rd L (s0 + 1 + 0)) (rd L (t2 + 2)) := by rw [eL47, rd_cw_ne _ _ (by omega)]; exact k38
    have k56 : rd L47 (s0 + 1 + 4) = detC u (rd L (t1 + 2)) (rd L (t2 + 3)) (rd L (t1 + 3)) (rd L (t2 + 2)) := by rw [eL47, rd_cw_ne _ _ (by omega)]; exact k39
    have k57 : rd L47 (s0 + 1 + 5) = mulC u (rd L (s0 + 1 + 0)) (rd L (t2 + 2)) := by rw [eL47, rd_cw_ne _ _ (by omega)]; exact k40
    have k58 : rd L47 x = rd L x := by rw [eL47, rd_cw_ne _ _ (by omega)]; exact k41
    have k59 : rd L47 y = rd L y := by rw [eL47, rd_cw_ne _ _ (by omega)]; exact k42
    refine x_if_eq 91 C 110 dX8_moveBySolution_91 (by decide) (fun c60 => absurd c60 (by decide)) (fun _ => ?_)
    refine x_aload_n 94 C dX8_moveBySolution_94 rfl 0 rfl ?_
    refine x_getr 95 C (b := s0 + 1 + 3) dX8_moveBySolution_95 ff_X8_22 rfl hO.1 rfl ?_
    refine x_aload_n 98 C dX8_moveBySolution_98 rfl 0 rfl ?_
    refine x_getr 99 C (b := s0 + 1 + 4) dX8_moveBySolution_99 ff_X8_25 rfl hO.1 rfl ?_
    refine x_lload 102 C dX8_moveBySolution_102 5 rfl ?_
    refine x_callVe 104 C dX8_moveBySolution_104 (As := [.ref (s0 + 1 + 4), .long u]) (rest := []) [.int 1] (t_X0_divideBy_n l D z n G I L47 (s0 + 1 + 3) (s0 + 1 + 4) u (hO.2 3 (by decide)) (hO.2 4 (by decide)) (by omega) (by first | assumption | omega) (by rw [k56]; exact hn)) mt_X0_divideBy km_X8_51 ki_X0_divideBy ks_X0_divideBy (hO.2 3 (by decide)) ⟨by decide, rfl⟩ rfl rfl (Nat.le_of_ble_eq_true rfl) ⟨⟨by decide, by decide⟩, by decide, by decide⟩ (fun I61 L62 eI61 eL62 => ?_)
    replace eI61 := eI61.symm; subst eI61
    have k63 : rd L62 (t1 + 2) = rd L (t1 + 2) := by rw [eL62, rd_cw_ne _ _ (by omega)]; exact k48
    have k64 : rd L62 (t1 + 3) = rd L (t1 + 3) := by rw [eL62, rd_cw_ne _ _ (by omega)]; exact k49
    have k65 : rd L62 (t2 + 2) = rd L (t2 + 2) := by rw [eL62, rd_cw_ne _ _ (by omega)]; exact k50
    have k66 : rd L62 (t2 + 3) = rd L (t2 + 3) := by rw [eL62, rd_cw_ne _ _ (by omega)]; exact k51
    have k67 : rd L62 (s0 + 1 + 0) = rd L (s0 + 1 + 0) := by rw [eL62, rd_cw_ne _ _ (by omega)]; exact k52
    have k68 : rd L62 (s0 + 1 + 1) = rd L (s0 + 1 + 1) := by rw [eL62, rd_cw_ne _ _ (by omega)]; exact k53
    have k69 : rd L62 (s0 + 1 + 2) = divC (detC u (rd L (s0 + 1 + 0)) (rd L (t2 + 3)) (rd L (t1 + 3)) (rd L (s0 + 1 + 1))) (detC u (rd L (t1 + 2)) (rd L (t2 + 3)) (rd L (t1 + 3)) (rd L (t2 + 2))) u := by rw [eL62, rd_cw_ne _ _ (by omega)]; exact k54
    have k70 : rd L62 (s0 + 1 + 3) = divC (detC u (rd L (t1 + 2)) (rd L (s0 + 1 + 1)) (rd L (s0 + 1 + 0)) (rd L (t2 + 2))) (detC u (rd L (t1 + 2)) (rd L (t2 + 3)) (rd L (t1 + 3)) (rd L (t2 + 2))) u := by rw [eL62, rd_cw]; simp only [k55, k56]
    have k71 : rd L62 (s0 + 1 + 4) = detC u (rd L (t1 + 2)) (rd L (t2 + 3)) (rd L (t1 + 3)) (rd L (t2 + 2)) := by rw [eL62, rd_cw_ne _ _ (by omega)]; exact k56
    have k72 : rd L62 (s0 + 1 + 5) = mulC u (rd L (s0 + 1 + 0)) (rd L (t2 + 2)) := by rw [eL62, rd_cw_ne _ _ (by omega)]; exact k57
    have k73 : rd L62 x = rd L x := by rw [eL62, rd_cw_ne _ _ (by omega)]; exact k58
    have k74 : rd L62 y = rd L y := by rw [eL62, rd_cw_ne _ _ (by omega)]; exact k59
    refine x_if_ne 107 C 112 dX8_moveBySolution_107 (by decide) (fun _ => ?_) (fun c75 => absurd c75 (by decide))
    refine x_aload_n 112 C dX8_moveBySolution_112 rfl 3 rfl ?_
    refine x_aload_n 113 C dX8_moveBySolution_113 rfl 0 rfl ?_
    refine x_getr 114 C (b := s0 + 1 + 2) dX8_moveBySolution_114 ff_X8_19 rfl hO.1 rfl ?_
    refine x_callVe 117 C dX8_moveBySolution_117 (As := [.ref (s0 + 1 + 2)]) (rest := []) [] (t_X0_add_c l D z n G I L62 x (s0 + 1 + 2) gx (hO.2 2 (by decide)) (by omega)) mt_X0_add km_X8_55 ki_X0_add ks_X0_add gx ⟨by decide, rfl⟩ rfl rfl (Nat.le_of_ble_eq_true rfl) ⟨⟨by decide, by decide⟩, by decide, by decide⟩ (fun I76 L77 eI76 eL77 => ?_)
    replace eI76 := eI76.symm; subst eI76
    have k78 : rd L77 (s0 + 1 + 2) = divC (detC u (rd L (s0 + 1 + 0)) (rd L (t2 + 3)) (rd L (t1 + 3)) (rd L (s0 + 1 + 1))) (detC u (rd L (t1 + 2)) (rd L (t2 + 3)) (rd L (t1 + 3)) (rd L (t2 + 2))) u := by rw [eL77, rd_cw_ne _ _ (by omega)]; exact k69
    have k79 : rd L77 (s0 + 1 + 3) = divC (detC u (rd L (t1 + 2)) (rd L (s0 + 1 + 1)) (rd L (s0 + 1 + 0)) (rd L (t2 + 2))) (detC u (rd L (t1 + 2)) (rd L (t2 + 3)) (rd L (t1 + 3)) (rd L (t2 + 2))) u := by rw [eL77, rd_cw_ne _ _ (by omega)]; exact k70
    have k80 : rd L77 x = addC (rd L x) (divC (detC u (rd L (s0 + 1 + 0)) (rd L (t2 + 3)) (rd L (t1 + 3)) (rd L (s0 + 1 + 1))) (detC u (rd L (t1 + 2)) (rd L (t2 + 3)) (rd L (t1 + 3)) (rd L (t2 + 2))) u) := by rw [eL77, rd_cw]; simp only [k73, k69]
    have k81 : rd L77 y = rd L y := by rw [eL77, rd_cw_ne _ _ (by omega)]; exact k74
    refine x_aload 120 C dX8_moveBySolution_120 4 rfl ?_
    refine x_aload_n 122 C dX8_moveBySolution_122 rfl 0 rfl ?_
    refine x_getr 123 C (b := s0 + 1 + 3) dX8_moveBySolution_123 ff_X8_22 rfl hO.1 rfl ?_
    refine x_callVe 126 C dX8_moveBySolution_126 (As := [.ref (s0 + 1 + 3)]) (rest := []) [] (t_X0_add_c l D z n G I L77 y (s0 + 1 + 3) gy (hO.2 3 (by decide)) (by omega)) mt_X0_add km_X8_55 ki_X0_add ks_X0_add gy ⟨by decide, rfl⟩ rfl rfl (Nat.le_of_ble_eq_true rfl) ⟨⟨by decide, by decide⟩, by decide, by decide⟩ (fun I82 L83 eI82 eL83 => ?_)
    replace eI82 := eI82.symm; subst eI82
    have k84 : rd L83 (s0 + 1 + 2) = divC (detC u (rd L (s0 + 1 + 0)) (rd L (t2 + 3)) (rd L (t1 + 3)) (rd L (s0 + 1 + 1))) (detC u (rd L (t1 + 2)) (rd L (t2 + 3)) (rd L (t1 + 3)) (rd L (t2 + 2))) u := by rw [eL83, rd_cw_ne _ _ (by omega)]; exact k78
    have k85 : rd L83 (s0 + 1 + 3) = divC (detC u (rd L (t1 + 2)) (rd L (s0 + 1 + 1)) (rd L (s0 + 1 + 0)) (rd L (t2 + 2))) (detC u (rd L (t1 + 2)) (rd L (t2 + 3)) (rd L (t1 + 3)) (rd L (t2 + 2))) u := by rw [eL83, rd_cw_ne _ _ (by omega)]; exact k79
    have k86 : rd L83 x = addC (rd L x) (divC (detC u (rd L (s0 + 1 + 0)) (rd L (t2 + 3)) (rd L (t1 + 3)) (rd L (s0 + 1 + 1))) (detC u (rd L (t1 + 2)) (rd L (t2 + 3)) (rd L (t1 + 3)) (rd L (t2 + 2))) u) := by rw [eL83, rd_cw_ne _ _ (by omega)]; exact k80
    have k87 : rd L83 y = addC (rd L y) (divC (detC u (rd L (t1 + 2)) (rd L (s0 + 1 + 1)) (rd L (s0 + 1 + 0)) (rd L (t2 + 2))) (detC u (rd L (t1 + 2)) (rd L (t2 + 3)) (rd L (t1 + 3)) (rd L (t2 + 2))) u) := by rw [eL83, rd_cw]; simp only [k81, k79]
    refine x_iconst 129 C (v := 1) dX8_moveBySolution_129 rfl ?_
    refine x_iret 130 C dX8_moveBySolution_130 rfl rfl (Nat.le_refl _) (xN.intro ?_)
    refine ⟨by rw [if_neg hn], rfl, by rw [if_neg hn]; exact k86, by rw [if_neg hn]; exact k87, fun _ => ⟨k84, k85⟩, fun q g1 g2 g3 => ?_⟩
    rw [eL83, cw_ne _ _ (by omega)]; rw [eL77, cw_ne _ _ (by omega)]; rw [eL62, cw_ne _ _ (by omega)]; rw [eL47, cw_ne _ _ (by omega)]; rw [eL30, cw_ne _ _ (by omega), cw_ne _ _ (by omega)]; rw [eL16, cw_ne _ _ (by omega), cw_ne _ _ (by omega)]; rw [eL2, cw_ne _ _ (by omega), cw_ne _ _ (by omega)]
theorem dX8_solutionSize_0 : decode cX8_solutionSize 0 = .ok (.aload_n 0, 1) := by decide +kernel
theorem dX8_solutionSize_1 : decode cX8_solutionSize 1 = .ok (.getfield 19, 3) := by decide +kernel
theorem dX8_solutionSize_4 : decode cX8_solutionSize 4 = .ok (.invokevirtual 59, 3) := by decide +kernel
theorem dX8_solutionSize_7 : decode cX8_solutionSize 7 = .ok (.aload_n 0, 1) := by decide +kernel
theorem dX8_solutionSize_8 : decode cX8_solutionSize 8 = .ok (.getfield 22, 3) := by decide +kernel
theorem dX8_solutionSize_11 : decode cX8_solutionSize 11 = .ok (.invokevirtual 59, 3) := by decide +kernel
theorem dX8_solutionSize_14 : decode cX8_solutionSize 14 = .ok (.invokestatic 63, 3) := by decide +kernel
theorem dX8_solutionSize_17 : decode cX8_solutionSize 17 = .ok (.lreturn, 1) := by decide +kernel
set_option maxHeartbeats 4000000 in
set_option maxRecDepth 100000 in
theorem t_X8_solutionSize (l : Launch) (D : xD) (z n : Nat) (G : xG) (I : xI) (L : xL) (s0 : Nat) (hO : shO G s0) : xM0 l D z yX8_solutionSize cX8_solutionSize 1 (some .long) 2 43 [.ref s0] n G I L (xE (some (.long (lmax (sizC (rd L (s0 + 1 + 2))) (sizC (rd L (s0 + 1 + 3)))))) I L) := by
  refine xM.of (by decide) (Nat.le_of_ble_eq_true rfl) (fun p e s m args below meth c C hnm hsz => ?_)
  refine x_lv [(0, .ref s0)] rfl ?_
  refine x_aload_n 0 C dX8_solutionSize_0 rfl 0 rfl ?_
  refine x_getr 1 C (b := s0 + 1 + 2) dX8_solutionSize_1 ff_X8_19 rfl hO.1 rfl ?_
  refine x_callVe 4 C dX8_solutionSize_4 (As := []) (rest := []) [.long (sizC (rd L (s0 + 1 + 2)))] (t_X0_size_c l D z n G I L (s0 + 1 + 2) (hO.2 2 (by decide))) mt_X0_size km_X8_59 ki_X0_size ks_X0_size (hO.2 2 (by decide)) ⟨by decide, rfl⟩ rfl rfl (Nat.le_of_ble_eq_true rfl) ⟨⟨by decide, by decide⟩, by decide, by decide⟩ (fun I1 L2 eI1 eL2 => ?_)
  replace eI1 := eI1.symm; subst eI1
  replace eL2 := eL2.symm; subst eL2
  refine x_aload_n 7 C dX8_solutionSize_7 rfl 0 rfl ?_
  refine x_getr 8 C (b := s0 + 1 + 3) dX8_solutionSize_8 ff_X8_22 rfl hO.1 rfl ?_
  refine x_callVe 11 C dX8_solutionSize_11 (As := []) (rest := [.long (sizC (rd L (s0 + 1 + 2)))]) [.long (sizC (rd L (s0 + 1 + 3))), .long (sizC (rd L (s0 + 1 + 2)))] (t_X0_size_c l D z n G I L (s0 + 1 + 3) (hO.2 3 (by decide))) mt_X0_size km_X8_59 ki_X0_size ks_X0_size (hO.2 3 (by decide)) ⟨by decide, rfl⟩ rfl rfl (Nat.le_of_ble_eq_true rfl) ⟨⟨by decide, by decide⟩, by decide, by decide⟩ (fun I3 L4 eI3 eL4 => ?_)
  replace eI3 := eI3.symm; subst eI3
  replace eL4 := eL4.symm; subst eL4
  refine x_mmaxl 14 C dX8_solutionSize_14 km_X8_63 kt_J9_max_f86c9 kn_J9 kc_J9_max_f86c9 ⟨by decide, Nat.le_of_ble_eq_true rfl, by decide, by decide⟩ ?_
  refine x_lret 17 C dX8_solutionSize_17 rfl (Nat.le_refl _) (xN.intro ?_)
  exact ⟨rfl, rfl, rfl⟩
theorem dX1_termOf_0 : decode cX1_termOf 0 = .ok (.iload_n 0, 1) := by decide +kernel
theorem dX1_termOf_1 : decode cX1_termOf 1 = .ok (.ifCond .lt 23, 3) := by decide +kernel
theorem dX1_termOf_4 : decode cX1_termOf 4 = .ok (.iload_n 0, 1) := by decide +kernel
theorem dX1_termOf_5 : decode cX1_termOf 5 = .ok (.iconst 3, 1) := by decide +kernel
theorem dX1_termOf_6 : decode cX1_termOf 6 = .ok (.if_icmp .gt 18, 3) := by decide +kernel
theorem dX1_termOf_9 : decode cX1_termOf 9 = .ok (.iload_n 1, 1) := by decide +kernel
theorem dX1_termOf_10 : decode cX1_termOf 10 = .ok (.ifCond .lt 14, 3) := by decide +kernel
theorem dX1_termOf_13 : decode cX1_termOf 13 = .ok (.iload_n 1, 1) := by decide +kernel
theorem dX1_termOf_14 : decode cX1_termOf 14 = .ok (.iconst 3, 1) := by decide +kernel
theorem dX1_termOf_15 : decode cX1_termOf 15 = .ok (.iload_n 0, 1) := by decide +kernel
theorem dX1_termOf_16 : decode cX1_termOf 16 = .ok (.isub, 1) := by decide +kernel
theorem dX1_termOf_17 : decode cX1_termOf 17 = .ok (.if_icmp .gt 7, 3) := by decide +kernel
theorem dX1_termOf_20 : decode cX1_termOf 20 = .ok (.iconst 1, 1) := by decide +kernel
theorem dX1_termOf_21 : decode cX1_termOf 21 = .ok (.goto 4, 3) := by decide +kernel
theorem dX1_termOf_24 : decode cX1_termOf 24 = .ok (.iconst 0, 1) := by decide +kernel
theorem dX1_termOf_25 : decode cX1_termOf 25 = .ok (.istore_n 2, 1) := by decide +kernel
theorem dX1_termOf_26 : decode cX1_termOf 26 = .ok (.iload_n 2, 1) := by decide +kernel
theorem dX1_termOf_27 : decode cX1_termOf 27 = .ok (.ifCond .eq 13, 3) := by decide +kernel
theorem dX1_termOf_30 : decode cX1_termOf 30 = .ok (.getstatic 23, 3) := by decide +kernel
theorem dX1_termOf_33 : decode cX1_termOf 33 = .ok (.iload_n 0, 1) := by decide +kernel
theorem dX1_termOf_34 : decode cX1_termOf 34 = .ok (.iaload, 1) := by decide +kernel
theorem dX1_termOf_35 : decode cX1_termOf 35 = .ok (.iload_n 1, 1) := by decide +kernel
theorem dX1_termOf_36 : decode cX1_termOf 36 = .ok (.iadd, 1) := by decide +kernel
theorem dX1_termOf_37 : decode cX1_termOf 37 = .ok (.goto 4, 3) := by decide +kernel
theorem dX1_termOf_40 : decode cX1_termOf 40 = .ok (.iconst 0, 1) := by decide +kernel
theorem dX1_termOf_41 : decode cX1_termOf 41 = .ok (.ireturn, 1) := by decide +kernel
set_option maxHeartbeats 4000000 in
set_option maxRecDepth 100000 in
theorem t_X1_termOf (l : Launch) (D : xD) (z n : Nat) (G : xG) (I : xI) (L : xL) (i : Nat) (j : Nat) (hij : i + j ≤ 3) : xM0 l D z yX1_termOf cX1_termOf 3 (some .int) 0 0 [.int (nI i), .int (nI j)] n G I L (xE (some (.int (nI (tm i j)))) I L) := by
  refine xM.of (by decide) (Nat.le_of_ble_eq_true rfl) (fun p e s m args below meth c C hnm hsz => ?_)
  refine x_lv [(0, .int (nI i)), (1, .int (nI j))] rfl ?_
  refine x_iload_n 0 C dX1_termOf_0 rfl 0 rfl ?_
  refine x_if_lt 1 C 24 dX1_termOf_1 (by decide) (fun c1 => absurd c1 (nI_pos (n := i) (by omega))) (fun _ => ?_)
  refine x_iload_n 4 C dX1_termOf_4 rfl 0 rfl ?_
  refine x_iconst 5 C (v := 3) dX1_termOf_5 rfl ?_
  refine x_icmp_gt 6 C 24 dX1_termOf_6 (by decide) (fun c2 => absurd c2 (fun h => absurd ((nI_ltI (a := 3) (b := i) (by omega) (by omega)).mp h) (by omega))) (fun _ => ?_)
  refine x_iload_n 9 C dX1_termOf_9 rfl 1 rfl ?_
  refine x_if_lt 10 C 24 dX1_termOf_10 (by decide) (fun c3 => absurd c3 (nI_pos (n := j) (by omega))) (fun _ => ?_)
  refine x_iload_n 13 C dX1_termOf_13 rfl 1 rfl ?_
  refine x_iconst 14 C (v := 3) dX1_termOf_14 rfl ?_
  refine x_iload_n 15 C dX1_termOf_15 rfl 0 rfl ?_
  refine x_isub 16 C dX1_termOf_16 ?_
  refine x_int (nI (3 - i)) (nI_sub (a := 3) (b := i) (by omega)) ?_
  refine x_icmp_gt 17 C 24 dX1_termOf_17 (by decide) (fun c4 => absurd c4 (fun h => absurd ((nI_ltI (a := (3 - i)) (b := j) (by omega) (by omega)).mp h) (by omega))) (fun _ => ?_)
  refine x_iconst 20 C (v := 1) dX1_termOf_20 rfl ?_
  refine x_goto 21 C 25 dX1_termOf_21 (by decide) ?_
  refine x_istore_n 25 C [(2, .int 1), (0, .int (nI i)), (1, .int (nI j))] dX1_termOf_25 rfl (by decide) rfl ?_
  refine x_iload_n 26 C dX1_termOf_26 rfl 0 rfl ?_
  refine x_if_eq 27 C 40 dX1_termOf_27 (by decide) (fun c5 => absurd c5 (by decide)) (fun _ => ?_)
  refine x_gets 30 C (k0 := 2) dX1_termOf_30 rfl kf_X1_23 ?_
  refine x_iload_n 33 C dX1_termOf_33 rfl 1 rfl ?_
  refine x_stald 34 C (j := i) dX1_termOf_34 (k0 := 2) rfl (xIx_nI (len := 4) (by omega) (by decide)) ?_
  refine x_int (nI (tm i 0)) (xFt_n (by omega)) ?_
  refine x_iload_n 35 C dX1_termOf_35 rfl 2 rfl ?_
  refine x_iadd 36 C dX1_termOf_36 ?_
  refine x_int (nI (tm i j)) (nI_add (tm i 0) j) ?_
  refine x_goto 37 C 41 dX1_termOf_37 (by decide) ?_
  refine x_iret 41 C dX1_termOf_41 rfl rfl (Nat.le_refl _) (xN.intro ?_)
  exact ⟨rfl, rfl, rfl⟩
theorem dX1_heldCoefficient_0 : decode cX1_heldCoefficient 0 = .ok (.sipush (-999), 3) := by decide +kernel
theorem dX1_heldCoefficient_3 : decode cX1_heldCoefficient 3 = .ok (.sipush 999, 3) := by decide +kernel
theorem dX1_heldCoefficient_6 : decode cX1_heldCoefficient 6 = .ok (.iload_n 0, 1) := by decide +kernel
theorem dX1_heldCoefficient_7 : decode cX1_heldCoefficient 7 = .ok (.invokestatic 26, 3) := by decide +kernel
theorem dX1_heldCoefficient_10 : decode cX1_heldCoefficient 10 = .ok (.invokestatic 32, 3) := by decide +kernel
theorem dX1_heldCoefficient_13 : decode cX1_heldCoefficient 13 = .ok (.ireturn, 1) := by decide +kernel
set_option maxHeartbeats 4000000 in
set_option maxRecDepth 100000 in
theorem t_X1_heldCoefficient (l : Launch) (D : xD) (z n : Nat) (G : xG) (I : xI) (L : xL) (x : Int32)  : xM0 l D z yX1_heldCoefficient cX1_heldCoefficient 1 (some .int) 1 23 [.int x] n G I L (xE (some (.int (heldc x))) I L) := by
  refine xM.of (by decide) (Nat.le_of_ble_eq_true rfl) (fun p e s m args below meth c C hnm hsz => ?_)
  refine x_lv [(0, .int x)] rfl ?_
  refine x_sipush 0 C (v := (-999)) dX1_heldCoefficient_0 rfl ?_
  refine x_sipush 3 C (v := 999) dX1_heldCoefficient_3 rfl ?_
  refine x_iload_n 6 C dX1_heldCoefficient_6 rfl 0 rfl ?_
  refine x_mmin 7 C dX1_heldCoefficient_7 km_X1_26 kt_J9_min_7cf53 kn_J9 kc_J9_min_7cf53 ⟨by decide, Nat.le_of_ble_eq_true rfl, by decide, by decide⟩ ?_
  refine x_mmax 10 C dX1_heldCoefficient_10 km_X1_32 kt_J9_max_7cf53 kn_J9 kc_J9_max_7cf53 ⟨by decide, Nat.le_of_ble_eq_true rfl, by decide, by decide⟩ ?_
  refine x_iret 13 C dX1_heldCoefficient_13 rfl rfl (Nat.le_refl _) (xN.intro ?_)
  exact ⟨rfl, rfl, rfl⟩
theorem dX1_clear_0 : decode cX1_clear 0 = .ok (.iconst 0, 1) := by decide +kernel
theorem dX1_clear_1 : decode cX1_clear 1 = .ok (.istore_n 1, 1) := by decide +kernel
theorem dX1_clear_2 : decode cX1_clear 2 = .ok (.iload_n 1, 1) := by decide +kernel
theorem dX1_clear_3 : decode cX1_clear 3 = .ok (.bipush 10, 2) := by decide +kernel
theorem dX1_clear_5 : decode cX1_clear 5 = .ok (.if_icmp .ge 23, 3) := by decide +kernel
theorem dX1_clear_8 : decode cX1_clear 8 = .ok (.aload_n 0, 1) := by decide +kernel
theorem dX1_clear_9 : decode cX1_clear 9 = .ok (.getfield 9, 3) := by decide +kernel
theorem dX1_clear_12 : decode cX1_clear 12 = .ok (.iload_n 1, 1) := by decide +kernel
theorem dX1_clear_13 : decode cX1_clear 13 = .ok (.iconst 0, 1) := by decide +kernel
theorem dX1_clear_14 : decode cX1_clear 14 = .ok (.iastore, 1) := by decide +kernel
theorem dX1_clear_15 : decode cX1_clear 15 = .ok (.aload_n 0, 1) := by decide +kernel
theorem dX1_clear_16 : decode cX1_clear 16 = .ok (.getfield 13, 3) := by decide +kernel
theorem dX1_clear_19 : decode cX1_clear 19 = .ok (.iload_n 1, 1) := by decide +kernel
theorem dX1_clear_20 : decode cX1_clear 20 = .ok (.iconst 0, 1) := by decide +kernel
theorem dX1_clear_21 : decode cX1_clear 21 = .ok (.iastore, 1) := by decide +kernel
theorem dX1_clear_22 : decode cX1_clear 22 = .ok (.iinc 1 1, 3) := by decide +kernel
theorem dX1_clear_25 : decode cX1_clear 25 = .ok (.goto (-23), 3) := by decide +kernel
theorem dX1_clear_28 : decode cX1_clear 28 = .ok (.return_, 1) := by decide +kernel
set_option maxHeartbeats 4000000 in
set_option maxRecDepth 100000 in
theorem t_X1_clear (l : Launch) (D : xD) (z n : Nat) (G : xG) (I : xI) (L : xL) (q : Nat) (hE : shE G q) (zq : z ≤ q) : xM0 l D z yX1_clear cX1_clear 2 none 0 0 [.ref q] n G I L (xE none (eqFill I q 10 (fun _ => 0) (fun _ => 0)) L) := by
  refine xM.of (by decide) (Nat.le_of_ble_eq_true rfl) (fun p e s m args below meth c C hnm hsz => ?_)
  refine x_lv [(0, .ref q)] rfl ?_
  refine x_iconst 0 C (v := 0) dX1_clear_0 rfl ?_
  refine x_istore_n 1 C [(1, .int 0), (0, .ref q)] dX1_clear_1 rfl (by decide) rfl ?_
  have loop2 : ∀ (fuel : Nat) (k : Nat) (Ik : xI), (k ≤ 10) → (11 ≤ k + fuel) → (Ik = eqFill I q k (fun _ => 0) (fun _ => 0)) → X p l e (xRm 0 0 0 0) s m args below meth c D z 2 (MQ below (xQc D z n (xN n G (xE none (eqFill I q 10 (fun _ => 0) (fun _ => 0)) L))) args s 0 0 (fun a => z ≤ a)) 0 0 n G Ik L 2 [(0, .ref q), (1, .int (nI k))] [] := by
    intro fuel
    induction fuel with
    | zero =>
      intro k Ik hk hf hI
      exact absurd hf (by omega)
    | succ fuel ih =>
      intro k Ik hk hf hI
      refine x_iload_n 2 C dX1_clear_2 rfl 1 rfl ?_
      refine x_bipush 3 C (v := 10) dX1_clear_3 rfl ?_
      refine x_icmp_ge 5 C 28 dX1_clear_5 (by decide) (fun c1 => ?_) (fun c1 => ?_)
      · skip
        have c1n : 10 ≤ k := (nI_leI (a := 10) (b := k) (by omega) (by omega)).mp c1
        have c1o := Int32.not_lt.mpr c1
        refine x_vret 28 C dX1_clear_28 rfl (Nat.le_refl _) (xN.intro ?_)
        have hk10 : k = 10 := by omega
        subst hk10
        exact ⟨rfl, hI, rfl⟩
      · skip
        have c1n : ¬ (10 ≤ k) := fun h => c1 ((nI_leI (a := 10) (b := k) (by omega) (by omega)).mpr h)
        have c1o := Int32.not_le.mp c1
        refine x_aload_n 8 C dX1_clear_8 rfl 0 rfl ?_
        refine x_getr 9 C (b := q + 1) dX1_clear_9 ff_X1_9 rfl hE.1 rfl ?_
        refine x_iload_n 12 C dX1_clear_12 rfl 1 rfl ?_
        refine x_iconst 13 C (v := 0) dX1_clear_13 rfl ?_
        refine x_iast 14 C (j := k) dX1_clear_14 hE.2.1 (by omega) (xIx_nI (by omega) (by decide)) (fun I2 eI2 => ?_)
        refine x_aload_n 15 C dX1_clear_15 rfl 0 rfl ?_
        refine x_getr 16 C (b := q + 2) dX1_clear_16 ff_X1_13 rfl hE.1 rfl ?_
        refine x_iload_n 19 C dX1_clear_19 rfl 1 rfl ?_
        refine x_iconst 20 C (v := 0) dX1_clear_20 rfl ?_
        refine x_iast 21 C (j := k) dX1_clear_21 hE.2.2.1 (by omega) (xIx_nI (by omega) (by decide)) (fun I3 eI3 => ?_)
        refine x_iinc 22 C [(1, .int (nI (k + 1))), (0, .ref q)] dX1_clear_22 1 rfl (nI_add k 1) (by decide) rfl ?_
        refine x_goto 25 C 2 dX1_clear_25 (by decide) ?_
        refine x_sub [(0, .ref q), (1, .int (nI (k + 1)))] [1, 0] rfl ?_
        exact ih (k + 1) I3 (by omega) (by omega) (by rw [eI3, eI2, hI]; exact eqFill_succ I q k _ _)
  refine x_sub [(0, .ref q), (1, .int 0)] [1, 0] rfl ?_
  exact loop2 11 0 I (by omega) (by omega) (eqFill_0 I q _ _).symm
theorem dX1_copy_0 : decode cX1_copy 0 = .ok (.iconst 0, 1) := by decide +kernel
theorem dX1_copy_1 : decode cX1_copy 1 = .ok (.istore_n 2, 1) := by decide +kernel
theorem dX1_copy_2 : decode cX1_copy 2 = .ok (.iload_n 2, 1) := by decide +kernel
theorem dX1_copy_3 : decode cX1_copy 3 = .ok (.bipush 10, 2) := by decide +kernel
theorem dX1_copy_5 : decode cX1_copy 5 = .ok (.if_icmp .ge 33, 3) := by decide +kernel
theorem dX1_copy_8 : decode cX1_copy 8 = .ok (.aload_n 0, 1) := by decide +kernel
theorem dX1_copy_9 : decode cX1_copy 9 = .ok (.getfield 9, 3) := by decide +kernel
theorem dX1_copy_12 : decode cX1_copy 12 = .ok (.iload_n 2, 1) := by decide +kernel
theorem dX1_copy_13 : decode cX1_copy 13 = .ok (.aload_n 1, 1) := by decide +kernel
theorem dX1_copy_14 : decode cX1_copy 14 = .ok (.getfield 9, 3) := by decide +kernel
theorem dX1_copy_17 : decode cX1_copy 17 = .ok (.iload_n 2, 1) := by decide +kernel
theorem dX1_copy_18 : decode cX1_copy 18 = .ok (.iaload, 1) := by decide +kernel
theorem dX1_copy_19 : decode cX1_copy 19 = .ok (.iastore, 1) := by decide +kernel
theorem dX1_copy_20 : decode cX1_copy 20 = .ok (.aload_n 0, 1) := by decide +kernel
theorem dX1_copy_21 : decode cX1_copy 21 = .ok (.getfield 13, 3) := by decide +kernel
theorem dX1_copy_24 : decode cX1_copy 24 = .ok (.iload_n 2, 1) := by decide +kernel
theorem dX1_copy_25 : decode cX1_copy 25 = .ok (.aload_n 1, 1) := by decide +kernel
theorem dX1_copy_26 : decode cX1_copy 26 = .ok (.getfield 13, 3) := by decide +kernel
theorem dX1_copy_29 : decode cX1_copy 29 = .ok (.iload_n 2, 1) := by decide +kernel
theorem dX1_copy_30 : decode cX1_copy 30 = .ok (.iaload, 1) := by decide +kernel
theorem dX1_copy_31 : decode cX1_copy 31 = .ok (.iastore, 1) := by decide +kernel
theorem dX1_copy_32 : decode cX1_copy 32 = .ok (.iinc 2 1, 3) := by decide +kernel
theorem dX1_copy_35 : decode cX1_copy 35 = .ok (.goto (-33), 3) := by decide +kernel
theorem dX1_copy_38 : decode cX1_copy 38 = .ok (.return_, 1) := by decide +kernel
set_option maxHeartbeats 4000000 in
set_option maxRecDepth 100000 in
theorem t_X1_copy (l : Launch) (D : xD) (z n : Nat) (G : xG) (I : xI) (L : xL) (q : Nat) (o : Nat) (hE : shE G q) (hEo : shE G o) (zq : z ≤ q) (hqo : o + 2 ≠ q + 1) : xM0 l D z yX1_copy cX1_copy 3 none 0 0 [.ref q, .ref o] n G I L (xE none (eqFill I q 10 (I (o + 1)) (I (o + 2))) L) := by
  refine xM.of (by decide) (Nat.le_of_ble_eq_true rfl) (fun p e s m args below meth c C hnm hsz => ?_)
  refine x_lv [(0, .ref q), (1, .ref o)] rfl ?_
  refine x_iconst 0 C (v := 0) dX1_copy_0 rfl ?_
  refine x_istore_n 1 C [(2, .int 0), (0, .ref q), (1, .ref o)] dX1_copy_1 rfl (by decide) rfl ?_
  have loop2 : ∀ (fuel : Nat) (k : Nat) (Ik : xI), (k ≤ 10) → (11 ≤ k + fuel) → (Ik = eqFill I q k (I (o + 1)) (I (o + 2))) → X p l e (xRm 0 0 0 0) s m args below meth c D z 3 (MQ below (xQc D z n (xN n G (xE none (eqFill I q 10 (I (o + 1)) (I (o + 2))) L))) args s 0 0 (fun a => z ≤ a)) 0 0 n G Ik L 2 [(0, .ref q), (1, .ref o), (2, .int (nI k))] [] := by
    intro fuel
    induction fuel with
    | zero =>
      intro k Ik hk hf hI
      exact absurd hf (by omega)
    | succ fuel ih =>
      intro k Ik hk hf hI
      refine x_iload_n 2 C dX1_copy_2 rfl 2 rfl ?_
      refine x_bipush 3 C (v := 10) dX1_copy_3 rfl ?_
      refine x_icmp_ge 5 C 38 dX1_copy_5 (by decide) (fun c1 => ?_) (fun c1 => ?_)
      · skip
        have c1n : 10 ≤ k := (nI_leI (a := 10) (b := k) (by omega) (by omega)).mp c1
        have c1o := Int32.not_lt.mpr c1
        refine x_vret 38 C dX1_copy_38 rfl (Nat.le_refl _) (xN.intro ?_)
        have hk10 : k = 10 := by omega
        subst hk10
        exact ⟨rfl, hI, rfl⟩
      · skip
        have c1n : ¬ (10 ≤ k) := fun h => c1 ((nI_leI (a := 10) (b := k) (by omega) (by omega)).mpr h)
        have c1o := Int32.not_le.mp c1
        refine x_aload_n 8 C dX1_copy_8 rfl 0 rfl ?_
        refine x_getr 9 C (b := q + 1) dX1_copy_9 ff_X1_9 rfl hE.1 rfl ?_
        refine x_iload_n 12 C dX1_copy_12 rfl 2 rfl ?_
        refine x_aload_n 13 C dX1_copy_13 rfl 1 rfl ?_
        refine x_getr 14 C (b := o + 1) dX1_copy_14 ff_X1_9 rfl hEo.1 rfl ?_
        refine x_iload_n 17 C dX1_copy_17 rfl 2 rfl ?_
        refine x_iald 18 C (j := k) dX1_copy_18 hEo.2.1 (xIx_nI (by omega) (by decide)) ?_
        refine x_iast 19 C (j := k) dX1_copy_19 hE.2.1 (by omega) (xIx_nI (by omega) (by decide)) (fun I2 eI2 => ?_)
        refine x_aload_n 20 C dX1_copy_20 rfl 0 rfl ?_
        refine x_getr 21 C (b := q + 2) dX1_copy_21 ff_X1_13 rfl hE.1 rfl ?_
        refine x_iload_n 24 C dX1_copy_24 rfl 2 rfl ?_
        refine x_aload_n 25 C dX1_copy_25 rfl 1 rfl ?_
        refine x_getr 26 C (b := o + 2) dX1_copy_26 ff_X1_13 rfl hEo.1 rfl ?_
        refine x_iload_n 29 C dX1_copy_29 rfl 2 rfl ?_
        refine x_iald 30 C (j := k) dX1_copy_30 hEo.2.2.1 (xIx_nI (by omega) (by decide)) ?_
        refine x_iast 31 C (j := k) dX1_copy_31 hE.2.2.1 (by omega) (xIx_nI (by omega) (by decide)) (fun I3 eI3 => ?_)
        refine x_iinc 32 C [(2, .int (nI (k + 1))), (0, .ref q), (1, .ref o)] dX1_copy_32 2 rfl (nI_add k 1) (by decide) rfl ?_
        refine x_goto 35 C 2 dX1_copy_35 (by decide) ?_
        refine x_sub [(0, .ref q), (1, .ref o), (2, .int (nI (k + 1)))] [1, 2, 0] rfl ?_
        exact ih (k + 1) I3 (by omega) (by omega) (by rw [eI3, eI2, hI]; simp only [xup_row _ _ hqo]; rw [show eqFill I q k (I (o + 1)) (I (o + 2)) (o + 1) k = I (o + 1) k by simp [eqFill], show eqFill I q k (I (o + 1)) (I (o + 2)) (o + 2) k = I (o + 2) k by simp [eqFill]]; exact eqFill_succ I q k _ _)
  refine x_sub [(0, .ref q), (1, .ref o), (2, .int 0)] [1, 2, 0] rfl ?_
  exact loop2 11 0 I (by omega) (by omega) (eqFill_0 I q _ _).symm
theorem dX1_addTerm_0 : decode cX1_addTerm 0 = .ok (.iload_n 1, 1) := by decide +kernel
theorem dX1_addTerm_1 : decode cX1_addTerm 1 = .ok (.iload_n 2, 1) := by decide +kernel
theorem dX1_addTerm_2 : decode cX1_addTerm 2 = .ok (.invokestatic 35, 3) := by decide +kernel
theorem dX1_addTerm_5 : decode cX1_addTerm 5 = .ok (.istore 5, 2) := by decide +kernel
theorem dX1_addTerm_7 : decode cX1_addTerm 7 = .ok (.aload_n 0, 1) := by decide +kernel
theorem dX1_addTerm_8 : decode cX1_addTerm 8 = .ok (.getfield 9, 3) := by decide +kernel
theorem dX1_addTerm_11 : decode cX1_addTerm 11 = .ok (.iload 5, 2) := by decide +kernel
theorem dX1_addTerm_13 : decode cX1_addTerm 13 = .ok (.aload_n 0, 1) := by decide +kernel
theorem dX1_addTerm_14 : decode cX1_addTerm 14 = .ok (.getfield 9, 3) := by decide +kernel
theorem dX1_addTerm_17 : decode cX1_addTerm 17 = .ok (.iload 5, 2) := by decide +kernel
theorem dX1_addTerm_19 : decode cX1_addTerm 19 = .ok (.iaload, 1) := by decide +kernel
theorem dX1_addTerm_20 : decode cX1_addTerm 20 = .ok (.iload_n 3, 1) := by decide +kernel
theorem dX1_addTerm_21 : decode cX1_addTerm 21 = .ok (.iadd, 1) := by decide +kernel
theorem dX1_addTerm_22 : decode cX1_addTerm 22 = .ok (.invokestatic 38, 3) := by decide +kernel
theorem dX1_addTerm_25 : decode cX1_addTerm 25 = .ok (.iastore, 1) := by decide +kernel
theorem dX1_addTerm_26 : decode cX1_addTerm 26 = .ok (.aload_n 0, 1) := by decide +kernel
theorem dX1_addTerm_27 : decode cX1_addTerm 27 = .ok (.getfield 13, 3) := by decide +kernel
theorem dX1_addTerm_30 : decode cX1_addTerm 30 = .ok (.iload 5, 2) := by decide +kernel
theorem dX1_addTerm_32 : decode cX1_addTerm 32 = .ok (.aload_n 0, 1) := by decide +kernel
theorem dX1_addTerm_33 : decode cX1_addTerm 33 = .ok (.getfield 13, 3) := by decide +kernel
theorem dX1_addTerm_36 : decode cX1_addTerm 36 = .ok (.iload 5, 2) := by decide +kernel
theorem dX1_addTerm_38 : decode cX1_addTerm 38 = .ok (.iaload, 1) := by decide +kernel
theorem dX1_addTerm_39 : decode cX1_addTerm 39 = .ok (.iload 4, 2) := by decide +kernel
theorem dX1_addTerm_41 : decode cX1_addTerm 41 = .ok (.iadd, 1) := by decide +kernel
theorem dX1_addTerm_42 : decode cX1_addTerm 42 = .ok (.invokestatic 38, 3) := by decide +kernel
theorem dX1_addTerm_45 : decode cX1_addTerm 45 = .ok (.iastore, 1) := by decide +kernel
theorem dX1_addTerm_46 : decode cX1_addTerm 46 = .ok (.return_, 1) := by decide +kernel
set_option maxHeartbeats 4000000 in
set_option maxRecDepth 100000 in
theorem t_X1_addTerm (l : Launch) (D : xD) (z n : Nat) (G : xG) (I : xI) (L : xL) (q : Nat) (i : Nat) (j : Nat) (x : Int32) (y : Int32) (hE : shE G q) (zq : z ≤ q) (hij : i + j ≤ 3) : xM0 l D z yX1_addTerm cX1_addTerm 6 none 2 43 [.ref q, .int (nI i), .int (nI j), .int x, .int y] n G I L (xE none (addT I q (tm i j) x y) L) := by
  refine xM.of (by decide) (Nat.le_of_ble_eq_true rfl) (fun p e s m args below meth c C hnm hsz => ?_)
  refine x_lv [(0, .ref q), (1, .int (nI i)), (2, .int (nI j)), (3, .int x), (4, .int y)] rfl ?_
  have htm := tm_lt hij
  refine x_iload_n 0 C dX1_addTerm_0 rfl 1 rfl ?_
  refine x_iload_n 1 C dX1_addTerm_1 rfl 2 rfl ?_
  refine x_callSe 2 C dX1_addTerm_2 (As := [.int (nI i), .int (nI j)]) (rest := []) [.int (nI (tm i j))] (t_X1_termOf l D z n G I L i j (by first | assumption | omega)) mt_X1_termOf km_X1_35 kt_X1_termOf rfl rfl (Nat.le_of_ble_eq_true rfl) ⟨⟨by decide, by decide⟩, by decide, by decide⟩ (fun I1 L2 eI1 eL2 => ?_)
  replace eI1 := eI1.symm; subst eI1
  replace eL2 := eL2.symm; subst eL2
  refine x_istore 5 C [(5, .int (nI (tm i j))), (0, .ref q), (1, .int (nI i)), (2, .int (nI j)), (3, .int x), (4, .int y)] dX1_addTerm_5 (by decide) rfl ?_
  refine x_aload_n 7 C dX1_addTerm_7 rfl 1 rfl ?_
  refine x_getr 8 C (b := q + 1) dX1_addTerm_8 ff_X1_9 rfl hE.1 rfl ?_
  refine x_iload 11 C dX1_addTerm_11 0 rfl ?_
  refine x_aload_n 13 C dX1_addTerm_13 rfl 1 rfl ?_
  refine x_getr 14 C (b := q + 1) dX1_addTerm_14 ff_X1_9 rfl hE.1 rfl ?_
  refine x_iload 17 C dX1_addTerm_17 0 rfl ?_
  refine x_iald 19 C (j := (tm i j)) dX1_addTerm_19 hE.2.1 (xIx_nI (by omega) (by decide)) ?_
  refine x_iload_n 20 C dX1_addTerm_20 rfl 4 rfl ?_
  refine x_iadd 21 C dX1_addTerm_21 ?_
  refine x_callSe 22 C dX1_addTerm_22 (As := [.int ((I (q + 1) (tm i j)) + x)]) (rest := [.int (nI (tm i j)), .ref (q + 1)]) [.int (heldc ((I (q + 1) (tm i j)) + x)), .int (nI (tm i j)), .ref (q + 1)] (t_X1_heldCoefficient l D z n G I L ((I (q + 1) (tm i j)) + x) ) mt_X1_heldCoefficient km_X1_38 kt_X1_heldCoefficient rfl rfl (Nat.le_of_ble_eq_true rfl) ⟨⟨by decide, by decide⟩, by decide, by decide⟩ (fun I3 L4 eI3 eL4 => ?_)
  replace eI3 := eI3.symm; subst eI3
  replace eL4 := eL4.symm; subst eL4
  refine x_iast 25 C (j := (tm i j)) dX1_addTerm_25 hE.2.1 (by omega) (xIx_nI (by omega) (by decide)) (fun I5 eI5 => ?_)
  refine x_aload_n 26 C dX1_addTerm_26 rfl 1 rfl ?_
  refine x_getr 27 C (b := q + 2) dX1_addTerm_27 ff_X1_13 rfl hE.1 rfl ?_
  refine x_iload 30 C dX1_addTerm_30 0 rfl ?_
  refine x_aload_n 32 C dX1_addTerm_32 rfl 1 rfl ?_
  refine x_getr 33 C (b := q + 2) dX1_addTerm_33 ff_X1_13 rfl hE.1 rfl ?_
  refine x_iload 36 C dX1_addTerm_36 0 rfl ?_
  refine x_iald 38 C (j := (tm i j)) dX1_addTerm_38 hE.2.2.1 (xIx_nI (by omega) (by decide)) ?_
  refine x_int (I (q + 2) (tm i j)) (by simp [eI5, xup, cput]) ?_
  refine x_iload 39 C dX1_addTerm_39 5 rfl ?_
  refine x_iadd 41 C dX1_addTerm_41 ?_
  refine x_callSe 42 C dX1_addTerm_42 (As := [.int ((I (q + 2) (tm i j)) + y)]) (rest := [.int (nI (tm i j)), .ref (q + 2)]) [.int (heldc ((I (q + 2) (tm i j)) + y)), .int (nI (tm i j)), .ref (q + 2)] (t_X1_heldCoefficient l D z n G I5 L ((I (q + 2) (tm i j)) + y) ) mt_X1_heldCoefficient km_X1_38 kt_X1_heldCoefficient rfl rfl (Nat.le_of_ble_eq_true rfl) ⟨⟨by decide, by decide⟩, by decide, by decide⟩ (fun I6 L7 eI6 eL7 => ?_)
  replace eI6 := eI6.symm; subst eI6
  replace eL7 := eL7.symm; subst eL7
  refine x_iast 45 C (j := (tm i j)) dX1_addTerm_45 hE.2.2.1 (by omega) (xIx_nI (by omega) (by decide)) (fun I8 eI8 => ?_)
  refine x_vret 46 C dX1_addTerm_46 rfl (Nat.le_refl _) (xN.intro ?_)
  subst eI5; subst eI8
  exact ⟨rfl, rfl, rfl⟩
theorem addT_fill (I : xI) (q m : Nat) (f g : Nat → Int32) (x y : Int32) (hm : m < 10) : addT (eqFill I q 10 f g) q m x y = eqFill I q 10 (fun j => if j = m then heldc (f m + x) else f j) (fun j => if j = m then heldc (g m + y) else g j) := by
  funext a j
  simp only [addT, eqFill, xup]
  by_cases h1 : a = q + 1
  · subst h1
    by_cases h3 : j = m
    · subst h3; simp [hm]
    · simp [h3]
  · by_cases h2 : a = q + 2
    · subst h2
      by_cases h3 : j = m
      · subst h3; simp [hm]
      · simp [h3]
    · simp [h1, h2]
theorem putStart_eq (I : xI) (q m : Nat) (h : 1 ≤ m ∧ m < 10) : addT (addT (eqFill I q 10 (fun _ => 0) (fun _ => 0)) q (tm 0 0) (-1) 0) q m 1 0 = eqFill I q 10 (stRe m) (fun _ => 0) := by
  rw [addT_fill _ _ _ _ _ _ _ (by decide), addT_fill _ _ _ _ _ _ _ h.2]
  have e0 : tm 0 0 = 0 := rfl
  have h0 : heldc (0 + 0) = 0 := by decide
  have h1 : heldc (0 + 1) = 1 := by decide
  have h2 : heldc (0 + -1) = -1 := by decide
  have hm : m ≠ 0 := by omega
  congr 1
  · funext j
    simp only [e0, if_neg hm, h1, h2, stRe]
  · funext j
    simp only [e0, if_neg hm, h0]
    split
    · rfl
    · split <;> rfl
theorem tm_pos {d : Nat} (h : 1 ≤ d ∧ d ≤ 3) : (1 ≤ tm d 0 ∧ tm d 0 < 10) ∧ 1 ≤ tm 0 d ∧ tm 0 d < 10 := by
  rcases (show d = 1 ∨ d = 2 ∨ d = 3 by omega) with rfl | rfl | rfl <;> decide
theorem dX1_putStart_0 : decode cX1_putStart 0 = .ok (.aload_n 0, 1) := by decide +kernel
theorem dX1_putStart_1 : decode cX1_putStart 1 = .ok (.invokevirtual 42, 3) := by decide +kernel
theorem dX1_putStart_4 : decode cX1_putStart 4 = .ok (.aload_n 0, 1) := by decide +kernel
theorem dX1_putStart_5 : decode cX1_putStart 5 = .ok (.iconst 0, 1) := by decide +kernel
theorem dX1_putStart_6 : decode cX1_putStart 6 = .ok (.iconst 0, 1) := by decide +kernel
theorem dX1_putStart_7 : decode cX1_putStart 7 = .ok (.iconst (-1), 1) := by decide +kernel
theorem dX1_putStart_8 : decode cX1_putStart 8 = .ok (.iconst 0, 1) := by decide +kernel
theorem dX1_putStart_9 : decode cX1_putStart 9 = .ok (.invokevirtual 45, 3) := by decide +kernel
theorem dX1_putStart_12 : decode cX1_putStart 12 = .ok (.aload_n 0, 1) := by decide +kernel
theorem dX1_putStart_13 : decode cX1_putStart 13 = .ok (.iload_n 2, 1) := by decide +kernel
theorem dX1_putStart_14 : decode cX1_putStart 14 = .ok (.ifCond .eq 7, 3) := by decide +kernel
theorem dX1_putStart_17 : decode cX1_putStart 17 = .ok (.iload_n 1, 1) := by decide +kernel
theorem dX1_putStart_18 : decode cX1_putStart 18 = .ok (.goto 4, 3) := by decide +kernel
theorem dX1_putStart_21 : decode cX1_putStart 21 = .ok (.iconst 0, 1) := by decide +kernel
theorem dX1_putStart_22 : decode cX1_putStart 22 = .ok (.iload_n 2, 1) := by decide +kernel
theorem dX1_putStart_23 : decode cX1_putStart 23 = .ok (.ifCond .eq 7, 3) := by decide +kernel
theorem dX1_putStart_26 : decode cX1_putStart 26 = .ok (.iconst 0, 1) := by decide +kernel
theorem dX1_putStart_27 : decode cX1_putStart 27 = .ok (.goto 4, 3) := by decide +kernel
theorem dX1_putStart_30 : decode cX1_putStart 30 = .ok (.iload_n 1, 1) := by decide +kernel
theorem dX1_putStart_31 : decode cX1_putStart 31 = .ok (.iconst 1, 1) := by decide +kernel
theorem dX1_putStart_32 : decode cX1_putStart 32 = .ok (.iconst 0, 1) := by decide +kernel
theorem dX1_putStart_33 : decode cX1_putStart 33 = .ok (.invokevirtual 45, 3) := by decide +kernel
theorem dX1_putStart_36 : decode cX1_putStart 36 = .ok (.return_, 1) := by decide +kernel
set_option maxHeartbeats 4000000 in
set_option maxRecDepth 100000 in
theorem t_X1_putStart (l : Launch) (D : xD) (z n : Nat) (G : xG) (I : xI) (L : xL) (q : Nat) (d : Nat) (b : Nat) (hE : shE G q) (zq : z ≤ q) (hd : 1 ≤ d ∧ d ≤ 3) (hb : b < 2) : xM0 l D z yX1_putStart cX1_putStart 3 none 3 68 [.ref q, .int (nI d), .int (nI b)] n G I L (xE none (eqFill I q 10 (stRe (if b = 1 then tm d 0 else tm 0 d)) (fun _ => 0)) L) := by
  refine xM.of (by decide) (Nat.le_of_ble_eq_true rfl) (fun p e s m args below meth c C hnm hsz => ?_)
  refine x_lv [(0, .ref q), (1, .int (nI d)), (2, .int (nI b))] rfl ?_
  rcases (show b = 0 ∨ b = 1 by omega) with rfl | rfl
  · skip
    refine x_aload_n 0 C dX1_putStart_0 rfl 0 rfl ?_
    refine x_callVe 1 C dX1_putStart_1 (As := []) (rest := []) [] (t_X1_clear l D z n G I L q hE (by omega)) mt_X1_clear km_X1_42 ki_X1_clear ks_X1_clear hE.1 ⟨by decide, rfl⟩ rfl rfl (Nat.le_of_ble_eq_true rfl) ⟨⟨by decide, by decide⟩, by decide, by decide⟩ (fun I1 L2 eI1 eL2 => ?_)
    replace eL2 := eL2.symm; subst eL2
    refine x_aload_n 4 C dX1_putStart_4 rfl 0 rfl ?_
    refine x_iconst 5 C (v := 0) dX1_putStart_5 rfl ?_
    refine x_iconst 6 C (v := 0) dX1_putStart_6 rfl ?_
    refine x_iconst 7 C (v := (-1)) dX1_putStart_7 rfl ?_
    refine x_iconst 8 C (v := 0) dX1_putStart_8 rfl ?_
    refine x_callVe 9 C dX1_putStart_9 (As := [.int 0, .int 0, .int (-1), .int 0]) (rest := []) [] (t_X1_addTerm l D z n G I1 L q 0 0 (-1) 0 hE (by omega) (by first | assumption | omega)) mt_X1_addTerm km_X1_45 ki_X1_addTerm ks_X1_addTerm hE.1 ⟨by decide, rfl⟩ rfl rfl (Nat.le_of_ble_eq_true rfl) ⟨⟨by decide, by decide⟩, by decide, by decide⟩ (fun I3 L4 eI3 eL4 => ?_)
    replace eL4 := eL4.symm; subst eL4
    refine x_aload_n 12 C dX1_putStart_12 rfl 0 rfl ?_
    refine x_iload_n 13 C dX1_putStart_13 rfl 2 rfl ?_
    refine x_if_eq 14 C 21 dX1_putStart_14 (by decide) (fun _ => ?_) (fun c5 => absurd (by decide) c5)
    refine x_iconst 21 C (v := 0) dX1_putStart_21 rfl ?_
    refine x_iload_n 22 C dX1_putStart_22 rfl 2 rfl ?_
    refine x_if_eq 23 C 30 dX1_putStart_23 (by decide) (fun _ => ?_) (fun c6 => absurd (by decide) c6)
    refine x_iload_n 30 C dX1_putStart_30 rfl 1 rfl ?_
    refine x_iconst 31 C (v := 1) dX1_putStart_31 rfl ?_
    refine x_iconst 32 C (v := 0) dX1_putStart_32 rfl ?_
    refine x_callVe 33 C dX1_putStart_33 (As := [.int 0, .int (nI d), .int 1, .int 0]) (rest := []) [] (t_X1_addTerm l D z n G I3 L q 0 d 1 0 hE (by omega) (by first | assumption | omega)) mt_X1_addTerm km_X1_45 ki_X1_addTerm ks_X1_addTerm hE.1 ⟨by decide, rfl⟩ rfl rfl (Nat.le_of_ble_eq_true rfl) ⟨⟨by decide, by decide⟩, by decide, by decide⟩ (fun I7 L8 eI7 eL8 => ?_)
    replace eL8 := eL8.symm; subst eL8
    refine x_vret 36 C dX1_putStart_36 rfl (Nat.le_refl _) (xN.intro ?_)
    subst eI1; subst eI3; subst eI7
    refine ⟨rfl, ?_, rfl⟩
    first | exact putStart_eq I q _ (tm_pos hd).1 | exact putStart_eq I q _ (tm_pos hd).2
  · skip
    refine x_aload_n 0 C dX1_putStart_0 rfl 0 rfl ?_
    refine x_callVe 1 C dX1_putStart_1 (As := []) (rest := []) [] (t_X1_clear l D z n G I L q hE (by omega)) mt_X1_clear km_X1_42 ki_X1_clear ks_X1_clear hE.1 ⟨by decide, rfl⟩ rfl rfl (Nat.le_of_ble_eq_true rfl) ⟨⟨by decide, by decide⟩, by decide, by decide⟩ (fun I9 L10 eI9 eL10 => ?_)
    replace eL10 := eL10.symm; subst eL10
    refine x_aload_n 4 C dX1_putStart_4 rfl 0 rfl ?_
    refine x_iconst 5 C (v := 0) dX1_putStart_5 rfl ?_
    refine x_iconst 6 C (v := 0) dX1_putStart_6 rfl ?_
    refine x_iconst 7 C (v := (-1)) dX1_putStart_7 rfl ?_
    refine x_iconst 8 C (v := 0) dX1_putStart_8 rfl ?_
    refine x_callVe 9 C dX1_putStart_9 (As := [.int 0, .int 0, .int (-1), .int 0]) (rest := []) [] (t_X1_addTerm l D z n G I9 L q 0 0 (-1) 0 hE (by omega) (by first | assumption | omega)) mt_X1_addTerm km_X1_45 ki_X1_addTerm ks_X1_addTerm hE.1 ⟨by decide, rfl⟩ rfl rfl (Nat.le_of_ble_eq_true rfl) ⟨⟨by decide, by decide⟩, by decide, by decide⟩ (fun I11 L12 eI11 eL12 => ?_)
    replace eL12 := eL12.symm; subst eL12
    refine x_aload_n 12 C dX1_putStart_12 rfl 0 rfl ?_
    refine x_iload_n 13 C dX1_putStart_13 rfl 2 rfl ?_
    refine x_if_eq 14 C 21 dX1_putStart_14 (by decide) (fun c13 => absurd c13 (by decide)) (fun _ => ?_)
    refine x_iload_n 17 C dX1_putStart_17 rfl 1 rfl ?_
    refine x_goto 18 C 22 dX1_putStart_18 (by decide) ?_
    refine x_iload_n 22 C dX1_putStart_22 rfl 2 rfl ?_
    refine x_if_eq 23 C 30 dX1_putStart_23 (by decide) (fun c14 => absurd c14 (by decide)) (fun _ => ?_)
    refine x_iconst 26 C (v := 0) dX1_putStart_26 rfl ?_
    refine x_goto 27 C 31 dX1_putStart_27 (by decide) ?_
    refine x_iconst 31 C (v := 1) dX1_putStart_31 rfl ?_
    refine x_iconst 32 C (v := 0) dX1_putStart_32 rfl ?_
    refine x_callVe 33 C dX1_putStart_33 (As := [.int (nI d), .int 0, .int 1, .int 0]) (rest := []) [] (t_X1_addTerm l D z n G I11 L q d 0 1 0 hE (by omega) (by first | assumption | omega)) mt_X1_addTerm km_X1_45 ki_X1_addTerm ks_X1_addTerm hE.1 ⟨by decide, rfl⟩ rfl rfl (Nat.le_of_ble_eq_true rfl) ⟨⟨by decide, by decide⟩, by decide, by decide⟩ (fun I15 L16 eI15 eL16 => ?_)
    replace eL16 := eL16.symm; subst eL16
    refine x_vret 36 C dX1_putStart_36 rfl (Nat.le_refl _) (xN.intro ?_)
    subst eI9; subst eI11; subst eI15
    refine ⟨rfl, ?_, rfl⟩
    first | exact putStart_eq I q _ (tm_pos hd).1 | exact putStart_eq I q _ (tm_pos hd).2
theorem dX1_realPart_0 : decode cX1_realPart 0 = .ok (.aload_n 0, 1) := by decide +kernel
theorem dX1_realPart_1 : decode cX1_realPart 1 = .ok (.getfield 9, 3) := by decide +kernel
theorem dX1_realPart_4 : decode cX1_realPart 4 = .ok (.iload_n 1, 1) := by decide +kernel
theorem dX1_realPart_5 : decode cX1_realPart 5 = .ok (.iload_n 2, 1) := by decide +kernel
theorem dX1_realPart_6 : decode cX1_realPart 6 = .ok (.invokestatic 35, 3) := by decide +kernel
theorem dX1_realPart_9 : decode cX1_realPart 9 = .ok (.iaload, 1) := by decide +kernel
theorem dX1_realPart_10 : decode cX1_realPart 10 = .ok (.ireturn, 1) := by decide +kernel
set_option maxHeartbeats 4000000 in
set_option maxRecDepth 100000 in
theorem t_X1_realPart (l : Launch) (D : xD) (z n : Nat) (G : xG) (I : xI) (L : xL) (q : Nat) (i : Nat) (j : Nat) (hE : shE G q) (hij : i + j ≤ 3) : xM0 l D z yX1_realPart cX1_realPart 3 (some .int) 1 22 [.ref q, .int (nI i), .int (nI j)] n G I L (xE (some (.int (I (q + 1) (tm i j)))) I L) := by
  refine xM.of (by decide) (Nat.le_of_ble_eq_true rfl) (fun p e s m args below meth c C hnm hsz => ?_)
  refine x_lv [(0, .ref q), (1, .int (nI i)), (2, .int (nI j))] rfl ?_
  have htm := tm_lt hij
  refine x_aload_n 0 C dX1_realPart_0 rfl 0 rfl ?_
  refine x_getr 1 C (b := q + 1) dX1_realPart_1 ff_X1_9 rfl hE.1 rfl ?_
  refine x_iload_n 4 C dX1_realPart_4 rfl 1 rfl ?_
  refine x_iload_n 5 C dX1_realPart_5 rfl 2 rfl ?_
  refine x_callSe 6 C dX1_realPart_6 (As := [.int (nI i), .int (nI j)]) (rest := [.ref (q + 1)]) [.int (nI (tm i j)), .ref (q + 1)] (t_X1_termOf l D z n G I L i j (by first | assumption | omega)) mt_X1_termOf km_X1_35 kt_X1_termOf rfl rfl (Nat.le_of_ble_eq_true rfl) ⟨⟨by decide, by decide⟩, by decide, by decide⟩ (fun I1 L2 eI1 eL2 => ?_)
  replace eI1 := eI1.symm; subst eI1
  replace eL2 := eL2.symm; subst eL2
  refine x_iald 9 C (j := (tm i j)) dX1_realPart_9 hE.2.1 (xIx_nI (by omega) (by decide)) ?_
  refine x_iret 10 C dX1_realPart_10 rfl rfl (Nat.le_refl _) (xN.intro ?_)
  exact ⟨rfl, rfl, rfl⟩
theorem dX1_imaginaryPart_0 : decode cX1_imaginaryPart 0 = .ok (.aload_n 0, 1) := by decide +kernel
theorem dX1_imaginaryPart_1 : decode cX1_imaginaryPart 1 = .ok (.getfield 13, 3) := by decide +kernel
theorem dX1_imaginaryPart_4 : decode cX1_imaginaryPart 4 = .ok (.iload_n 1, 1) := by decide +kernel
theorem dX1_imaginaryPart_5 : decode cX1_imaginaryPart 5 = .ok (.iload_n 2, 1) := by decide +kernel
theorem dX1_imaginaryPart_6 : decode cX1_imaginaryPart 6 = .ok (.invokestatic 35, 3) := by decide +kernel
theorem dX1_imaginaryPart_9 : decode cX1_imaginaryPart 9 = .ok (.iaload, 1) := by decide +kernel
theorem dX1_imaginaryPart_10 : decode cX1_imaginaryPart 10 = .ok (.ireturn, 1) := by decide +kernel
set_option maxHeartbeats 4000000 in
set_option maxRecDepth 100000 in
theorem t_X1_imaginaryPart (l : Launch) (D : xD) (z n : Nat) (G : xG) (I : xI) (L : xL) (q : Nat) (i : Nat) (j : Nat) (hE : shE G q) (hij : i + j ≤ 3) : xM0 l D z yX1_imaginaryPart cX1_imaginaryPart 3 (some .int) 1 22 [.ref q, .int (nI i), .int (nI j)] n G I L (xE (some (.int (I (q + 2) (tm i j)))) I L) := by
  refine xM.of (by decide) (Nat.le_of_ble_eq_true rfl) (fun p e s m args below meth c C hnm hsz => ?_)
  refine x_lv [(0, .ref q), (1, .int (nI i)), (2, .int (nI j))] rfl ?_
  have htm := tm_lt hij
  refine x_aload_n 0 C dX1_imaginaryPart_0 rfl 0 rfl ?_
  refine x_getr 1 C (b := q + 2) dX1_imaginaryPart_1 ff_X1_13 rfl hE.1 rfl ?_
  refine x_iload_n 4 C dX1_imaginaryPart_4 rfl 1 rfl ?_
  refine x_iload_n 5 C dX1_imaginaryPart_5 rfl 2 rfl ?_
  refine x_callSe 6 C dX1_imaginaryPart_6 (As := [.int (nI i), .int (nI j)]) (rest := [.ref (q + 2)]) [.int (nI (tm i j)), .ref (q + 2)] (t_X1_termOf l D z n G I L i j (by first | assumption | omega)) mt_X1_termOf km_X1_35 kt_X1_termOf rfl rfl (Nat.le_of_ble_eq_true rfl) ⟨⟨by decide, by decide⟩, by decide, by decide⟩ (fun I1 L2 eI1 eL2 => ?_)
  replace eI1 := eI1.symm; subst eI1
  replace eL2 := eL2.symm; subst eL2
  refine x_iald 9 C (j := (tm i j)) dX1_imaginaryPart_9 hE.2.2.1 (xIx_nI (by omega) (by decide)) ?_
  refine x_iret 10 C dX1_imaginaryPart_10 rfl rfl (Nat.le_refl _) (xN.intro ?_)
  exact ⟨rfl, rfl, rfl⟩
theorem dX1_degree_0 : decode cX1_degree 0 = .ok (.iconst 0, 1) := by decide +kernel
theorem dX1_degree_1 : decode cX1_degree 1 = .ok (.istore_n 1, 1) := by decide +kernel
theorem dX1_degree_2 : decode cX1_degree 2 = .ok (.iconst 0, 1) := by decide +kernel
theorem dX1_degree_3 : decode cX1_degree 3 = .ok (.istore_n 2, 1) := by decide +kernel
theorem dX1_degree_4 : decode cX1_degree 4 = .ok (.iload_n 2, 1) := by decide +kernel
theorem dX1_degree_5 : decode cX1_degree 5 = .ok (.bipush 10, 2) := by decide +kernel
theorem dX1_degree_7 : decode cX1_degree 7 = .ok (.if_icmp .ge 43, 3) := by decide +kernel
theorem dX1_degree_10 : decode cX1_degree 10 = .ok (.aload_n 0, 1) := by decide +kernel
theorem dX1_degree_11 : decode cX1_degree 11 = .ok (.getfield 9, 3) := by decide +kernel
theorem dX1_degree_14 : decode cX1_degree 14 = .ok (.iload_n 2, 1) := by decide +kernel
theorem dX1_degree_15 : decode cX1_degree 15 = .ok (.iaload, 1) := by decide +kernel
theorem dX1_degree_16 : decode cX1_degree 16 = .ok (.ifCond .ne 12, 3) := by decide +kernel
theorem dX1_degree_19 : decode cX1_degree 19 = .ok (.aload_n 0, 1) := by decide +kernel
theorem dX1_degree_20 : decode cX1_degree 20 = .ok (.getfield 13, 3) := by decide +kernel
theorem dX1_degree_23 : decode cX1_degree 23 = .ok (.iload_n 2, 1) := by decide +kernel
theorem dX1_degree_24 : decode cX1_degree 24 = .ok (.iaload, 1) := by decide +kernel
theorem dX1_degree_25 : decode cX1_degree 25 = .ok (.ifCond .eq 19, 3) := by decide +kernel
theorem dX1_degree_28 : decode cX1_degree 28 = .ok (.iload_n 1, 1) := by decide +kernel
theorem dX1_degree_29 : decode cX1_degree 29 = .ok (.getstatic 49, 3) := by decide +kernel
theorem dX1_degree_32 : decode cX1_degree 32 = .ok (.iload_n 2, 1) := by decide +kernel
theorem dX1_degree_33 : decode cX1_degree 33 = .ok (.iaload, 1) := by decide +kernel
theorem dX1_degree_34 : decode cX1_degree 34 = .ok (.getstatic 52, 3) := by decide +kernel
theorem dX1_degree_37 : decode cX1_degree 37 = .ok (.iload_n 2, 1) := by decide +kernel
theorem dX1_degree_38 : decode cX1_degree 38 = .ok (.iaload, 1) := by decide +kernel
theorem dX1_degree_39 : decode cX1_degree 39 = .ok (.iadd, 1) := by decide +kernel
theorem dX1_degree_40 : decode cX1_degree 40 = .ok (.invokestatic 32, 3) := by decide +kernel
theorem dX1_degree_43 : decode cX1_degree 43 = .ok (.istore_n 1, 1) := by decide +kernel
theorem dX1_degree_44 : decode cX1_degree 44 = .ok (.iinc 2 1, 3) := by decide +kernel
theorem dX1_degree_47 : decode cX1_degree 47 = .ok (.goto (-43), 3) := by decide +kernel
theorem dX1_degree_50 : decode cX1_degree 50 = .ok (.iload_n 1, 1) := by decide +kernel
theorem dX1_degree_51 : decode cX1_degree 51 = .ok (.ireturn, 1) := by decide +kernel
set_option maxHeartbeats 4000000 in
set_option maxRecDepth 100000 in
theorem t_X1_degree (l : Launch) (D : xD) (z n : Nat) (G : xG) (I : xI) (L : xL) (q : Nat) (hE : shE G q) : xM0 l D z yX1_degree cX1_degree 3 (some .int) 1 23 [.ref q] n G I L (xE (some (.int (nI (dgN (I (q + 1)) (I (q + 2)) 10)))) I L) := by
  refine xM.of (by decide) (Nat.le_of_ble_eq_true rfl) (fun p e s m args below meth c C hnm hsz => ?_)
  refine x_lv [(0, .ref q)] rfl ?_
  refine x_iconst 0 C (v := 0) dX1_degree_0 rfl ?_
  refine x_istore_n 1 C [(1, .int 0), (0, .ref q)] dX1_degree_1 rfl (by decide) rfl ?_
  refine x_iconst 2 C (v := 0) dX1_degree_2 rfl ?_
  refine x_istore_n 3 C [(2, .int 0), (1, .int 0), (0, .ref q)] dX1_degree_3 rfl (by decide) rfl ?_
  have loop4 : ∀ (fuel : Nat) (k : Nat), (k ≤ 10) → (11 ≤ k + fuel) → X p l e (xRm 1 23 0 0) s m args below meth c D z 3 (MQ below (xQc D z n (xN n G (xE (some (.int (nI (dgN (I (q + 1)) (I (q + 2)) 10)))) I L))) args s 0 0 (fun a => z ≤ a)) 0 0 n G I L 4 [(0, .ref q), (1, .int (nI (dgN (I (q + 1)) (I (q + 2)) k))), (2, .int (nI k))] [] := by
    intro fuel
    induction fuel with
    | zero =>
      intro k hk hf
      exact absurd hf (by omega)
    | succ fuel ih =>
      intro k hk hf
      have hd := dgN_le (I (q + 1)) (I (q + 2)) k
      have ht := tXY k
      refine x_iload_n 4 C dX1_degree_4 rfl 2 rfl ?_
      refine x_bipush 5 C (v := 10) dX1_degree_5 rfl ?_
      refine x_icmp_ge 7 C 50 dX1_degree_7 (by decide) (fun c1 => ?_) (fun c1 => ?_)
      · skip
        have c1n : 10 ≤ k := (nI_leI (a := 10) (b := k) (by omega) (by omega)).mp c1
        have c1o := Int32.not_lt.mpr c1
        refine x_iload_n 50 C dX1_degree_50 rfl 1 rfl ?_
        refine x_iret 51 C dX1_degree_51 rfl rfl (Nat.le_refl _) (xN.intro ?_)
        have hk10 : k = 10 := by omega
        subst hk10
        exact ⟨rfl, rfl, rfl⟩
      · skip
        have c1n : ¬ (10 ≤ k) := fun h => c1 ((nI_leI (a := 10) (b := k) (by omega) (by omega)).mpr h)
        have c1o := Int32.not_le.mp c1
        refine x_aload_n 10 C dX1_degree_10 rfl 0 rfl ?_
        refine x_getr 11 C (b := q + 1) dX1_degree_11 ff_X1_9 rfl hE.1 rfl ?_
        refine x_iload_n 14 C dX1_degree_14 rfl 2 rfl ?_
        refine x_iald 15 C (j := k) dX1_degree_15 hE.2.1 (xIx_nI (by omega) (by decide)) ?_
        refine x_if_ne 16 C 28 dX1_degree_16 (by decide) (fun c2 => ?_) (fun c2 => ?_)
        · skip
          refine x_iload_n 28 C dX1_degree_28 rfl 1 rfl ?_
          refine x_gets 29 C (k0 := 0) dX1_degree_29 rfl kf_X1_49 ?_
          refine x_iload_n 32 C dX1_degree_32 rfl 2 rfl ?_
          refine x_stald 33 C (j := k) dX1_degree_33 (k0 := 0) rfl (xIx_nI (len := 10) (by omega) (by decide)) ?_
          refine x_int (nI (tX k)) (xPx_n k) ?_
          refine x_gets 34 C (k0 := 1) dX1_degree_34 rfl kf_X1_52 ?_
          refine x_iload_n 37 C dX1_degree_37 rfl 2 rfl ?_
          refine x_stald 38 C (j := k) dX1_degree_38 (k0 := 1) rfl (xIx_nI (len := 10) (by omega) (by decide)) ?_
          refine x_int (nI (tY k)) (xPy_n k) ?_
          refine x_iadd 39 C dX1_degree_39 ?_
          refine x_int (nI (tX k + (tY k))) (nI_add (tX k) (tY k)) ?_
          refine x_mmax 40 C dX1_degree_40 km_X1_32 kt_J9_max_7cf53 kn_J9 kc_J9_max_7cf53 ⟨by decide, Nat.le_of_ble_eq_true rfl, by decide, by decide⟩ ?_
          refine x_int (nI (max (dgN (I (q + 1)) (I (q + 2)) k) (tX k + tY k))) (imax_nI (by omega) (by omega)) ?_
          refine x_istore_n 43 C [(1, .int (nI (max (dgN (I (q + 1)) (I (q + 2)) k) (tX k + tY k)))), (0, .ref q), (2, .int (nI k))] dX1_degree_43 rfl (by decide) rfl ?_
          refine x_iinc 44 C [(2, .int (nI (k + 1))), (1, .int (nI (max (dgN (I (q + 1)) (I (q + 2)) k) (tX k + tY k)))), (0, .ref q)] dX1_degree_44 2 rfl (nI_add k 1) (by decide) rfl ?_
          refine x_goto 47 C 4 dX1_degree_47 (by decide) ?_
          refine x_sub [(0, .ref q), (1, .int (nI (max (dgN (I (q + 1)) (I (q + 2)) k) (tX k + tY k)))), (2, .int (nI (k + 1)))] [2, 1, 0] rfl ?_
          refine x_lv [(0, .ref q), (1, .int (nI (dgN (I (q + 1)) (I (q + 2)) (k + 1)))), (2, .int (nI (k + 1)))] (by simp [dgN, c1, c1o, c2]) ?_
          exact ih (k + 1) (by omega) (by omega)
        · skip
          refine x_aload_n 19 C dX1_degree_19 rfl 0 rfl ?_
          refine x_getr 20 C (b := q + 2) dX1_degree_20 ff_X1_13 rfl hE.1 rfl ?_
          refine x_iload_n 23 C dX1_degree_23 rfl 2 rfl ?_
          refine x_iald 24 C (j := k) dX1_degree_24 hE.2.2.1 (xIx_nI (by omega) (by decide)) ?_
          refine x_if_eq 25 C 44 dX1_degree_25 (by decide) (fun c3 => ?_) (fun c3 => ?_)
          · skip
            refine x_iinc 44 C [(2, .int (nI (k + 1))), (0, .ref q), (1, .int (nI (dgN (I (q + 1)) (I (q + 2)) k)))] dX1_degree_44 2 rfl (nI_add k 1) (by decide) rfl ?_
            refine x_goto 47 C 4 dX1_degree_47 (by decide) ?_
            refine x_sub [(0, .ref q), (1, .int (nI (dgN (I (q + 1)) (I (q + 2)) k))), (2, .int (nI (k + 1)))] [1, 2, 0] rfl ?_
            refine x_lv [(0, .ref q), (1, .int (nI (dgN (I (q + 1)) (I (q + 2)) (k + 1)))), (2, .int (nI (k + 1)))] (by simp [dgN, c1, c1o, c2, c3]) ?_
            exact ih (k + 1) (by omega) (by omega)
          · skip
            refine x_iload_n 28 C dX1_degree_28 rfl 1 rfl ?_
            refine x_gets 29 C (k0 := 0) dX1_degree_29 rfl kf_X1_49 ?_
            refine x_iload_n 32 C dX1_degree_32 rfl 2 rfl ?_
            refine x_stald 33 C (j := k) dX1_degree_33 (k0 := 0) rfl (xIx_nI (len := 10) (by omega) (by decide)) ?_
            refine x_int (nI (tX k)) (xPx_n k) ?_
            refine x_gets 34 C (k0 := 1) dX1_degree_34 rfl kf_X1_52 ?_
            refine x_iload_n 37 C dX1_degree_37 rfl 2 rfl ?_
            refine x_stald 38 C (j := k) dX1_degree_38 (k0 := 1) rfl (xIx_nI (len := 10) (by omega) (by decide)) ?_
            refine x_int (nI (tY k)) (xPy_n k) ?_
            refine x_iadd 39 C dX1_degree_39 ?_
            refine x_int (nI (tX k + (tY k))) (nI_add (tX k) (tY k)) ?_
            refine x_mmax 40 C dX1_degree_40 km_X1_32 kt_J9_max_7cf53 kn_J9 kc_J9_max_7cf53 ⟨by decide, Nat.le_of_ble_eq_true rfl, by decide, by decide⟩ ?_
            refine x_int (nI (max (dgN (I (q + 1)) (I (q + 2)) k) (tX k + tY k))) (imax_nI (by omega) (by omega)) ?_
            refine x_istore_n 43 C [(1, .int (nI (max (dgN (I (q + 1)) (I (q + 2)) k) (tX k + tY k)))), (0, .ref q), (2, .int (nI k))] dX1_degree_43 rfl (by decide) rfl ?_
            refine x_iinc 44 C [(2, .int (nI (k + 1))), (1, .int (nI (max (dgN (I (q + 1)) (I (q + 2)) k) (tX k + tY k)))), (0, .ref q)] dX1_degree_44 2 rfl (nI_add k 1) (by decide) rfl ?_
            refine x_goto 47 C 4 dX1_degree_47 (by decide) ?_
            refine x_sub [(0, .ref q), (1, .int (nI (max (dgN (I (q + 1)) (I (q + 2)) k) (tX k + tY k)))), (2, .int (nI (k + 1)))] [2, 1, 0] rfl ?_
            refine x_lv [(0, .ref q), (1, .int (nI (dgN (I (q + 1)) (I (q + 2)) (k + 1)))), (2, .int (nI (k + 1)))] (by simp [dgN, c1, c1o, c2, c3]) ?_
            exact ih (k + 1) (by omega) (by omega)
  refine x_sub [(0, .ref q), (1, .int 0), (2, .int 0)] [2, 1, 0] rfl ?_
  exact loop4 11 0 (by omega) (by omega)
end
section
/-! Equation.evaluate: value and slopes at a point whose powers stand in w, into the Tangent t -/
theorem evV_congr {cr ci cr' ci' : Nat → Int32} {pw pw' : Nat → xC} (h1 : ∀ k, k < 10 → cr k = cr' k) (h2 : ∀ k, k < 10 → ci k = ci' k) (h3 : ∀ k, k < 10 → pw k = pw' k) : ∀ k, k ≤ 10 → evV cr ci pw k = evV cr' ci' pw' k
  | 0, _ => rfl
  | k + 1, h => by
    simp only [evV]
    rw [evV_congr h1 h2 h3 k (by omega), h1 k (by omega), h2 k (by omega), h3 k (by omega)]
theorem evX_congr {cr ci cr' ci' : Nat → Int32} {pw pw' : Nat → xC} (h1 : ∀ k, k < 10 → cr k = cr' k) (h2 : ∀ k, k < 10 → ci k = ci' k) (h3 : ∀ k, k < 10 → pw k = pw' k) : ∀ k, k ≤ 10 → evX cr ci pw k = evX cr' ci' pw' k
  | 0, _ => rfl
  | k + 1, h => by
    have hxy := tXY k
    simp only [evX]
    rw [evX_congr h1 h2 h3 k (by omega), h1 k (by omega), h2 k (by omega), h3 _ (tm_lt (show tX k - 1 + tY k ≤ 3 by omega))]
theorem evY_congr {cr ci cr' ci' : Nat → Int32} {pw pw' : Nat → xC} (h1 : ∀ k, k < 10 → cr k = cr' k) (h2 : ∀ k, k < 10 → ci k = ci' k) (h3 : ∀ k, k < 10 → pw k = pw' k) : ∀ k, k ≤ 10 → evY cr ci pw k = evY cr' ci' pw' k
  | 0, _ => rfl
  | k + 1, h => by
    have hxy := tXY k
    simp only [evY]
    rw [evY_congr h1 h2 h3 k (by omega), h1 k (by omega), h2 k (by omega), h3 _ (tm_lt (show tX k + (tY k - 1) ≤ 3 by omega))]
theorem dX1_evaluate_0 : decode cX1_evaluate 0 = .ok (.aload_n 2, 1) := by decide +kernel
theorem dX1_evaluate_1 : decode cX1_evaluate 1 = .ok (.invokevirtual 55, 3) := by decide +kernel
theorem dX1_evaluate_4 : decode cX1_evaluate 4 = .ok (.iconst 0, 1) := by decide +kernel
theorem dX1_evaluate_5 : decode cX1_evaluate 5 = .ok (.istore_n 3, 1) := by decide +kernel
theorem dX1_evaluate_6 : decode cX1_evaluate 6 = .ok (.iload_n 3, 1) := by decide +kernel
theorem dX1_evaluate_7 : decode cX1_evaluate 7 = .ok (.bipush 10, 2) := by decide +kernel
theorem dX1_evaluate_9 : decode cX1_evaluate 9 = .ok (.if_icmp .ge 193, 3) := by decide +kernel
theorem dX1_evaluate_12 : decode cX1_evaluate 12 = .ok (.aload_n 0, 1) := by decide +kernel
theorem dX1_evaluate_13 : decode cX1_evaluate 13 = .ok (.getfield 9, 3) := by decide +kernel
theorem dX1_evaluate_16 : decode cX1_evaluate 16 = .ok (.iload_n 3, 1) := by decide +kernel
theorem dX1_evaluate_17 : decode cX1_evaluate 17 = .ok (.iaload, 1) := by decide +kernel
theorem dX1_evaluate_18 : decode cX1_evaluate 18 = .ok (.ifCond .ne 15, 3) := by decide +kernel
theorem dX1_evaluate_21 : decode cX1_evaluate 21 = .ok (.aload_n 0, 1) := by decide +kernel
theorem dX1_evaluate_22 : decode cX1_evaluate 22 = .ok (.getfield 13, 3) := by decide +kernel
theorem dX1_evaluate_25 : decode cX1_evaluate 25 = .ok (.iload_n 3, 1) := by decide +kernel
theorem dX1_evaluate_26 : decode cX1_evaluate 26 = .ok (.iaload, 1) := by decide +kernel
theorem dX1_evaluate_27 : decode cX1_evaluate 27 = .ok (.ifCond .ne 6, 3) := by decide +kernel
theorem dX1_evaluate_30 : decode cX1_evaluate 30 = .ok (.goto 166, 3) := by decide +kernel
theorem dX1_evaluate_33 : decode cX1_evaluate 33 = .ok (.getstatic 49, 3) := by decide +kernel
theorem dX1_evaluate_36 : decode cX1_evaluate 36 = .ok (.iload_n 3, 1) := by decide +kernel
theorem dX1_evaluate_37 : decode cX1_evaluate 37 = .ok (.iaload, 1) := by decide +kernel
theorem dX1_evaluate_38 : decode cX1_evaluate 38 = .ok (.istore 4, 2) := by decide +kernel
theorem dX1_evaluate_40 : decode cX1_evaluate 40 = .ok (.getstatic 52, 3) := by decide +kernel
theorem dX1_evaluate_43 : decode cX1_evaluate 43 = .ok (.iload_n 3, 1) := by decide +kernel
theorem dX1_evaluate_44 : decode cX1_evaluate 44 = .ok (.iaload, 1) := by decide +kernel
theorem dX1_evaluate_45 : decode cX1_evaluate 45 = .ok (.istore 5, 2) := by decide +kernel
theorem dX1_evaluate_47 : decode cX1_evaluate 47 = .ok (.aload_n 0, 1) := by decide +kernel
theorem dX1_evaluate_48 : decode cX1_evaluate 48 = .ok (.getfield 19, 3) := by decide +kernel
theorem dX1_evaluate_51 : decode cX1_evaluate 51 = .ok (.aload_n 1, 1) := by decide +kernel
theorem dX1_evaluate_52 : decode cX1_evaluate 52 = .ok (.iload_n 3, 1) := by decide +kernel
theorem dX1_evaluate_53 : decode cX1_evaluate 53 = .ok (.invokevirtual 58, 3) := by decide +kernel
theorem dX1_evaluate_56 : decode cX1_evaluate 56 = .ok (.aload_n 0, 1) := by decide +kernel
theorem dX1_evaluate_57 : decode cX1_evaluate 57 = .ok (.getfield 9, 3) := by decide +kernel
theorem dX1_evaluate_60 : decode cX1_evaluate 60 = .ok (.iload_n 3, 1) := by decide +kernel
theorem dX1_evaluate_61 : decode cX1_evaluate 61 = .ok (.iaload, 1) := by decide +kernel
theorem dX1_evaluate_62 : decode cX1_evaluate 62 = .ok (.i2l, 1) := by decide +kernel
theorem dX1_evaluate_63 : decode cX1_evaluate 63 = .ok (.aload_n 0, 1) := by decide +kernel
theorem dX1_evaluate_64 : decode cX1_evaluate 64 = .ok (.getfield 13, 3) := by decide +kernel
theorem dX1_evaluate_67 : decode cX1_evaluate 67 = .ok (.iload_n 3, 1) := by decide +kernel
theorem dX1_evaluate_68 : decode cX1_evaluate 68 = .ok (.iaload, 1) := by decide +kernel
theorem dX1_evaluate_69 : decode cX1_evaluate 69 = .ok (.i2l, 1) := by decide +kernel
theorem dX1_evaluate_70 : decode cX1_evaluate 70 = .ok (.invokevirtual 64, 3) := by decide +kernel
theorem dX1_evaluate_73 : decode cX1_evaluate 73 = .ok (.aload_n 2, 1) := by decide +kernel
theorem dX1_evaluate_74 : decode cX1_evaluate 74 = .ok (.getfield 68, 3) := by decide +kernel
theorem dX1_evaluate_77 : decode cX1_evaluate 77 = .ok (.aload_n 0, 1) := by decide +kernel
theorem dX1_evaluate_78 : decode cX1_evaluate 78 = .ok (.getfield 19, 3) := by decide +kernel
theorem dX1_evaluate_81 : decode cX1_evaluate 81 = .ok (.invokevirtual 71, 3) := by decide +kernel
theorem dX1_evaluate_84 : decode cX1_evaluate 84 = .ok (.iload 4, 2) := by decide +kernel
theorem dX1_evaluate_86 : decode cX1_evaluate 86 = .ok (.ifCond .le 54, 3) := by decide +kernel
theorem dX1_evaluate_89 : decode cX1_evaluate 89 = .ok (.aload_n 0, 1) := by decide +kernel
theorem dX1_evaluate_90 : decode cX1_evaluate 90 = .ok (.getfield 19, 3) := by decide +kernel
theorem dX1_evaluate_93 : decode cX1_evaluate 93 = .ok (.aload_n 1, 1) := by decide +kernel
theorem dX1_evaluate_94 : decode cX1_evaluate 94 = .ok (.iload 4, 2) := by decide +kernel
theorem dX1_evaluate_96 : decode cX1_evaluate 96 = .ok (.iconst 1, 1) := by decide +kernel
theorem dX1_evaluate_97 : decode cX1_evaluate 97 = .ok (.isub, 1) := by decide +kernel
theorem dX1_evaluate_98 : decode cX1_evaluate 98 = .ok (.iload 5, 2) := by decide +kernel
theorem dX1_evaluate_100 : decode cX1_evaluate 100 = .ok (.invokestatic 35, 3) := by decide +kernel
theorem dX1_evaluate_103 : decode cX1_evaluate 103 = .ok (.invokevirtual 58, 3) := by decide +kernel
theorem dX1_evaluate_106 : decode cX1_evaluate 106 = .ok (.iload 4, 2) := by decide +kernel
theorem dX1_evaluate_108 : decode cX1_evaluate 108 = .ok (.aload_n 0, 1) := by decide +kernel
theorem dX1_evaluate_109 : decode cX1_evaluate 109 = .ok (.getfield 9, 3) := by decide +kernel
theorem dX1_evaluate_112 : decode cX1_evaluate 112 = .ok (.iload_n 3, 1) := by decide +kernel
theorem dX1_evaluate_113 : decode cX1_evaluate 113 = .ok (.iaload, 1) := by decide +kernel
theorem dX1_evaluate_114 : decode cX1_evaluate 114 = .ok (.imul, 1) := by decide +kernel
theorem dX1_evaluate_115 : decode cX1_evaluate 115 = .ok (.i2l, 1) := by decide +kernel
theorem dX1_evaluate_116 : decode cX1_evaluate 116 = .ok (.iload 4, 2) := by decide +kernel
theorem dX1_evaluate_118 : decode cX1_evaluate 118 = .ok (.aload_n 0, 1) := by decide +kernel
theorem dX1_evaluate_119 : decode cX1_evaluate 119 = .ok (.getfield 13, 3) := by decide +kernel
theorem dX1_evaluate_122 : decode cX1_evaluate 122 = .ok (.iload_n 3, 1) := by decide +kernel
theorem dX1_evaluate_123 : decode cX1_evaluate 123 = .ok (.iaload, 1) := by decide +kernel
theorem dX1_evaluate_124 : decode cX1_evaluate 124 = .ok (.imul, 1) := by decide +kernel
theorem dX1_evaluate_125 : decode cX1_evaluate 125 = .ok (.i2l, 1) := by decide +kernel
theorem dX1_evaluate_126 : decode cX1_evaluate 126 = .ok (.invokevirtual 64, 3) := by decide +kernel
theorem dX1_evaluate_129 : decode cX1_evaluate 129 = .ok (.aload_n 2, 1) := by decide +kernel
theorem dX1_evaluate_130 : decode cX1_evaluate 130 = .ok (.getfield 75, 3) := by decide +kernel
theorem dX1_evaluate_133 : decode cX1_evaluate 133 = .ok (.aload_n 0, 1) := by decide +kernel
theorem dX1_evaluate_134 : decode cX1_evaluate 134 = .ok (.getfield 19, 3) := by decide +kernel
theorem dX1_evaluate_137 : decode cX1_evaluate 137 = .ok (.invokevirtual 71, 3) := by decide +kernel
theorem dX1_evaluate_140 : decode cX1_evaluate 140 = .ok (.iload 5, 2) := by decide +kernel
theorem dX1_evaluate_142 : decode cX1_evaluate 142 = .ok (.ifCond .le 54, 3) := by decide +kernel
theorem dX1_evaluate_145 : decode cX1_evaluate 145 = .ok (.aload_n 0, 1) := by decide +kernel
theorem dX1_evaluate_146 : decode cX1_evaluate 146 = .ok (.getfield 19, 3) := by decide +kernel
theorem dX1_evaluate_149 : decode cX1_evaluate 149 = .ok (.aload_n 1, 1) := by decide +kernel
theorem dX1_evaluate_150 : decode cX1_evaluate 150 = .ok (.iload 4, 2) := by decide +kernel
theorem dX1_evaluate_152 : decode cX1_evaluate 152 = .ok (.iload 5, 2) := by decide +kernel
theorem dX1_evaluate_154 : decode cX1_evaluate 154 = .ok (.iconst 1, 1) := by decide +kernel
theorem dX1_evaluate_155 : decode cX1_evaluate 155 = .ok (.isub, 1) := by decide +kernel
theorem dX1_evaluate_156 : decode cX1_evaluate 156 = .ok (.invokestatic 35, 3) := by decide +kernel
theorem dX1_evaluate_159 : decode cX1_evaluate 159 = .ok (.invokevirtual 58, 3) := by decide +kernel
theorem dX1_evaluate_162 : decode cX1_evaluate 162 = .ok (.iload 5, 2) := by decide +kernel
theorem dX1_evaluate_164 : decode cX1_evaluate 164 = .ok (.aload_n 0, 1) := by decide +kernel
theorem dX1_evaluate_165 : decode cX1_evaluate 165 = .ok (.getfield 9, 3) := by decide +kernel
theorem dX1_evaluate_168 : decode cX1_evaluate 168 = .ok (.iload_n 3, 1) := by decide +kernel
theorem dX1_evaluate_169 : decode cX1_evaluate 169 = .ok (.iaload, 1) := by decide +kernel
theorem dX1_evaluate_170 : decode cX1_evaluate 170 = .ok (.imul, 1) := by decide +kernel
theorem dX1_evaluate_171 : decode cX1_evaluate 171 = .ok (.i2l, 1) := by decide +kernel
theorem dX1_evaluate_172 : decode cX1_evaluate 172 = .ok (.iload 5, 2) := by decide +kernel
theorem dX1_evaluate_174 : decode cX1_evaluate 174 = .ok (.aload_n 0, 1) := by decide +kernel
theorem dX1_evaluate_175 : decode cX1_evaluate 175 = .ok (.getfield 13, 3) := by decide +kernel
theorem dX1_evaluate_178 : decode cX1_evaluate 178 = .ok (.iload_n 3, 1) := by decide +kernel
theorem dX1_evaluate_179 : decode cX1_evaluate 179 = .ok (.iaload, 1) := by decide +kernel
theorem dX1_evaluate_180 : decode cX1_evaluate 180 = .ok (.imul, 1) := by decide +kernel
theorem dX1_evaluate_181 : decode cX1_evaluate 181 = .ok (.i2l, 1) := by decide +kernel
theorem dX1_evaluate_182 : decode cX1_evaluate 182 = .ok (.invokevirtual 64, 3) := by decide +kernel
theorem dX1_evaluate_185 : decode cX1_evaluate 185 = .ok (.aload_n 2, 1) := by decide +kernel
theorem dX1_evaluate_186 : decode cX1_evaluate 186 = .ok (.getfield 78, 3) := by decide +kernel
theorem dX1_evaluate_189 : decode cX1_evaluate 189 = .ok (.aload_n 0, 1) := by decide +kernel
theorem dX1_evaluate_190 : decode cX1_evaluate 190 = .ok (.getfield 19, 3) := by decide +kernel
theorem dX1_evaluate_193 : decode cX1_evaluate 193 = .ok (.invokevirtual 71, 3) := by decide +kernel
theorem dX1_evaluate_196 : decode cX1_evaluate 196 = .ok (.iinc 3 1, 3) := by decide +kernel
theorem dX1_evaluate_199 : decode cX1_evaluate 199 = .ok (.goto (-193), 3) := by decide +kernel
theorem dX1_evaluate_202 : decode cX1_evaluate 202 = .ok (.return_, 1) := by decide +kernel
set_option maxHeartbeats 4000000 in
set_option maxRecDepth 100000 in
theorem t_X1_evaluate (l : Launch) (D : xD) (z n : Nat) (G : xG) (I : xI) (L : xL) (q : Nat) (w : Nat) (t : Nat) (pw : Nat → xC) (hE : shE G q) (hW : shW G w) (hT : shT G t) (zq : z ≤ q) (zt : z ≤ t) (dqw : q + 3 < w ∨ w + 12 ≤ q) (dtw : t + 3 < w ∨ w + 12 ≤ t) (dqt : q + 3 < t ∨ t + 3 < q) (hpw : ∀ k, k < 10 → rd L (w + 2 + k) = pw k) : xM0 l D z yX1_evaluate cX1_evaluate 6 none 2 49 [.ref q, .ref w, .ref t] n G I L (fun v' I' L' => v' = none ∧ I' = I ∧ (rd L' (t + 1) = evV (I (q + 1)) (I (q + 2)) pw 10) ∧ (rd L' (t + 2) = evX (I (q + 1)) (I (q + 2)) pw 10) ∧ (rd L' (t + 3) = evY (I (q + 1)) (I (q + 2)) pw 10) ∧ (∀ a, a ≠ q + 3 → (a < t + 1 ∨ t + 3 < a) → L' a = L a)) := by
  refine xM.of (by decide) (Nat.le_of_ble_eq_true rfl) (fun p e s m args below meth c C hnm hsz => ?_)
  refine x_lv [(0, .ref q), (1, .ref w), (2, .ref t)] rfl ?_
  refine x_aload_n 0 C dX1_evaluate_0 rfl 2 rfl ?_
  refine x_callVe 1 C dX1_evaluate_1 (As := []) (rest := []) [] (t_X10_clear l D z n G I L t hT (by omega)) mt_X10_clear km_X1_55 ki_X10_clear ks_X10_clear hT.1 ⟨by decide, rfl⟩ rfl rfl (Nat.le_of_ble_eq_true rfl) ⟨⟨by decide, by decide⟩, by decide, by decide⟩ (fun I1 L2 eI1 eL2 => ?_)
  replace eI1 := eI1.symm; subst eI1
  have k3 : rd L2 (t + 1) = (0, 0) := by rw [eL2, tw, rd_cw_ne _ _ (by omega), rd_cw_ne _ _ (by omega), rd_cw]
  refine x_iconst 4 C (v := 0) dX1_evaluate_4 rfl ?_
  refine x_istore_n 5 C [(3, .int 0), (0, .ref q), (1, .ref w), (2, .ref t)] dX1_evaluate_5 rfl (by decide) rfl ?_
  have loop6 : ∀ (fuel : Nat) (k : Nat) (Lk : xL), (k ≤ 10) → (11 ≤ k + fuel) → (rd Lk (t + 1) = evV (I (q + 1)) (I (q + 2)) pw k) → (rd Lk (t + 2) = evX (I (q + 1)) (I (q + 2)) pw k) → (rd Lk (t + 3) = evY (I (q + 1)) (I (q + 2)) pw k) → (∀ a, a ≠ q + 3 → (a < t + 1 ∨ t + 3 < a) → Lk a = L a) → X p l e (xRm 2 49 0 0) s m args below meth c D z 6 (MQ below (xQc D z n (xN n G (fun v' I' L' => v' = none ∧ I' = I ∧ (rd L' (t + 1) = evV (I (q + 1)) (I (q + 2)) pw 10) ∧ (rd L' (t + 2) = evX (I (q + 1)) (I (q + 2)) pw 10) ∧ (rd L' (t + 3) = evY (I (q + 1)) (I (q + 2)) pw 10) ∧ (∀ a, a ≠ q + 3 → (a < t + 1 ∨ t + 3 < a) → L' a = L a)))) args s 0 0 (fun a => z ≤ a)) 0 0 n G I Lk 6 [(0, .ref q), (1, .ref w), (2, .ref t), (3, .int (nI k))] [] := by
    intro fuel
    induction fuel with
    | zero =>
      intro k Lk hk hf hv hx hy hp
      exact absurd hf (by omega)
    | succ fuel ih =>
      intro k Lk hk hf hv hx hy hp
      have hxy := tXY k
      have htm1 := tm_lt (i := tX k - 1) (j := tY k) (by omega)
      have htm2 := tm_lt (i := tX k) (j := tY k - 1) (by omega)
      refine x_iload_n 6 C dX1_evaluate_6 rfl 3 rfl ?_
      refine x_bipush 7 C (v := 10) dX1_evaluate_7 rfl ?_
      refine x_icmp_ge 9 C 202 dX1_evaluate_9 (by decide) (fun c4 => ?_) (fun c4 => ?_)
      · skip
        have c4n : 10 ≤ k := (nI_leI (a := 10) (b := k) (by omega) (by omega)).mp c4
        have c4o := Int32.not_lt.mpr c4
        refine x_vret 202 C dX1_evaluate_202 rfl (Nat.le_refl _) (xN.intro ?_)
        have hk10 : k = 10 := by omega
        subst hk10
        exact ⟨rfl, rfl, hv, hx, hy, hp⟩
      · skip
        have c4n : ¬ (10 ≤ k) := fun h => c4 ((nI_leI (a := 10) (b := k) (by omega) (by omega)).mpr h)
        have c4o := Int32.not_le.mp c4
        have hk10 : k < 10 := by omega
        have hq0 : rd Lk (w + 2 + k) = pw k := (rd_congr (hp _ (by omega) (by omega))).trans (hpw k (by omega))
        have hq1 : rd Lk (w + 2 + (tm (tX k - 1) (tY k))) = pw (tm (tX k - 1) (tY k)) := (rd_congr (hp _ (by omega) (by omega))).trans (hpw _ htm1)
        have hq2 : rd Lk (w + 2 + (tm (tX k) (tY k - 1))) = pw (tm (tX k) (tY k - 1)) := (rd_congr (hp _ (by omega) (by omega))).trans (hpw _ htm2)
        refine x_aload_n 12 C dX1_evaluate_12 rfl 0 rfl ?_
        refine x_getr 13 C (b := q + 1) dX1_evaluate_13 ff_X1_9 rfl hE.1 rfl ?_
        refine x_iload_n 16 C dX1_evaluate_16 rfl 3 rfl ?_
        refine x_iald 17 C (j := k) dX1_evaluate_17 hE.2.1 (xIx_nI (by omega) (by decide)) ?_
        refine x_if_ne 18 C 33 dX1_evaluate_18 (by decide) (fun c5 => ?_) (fun c5 => ?_)
        · skip
          refine x_gets 33 C (k0 := 0) dX1_evaluate_33 rfl kf_X1_49 ?_
          refine x_iload_n 36 C dX1_evaluate_36 rfl 3 rfl ?_
          refine x_stald 37 C (j := k) dX1_evaluate_37 (k0 := 0) rfl (xIx_nI (len := 10) (by omega) (by decide)) ?_
          refine x_int (nI (tX k)) (xPx_n k) ?_
          refine x_istore 38 C [(4, .int (nI (tX k))), (0, .ref q), (1, .ref w), (2, .ref t), (3, .int (nI k))] dX1_evaluate_38 (by decide) rfl ?_
          refine x_gets 40 C (k0 := 1) dX1_evaluate_40 rfl kf_X1_52 ?_
          refine x_iload_n 43 C dX1_evaluate_43 rfl 4 rfl ?_
          refine x_stald 44 C (j := k) dX1_evaluate_44 (k0 := 1) rfl (xIx_nI (len := 10) (by omega) (by decide)) ?_
          refine x_int (nI (tY k)) (xPy_n k) ?_
          refine x_istore 45 C [(5, .int (nI (tY k))), (4, .int (nI (tX k))), (0, .ref q), (1, .ref w), (2, .ref t), (3, .int (nI k))] dX1_evaluate_45 (by decide) rfl ?_
          refine x_aload_n 47 C dX1_evaluate_47 rfl 2 rfl ?_
          refine x_getr 48 C (b := q + 3) dX1_evaluate_48 ff_X1_19 rfl hE.1 rfl ?_
          refine x_aload_n 51 C dX1_evaluate_51 rfl 3 rfl ?_
          refine x_iload_n 52 C dX1_evaluate_52 rfl 5 rfl ?_
          refine x_callVe 53 C dX1_evaluate_53 (As := [.int (nI k)]) (rest := [.ref (q + 3)]) [.ref (w + 2 + k), .ref (q + 3)] (t_X7_at l D z n G I Lk w k hW (by first | assumption | omega)) mt_X7_at km_X1_58 ki_X7_at ks_X7_at hW.1 ⟨by decide, rfl⟩ rfl rfl (Nat.le_of_ble_eq_true rfl) ⟨⟨by decide, by decide⟩, by decide, by decide⟩ (fun I6 L7 eI6 eL7 => ?_)
          replace eI6 := eI6.symm; subst eI6
          replace eL7 := eL7.symm; subst eL7
          refine x_aload_n 56 C dX1_evaluate_56 rfl 2 rfl ?_
          refine x_getr 57 C (b := q + 1) dX1_evaluate_57 ff_X1_9 rfl hE.1 rfl ?_
          refine x_iload_n 60 C dX1_evaluate_60 rfl 5 rfl ?_
          refine x_iald 61 C (j := k) dX1_evaluate_61 hE.2.1 (xIx_nI (by omega) (by decide)) ?_
          refine x_i2l 62 C dX1_evaluate_62 ?_
          refine x_aload_n 63 C dX1_evaluate_63 rfl 2 rfl ?_
          refine x_getr 64 C (b := q + 2) dX1_evaluate_64 ff_X1_13 rfl hE.1 rfl ?_
          refine x_iload_n 67 C dX1_evaluate_67 rfl 5 rfl ?_
          refine x_iald 68 C (j := k) dX1_evaluate_68 hE.2.2.1 (xIx_nI (by omega) (by decide)) ?_
          refine x_i2l 69 C dX1_evaluate_69 ?_
          refine x_callVe 70 C dX1_evaluate_70 (As := [.ref (w + 2 + k), .long (Int32.toInt64 (I (q + 1) k)), .long (Int32.toInt64 (I (q + 2) k))]) (rest := []) [] (t_X0_putTimesGaussian_c l D z n G I Lk (q + 3) (w + 2 + k) (Int32.toInt64 (I (q + 1) k)) (Int32.toInt64 (I (q + 2) k)) hE.2.2.2 (hW.2.2 k (by omega)) (by omega)) mt_X0_putTimesGaussian km_X1_64 ki_X0_putTimesGaussian ks_X0_putTimesGaussian hE.2.2.2 ⟨by decide, rfl⟩ rfl rfl (Nat.le_of_ble_eq_true rfl) ⟨⟨by decide, by decide⟩, by decide, by decide⟩ (fun I8 L9 eI8 eL9 => ?_)
          replace eI8 := eI8.symm; subst eI8
          have k10 : rd L9 (t + 1) = evV (I (q + 1)) (I (q + 2)) pw k := by rw [eL9, rd_cw_ne _ _ (by omega)]; exact hv
          have k11 : rd L9 (t + 2) = evX (I (q + 1)) (I (q + 2)) pw k := by rw [eL9, rd_cw_ne _ _ (by omega)]; exact hx
          have k12 : rd L9 (t + 3) = evY (I (q + 1)) (I (q + 2)) pw k := by rw [eL9, rd_cw_ne _ _ (by omega)]; exact hy
          have k13 : rd L9 (q + 3) = gauC (Int32.toInt64 (I (q + 1) k)) (Int32.toInt64 (I (q + 2) k)) (pw k) := by rw [eL9, rd_cw]; simp only [hq0]
          have k14 : rd L9 (w + 2 + k) = pw k := by rw [eL9, rd_cw_ne _ _ (by omega)]; exact hq0
          have k15 : rd L9 (w + 2 + (tm (tX k - 1) (tY k))) = pw (tm (tX k - 1) (tY k)) := by rw [eL9, rd_cw_ne _ _ (by omega)]; exact hq1
          have k16 : rd L9 (w + 2 + (tm (tX k) (tY k - 1))) = pw (tm (tX k) (tY k - 1)) := by rw [eL9, rd_cw_ne _ _ (by omega)]; exact hq2
          refine x_aload_n 73 C dX1_evaluate_73 rfl 4 rfl ?_
          refine x_getr 74 C (b := t + 1) dX1_evaluate_74 ff_X1_68 rfl hT.1 rfl ?_
          refine x_aload_n 77 C dX1_evaluate_77 rfl 2 rfl ?_
          refine x_getr 78 C (b := q + 3) dX1_evaluate_78 ff_X1_19 rfl hE.1 rfl ?_
          refine x_callVe 81 C dX1_evaluate_81 (As := [.ref (q + 3)]) (rest := []) [] (t_X0_add_c l D z n G I L9 (t + 1) (q + 3) hT.2.1 hE.2.2.2 (by omega)) mt_X0_add km_X1_71 ki_X0_add ks_X0_add hT.2.1 ⟨by decide, rfl⟩ rfl rfl (Nat.le_of_ble_eq_true rfl) ⟨⟨by decide, by decide⟩, by decide, by decide⟩ (fun I17 L18 eI17 eL18 => ?_)
          replace eI17 := eI17.symm; subst eI17
          have k19 : rd L18 (t + 1) = addC (evV (I (q + 1)) (I (q + 2)) pw k) (gauC (Int32.toInt64 (I (q + 1) k)) (Int32.toInt64 (I (q + 2) k)) (pw k)) := by rw [eL18, rd_cw]; simp only [k10, k13]
          have k20 : rd L18 (t + 2) = evX (I (q + 1)) (I (q + 2)) pw k := by rw [eL18, rd_cw_ne _ _ (by omega)]; exact k11
          have k21 : rd L18 (t + 3) = evY (I (q + 1)) (I (q + 2)) pw k := by rw [eL18, rd_cw_ne _ _ (by omega)]; exact k12
          have k22 : rd L18 (q + 3) = gauC (Int32.toInt64 (I (q + 1) k)) (Int32.toInt64 (I (q + 2) k)) (pw k) := by rw [eL18, rd_cw_ne _ _ (by omega)]; exact k13
          have k23 : rd L18 (w + 2 + k) = pw k := by rw [eL18, rd_cw_ne _ _ (by omega)]; exact k14
          have k24 : rd L18 (w + 2 + (tm (tX k - 1) (tY k))) = pw (tm (tX k - 1) (tY k)) := by rw [eL18, rd_cw_ne _ _ (by omega)]; exact k15
          have k25 : rd L18 (w + 2 + (tm (tX k) (tY k - 1))) = pw (tm (tX k) (tY k - 1)) := by rw [eL18, rd_cw_ne _ _ (by omega)]; exact k16
          refine x_iload 84 C dX1_evaluate_84 1 rfl ?_
          refine x_if_le 86 C 140 dX1_evaluate_86 (by decide) (fun c26 => ?_) (fun c26 => ?_)
          · skip
            have c26n : (tX k) ≤ 0 := (nI_leI (a := (tX k)) (b := 0) (by omega) (by omega)).mp c26
            have c26o := Int32.not_lt.mpr c26
            have hi0 : ¬ 0 < tX k := by omega
            refine x_iload 140 C dX1_evaluate_140 0 rfl ?_
            refine x_if_le 142 C 196 dX1_evaluate_142 (by decide) (fun c27 => ?_) (fun c27 => ?_)
            · skip
              have c27n : (tY k) ≤ 0 := (nI_leI (a := (tY k)) (b := 0) (by omega) (by omega)).mp c27
              have c27o := Int32.not_lt.mpr c27
              have hj0 : ¬ 0 < tY k := by omega
              refine x_iinc 196 C [(3, .int (nI (k + 1))), (5, .int (nI (tY k))), (4, .int (nI (tX k))), (0, .ref q), (1, .ref w), (2, .ref t)] dX1_evaluate_196 5 rfl (nI_add k 1) (by decide) rfl ?_
              refine x_goto 199 C 6 dX1_evaluate_199 (by decide) ?_
              refine x_sub [(0, .ref q), (1, .ref w), (2, .ref t), (3, .int (nI (k + 1)))] [3, 4, 5, 0] rfl ?_
              refine ih (k + 1) L18 (by omega) (by omega) ?_ ?_ ?_ ?_
              · rw [k19]; simp [evV, c4, c4o, c5, c26, c26o, hi0, c27, c27o, hj0]
              · rw [k20]; simp [evX, c4, c4o, c5, c26, c26o, hi0, c27, c27o, hj0]
              · rw [k21]; simp [evY, c4, c4o, c5, c26, c26o, hi0, c27, c27o, hj0]
              · intro a g1 g2; rw [eL18, cw_ne _ _ (by omega)]; rw [eL9, cw_ne _ _ (by omega)]; exact hp a g1 g2
            · skip
              have c27n : ¬ ((tY k) ≤ 0) := fun h => c27 ((nI_leI (a := (tY k)) (b := 0) (by omega) (by omega)).mpr h)
              have c27o := Int32.not_le.mp c27
              have hj1 : 0 < tY k := by omega
              refine x_aload_n 145 C dX1_evaluate_145 rfl 2 rfl ?_
              refine x_getr 146 C (b := q + 3) dX1_evaluate_146 ff_X1_19 rfl hE.1 rfl ?_
              refine x_aload_n 149 C dX1_evaluate_149 rfl 3 rfl ?_
              refine x_iload 150 C dX1_evaluate_150 1 rfl ?_
              refine x_iload 152 C dX1_evaluate_152 0 rfl ?_
              refine x_iconst 154 C (v := 1) dX1_evaluate_154 rfl ?_
              refine x_isub 155 C dX1_evaluate_155 ?_
              refine x_int (nI (tY k - 1)) (nI_sub (a := (tY k)) (b := 1) (by omega)) ?_
              refine x_callSe 156 C dX1_evaluate_156 (As := [.int (nI (tX k)), .int (nI (tY k - 1))]) (rest := [.ref w, .ref (q + 3)]) [.int (nI (tm (tX k) (tY k - 1))), .ref w, .ref (q + 3)] (t_X1_termOf l D z n G I L18 (tX k) (tY k - 1) (by first | assumption | omega)) mt_X1_termOf km_X1_35 kt_X1_termOf rfl rfl (Nat.le_of_ble_eq_true rfl) ⟨⟨by decide, by decide⟩, by decide, by decide⟩ (fun I28 L29 eI28 eL29 => ?_)
              replace eI28 := eI28.symm; subst eI28
              replace eL29 := eL29.symm; subst eL29
              refine x_callVe 159 C dX1_evaluate_159 (As := [.int (nI (tm (tX k) (tY k - 1)))]) (rest := [.ref (q + 3)]) [.ref (w + 2 + (tm (tX k) (tY k - 1))), .ref (q + 3)] (t_X7_at l D z n G I L18 w (tm (tX k) (tY k - 1)) hW (by first | assumption | omega)) mt_X7_at km_X1_58 ki_X7_at ks_X7_at hW.1 ⟨by decide, rfl⟩ rfl rfl (Nat.le_of_ble_eq_true rfl) ⟨⟨by decide, by decide⟩, by decide, by decide⟩ (fun I30 L31 eI30 eL31 => ?_)
              replace eI30 := eI30.symm; subst eI30
              replace eL31 := eL31.symm; subst eL31
              refine x_iload 162 C dX1_evaluate_162 0 rfl ?_
              refine x_aload_n 164 C dX1_evaluate_164 rfl 2 rfl ?_
              refine x_getr 165 C (b := q + 1) dX1_evaluate_165 ff_X1_9 rfl hE.1 rfl ?_
              refine x_iload_n 168 C dX1_evaluate_168 rfl 5 rfl ?_
              refine x_iald 169 C (j := k) dX1_evaluate_169 hE.2.1 (xIx_nI (by omega) (by decide)) ?_
              refine x_imul 170 C dX1_evaluate_170 ?_
              refine x_i2l 171 C dX1_evaluate_171 ?_
              refine x_iload 172 C dX1_evaluate_172 0 rfl ?_
              refine x_aload_n 174 C dX1_evaluate_174 rfl 2 rfl ?_
              refine x_getr 175 C (b := q + 2) dX1_evaluate_175 ff_X1_13 rfl hE.1 rfl ?_
              refine x_iload_n 178 C dX1_evaluate_178 rfl 5 rfl ?_
              refine x_iald 179 C (j := k) dX1_evaluate_179 hE.2.2.1 (xIx_nI (by omega) (by decide)) ?_
              refine x_imul 180 C dX1_evaluate_180 ?_
              refine x_i2l 181 C dX1_evaluate_181 ?_
              refine x_callVe 182 C dX1_evaluate_182 (As := [.ref (w + 2 + (tm (tX k) (tY k - 1))), .long (Int32.toInt64 ((nI (tY k)) * (I (q + 1) k))), .long (Int32.toInt64 ((nI (tY k)) * (I (q + 2) k)))]) (rest := []) [] (t_X0_putTimesGaussian_c l D z n G I L18 (q + 3) (w + 2 + (tm (tX k) (tY k - 1))) (Int32.toInt64 ((nI (tY k)) * (I (q + 1) k))) (Int32.toInt64 ((nI (tY k)) * (I (q + 2) k))) hE.2.2.2 (hW.2.2 _ htm2) (by omega)) mt_X0_putTimesGaussian km_X1_64 ki_X0_putTimesGaussian ks_X0_putTimesGaussian hE.2.2.2 ⟨by decide, rfl⟩ rfl rfl (Nat.le_of_ble_eq_true rfl) ⟨⟨by decide, by decide⟩, by decide, by decide⟩ (fun I32 L33 eI32 eL33 => ?_)
              replace eI32 := eI32.symm; subst eI32
              have k34 : rd L33 (t + 1) = addC (evV (I (q + 1)) (I (q + 2)) pw k) (gauC (Int32.toInt64 (I (q + 1) k)) (Int32.toInt64 (I (q + 2) k)) (pw k)) := by rw [eL33, rd_cw_ne _ _ (by omega)]; exact k19
              have k35 : rd L33 (t + 2) = evX (I (q + 1)) (I (q + 2)) pw k := by rw [eL33, rd_cw_ne _ _ (by omega)]; exact k20
              have k36 : rd L33 (t + 3) = evY (I (q + 1)) (I (q + 2)) pw k := by rw [eL33, rd_cw_ne _ _ (by omega)]; exact k21
              have k37 : rd L33 (q + 3) = gauC (Int32.toInt64 ((nI (tY k)) * (I (q + 1) k))) (Int32.toInt64 ((nI (tY k)) * (I (q + 2) k))) (pw (tm (tX k) (tY k - 1))) := by rw [eL33, rd_cw]; simp only [k25]
              have k38 : rd L33 (w + 2 + k) = pw k := by rw [eL33, rd_cw_ne _ _ (by omega)]; exact k23
              have k39 : rd L33 (w + 2 + (tm (tX k - 1) (tY k))) = pw (tm (tX k - 1) (tY k)) := by rw [eL33, rd_cw_ne _ _ (by omega)]; exact k24
              have k40 : rd L33 (w + 2 + (tm (tX k) (tY k - 1))) = pw (tm (tX k) (tY k - 1)) := by rw [eL33, rd_cw_ne _ _ (by omega)]; exact k25
              refine x_aload_n 185 C dX1_evaluate_185 rfl 4 rfl ?_
              refine x_getr 186 C (b := t + 3) dX1_evaluate_186 ff_X1_78 rfl hT.1 rfl ?_
              refine x_aload_n 189 C dX1_evaluate_189 rfl 2 rfl ?_
              refine x_getr 190 C (b := q + 3) dX1_evaluate_190 ff_X1_19 rfl hE.1 rfl ?_
              refine x_callVe 193 C dX1_evaluate_193 (As := [.ref (q + 3)]) (rest := []) [] (t_X0_add_c l D z n G I L33 (t + 3) (q + 3) hT.2.2.2 hE.2.2.2 (by omega)) mt_X0_add km_X1_71 ki_X0_add ks_X0_add hT.2.2.2 ⟨by decide, rfl⟩ rfl rfl (Nat.le_of_ble_eq_true rfl) ⟨⟨by decide, by decide⟩, by decide, by decide⟩ (fun I41 L42 eI41 eL42 => ?_)
              replace eI41 := eI41.symm; subst eI41
              have k43 : rd L42 (t + 1) = addC (evV (I (q + 1)) (I (q + 2)) pw k) (gauC (Int32.toInt64 (I (q + 1) k)) (Int32.toInt64 (I (q + 2) k)) (pw k)) := by rw [eL42, rd_cw_ne _ _ (by omega)]; exact k34
              have k44 : rd L42 (t + 2) = evX (I (q + 1)) (I (q + 2)) pw k := by rw [eL42, rd_cw_ne _ _ (by omega)]; exact k35
              have k45 : rd L42 (t + 3) = addC (evY (I (q + 1)) (I (q + 2)) pw k) (gauC (Int32.toInt64 ((nI (tY k)) * (I (q + 1) k))) (Int32.toInt64 ((nI (tY k)) * (I (q + 2) k))) (pw (tm (tX k) (tY k - 1)))) := by rw [eL42, rd_cw]; simp only [k36, k37]
              have k46 : rd L42 (q + 3) = gauC (Int32.toInt64 ((nI (tY k)) * (I (q + 1) k))) (Int32.toInt64 ((nI (tY k)) * (I (q + 2) k))) (pw (tm (tX k) (tY k - 1))) := by rw [eL42, rd_cw_ne _ _ (by omega)]; exact k37
              have k47 : rd L42 (w + 2 + k) = pw k := by rw [eL42, rd_cw_ne _ _ (by omega)]; exact k38
              have k48 : rd L42 (w + 2 + (tm (tX k - 1) (tY k))) = pw (tm (tX k - 1) (tY k)) := by rw [eL42, rd_cw_ne _ _ (by omega)]; exact k39
              have k49 : rd L42 (w + 2 + (tm (tX k) (tY k - 1))) = pw (tm (tX k) (tY k - 1)) := by rw [eL42, rd_cw_ne _ _ (by omega)]; exact k40
              refine x_iinc 196 C [(3, .int (nI (k + 1))), (5, .int (nI (tY k))), (4, .int (nI (tX k))), (0, .ref q), (1, .ref w), (2, .ref t)] dX1_evaluate_196 5 rfl (nI_add k 1) (by decide) rfl ?_
              refine x_goto 199 C 6 dX1_evaluate_199 (by decide) ?_
              refine x_sub [(0, .ref q), (1, .ref w), (2, .ref t), (3, .int (nI (k + 1)))] [3, 4, 5, 0] rfl ?_
              refine ih (k + 1) L42 (by omega) (by omega) ?_ ?_ ?_ ?_
              · rw [k43]; simp [evV, c4, c4o, c5, c26, c26o, hi0, c27, c27o, hj1]
              · rw [k44]; simp [evX, c4, c4o, c5, c26, c26o, hi0, c27, c27o, hj1]
              · rw [k45]; simp [evY, c4, c4o, c5, c26, c26o, hi0, c27, c27o, hj1]
              · intro a g1 g2; rw [eL42, cw_ne _ _ (by omega)]; rw [eL33, cw_ne _ _ (by omega)]; rw [eL18, cw_ne _ _ (by omega)]; rw [eL9, cw_ne _ _ (by omega)]; exact hp a g1 g2
          · skip
            have c26n : ¬ ((tX k) ≤ 0) := fun h => c26 ((nI_leI (a := (tX k)) (b := 0) (by omega) (by omega)).mpr h)
            have c26o := Int32.not_le.mp c26
            have hi1 : 0 < tX k := by omega
            refine x_aload_n 89 C dX1_evaluate_89 rfl 2 rfl ?_
            refine x_getr 90 C (b := q + 3) dX1_evaluate_90 ff_X1_19 rfl hE.1 rfl ?_
            refine x_aload_n 93 C dX1_evaluate_93 rfl 3 rfl ?_
            refine x_iload 94 C dX1_evaluate_94 1 rfl ?_
            refine x_iconst 96 C (v := 1) dX1_evaluate_96 rfl ?_
            refine x_isub 97 C dX1_evaluate_97 ?_
            refine x_int (nI (tX k - 1)) (nI_sub (a := (tX k)) (b := 1) (by omega)) ?_
            refine x_iload 98 C dX1_evaluate_98 0 rfl ?_
            refine x_callSe 100 C dX1_evaluate_100 (As := [.int (nI (tX k - 1)), .int (nI (tY k))]) (rest := [.ref w, .ref (q + 3)]) [.int (nI (tm (tX k - 1) (tY k))), .ref w, .ref (q + 3)] (t_X1_termOf l D z n G I L18 (tX k - 1) (tY k) (by first | assumption | omega)) mt_X1_termOf km_X1_35 kt_X1_termOf rfl rfl (Nat.le_of_ble_eq_true rfl) ⟨⟨by decide, by decide⟩, by decide, by decide⟩ (fun I50 L51 eI50 eL51 => ?_)
            replace eI50 := eI50.symm; subst eI50
            replace eL51 := eL51.symm; subst eL51
            refine x_callVe 103 C dX1_evaluate_103 (As := [.int (nI (tm (tX k - 1) (tY k)))]) (rest := [.ref (q + 3)]) [.ref (w + 2 + (tm (tX k - 1) (tY k))), .ref (q + 3)] (t_X7_at l D z n G I L18 w (tm (tX k - 1) (tY k)) hW (by first | assumption | omega)) mt_X7_at km_X1_58 ki_X7_at ks_X7_at hW.1 ⟨by decide, rfl⟩ rfl rfl (Nat.le_of_ble_eq_true rfl) ⟨⟨by decide, by decide⟩, by decide, by decide⟩ (fun I52 L53 eI52 eL53 => ?_)
            replace eI52 := eI52.symm; subst eI52
            replace eL53 := eL53.symm; subst eL53
            refine x_iload 106 C dX1_evaluate_106 1 rfl ?_
            refine x_aload_n 108 C dX1_evaluate_108 rfl 2 rfl ?_
            refine x_getr 109 C (b := q + 1) dX1_evaluate_109 ff_X1_9 rfl hE.1 rfl ?_
            refine x_iload_n 112 C dX1_evaluate_112 rfl 5 rfl ?_
            refine x_iald 113 C (j := k) dX1_evaluate_113 hE.2.1 (xIx_nI (by omega) (by decide)) ?_
            refine x_imul 114 C dX1_evaluate_114 ?_
            refine x_i2l 115 C dX1_evaluate_115 ?_
            refine x_iload 116 C dX1_evaluate_116 1 rfl ?_
            refine x_aload_n 118 C dX1_evaluate_118 rfl 2 rfl ?_
            refine x_getr 119 C (b := q + 2) dX1_evaluate_119 ff_X1_13 rfl hE.1 rfl ?_
            refine x_iload_n 122 C dX1_evaluate_122 rfl 5 rfl ?_
            refine x_iald 123 C (j := k) dX1_evaluate_123 hE.2.2.1 (xIx_nI (by omega) (by decide)) ?_
            refine x_imul 124 C dX1_evaluate_124 ?_
            refine x_i2l 125 C dX1_evaluate_125 ?_
            refine x_callVe 126 C dX1_evaluate_126 (As := [.ref (w + 2 + (tm (tX k - 1) (tY k))), .long (Int32.toInt64 ((nI (tX k)) * (I (q + 1) k))), .long (Int32.toInt64 ((nI (tX k)) * (I (q + 2) k)))]) (rest := []) [] (t_X0_putTimesGaussian_c l D z n G I L18 (q + 3) (w + 2 + (tm (tX k - 1) (tY k))) (Int32.toInt64 ((nI (tX k)) * (I (q + 1) k))) (Int32.toInt64 ((nI (tX k)) * (I (q + 2) k))) hE.2.2.2 (hW.2.2 _ htm1) (by omega)) mt_X0_putTimesGaussian km_X1_64 ki_X0_putTimesGaussian ks_X0_putTimesGaussian hE.2.2.2 ⟨by decide, rfl⟩ rfl rfl (Nat.le_of_ble_eq_true rfl) ⟨⟨by decide, by decide⟩, by decide, by decide⟩ (fun I54 L55 eI54 eL55 => ?_)
            replace eI54 := eI54.symm; subst eI54
            have k56 : rd L55 (t + 1) = addC (evV (I (q + 1)) (I (q + 2)) pw k) (gauC (Int32.toInt64 (I (q + 1) k)) (Int32.toInt64 (I (q + 2) k)) (pw k)) := by rw [eL55, rd_cw_ne _ _ (by omega)]; exact k19
            have k57 : rd L55 (t + 2) = evX (I (q + 1)) (I (q + 2)) pw k := by rw [eL55, rd_cw_ne _ _ (by omega)]; exact k20
            have k58 : rd L55 (t + 3) = evY (I (q + 1)) (I (q + 2)) pw k := by rw [eL55, rd_cw_ne _ _ (by omega)]; exact k21
            have k59 : rd L55 (q + 3) = gauC (Int32.toInt64 ((nI (tX k)) * (I (q + 1) k))) (Int32.toInt64 ((nI (tX k)) * (I (q + 2) k))) (pw (tm (tX k - 1) (tY k))) := by rw [eL55, rd_cw]; simp only [k24]
            have k60 : rd L55 (w + 2 + k) = pw k := by rw [eL55, rd_cw_ne _ _ (by omega)]; exact k23
            have k61 : rd L55 (w + 2 + (tm (tX k - 1) (tY k))) = pw (tm (tX k - 1) (tY k)) := by rw [eL55, rd_cw_ne _ _ (by omega)]; exact k24
            have k62 : rd L55 (w + 2 + (tm (tX k) (tY k - 1))) = pw (tm (tX k) (tY k - 1)) := by rw [eL55, rd_cw_ne _ _ (by omega)]; exact k25
            refine x_aload_n 129 C dX1_evaluate_129 rfl 4 rfl ?_
            refine x_getr 130 C (b := t + 2) dX1_evaluate_130 ff_X1_75 rfl hT.1 rfl ?_
            refine x_aload_n 133 C dX1_evaluate_133 rfl 2 rfl ?_
            refine x_getr 134 C (b := q + 3) dX1_evaluate_134 ff_X1_19 rfl hE.1 rfl ?_
            refine x_callVe 137 C dX1_evaluate_137 (As := [.ref (q + 3)]) (rest := []) [] (t_X0_add_c l D z n G I L55 (t + 2) (q + 3) hT.2.2.1 hE.2.2.2 (by omega)) mt_X0_add km_X1_71 ki_X0_add ks_X0_add hT.2.2.1 ⟨by decide, rfl⟩ rfl rfl (Nat.le_of_ble_eq_true rfl) ⟨⟨by decide, by decide⟩, by decide, by decide⟩ (fun I63 L64 eI63 eL64 => ?_)
            replace eI63 := eI63.symm; subst eI63
            have k65 : rd L64 (t + 1) = addC (evV (I (q + 1)) (I (q + 2)) pw k) (gauC (Int32.toInt64 (I (q + 1) k)) (Int32.toInt64 (I (q + 2) k)) (pw k)) := by rw [eL64, rd_cw_ne _ _ (by omega)]; exact k56
            have k66 : rd L64 (t + 2) = addC (evX (I (q + 1)) (I (q + 2)) pw k) (gauC (Int32.toInt64 ((nI (tX k)) * (I (q + 1) k))) (Int32.toInt64 ((nI (tX k)) * (I (q + 2) k))) (pw (tm (tX k - 1) (tY k)))) := by rw [eL64, rd_cw]; simp only [k57, k59]
            have k67 : rd L64 (t + 3) = evY (I (q + 1)) (I (q + 2)) pw k := by rw [eL64, rd_cw_ne _ _ (by omega)]; exact k58
            have k68 : rd L64 (q + 3) = gauC (Int32.toInt64 ((nI (tX k)) * (I (q + 1) k))) (Int32.toInt64 ((nI (tX k)) * (I (q + 2) k))) (pw (tm (tX k - 1) (tY k))) := by rw [eL64, rd_cw_ne _ _ (by omega)]; exact k59
            have k69 : rd L64 (w + 2 + k) = pw k := by rw [eL64, rd_cw_ne _ _ (by omega)]; exact k60
            have k70 : rd L64 (w + 2 + (tm (tX k - 1) (tY k))) = pw (tm (tX k - 1) (tY k)) := by rw [eL64, rd_cw_ne _ _ (by omega)]; exact k61
            have k71 : rd L64 (w + 2 + (tm (tX k) (tY k - 1))) = pw (tm (tX k) (tY k - 1)) := by rw [eL64, rd_cw_ne _ _ (by omega)]; exact k62
            refine x_iload 140 C dX1_evaluate_140 0 rfl ?_
            refine x_if_le 142 C 196 dX1_evaluate_142 (by decide) (fun c72 => ?_) (fun c72 => ?_)
            · skip
              have c72n : (tY k) ≤ 0 := (nI_leI (a := (tY k)) (b := 0) (by omega) (by omega)).mp c72
              have c72o := Int32.not_lt.mpr c72
              have hj0 : ¬ 0 < tY k := by omega
              refine x_iinc 196 C [(3, .int (nI (k + 1))), (5, .int (nI (tY k))), (4, .int (nI (tX k))), (0, .ref q), (1, .ref w), (2, .ref t)] dX1_evaluate_196 5 rfl (nI_add k 1) (by decide) rfl ?_
              refine x_goto 199 C 6 dX1_evaluate_199 (by decide) ?_
              refine x_sub [(0, .ref q), (1, .ref w), (2, .ref t), (3, .int (nI (k + 1)))] [3, 4, 5, 0] rfl ?_
              refine ih (k + 1) L64 (by omega) (by omega) ?_ ?_ ?_ ?_
              · rw [k65]; simp [evV, c4, c4o, c5, c26, c26o, hi1, c72, c72o, hj0]
              · rw [k66]; simp [evX, c4, c4o, c5, c26, c26o, hi1, c72, c72o, hj0]
              · rw [k67]; simp [evY, c4, c4o, c5, c26, c26o, hi1, c72, c72o, hj0]
              · intro a g1 g2; rw [eL64, cw_ne _ _ (by omega)]; rw [eL55, cw_ne _ _ (by omega)]; rw [eL18, cw_ne _ _ (by omega)]; rw [eL9, cw_ne _ _ (by omega)]; exact hp a g1 g2
            · skip
              have c72n : ¬ ((tY k) ≤ 0) := fun h => c72 ((nI_leI (a := (tY k)) (b := 0) (by omega) (by omega)).mpr h)
              have c72o := Int32.not_le.mp c72
              have hj1 : 0 < tY k := by omega
              refine x_aload_n 145 C dX1_evaluate_145 rfl 2 rfl ?_
              refine x_getr 146 C (b := q + 3) dX1_evaluate_146 ff_X1_19 rfl hE.1 rfl ?_
              refine x_aload_n 149 C dX1_evaluate_149 rfl 3 rfl ?_
              refine x_iload 150 C dX1_evaluate_150 1 rfl ?_
              refine x_iload 152 C dX1_evaluate_152 0 rfl ?_
              refine x_iconst 154 C (v := 1) dX1_evaluate_154 rfl ?_
              refine x_isub 155 C dX1_evaluate_155 ?_
              refine x_int (nI (tY k - 1)) (nI_sub (a := (tY k)) (b := 1) (by omega)) ?_
              refine x_callSe 156 C dX1_evaluate_156 (As := [.int (nI (tX k)), .int (nI (tY k - 1))]) (rest := [.ref w, .ref (q + 3)]) [.int (nI (tm (tX k) (tY k - 1))), .ref w, .ref (q + 3)] (t_X1_termOf l D z n G I L64 (tX k) (tY k - 1) (by first | assumption | omega)) mt_X1_termOf km_X1_35 kt_X1_termOf rfl rfl (Nat.le_of_ble_eq_true rfl) ⟨⟨by decide, by decide⟩, by decide, by decide⟩ (fun I73 L74 eI73 eL74 => ?_)
              replace eI73 := eI73.symm; subst eI73
              replace eL74 := eL74.symm; subst eL74
              refine x_callVe 159 C dX1_evaluate_159 (As := [.int (nI (tm (tX k) (tY k - 1)))]) (rest := [.ref (q + 3)]) [.ref (w + 2 + (tm (tX k) (tY k - 1))), .ref (q + 3)] (t_X7_at l D z n G I L64 w (tm (tX k) (tY k - 1)) hW (by first | assumption | omega)) mt_X7_at km_X1_58 ki_X7_at ks_X7_at hW.1 ⟨by decide, rfl⟩ rfl rfl (Nat.le_of_ble_eq_true rfl) ⟨⟨by decide, by decide⟩, by decide, by decide⟩ (fun I75 L76 eI75 eL76 => ?_)
              replace eI75 := eI75.symm; subst eI75
              replace eL76 := eL76.symm; subst eL76
              refine x_iload 162 C dX1_evaluate_162 0 rfl ?_
              refine x_aload_n 164 C dX1_evaluate_164 rfl 2 rfl ?_
              refine x_getr 165 C (b := q + 1) dX1_evaluate_165 ff_X1_9 rfl hE.1 rfl ?_
              refine x_iload_n 168 C dX1_evaluate_168 rfl 5 rfl ?_
              refine x_iald 169 C (j := k) dX1_evaluate_169 hE.2.1 (xIx_nI (by omega) (by decide)) ?_
              refine x_imul 170 C dX1_evaluate_170 ?_
              refine x_i2l 171 C dX1_evaluate_171 ?_
              refine x_iload 172 C dX1_evaluate_172 0 rfl ?_
              refine x_aload_n 174 C dX1_evaluate_174 rfl 2 rfl ?_
              refine x_getr 175 C (b := q + 2) dX1_evaluate_175 ff_X1_13 rfl hE.1 rfl ?_
              refine x_iload_n 178 C dX1_evaluate_178 rfl 5 rfl ?_
              refine x_iald 179 C (j := k) dX1_evaluate_179 hE.2.2.1 (xIx_nI (by omega) (by decide)) ?_
              refine x_imul 180 C dX1_evaluate_180 ?_
              refine x_i2l 181 C dX1_evaluate_181 ?_
              refine x_callVe 182 C dX1_evaluate_182 (As := [.ref (w + 2 + (tm (tX k) (tY k - 1))), .long (Int32.toInt64 ((nI (tY k)) * (I (q + 1) k))), .long (Int32.toInt64 ((nI (tY k)) * (I (q + 2) k)))]) (rest := []) [] (t_X0_putTimesGaussian_c l D z n G I L64 (q + 3) (w + 2 + (tm (tX k) (tY k - 1))) (Int32.toInt64 ((nI (tY k)) * (I (q + 1) k))) (Int32.toInt64 ((nI (tY k)) * (I (q + 2) k))) hE.2.2.2 (hW.2.2 _ htm2) (by omega)) mt_X0_putTimesGaussian km_X1_64 ki_X0_putTimesGaussian ks_X0_putTimesGaussian hE.2.2.2 ⟨by decide, rfl⟩ rfl rfl (Nat.le_of_ble_eq_true rfl) ⟨⟨by decide, by decide⟩, by decide, by decide⟩ (fun I77 L78 eI77 eL78 => ?_)
              replace eI77 := eI77.symm; subst eI77
              have k79 : rd L78 (t + 1) = addC (evV (I (q + 1)) (I (q + 2)) pw k) (gauC (Int32.toInt64 (I (q + 1) k)) (Int32.toInt64 (I (q + 2) k)) (pw k)) := by rw [eL78, rd_cw_ne _ _ (by omega)]; exact k65
              have k80 : rd L78 (t + 2) = addC (evX (I (q + 1)) (I (q + 2)) pw k) (gauC (Int32.toInt64 ((nI (tX k)) * (I (q + 1) k))) (Int32.toInt64 ((nI (tX k)) * (I (q + 2) k))) (pw (tm (tX k - 1) (tY k)))) := by rw [eL78, rd_cw_ne _ _ (by omega)]; exact k66
              have k81 : rd L78 (t + 3) = evY (I (q + 1)) (I (q + 2)) pw k := by rw [eL78, rd_cw_ne _ _ (by omega)]; exact k67
              have k82 : rd L78 (q + 3) = gauC (Int32.toInt64 ((nI (tY k)) * (I (q + 1) k))) (Int32.toInt64 ((nI (tY k)) * (I (q + 2) k))) (pw (tm (tX k) (tY k - 1))) := by rw [eL78, rd_cw]; simp only [k71]
              have k83 : rd L78 (w + 2 + k) = pw k := by rw [eL78, rd_cw_ne _ _ (by omega)]; exact k69
              have k84 : rd L78 (w + 2 + (tm (tX k - 1) (tY k))) = pw (tm (tX k - 1) (tY k)) := by rw [eL78, rd_cw_ne _ _ (by omega)]; exact k70
              have k85 : rd L78 (w + 2 + (tm (tX k) (tY k - 1))) = pw (tm (tX k) (tY k - 1)) := by rw [eL78, rd_cw_ne _ _ (by omega)]; exact k71
              refine x_aload_n 185 C dX1_evaluate_185 rfl 4 rfl ?_
              refine x_getr 186 C (b := t + 3) dX1_evaluate_186 ff_X1_78 rfl hT.1 rfl ?_
              refine x_aload_n 189 C dX1_evaluate_189 rfl 2 rfl ?_
              refine x_getr 190 C (b := q + 3) dX1_evaluate_190 ff_X1_19 rfl hE.1 rfl ?_
              refine x_callVe 193 C dX1_evaluate_193 (As := [.ref (q + 3)]) (rest := []) [] (t_X0_add_c l D z n G I L78 (t + 3) (q + 3) hT.2.2.2 hE.2.2.2 (by omega)) mt_X0_add km_X1_71 ki_X0_add ks_X0_add hT.2.2.2 ⟨by decide, rfl⟩ rfl rfl (Nat.le_of_ble_eq_true rfl) ⟨⟨by decide, by decide⟩, by decide, by decide⟩ (fun I86 L87 eI86 eL87 => ?_)
              replace eI86 := eI86.symm; subst eI86
              have k88 : rd L87 (t + 1) = addC (evV (I (q + 1)) (I (q + 2)) pw k) (gauC (Int32.toInt64 (I (q + 1) k)) (Int32.toInt64 (I (q + 2) k)) (pw k)) := by rw [eL87, rd_cw_ne _ _ (by omega)]; exact k79
              have k89 : rd L87 (t + 2) = addC (evX (I (q + 1)) (I (q + 2)) pw k) (gauC (Int32.toInt64 ((nI (tX k)) * (I (q + 1) k))) (Int32.toInt64 ((nI (tX k)) * (I (q + 2) k))) (pw (tm (tX k - 1) (tY k)))) := by rw [eL87, rd_cw_ne _ _ (by omega)]; exact k80
              have k90 : rd L87 (t + 3) = addC (evY (I (q + 1)) (I (q + 2)) pw k) (gauC (Int32.toInt64 ((nI (tY k)) * (I (q + 1) k))) (Int32.toInt64 ((nI (tY k)) * (I (q + 2) k))) (pw (tm (tX k) (tY k - 1)))) := by rw [eL87, rd_cw]; simp only [k81, k82]
              have k91 : rd L87 (q + 3) = gauC (Int32.toInt64 ((nI (tY k)) * (I (q + 1) k))) (Int32.toInt64 ((nI (tY k)) * (I (q + 2) k))) (pw (tm (tX k) (tY k - 1))) := by rw [eL87, rd_cw_ne _ _ (by omega)]; exact k82
              have k92 : rd L87 (w + 2 + k) = pw k := by rw [eL87, rd_cw_ne _ _ (by omega)]; exact k83
              have k93 : rd L87 (w + 2 + (tm (tX k - 1) (tY k))) = pw (tm (tX k - 1) (tY k)) := by rw [eL87, rd_cw_ne _ _ (by omega)]; exact k84
              have k94 : rd L87 (w + 2 + (tm (tX k) (tY k - 1))) = pw (tm (tX k) (tY k - 1)) := by rw [eL87, rd_cw_ne _ _ (by omega)]; exact k85
              refine x_iinc 196 C [(3, .int (nI (k + 1))), (5, .int (nI (tY k))), (4, .int (nI (tX k))), (0, .ref q), (1, .ref w), (2, .ref t)] dX1_evaluate_196 5 rfl (nI_add k 1) (by decide) rfl ?_
              refine x_goto 199 C 6 dX1_evaluate_199 (by decide) ?_
              refine x_sub [(0, .ref q), (1, .ref w), (2, .ref t), (3, .int (nI (k + 1)))] [3, 4, 5, 0] rfl ?_
              refine ih (k + 1) L87 (by omega) (by omega) ?_ ?_ ?_ ?_
              · rw [k88]; simp [evV, c4, c4o, c5, c26, c26o, hi1, c72, c72o, hj1]
              · rw [k89]; simp [evX, c4, c4o, c5, c26, c26o, hi1, c72, c72o, hj1]
              · rw [k90]; simp [evY, c4, c4o, c5, c26, c26o, hi1, c72, c72o, hj1]
              · intro a g1 g2; rw [eL87, cw_ne _ _ (by omega)]; rw [eL78, cw_ne _ _ (by omega)]; rw [eL64, cw_ne _ _ (by omega)]; rw [eL55, cw_ne _ _ (by omega)]; rw [eL18, cw_ne _ _ (by omega)]; rw [eL9, cw_ne _ _ (by omega)]; exact hp a g1 g2
        · skip
          refine x_aload_n 21 C dX1_evaluate_21 rfl 0 rfl ?_
          refine x_getr 22 C (b := q + 2) dX1_evaluate_22 ff_X1_13 rfl hE.1 rfl ?_
          refine x_iload_n 25 C dX1_evaluate_25 rfl 3 rfl ?_
          refine x_iald 26 C (j := k) dX1_evaluate_26 hE.2.2.1 (xIx_nI (by omega) (by decide)) ?_
          refine x_if_ne 27 C 33 dX1_evaluate_27 (by decide) (fun c95 => ?_) (fun c95 => ?_)
          · skip
            refine x_gets 33 C (k0 := 0) dX1_evaluate_33 rfl kf_X1_49 ?_
            refine x_iload_n 36 C dX1_evaluate_36 rfl 3 rfl ?_
            refine x_stald 37 C (j := k) dX1_evaluate_37 (k0 := 0) rfl (xIx_nI (len := 10) (by omega) (by decide)) ?_
            refine x_int (nI (tX k)) (xPx_n k) ?_
            refine x_istore 38 C [(4, .int (nI (tX k))), (0, .ref q), (1, .ref w), (2, .ref t), (3, .int (nI k))] dX1_evaluate_38 (by decide) rfl ?_
            refine x_gets 40 C (k0 := 1) dX1_evaluate_40 rfl kf_X1_52 ?_
            refine x_iload_n 43 C dX1_evaluate_43 rfl 4 rfl ?_
            refine x_stald 44 C (j := k) dX1_evaluate_44 (k0 := 1) rfl (xIx_nI (len := 10) (by omega) (by decide)) ?_
            refine x_int (nI (tY k)) (xPy_n k) ?_
            refine x_istore 45 C [(5, .int (nI (tY k))), (4, .int (nI (tX k))), (0, .ref q), (1, .ref w), (2, .ref t), (3, .int (nI k))] dX1_evaluate_45 (by decide) rfl ?_
            refine x_aload_n 47 C dX1_evaluate_47 rfl 2 rfl ?_
            refine x_getr 48 C (b := q + 3) dX1_evaluate_48 ff_X1_19 rfl hE.1 rfl ?_
            refine x_aload_n 51 C dX1_evaluate_51 rfl 3 rfl ?_
            refine x_iload_n 52 C dX1_evaluate_52 rfl 5 rfl ?_
            refine x_callVe 53 C dX1_evaluate_53 (As := [.int (nI k)]) (rest := [.ref (q + 3)]) [.ref (w + 2 + k), .ref (q + 3)] (t_X7_at l D z n G I Lk w k hW (by first | assumption | omega)) mt_X7_at km_X1_58 ki_X7_at ks_X7_at hW.1 ⟨by decide, rfl⟩ rfl rfl (Nat.le_of_ble_eq_true rfl) ⟨⟨by decide, by decide⟩, by decide, by decide⟩ (fun I96 L97 eI96 eL97 => ?_)
            replace eI96 := eI96.symm; subst eI96
            replace eL97 := eL97.symm; subst eL97
            refine x_aload_n 56 C dX1_evaluate_56 rfl 2 rfl ?_
            refine x_getr 57 C (b := q + 1) dX1_evaluate_57 ff_X1_9 rfl hE.1 rfl ?_
            refine x_iload_n 60 C dX1_evaluate_60 rfl 5 rfl ?_
            refine x_iald 61 C (j := k) dX1_evaluate_61 hE.2.1 (xIx_nI (by omega) (by decide)) ?_
            refine x_i2l 62 C dX1_evaluate_62 ?_
            refine x_aload_n 63 C dX1_evaluate_63 rfl 2 rfl ?_
            refine x_getr 64 C (b := q + 2) dX1_evaluate_64 ff_X1_13 rfl hE.1 rfl ?_
            refine x_iload_n 67 C dX1_evaluate_67 rfl 5 rfl ?_
            refine x_iald 68 C (j := k) dX1_evaluate_68 hE.2.2.1 (xIx_nI (by omega) (by decide)) ?_
            refine x_i2l 69 C dX1_evaluate_69 ?_
            refine x_callVe 70 C dX1_evaluate_70 (As := [.ref (w + 2 + k), .long (Int32.toInt64 (I (q + 1) k)), .long (Int32.toInt64 (I (q + 2) k))]) (rest := []) [] (t_X0_putTimesGaussian_c l D z n G I Lk (q + 3) (w + 2 + k) (Int32.toInt64 (I (q + 1) k)) (Int32.toInt64 (I (q + 2) k)) hE.2.2.2 (hW.2.2 k (by omega)) (by omega)) mt_X0_putTimesGaussian km_X1_64 ki_X0_putTimesGaussian ks_X0_putTimesGaussian hE.2.2.2 ⟨by decide, rfl⟩ rfl rfl (Nat.le_of_ble_eq_true rfl) ⟨⟨by decide, by decide⟩, by decide, by decide⟩ (fun I98 L99 eI98 eL99 => ?_)
            replace eI98 := eI98.symm; subst eI98
            have k100 : rd L99 (t + 1) = evV (I (q + 1)) (I (q + 2)) pw k := by rw [eL99, rd_cw_ne _ _ (by omega)]; exact hv
            have k101 : rd L99 (t + 2) = evX (I (q + 1)) (I (q + 2)) pw k := by rw [eL99, rd_cw_ne _ _ (by omega)]; exact hx
            have k102 : rd L99 (t + 3) = evY (I (q + 1)) (I (q + 2)) pw k := by rw [eL99, rd_cw_ne _ _ (by omega)]; exact hy
            have k103 : rd L99 (q + 3) = gauC (Int32.toInt64 (I (q + 1) k)) (Int32.toInt64 (I (q + 2) k)) (pw k) := by rw [eL99, rd_cw]; simp only [hq0]
            have k104 : rd L99 (w + 2 + k) = pw k := by rw [eL99, rd_cw_ne _ _ (by omega)]; exact hq0
            have k105 : rd L99 (w + 2 + (tm (tX k - 1) (tY k))) = pw (tm (tX k - 1) (tY k)) := by rw [eL99, rd_cw_ne _ _ (by omega)]; exact hq1
            have k106 : rd L99 (w + 2 + (tm (tX k) (tY k - 1))) = pw (tm (tX k) (tY k - 1)) := by rw [eL99, rd_cw_ne _ _ (by omega)]; exact hq2
            refine x_aload_n 73 C dX1_evaluate_73 rfl 4 rfl ?_
            refine x_getr 74 C (b := t + 1) dX1_evaluate_74 ff_X1_68 rfl hT.1 rfl ?_
            refine x_aload_n 77 C dX1_evaluate_77 rfl 2 rfl ?_
            refine x_getr 78 C (b := q + 3) dX1_evaluate_78 ff_X1_19 rfl hE.1 rfl ?_
            refine x_callVe 81 C dX1_evaluate_81 (As := [.ref (q + 3)]) (rest := []) [] (t_X0_add_c l D z n G I L99 (t + 1) (q + 3) hT.2.1 hE.2.2.2 (by omega)) mt_X0_add km_X1_71 ki_X0_add ks_X0_add hT.2.1 ⟨by decide, rfl⟩ rfl rfl (Nat.le_of_ble_eq_true rfl) ⟨⟨by decide, by decide⟩, by decide, by decide⟩ (fun I107 L108 eI107 eL108 => ?_)
            replace eI107 := eI107.symm; subst eI107
            have k109 : rd L108 (t + 1) = addC (evV (I (q + 1)) (I (q + 2)) pw k) (gauC (Int32.toInt64 (I (q + 1) k)) (Int32.toInt64 (I (q + 2) k)) (pw k)) := by rw [eL108, rd_cw]; simp only [k100, k103]
            have k110 : rd L108 (t + 2) = evX (I (q + 1)) (I (q + 2)) pw k := by rw [eL108, rd_cw_ne _ _ (by omega)]; exact k101
            have k111 : rd L108 (t + 3) = evY (I (q + 1)) (I (q + 2)) pw k := by rw [eL108, rd_cw_ne _ _ (by omega)]; exact k102
            have k112 : rd L108 (q + 3) = gauC (Int32.toInt64 (I (q + 1) k)) (Int32.toInt64 (I (q + 2) k)) (pw k) := by rw [eL108, rd_cw_ne _ _ (by omega)]; exact k103
            have k113 : rd L108 (w + 2 + k) = pw k := by rw [eL108, rd_cw_ne _ _ (by omega)]; exact k104
            have k114 : rd L108 (w + 2 + (tm (tX k - 1) (tY k))) = pw (tm (tX k - 1) (tY k)) := by rw [eL108, rd_cw_ne _ _ (by omega)]; exact k105
            have k115 : rd L108 (w + 2 + (tm (tX k) (tY k - 1))) = pw (tm (tX k) (tY k - 1)) := by rw [eL108, rd_cw_ne _ _ (by omega)]; exact k106
            refine x_iload 84 C dX1_evaluate_84 1 rfl ?_
            refine x_if_le 86 C 140 dX1_evaluate_86 (by decide) (fun c116 => ?_) (fun c116 => ?_)
            · skip
              have c116n : (tX k) ≤ 0 := (nI_leI (a := (tX k)) (b := 0) (by omega) (by omega)).mp c116
              have c116o := Int32.not_lt.mpr c116
              have hi0 : ¬ 0 < tX k := by omega
              refine x_iload 140 C dX1_evaluate_140 0 rfl ?_
              refine x_if_le 142 C 196 dX1_evaluate_142 (by decide) (fun c117 => ?_) (fun c117 => ?_)
              · skip
                have c117n : (tY k) ≤ 0 := (nI_leI (a := (tY k)) (b := 0) (by omega) (by omega)).mp c117
                have c117o := Int32.not_lt.mpr c117
                have hj0 : ¬ 0 < tY k := by omega
                refine x_iinc 196 C [(3, .int (nI (k + 1))), (5, .int (nI (tY k))), (4, .int (nI (tX k))), (0, .ref q), (1, .ref w), (2, .ref t)] dX1_evaluate_196 5 rfl (nI_add k 1) (by decide) rfl ?_
                refine x_goto 199 C 6 dX1_evaluate_199 (by decide) ?_
                refine x_sub [(0, .ref q), (1, .ref w), (2, .ref t), (3, .int (nI (k + 1)))] [3, 4, 5, 0] rfl ?_
                refine ih (k + 1) L108 (by omega) (by omega) ?_ ?_ ?_ ?_
                · rw [k109]; simp [evV, c4, c4o, c5, c95, c116, c116o, hi0, c117, c117o, hj0]
                · rw [k110]; simp [evX, c4, c4o, c5, c95, c116, c116o, hi0, c117, c117o, hj0]
                · rw [k111]; simp [evY, c4, c4o, c5, c95, c116, c116o, hi0, c117, c117o, hj0]
                · intro a g1 g2; rw [eL108, cw_ne _ _ (by omega)]; rw [eL99, cw_ne _ _ (by omega)]; exact hp a g1 g2
              · skip
                have c117n : ¬ ((tY k) ≤ 0) := fun h => c117 ((nI_leI (a := (tY k)) (b := 0) (by omega) (by omega)).mpr h)
                have c117o := Int32.not_le.mp c117
                have hj1 : 0 < tY k := by omega
                refine x_aload_n 145 C dX1_evaluate_145 rfl 2 rfl ?_
                refine x_getr 146 C (b := q + 3) dX1_evaluate_146 ff_X1_19 rfl hE.1 rfl ?_
                refine x_aload_n 149 C dX1_evaluate_149 rfl 3 rfl ?_
                refine x_iload 150 C dX1_evaluate_150 1 rfl ?_
                refine x_iload 152 C dX1_evaluate_152 0 rfl ?_
                refine x_iconst 154 C (v := 1) dX1_evaluate_154 rfl ?_
                refine x_isub 155 C dX1_evaluate_155 ?_
                refine x_int (nI (tY k - 1)) (nI_sub (a := (tY k)) (b := 1) (by omega)) ?_
                refine x_callSe 156 C dX1_evaluate_156 (As := [.int (nI (tX k)), .int (nI (tY k - 1))]) (rest := [.ref w, .ref (q + 3)]) [.int (nI (tm (tX k) (tY k - 1))), .ref w, .ref (q + 3)] (t_X1_termOf l D z n G I L108 (tX k) (tY k - 1) (by first | assumption | omega)) mt_X1_termOf km_X1_35 kt_X1_termOf rfl rfl (Nat.le_of_ble_eq_true rfl) ⟨⟨by decide, by decide⟩, by decide, by decide⟩ (fun I118 L119 eI118 eL119 => ?_)
                replace eI118 := eI118.symm; subst eI118
                replace eL119 := eL119.symm; subst eL119
                refine x_callVe 159 C dX1_evaluate_159 (As := [.int (nI (tm (tX k) (tY k - 1)))]) (rest := [.ref (q + 3)]) [.ref (w + 2 + (tm (tX k) (tY k - 1))), .ref (q + 3)] (t_X7_at l D z n G I L108 w (tm (tX k) (tY k - 1)) hW (by first | assumption | omega)) mt_X7_at km_X1_58 ki_X7_at ks_X7_at hW.1 ⟨by decide, rfl⟩ rfl rfl (Nat.le_of_ble_eq_true rfl) ⟨⟨by decide, by decide⟩, by decide, by decide⟩ (fun I120 L121 eI120 eL121 => ?_)
                replace eI120 := eI120.symm; subst eI120
                replace eL121 := eL121.symm; subst eL121
                refine x_iload 162 C dX1_evaluate_162 0 rfl ?_
                refine x_aload_n 164 C dX1_evaluate_164 rfl 2 rfl ?_
                refine x_getr 165 C (b := q + 1) dX1_evaluate_165 ff_X1_9 rfl hE.1 rfl ?_
                refine x_iload_n 168 C dX1_evaluate_168 rfl 5 rfl ?_
                refine x_iald 169 C (j := k) dX1_evaluate_169 hE.2.1 (xIx_nI (by omega) (by decide)) ?_
                refine x_imul 170 C dX1_evaluate_170 ?_
                refine x_i2l 171 C dX1_evaluate_171 ?_
                refine x_iload 172 C dX1_evaluate_172 0 rfl ?_
                refine x_aload_n 174 C dX1_evaluate_174 rfl 2 rfl ?_
                refine x_getr 175 C (b := q + 2) dX1_evaluate_175 ff_X1_13 rfl hE.1 rfl ?_
                refine x_iload_n 178 C dX1_evaluate_178 rfl 5 rfl ?_
                refine x_iald 179 C (j := k) dX1_evaluate_179 hE.2.2.1 (xIx_nI (by omega) (by decide)) ?_
                refine x_imul 180 C dX1_evaluate_180 ?_
                refine x_i2l 181 C dX1_evaluate_181 ?_
                refine x_callVe 182 C dX1_evaluate_182 (As := [.ref (w + 2 + (tm (tX k) (tY k - 1))), .long (Int32.toInt64 ((nI (tY k)) * (I (q + 1) k))), .long (Int32.toInt64 ((nI (tY k)) * (I (q + 2) k)))]) (rest := []) [] (t_X0_putTimesGaussian_c l D z n G I L108 (q + 3) (w + 2 + (tm (tX k) (tY k - 1))) (Int32.toInt64 ((nI (tY k)) * (I (q + 1) k))) (Int32.toInt64 ((nI (tY k)) * (I (q + 2) k))) hE.2.2.2 (hW.2.2 _ htm2) (by omega)) mt_X0_putTimesGaussian km_X1_64 ki_X0_putTimesGaussian ks_X0_putTimesGaussian hE.2.2.2 ⟨by decide, rfl⟩ rfl rfl (Nat.le_of_ble_eq_true rfl) ⟨⟨by decide, by decide⟩, by decide, by decide⟩ (fun I122 L123 eI122 eL123 => ?_)
                replace eI122 := eI122.symm; subst eI122
                have k124 : rd L123 (t + 1) = addC (evV (I (q + 1)) (I (q + 2)) pw k) (gauC (Int32.toInt64 (I (q + 1) k)) (Int32.toInt64 (I (q + 2) k)) (pw k)) := by rw [eL123, rd_cw_ne _ _ (by omega)]; exact k109
                have k125 : rd L123 (t + 2) = evX (I (q + 1)) (I (q + 2)) pw k := by rw [eL123, rd_cw_ne _ _ (by omega)]; exact k110
                have k126 : rd L123 (t + 3) = evY (I (q + 1)) (I (q + 2)) pw k := by rw [eL123, rd_cw_ne _ _ (by omega)]; exact k111
                have k127 : rd L123 (q + 3) = gauC (Int32.toInt64 ((nI (tY k)) * (I (q + 1) k))) (Int32.toInt64 ((nI (tY k)) * (I (q + 2) k))) (pw (tm (tX k) (tY k - 1))) := by rw [eL123, rd_cw]; simp only [k115]
                have k128 : rd L123 (w + 2 + k) = pw k := by rw [eL123, rd_cw_ne _ _ (by omega)]; exact k113
                have k129 : rd L123 (w + 2 + (tm (tX k - 1) (tY k))) = pw (tm (tX k - 1) (tY k)) := by rw [eL123, rd_cw_ne _ _ (by omega)]; exact k114
                have k130 : rd L123 (w + 2 + (tm (tX k) (tY k - 1))) = pw (tm (tX k) (tY k - 1)) := by rw [eL123, rd_cw_ne _ _ (by omega)]; exact k115
                refine x_aload_n 185 C dX1_evaluate_185 rfl 4 rfl ?_
                refine x_getr 186 C (b := t + 3) dX1_evaluate_186 ff_X1_78 rfl hT.1 rfl ?_
                refine x_aload_n 189 C dX1_evaluate_189 rfl 2 rfl ?_
                refine x_getr 190 C (b := q + 3) dX1_evaluate_190 ff_X1_19 rfl hE.1 rfl ?_
                refine x_callVe 193 C dX1_evaluate_193 (As := [.ref (q + 3)]) (rest := []) [] (t_X0_add_c l D z n G I L123 (t + 3) (q + 3) hT.2.2.2 hE.2.2.2 (by omega)) mt_X0_add km_X1_71 ki_X0_add ks_X0_add hT.2.2.2 ⟨by decide, rfl⟩ rfl rfl (Nat.le_of_ble_eq_true rfl) ⟨⟨by decide, by decide⟩, by decide, by decide⟩ (fun I131 L132 eI131 eL132 => ?_)
                replace eI131 := eI131.symm; subst eI131
                have k133 : rd L132 (t + 1) = addC (evV (I (q + 1)) (I (q + 2)) pw k) (gauC (Int32.toInt64 (I (q + 1) k)) (Int32.toInt64 (I (q + 2) k)) (pw k)) := by rw [eL132, rd_cw_ne _ _ (by omega)]; exact k124
                have k134 : rd L132 (t + 2) = evX (I (q + 1)) (I (q + 2)) pw k := by rw [eL132, rd_cw_ne _ _ (by omega)]; exact k125
                have k135 : rd L132 (t + 3) = addC (evY (I (q + 1)) (I (q + 2)) pw k) (gauC (Int32.toInt64 ((nI (tY k)) * (I (q + 1) k))) (Int32.toInt64 ((nI (tY k)) * (I (q + 2) k))) (pw (tm (tX k) (tY k - 1)))) := by rw [eL132, rd_cw]; simp only [k126, k127]
                have k136 : rd L132 (q + 3) = gauC (Int32.toInt64 ((nI (tY k)) * (I (q + 1) k))) (Int32.toInt64 ((nI (tY k)) * (I (q + 2) k))) (pw (tm (tX k) (tY k - 1))) := by rw [eL132, rd_cw_ne _ _ (by omega)]; exact k127
                have k137 : rd L132 (w + 2 + k) = pw k := by rw [eL132, rd_cw_ne _ _ (by omega)]; exact k128
                have k138 : rd L132 (w + 2 + (tm (tX k - 1) (tY k))) = pw (tm (tX k - 1) (tY k)) := by rw [eL132, rd_cw_ne _ _ (by omega)]; exact k129
                have k139 : rd L132 (w + 2 + (tm (tX k) (tY k - 1))) = pw (tm (tX k) (tY k - 1)) := by rw [eL132, rd_cw_ne _ _ (by omega)]; exact k130
                refine x_iinc 196 C [(3, .int (nI (k + 1))), (5, .int (nI (tY k))), (4, .int (nI (tX k))), (0, .ref q), (1, .ref w), (2, .ref t)] dX1_evaluate_196 5 rfl (nI_add k 1) (by decide) rfl ?_
                refine x_goto 199 C 6 dX1_evaluate_199 (by decide) ?_
                refine x_sub [(0, .ref q), (1, .ref w), (2, .ref t), (3, .int (nI (k + 1)))] [3, 4, 5, 0] rfl ?_
                refine ih (k + 1) L132 (by omega) (by omega) ?_ ?_ ?_ ?_
                · rw [k133]; simp [evV, c4, c4o, c5, c95, c116, c116o, hi0, c117, c117o, hj1]
                · rw [k134]; simp [evX, c4, c4o, c5, c95, c116, c116o, hi0, c117, c117o, hj1]
                · rw [k135]; simp [evY, c4, c4o, c5, c95, c116, c116o, hi0, c117, c117o, hj1]
                · intro a g1 g2; rw [eL132, cw_ne _ _ (by omega)]; rw [eL123, cw_ne _ _ (by omega)]; rw [eL108, cw_ne _ _ (by omega)]; rw [eL99, cw_ne _ _ (by omega)]; exact hp a g1 g2
            · skip
              have c116n : ¬ ((tX k) ≤ 0) := fun h => c116 ((nI_leI (a := (tX k)) (b := 0) (by omega) (by omega)).mpr h)
              have c116o := Int32.not_le.mp c116
              have hi1 : 0 < tX k := by omega
              refine x_aload_n 89 C dX1_evaluate_89 rfl 2 rfl ?_
              refine x_getr 90 C (b := q + 3) dX1_evaluate_90 ff_X1_19 rfl hE.1 rfl ?_
              refine x_aload_n 93 C dX1_evaluate_93 rfl 3 rfl ?_
              refine x_iload 94 C dX1_evaluate_94 1 rfl ?_
              refine x_iconst 96 C (v := 1) dX1_evaluate_96 rfl ?_
              refine x_isub 97 C dX1_evaluate_97 ?_
              refine x_int (nI (tX k - 1)) (nI_sub (a := (tX k)) (b := 1) (by omega)) ?_
              refine x_iload 98 C dX1_evaluate_98 0 rfl ?_
              refine x_callSe 100 C dX1_evaluate_100 (As := [.int (nI (tX k - 1)), .int (nI (tY k))]) (rest := [.ref w, .ref (q + 3)]) [.int (nI (tm (tX k - 1) (tY k))), .ref w, .ref (q + 3)] (t_X1_termOf l D z n G I L108 (tX k - 1) (tY k) (by first | assumption | omega)) mt_X1_termOf km_X1_35 kt_X1_termOf rfl rfl (Nat.le_of_ble_eq_true rfl) ⟨⟨by decide, by decide⟩, by decide, by decide⟩ (fun I140 L141 eI140 eL141 => ?_)
              replace eI140 := eI140.symm; subst eI140
              replace eL141 := eL141.symm; subst eL141
              refine x_callVe 103 C dX1_evaluate_103 (As := [.int (nI (tm (tX k - 1) (tY k)))]) (rest := [.ref (q + 3)]) [.ref (w + 2 + (tm (tX k - 1) (tY k))), .ref (q + 3)] (t_X7_at l D z n G I L108 w (tm (tX k - 1) (tY k)) hW (by first | assumption | omega)) mt_X7_at km_X1_58 ki_X7_at ks_X7_at hW.1 ⟨by decide, rfl⟩ rfl rfl (Nat.le_of_ble_eq_true rfl) ⟨⟨by decide, by decide⟩, by decide, by decide⟩ (fun I142 L143 eI142 eL143 => ?_)
              replace eI142 := eI142.symm; subst eI142
              replace eL143 := eL143.symm; subst eL143
              refine x_iload 106 C dX1_evaluate_106 1 rfl ?_
              refine x_aload_n 108 C dX1_evaluate_108 rfl 2 rfl ?_
              refine x_getr 109 C (b := q + 1) dX1_evaluate_109 ff_X1_9 rfl hE.1 rfl ?_
              refine x_iload_n 112 C dX1_evaluate_112 rfl 5 rfl ?_
              refine x_iald 113 C (j := k) dX1_evaluate_113 hE.2.1 (xIx_nI (by omega) (by decide)) ?_
              refine x_imul 114 C dX1_evaluate_114 ?_
              refine x_i2l 115 C dX1_evaluate_115 ?_
              refine x_iload 116 C dX1_evaluate_116 1 rfl ?_
              refine x_aload_n 118 C dX1_evaluate_118 rfl 2 rfl ?_
              refine x_getr 119 C (b := q + 2) dX1_evaluate_119 ff_X1_13 rfl hE.1 rfl ?_
              refine x_iload_n 122 C dX1_evaluate_122 rfl 5 rfl ?_
              refine x_iald 123 C (j := k) dX1_evaluate_123 hE.2.2.1 (xIx_nI (by omega) (by decide)) ?_
              refine x_imul 124 C dX1_evaluate_124 ?_
              refine x_i2l 125 C dX1_evaluate_125 ?_
              refine x_callVe 126 C dX1_evaluate_126 (As := [.ref (w + 2 + (tm (tX k - 1) (tY k))), .long (Int32.toInt64 ((nI (tX k)) * (I (q + 1) k))), .long (Int32.toInt64 ((nI (tX k)) * (I (q + 2) k)))]) (rest := []) [] (t_X0_putTimesGaussian_c l D z n G I L108 (q + 3) (w + 2 + (tm (tX k - 1) (tY k))) (Int32.toInt64 ((nI (tX k)) * (I (q + 1) k))) (Int32.toInt64 ((nI (tX k)) * (I (q + 2) k))) hE.2.2.2 (hW.2.2 _ htm1) (by omega)) mt_X0_putTimesGaussian km_X1_64 ki_X0_putTimesGaussian ks_X0_putTimesGaussian hE.2.2.2 ⟨by decide, rfl⟩ rfl rfl (Nat.le_of_ble_eq_true rfl) ⟨⟨by decide, by decide⟩, by decide, by decide⟩ (fun I144 L145 eI144 eL145 => ?_)
              replace eI144 := eI144.symm; subst eI144
              have k146 : rd L145 (t + 1) = addC (evV (I (q + 1)) (I (q + 2)) pw k) (gauC (Int32.toInt64 (I (q + 1) k)) (Int32.toInt64 (I (q + 2) k)) (pw k)) := by rw [eL145, rd_cw_ne _ _ (by omega)]; exact k109
              have k147 : rd L145 (t + 2) = evX (I (q + 1)) (I (q + 2)) pw k := by rw [eL145, rd_cw_ne _ _ (by omega)]; exact k110
              have k148 : rd L145 (t + 3) = evY (I (q + 1)) (I (q + 2)) pw k := by rw [eL145, rd_cw_ne _ _ (by omega)]; exact k111
              have k149 : rd L145 (q + 3) = gauC (Int32.toInt64 ((nI (tX k)) * (I (q + 1) k))) (Int32.toInt64 ((nI (tX k)) * (I (q + 2) k))) (pw (tm (tX k - 1) (tY k))) := by rw [eL145, rd_cw]; simp only [k114]
              have k150 : rd L145 (w + 2 + k) = pw k := by rw [eL145, rd_cw_ne _ _ (by omega)]; exact k113
              have k151 : rd L145 (w + 2 + (tm (tX k - 1) (tY k))) = pw (tm (tX k - 1) (tY k)) := by rw [eL145, rd_cw_ne _ _ (by omega)]; exact k114
              have k152 : rd L145 (w + 2 + (tm (tX k) (tY k - 1))) = pw (tm (tX k) (tY k - 1)) := by rw [eL145, rd_cw_ne _ _ (by omega)]; exact k115
              refine x_aload_n 129 C dX1_evaluate_129 rfl 4 rfl ?_
              refine x_getr 130 C (b := t + 2) dX1_evaluate_130 ff_X1_75 rfl hT.1 rfl ?_
              refine x_aload_n 133 C dX1_evaluate_133 rfl 2 rfl ?_
              refine x_getr 134 C (b := q + 3) dX1_evaluate_134 ff_X1_19 rfl hE.1 rfl ?_
              refine x_callVe 137 C dX1_evaluate_137 (As := [.ref (q + 3)]) (rest := []) [] (t_X0_add_c l D z n G I L145 (t + 2) (q + 3) hT.2.2.1 hE.2.2.2 (by omega)) mt_X0_add km_X1_71 ki_X0_add ks_X0_add hT.2.2.1 ⟨by decide, rfl⟩ rfl rfl (Nat.le_of_ble_eq_true rfl) ⟨⟨by decide, by decide⟩, by decide, by decide⟩ (fun I153 L154 eI153 eL154 => ?_)
              replace eI153 := eI153.symm; subst eI153
              have k155 : rd L154 (t + 1) = addC (evV (I (q + 1)) (I (q + 2)) pw k) (gauC (Int32.toInt64 (I (q + 1) k)) (Int32.toInt64 (I (q + 2) k)) (pw k)) := by rw [eL154, rd_cw_ne _ _ (by omega)]; exact k146
              have k156 : rd L154 (t + 2) = addC (evX (I (q + 1)) (I (q + 2)) pw k) (gauC (Int32.toInt64 ((nI (tX k)) * (I (q + 1) k))) (Int32.toInt64 ((nI (tX k)) * (I (q + 2) k))) (pw (tm (tX k - 1) (tY k)))) := by rw [eL154, rd_cw]; simp only [k147, k149]
              have k157 : rd L154 (t + 3) = evY (I (q + 1)) (I (q + 2)) pw k := by rw [eL154, rd_cw_ne _ _ (by omega)]; exact k148
              have k158 : rd L154 (q + 3) = gauC (Int32.toInt64 ((nI (tX k)) * (I (q + 1) k))) (Int32.toInt64 ((nI (tX k)) * (I (q + 2) k))) (pw (tm (tX k - 1) (tY k))) := by rw [eL154, rd_cw_ne _ _ (by omega)]; exact k149
              have k159 : rd L154 (w + 2 + k) = pw k := by rw [eL154, rd_cw_ne _ _ (by omega)]; exact k150
              have k160 : rd L154 (w + 2 + (tm (tX k - 1) (tY k))) = pw (tm (tX k - 1) (tY k)) := by rw [eL154, rd_cw_ne _ _ (by omega)]; exact k151
              have k161 : rd L154 (w + 2 + (tm (tX k) (tY k - 1))) = pw (tm (tX k) (tY k - 1)) := by rw [eL154, rd_cw_ne _ _ (by omega)]; exact k152
              refine x_iload 140 C dX1_evaluate_140 0 rfl ?_
              refine x_if_le 142 C 196 dX1_evaluate_142 (by decide) (fun c162 => ?_) (fun c162 => ?_)
              · skip
                have c162n : (tY k) ≤ 0 := (nI_leI (a := (tY k)) (b := 0) (by omega) (by omega)).mp c162
                have c162o := Int32.not_lt.mpr c162
                have hj0 : ¬ 0 < tY k := by omega
                refine x_iinc 196 C [(3, .int (nI (k + 1))), (5, .int (nI (tY k))), (4, .int (nI (tX k))), (0, .ref q), (1, .ref w), (2, .ref t)] dX1_evaluate_196 5 rfl (nI_add k 1) (by decide) rfl ?_
                refine x_goto 199 C 6 dX1_evaluate_199 (by decide) ?_
                refine x_sub [(0, .ref q), (1, .ref w), (2, .ref t), (3, .int (nI (k + 1)))] [3, 4, 5, 0] rfl ?_
                refine ih (k + 1) L154 (by omega) (by omega) ?_ ?_ ?_ ?_
                · rw [k155]; simp [evV, c4, c4o, c5, c95, c116, c116o, hi1, c162, c162o, hj0]
                · rw [k156]; simp [evX, c4, c4o, c5, c95, c116, c116o, hi1, c162, c162o, hj0]
                · rw [k157]; simp [evY, c4, c4o, c5, c95, c116, c116o, hi1, c162, c162o, hj0]
                · intro a g1 g2; rw [eL154, cw_ne _ _ (by omega)]; rw [eL145, cw_ne _ _ (by omega)]; rw [eL108, cw_ne _ _ (by omega)]; rw [eL99, cw_ne _ _ (by omega)]; exact hp a g1 g2
              · skip
                have c162n : ¬ ((tY k) ≤ 0) := fun h => c162 ((nI_leI (a := (tY k)) (b := 0) (by omega) (by omega)).mpr h)
                have c162o := Int32.not_le.mp c162
                have hj1 : 0 < tY k := by omega
                refine x_aload_n 145 C dX1_evaluate_145 rfl 2 rfl ?_
                refine x_getr 146 C (b := q + 3) dX1_evaluate_146 ff_X1_19 rfl hE.1 rfl ?_
                refine x_aload_n 149 C dX1_evaluate_149 rfl 3 rfl ?_
                refine x_iload 150 C dX1_evaluate_150 1 rfl ?_
                refine x_iload 152 C dX1_evaluate_152 0 rfl ?_
                refine x_iconst 154 C (v := 1) dX1_evaluate_154 rfl ?_
                refine x_isub 155 C dX1_evaluate_155 ?_
                refine x_int (nI (tY k - 1)) (nI_sub (a := (tY k)) (b := 1) (by omega)) ?_
                refine x_callSe 156 C dX1_evaluate_156 (As := [.int (nI (tX k)), .int (nI (tY k - 1))]) (rest := [.ref w, .ref (q + 3)]) [.int (nI (tm (tX k) (tY k - 1))), .ref w, .ref (q + 3)] (t_X1_termOf l D z n G I L154 (tX k) (tY k - 1) (by first | assumption | omega)) mt_X1_termOf km_X1_35 kt_X1_termOf rfl rfl (Nat.le_of_ble_eq_true rfl) ⟨⟨by decide, by decide⟩, by decide, by decide⟩ (fun I163 L164 eI163 eL164 => ?_)
                replace eI163 := eI163.symm; subst eI163
                replace eL164 := eL164.symm; subst eL164
                refine x_callVe 159 C dX1_evaluate_159 (As := [.int (nI (tm (tX k) (tY k - 1)))]) (rest := [.ref (q + 3)]) [.ref (w + 2 + (tm (tX k) (tY k - 1))), .ref (q + 3)] (t_X7_at l D z n G I L154 w (tm (tX k) (tY k - 1)) hW (by first | assumption | omega)) mt_X7_at km_X1_58 ki_X7_at ks_X7_at hW.1 ⟨by decide, rfl⟩ rfl rfl (Nat.le_of_ble_eq_true rfl) ⟨⟨by decide, by decide⟩, by decide, by decide⟩ (fun I165 L166 eI165 eL166 => ?_)
                replace eI165 := eI165.symm; subst eI165
                replace eL166 := eL166.symm; subst eL166
                refine x_iload 162 C dX1_evaluate_162 0 rfl ?_
                refine x_aload_n 164 C dX1_evaluate_164 rfl 2 rfl ?_
                refine x_getr 165 C (b := q + 1) dX1_evaluate_165 ff_X1_9 rfl hE.1 rfl ?_
                refine x_iload_n 168 C dX1_evaluate_168 rfl 5 rfl ?_
                refine x_iald 169 C (j := k) dX1_evaluate_169 hE.2.1 (xIx_nI (by omega) (by decide)) ?_
                refine x_imul 170 C dX1_evaluate_170 ?_
                refine x_i2l 171 C dX1_evaluate_171 ?_
                refine x_iload 172 C dX1_evaluate_172 0 rfl ?_
                refine x_aload_n 174 C dX1_evaluate_174 rfl 2 rfl ?_
                refine x_getr 175 C (b := q + 2) dX1_evaluate_175 ff_X1_13 rfl hE.1 rfl ?_
                refine x_iload_n 178 C dX1_evaluate_178 rfl 5 rfl ?_
                refine x_iald 179 C (j := k) dX1_evaluate_179 hE.2.2.1 (xIx_nI (by omega) (by decide)) ?_
                refine x_imul 180 C dX1_evaluate_180 ?_
                refine x_i2l 181 C dX1_evaluate_181 ?_
                refine x_callVe 182 C dX1_evaluate_182 (As := [.ref (w + 2 + (tm (tX k) (tY k - 1))), .long (Int32.toInt64 ((nI (tY k)) * (I (q + 1) k))), .long (Int32.toInt64 ((nI (tY k)) * (I (q + 2) k)))]) (rest := []) [] (t_X0_putTimesGaussian_c l D z n G I L154 (q + 3) (w + 2 + (tm (tX k) (tY k - 1))) (Int32.toInt64 ((nI (tY k)) * (I (q + 1) k))) (Int32.toInt64 ((nI (tY k)) * (I (q + 2) k))) hE.2.2.2 (hW.2.2 _ htm2) (by omega)) mt_X0_putTimesGaussian km_X1_64 ki_X0_putTimesGaussian ks_X0_putTimesGaussian hE.2.2.2 ⟨by decide, rfl⟩ rfl rfl (Nat.le_of_ble_eq_true rfl) ⟨⟨by decide, by decide⟩, by decide, by decide⟩ (fun I167 L168 eI167 eL168 => ?_)
                replace eI167 := eI167.symm; subst eI167
                have k169 : rd L168 (t + 1) = addC (evV (I (q + 1)) (I (q + 2)) pw k) (gauC (Int32.toInt64 (I (q + 1) k)) (Int32.toInt64 (I (q + 2) k)) (pw k)) := by rw [eL168, rd_cw_ne _ _ (by omega)]; exact k155
                have k170 : rd L168 (t + 2) = addC (evX (I (q + 1)) (I (q + 2)) pw k) (gauC (Int32.toInt64 ((nI (tX k)) * (I (q + 1) k))) (Int32.toInt64 ((nI (tX k)) * (I (q + 2) k))) (pw (tm (tX k - 1) (tY k)))) := by rw [eL168, rd_cw_ne _ _ (by omega)]; exact k156
                have k171 : rd L168 (t + 3) = evY (I (q + 1)) (I (q + 2)) pw k := by rw [eL168, rd_cw_ne _ _ (by omega)]; exact k157
                have k172 : rd L168 (q + 3) = gauC (Int32.toInt64 ((nI (tY k)) * (I (q + 1) k))) (Int32.toInt64 ((nI (tY k)) * (I (q + 2) k))) (pw (tm (tX k) (tY k - 1))) := by rw [eL168, rd_cw]; simp only [k161]
                have k173 : rd L168 (w + 2 + k) = pw k := by rw [eL168, rd_cw_ne _ _ (by omega)]; exact k159
                have k174 : rd L168 (w + 2 + (tm (tX k - 1) (tY k))) = pw (tm (tX k - 1) (tY k)) := by rw [eL168, rd_cw_ne _ _ (by omega)]; exact k160
                have k175 : rd L168 (w + 2 + (tm (tX k) (tY k - 1))) = pw (tm (tX k) (tY k - 1)) := by rw [eL168, rd_cw_ne _ _ (by omega)]; exact k161
                refine x_aload_n 185 C dX1_evaluate_185 rfl 4 rfl ?_
                refine x_getr 186 C (b := t + 3) dX1_evaluate_186 ff_X1_78 rfl hT.1 rfl ?_
                refine x_aload_n 189 C dX1_evaluate_189 rfl 2 rfl ?_
                refine x_getr 190 C (b := q + 3) dX1_evaluate_190 ff_X1_19 rfl hE.1 rfl ?_
                refine x_callVe 193 C dX1_evaluate_193 (As := [.ref (q + 3)]) (rest := []) [] (t_X0_add_c l D z n G I L168 (t + 3) (q + 3) hT.2.2.2 hE.2.2.2 (by omega)) mt_X0_add km_X1_71 ki_X0_add ks_X0_add hT.2.2.2 ⟨by decide, rfl⟩ rfl rfl (Nat.le_of_ble_eq_true rfl) ⟨⟨by decide, by decide⟩, by decide, by decide⟩ (fun I176 L177 eI176 eL177 => ?_)
                replace eI176 := eI176.symm; subst eI176
                have k178 : rd L177 (t + 1) = addC (evV (I (q + 1)) (I (q + 2)) pw k) (gauC (Int32.toInt64 (I (q + 1) k)) (Int32.toInt64 (I (q + 2) k)) (pw k)) := by rw [eL177, rd_cw_ne _ _ (by omega)]; exact k169
                have k179 : rd L177 (t + 2) = addC (evX (I (q + 1)) (I (q + 2)) pw k) (gauC (Int32.toInt64 ((nI (tX k)) * (I (q + 1) k))) (Int32.toInt64 ((nI (tX k)) * (I (q + 2) k))) (pw (tm (tX k - 1) (tY k)))) := by rw [eL177, rd_cw_ne _ _ (by omega)]; exact k170
                have k180 : rd L177 (t + 3) = addC (evY (I (q + 1)) (I (q + 2)) pw k) (gauC (Int32.toInt64 ((nI (tY k)) * (I (q + 1) k))) (Int32.toInt64 ((nI (tY k)) * (I (q + 2) k))) (pw (tm (tX k) (tY k - 1)))) := by rw [eL177, rd_cw]; simp only [k171, k172]
                have k181 : rd L177 (q + 3) = gauC (Int32.toInt64 ((nI (tY k)) * (I (q + 1) k))) (Int32.toInt64 ((nI (tY k)) * (I (q + 2) k))) (pw (tm (tX k) (tY k - 1))) := by rw [eL177, rd_cw_ne _ _ (by omega)]; exact k172
                have k182 : rd L177 (w + 2 + k) = pw k := by rw [eL177, rd_cw_ne _ _ (by omega)]; exact k173
                have k183 : rd L177 (w + 2 + (tm (tX k - 1) (tY k))) = pw (tm (tX k - 1) (tY k)) := by rw [eL177, rd_cw_ne _ _ (by omega)]; exact k174
                have k184 : rd L177 (w + 2 + (tm (tX k) (tY k - 1))) = pw (tm (tX k) (tY k - 1)) := by rw [eL177, rd_cw_ne _ _ (by omega)]; exact k175
                refine x_iinc 196 C [(3, .int (nI (k + 1))), (5, .int (nI (tY k))), (4, .int (nI (tX k))), (0, .ref q), (1, .ref w), (2, .ref t)] dX1_evaluate_196 5 rfl (nI_add k 1) (by decide) rfl ?_
                refine x_goto 199 C 6 dX1_evaluate_199 (by decide) ?_
                refine x_sub [(0, .ref q), (1, .ref w), (2, .ref t), (3, .int (nI (k + 1)))] [3, 4, 5, 0] rfl ?_
                refine ih (k + 1) L177 (by omega) (by omega) ?_ ?_ ?_ ?_
                · rw [k178]; simp [evV, c4, c4o, c5, c95, c116, c116o, hi1, c162, c162o, hj1]
                · rw [k179]; simp [evX, c4, c4o, c5, c95, c116, c116o, hi1, c162, c162o, hj1]
                · rw [k180]; simp [evY, c4, c4o, c5, c95, c116, c116o, hi1, c162, c162o, hj1]
                · intro a g1 g2; rw [eL177, cw_ne _ _ (by omega)]; rw [eL168, cw_ne _ _ (by omega)]; rw [eL154, cw_ne _ _ (by omega)]; rw [eL145, cw_ne _ _ (by omega)]; rw [eL108, cw_ne _ _ (by omega)]; rw [eL99, cw_ne _ _ (by omega)]; exact hp a g1 g2
          · skip
            refine x_goto 30 C 196 dX1_evaluate_30 (by decide) ?_
            refine x_iinc 196 C [(3, .int (nI (k + 1))), (0, .ref q), (1, .ref w), (2, .ref t)] dX1_evaluate_196 3 rfl (nI_add k 1) (by decide) rfl ?_
            refine x_goto 199 C 6 dX1_evaluate_199 (by decide) ?_
            refine x_sub [(0, .ref q), (1, .ref w), (2, .ref t), (3, .int (nI (k + 1)))] [1, 2, 3, 0] rfl ?_
            refine ih (k + 1) Lk (by omega) (by omega) ?_ ?_ ?_ ?_
            · rw [hv]; simp [evV, c4, c4o, c5, c95]
            · rw [hx]; simp [evX, c4, c4o, c5, c95]
            · rw [hy]; simp [evY, c4, c4o, c5, c95]
            · intro a g1 g2; skip; exact hp a g1 g2
  refine x_sub [(0, .ref q), (1, .ref w), (2, .ref t), (3, .int 0)] [1, 2, 3, 0] rfl ?_
  refine loop6 11 0 L2 (by omega) (by omega) (by rw [eL2]; simp [tw, rd_cw, rd_cw_ne, evV]) (by rw [eL2]; simp [tw, rd_cw, rd_cw_ne, evX]) (by rw [eL2]; simp [tw, rd_cw, rd_cw_ne, evY]) ?_
  intro a g1 g2; rw [eL2]; simp only [tw]; rw [cw_ne _ _ (by omega), cw_ne _ _ (by omega), cw_ne _ _ (by omega)]
end
section
/-! PathTracker$State: leaves. A State at S: its Equations at S + 1 + 4 * b, its settings in the row S + 9, its Paths at S + 11 + 3 * k by the row S + 10; how many are used: place 4. -/
def rSt (S : Nat) : Nat → Option Nat := va_up (va_up (va_up (va_up rN 0 (some (S + 1 + 4 * 0))) 1 (some (S + 1 + 4 * 1))) 2 (some (S + 9))) 3 (some (S + 10))
def rPs (S : Nat) : Nat → Option Nat := fun k => if k < 9 then some (S + 11 + 3 * k) else none
def shS (G : xG) (S : Nat) : Prop := G S = some (9, 0, rSt S) ∧ (∀ b, b < 2 → shE G (S + 1 + 4 * b)) ∧ G (S + 9) = some (20, 8, rN) ∧ G (S + 10) = some (25, 9, rPs S) ∧ ∀ k, k < 9 → shP G (S + 11 + 3 * k)
def hasP (I : xI) (S : Nat) (x : Int32) : Bool := decide (0 ≤ x) && (decide (x < I S 4) && decide (x < 9))
def inRg (w : Nat) (v : Int32) : Bool := decide (xLv w ≤ v) && decide (v ≤ xGv w)
theorem eqFill_re (I : xI) (q : Nat) (f g : Nat → Int32) {j k : Nat} (h : j < k) : eqFill I q k f g (q + 1) j = f j := by simp [eqFill, h]
theorem eqFill_im (I : xI) (q : Nat) (f g : Nat → Int32) {j k : Nat} (h : j < k) : eqFill I q k f g (q + 2) j = g j := by simp [eqFill, h]
theorem eqFill_ne (I : xI) (q k : Nat) (f g : Nat → Int32) {a : Nat} (h1 : a ≠ q + 1) (h2 : a ≠ q + 2) : eqFill I q k f g a = I a := by funext j; simp [eqFill, h1, h2]
theorem dgN_congr {cr ci cr' ci' : Nat → Int32} (h1 : ∀ k, k < 10 → cr k = cr' k) (h2 : ∀ k, k < 10 → ci k = ci' k) : ∀ k, k ≤ 10 → dgN cr ci k = dgN cr' ci' k
  | 0, _ => rfl
  | k + 1, h => by
    simp only [dgN]
    rw [dgN_congr h1 h2 k (by omega), h1 k (by omega), h2 k (by omega)]
theorem dX9_equationAt_0 : decode cX9_equationAt 0 = .ok (.iload_n 1, 1) := by decide +kernel
theorem dX9_equationAt_1 : decode cX9_equationAt 1 = .ok (.iconst 1, 1) := by decide +kernel
theorem dX9_equationAt_2 : decode cX9_equationAt 2 = .ok (.if_icmp .ne 10, 3) := by decide +kernel
theorem dX9_equationAt_5 : decode cX9_equationAt 5 = .ok (.aload_n 0, 1) := by decide +kernel
theorem dX9_equationAt_6 : decode cX9_equationAt 6 = .ok (.getfield 16, 3) := by decide +kernel
theorem dX9_equationAt_9 : decode cX9_equationAt 9 = .ok (.goto 7, 3) := by decide +kernel
theorem dX9_equationAt_12 : decode cX9_equationAt 12 = .ok (.aload_n 0, 1) := by decide +kernel
theorem dX9_equationAt_13 : decode cX9_equationAt 13 = .ok (.getfield 10, 3) := by decide +kernel
theorem dX9_equationAt_16 : decode cX9_equationAt 16 = .ok (.areturn, 1) := by decide +kernel
set_option maxHeartbeats 4000000 in
set_option maxRecDepth 100000 in
theorem t_X9_equationAt (l : Launch) (D : xD) (z n : Nat) (G : xG) (I : xI) (L : xL) (S : Nat) (b : Nat) (hS : shS G S) (hb : b < 2) : xM0 l D z yX9_equationAt cX9_equationAt 2 (some (.object "PathTracker$Equation")) 0 0 [.ref S, .int (nI b)] n G I L (xE (some (.ref (S + 1 + 4 * b))) I L) := by
  refine xM.of (by decide) (Nat.le_of_ble_eq_true rfl) (fun p e s m args below meth c C hnm hsz => ?_)
  refine x_lv [(0, .ref S), (1, .int (nI b))] rfl ?_
  rcases (show b = 0 ∨ b = 1 by omega) with rfl | rfl
  · skip
    refine x_iload_n 0 C dX9_equationAt_0 rfl 1 rfl ?_
    refine x_iconst 1 C (v := 1) dX9_equationAt_1 rfl ?_
    refine x_icmp_ne 2 C 12 dX9_equationAt_2 (by decide) (fun _ => ?_) (fun c1 => absurd c1 (by decide))
    refine x_aload_n 12 C dX9_equationAt_12 rfl 0 rfl ?_
    refine x_getr 13 C (b := S + 1 + 4 * 0) dX9_equationAt_13 ff_X9_10 rfl hS.1 rfl ?_
    refine x_aret 16 C dX9_equationAt_16 rfl (Or.inl ⟨_, rfl⟩) (Nat.le_refl _) (xN.intro ?_)
    exact ⟨rfl, rfl, rfl⟩
  · skip
    refine x_iload_n 0 C dX9_equationAt_0 rfl 1 rfl ?_
    refine x_iconst 1 C (v := 1) dX9_equationAt_1 rfl ?_
    refine x_icmp_ne 2 C 12 dX9_equationAt_2 (by decide) (fun c2 => absurd (by decide) c2) (fun _ => ?_)
    refine x_aload_n 5 C dX9_equationAt_5 rfl 0 rfl ?_
    refine x_getr 6 C (b := S + 1 + 4 * 1) dX9_equationAt_6 ff_X9_16 rfl hS.1 rfl ?_
    refine x_goto 9 C 16 dX9_equationAt_9 (by decide) ?_
    refine x_aret 16 C dX9_equationAt_16 rfl (Or.inl ⟨_, rfl⟩) (Nat.le_refl _) (xN.intro ?_)
    exact ⟨rfl, rfl, rfl⟩
theorem dX9_setting_0 : decode cX9_setting 0 = .ok (.iload_n 1, 1) := by decide +kernel
theorem dX9_setting_1 : decode cX9_setting 1 = .ok (.ifCond .lt 18, 3) := by decide +kernel
theorem dX9_setting_4 : decode cX9_setting 4 = .ok (.iload_n 1, 1) := by decide +kernel
theorem dX9_setting_5 : decode cX9_setting 5 = .ok (.bipush 8, 2) := by decide +kernel
theorem dX9_setting_7 : decode cX9_setting 7 = .ok (.if_icmp .ge 12, 3) := by decide +kernel
theorem dX9_setting_10 : decode cX9_setting 10 = .ok (.aload_n 0, 1) := by decide +kernel
theorem dX9_setting_11 : decode cX9_setting 11 = .ok (.getfield 19, 3) := by decide +kernel
theorem dX9_setting_14 : decode cX9_setting 14 = .ok (.iload_n 1, 1) := by decide +kernel
theorem dX9_setting_15 : decode cX9_setting 15 = .ok (.iaload, 1) := by decide +kernel
theorem dX9_setting_16 : decode cX9_setting 16 = .ok (.goto 4, 3) := by decide +kernel
theorem dX9_setting_19 : decode cX9_setting 19 = .ok (.iconst 0, 1) := by decide +kernel
theorem dX9_setting_20 : decode cX9_setting 20 = .ok (.ireturn, 1) := by decide +kernel
set_option maxHeartbeats 4000000 in
set_option maxRecDepth 100000 in
theorem t_X9_setting (l : Launch) (D : xD) (z n : Nat) (G : xG) (I : xI) (L : xL) (S : Nat) (w : Nat) (hS : shS G S) (hw : w < 8) : xM0 l D z yX9_setting cX9_setting 2 (some .int) 0 0 [.ref S, .int (nI w)] n G I L (xE (some (.int (I (S + 9) w))) I L) := by
  refine xM.of (by decide) (Nat.le_of_ble_eq_true rfl) (fun p e s m args below meth c C hnm hsz => ?_)
  refine x_lv [(0, .ref S), (1, .int (nI w))] rfl ?_
  refine x_iload_n 0 C dX9_setting_0 rfl 1 rfl ?_
  refine x_if_lt 1 C 19 dX9_setting_1 (by decide) (fun c1 => absurd c1 (nI_pos (n := w) (by omega))) (fun _ => ?_)
  refine x_iload_n 4 C dX9_setting_4 rfl 1 rfl ?_
  refine x_bipush 5 C (v := 8) dX9_setting_5 rfl ?_
  refine x_icmp_ge 7 C 19 dX9_setting_7 (by decide) (fun c2 => absurd c2 (fun h => absurd ((nI_leI (a := 8) (b := w) (by omega) (by omega)).mp h) (by omega))) (fun _ => ?_)
  refine x_aload_n 10 C dX9_setting_10 rfl 0 rfl ?_
  refine x_getr 11 C (b := S + 9) dX9_setting_11 ff_X9_19 rfl hS.1 rfl ?_
  refine x_iload_n 14 C dX9_setting_14 rfl 1 rfl ?_
  refine x_iald 15 C (j := w) dX9_setting_15 hS.2.2.1 (xIx_nI (by omega) (by decide)) ?_
  refine x_goto 16 C 20 dX9_setting_16 (by decide) ?_
  refine x_iret 20 C dX9_setting_20 rfl rfl (Nat.le_refl _) (xN.intro ?_)
  exact ⟨rfl, rfl, rfl⟩
theorem dX9_pathCount_0 : decode cX9_pathCount 0 = .ok (.aload_n 0, 1) := by decide +kernel
theorem dX9_pathCount_1 : decode cX9_pathCount 1 = .ok (.getfield 47, 3) := by decide +kernel
theorem dX9_pathCount_4 : decode cX9_pathCount 4 = .ok (.ireturn, 1) := by decide +kernel
set_option maxHeartbeats 4000000 in
set_option maxRecDepth 100000 in
theorem t_X9_pathCount (l : Launch) (D : xD) (z n : Nat) (G : xG) (I : xI) (L : xL) (S : Nat) (hS : shS G S) : xM0 l D z yX9_pathCount cX9_pathCount 1 (some .int) 0 0 [.ref S] n G I L (xE (some (.int (I S 4))) I L) := by
  refine xM.of (by decide) (Nat.le_of_ble_eq_true rfl) (fun p e s m args below meth c C hnm hsz => ?_)
  refine x_lv [(0, .ref S)] rfl ?_
  refine x_aload_n 0 C dX9_pathCount_0 rfl 0 rfl ?_
  refine x_geti 1 C dX9_pathCount_1 ff_X9_47 hS.1 ?_
  refine x_iret 4 C dX9_pathCount_4 rfl rfl (Nat.le_refl _) (xN.intro ?_)
  exact ⟨rfl, rfl, rfl⟩
theorem dX9_hasPath_0 : decode cX9_hasPath 0 = .ok (.iload_n 1, 1) := by decide +kernel
theorem dX9_hasPath_1 : decode cX9_hasPath 1 = .ok (.ifCond .lt 21, 3) := by decide +kernel
theorem dX9_hasPath_4 : decode cX9_hasPath 4 = .ok (.iload_n 1, 1) := by decide +kernel
theorem dX9_hasPath_5 : decode cX9_hasPath 5 = .ok (.aload_n 0, 1) := by decide +kernel
theorem dX9_hasPath_6 : decode cX9_hasPath 6 = .ok (.getfield 47, 3) := by decide +kernel
theorem dX9_hasPath_9 : decode cX9_hasPath 9 = .ok (.if_icmp .ge 13, 3) := by decide +kernel
theorem dX9_hasPath_12 : decode cX9_hasPath 12 = .ok (.iload_n 1, 1) := by decide +kernel
theorem dX9_hasPath_13 : decode cX9_hasPath 13 = .ok (.bipush 9, 2) := by decide +kernel
theorem dX9_hasPath_15 : decode cX9_hasPath 15 = .ok (.if_icmp .ge 7, 3) := by decide +kernel
theorem dX9_hasPath_18 : decode cX9_hasPath 18 = .ok (.iconst 1, 1) := by decide +kernel
theorem dX9_hasPath_19 : decode cX9_hasPath 19 = .ok (.goto 4, 3) := by decide +kernel
theorem dX9_hasPath_22 : decode cX9_hasPath 22 = .ok (.iconst 0, 1) := by decide +kernel
theorem dX9_hasPath_23 : decode cX9_hasPath 23 = .ok (.ireturn, 1) := by decide +kernel
set_option maxHeartbeats 4000000 in
set_option maxRecDepth 100000 in
theorem t_X9_hasPath (l : Launch) (D : xD) (z n : Nat) (G : xG) (I : xI) (L : xL) (S : Nat) (x : Int32) (hS : shS G S) : xM0 l D z yX9_hasPath cX9_hasPath 2 (some .boolean) 0 0 [.ref S, .int x] n G I L (xE (some (.int (bI (hasP I S x)))) I L) := by
  refine xM.of (by decide) (Nat.le_of_ble_eq_true rfl) (fun p e s m args below meth c C hnm hsz => ?_)
  refine x_lv [(0, .ref S), (1, .int x)] rfl ?_
  refine x_iload_n 0 C dX9_hasPath_0 rfl 1 rfl ?_
  refine x_if_lt 1 C 22 dX9_hasPath_1 (by decide) (fun c1 => ?_) (fun c1 => ?_)
  · skip
    have c1o := Int32.not_le.mpr c1
    refine x_iconst 22 C (v := 0) dX9_hasPath_22 rfl ?_
    refine x_iret 23 C dX9_hasPath_23 rfl rfl (Nat.le_refl _) (xN.intro ?_)
    refine ⟨?_, rfl, rfl⟩
    simp [bI, hasP, c1, c1o]
  · skip
    have c1o := Int32.not_lt.mp c1
    refine x_iload_n 4 C dX9_hasPath_4 rfl 1 rfl ?_
    refine x_aload_n 5 C dX9_hasPath_5 rfl 0 rfl ?_
    refine x_geti 6 C dX9_hasPath_6 ff_X9_47 hS.1 ?_
    refine x_icmp_ge 9 C 22 dX9_hasPath_9 (by decide) (fun c2 => ?_) (fun c2 => ?_)
    · skip
      have c2o := Int32.not_lt.mpr c2
      refine x_iconst 22 C (v := 0) dX9_hasPath_22 rfl ?_
      refine x_iret 23 C dX9_hasPath_23 rfl rfl (Nat.le_refl _) (xN.intro ?_)
      refine ⟨?_, rfl, rfl⟩
      simp [bI, hasP, c1, c1o, c2, c2o]
    · skip
      have c2o := Int32.not_le.mp c2
      refine x_iload_n 12 C dX9_hasPath_12 rfl 1 rfl ?_
      refine x_bipush 13 C (v := 9) dX9_hasPath_13 rfl ?_
      refine x_icmp_ge 15 C 22 dX9_hasPath_15 (by decide) (fun c3 => ?_) (fun c3 => ?_)
      · skip
        have c3o := Int32.not_lt.mpr c3
        refine x_iconst 22 C (v := 0) dX9_hasPath_22 rfl ?_
        refine x_iret 23 C dX9_hasPath_23 rfl rfl (Nat.le_refl _) (xN.intro ?_)
        refine ⟨?_, rfl, rfl⟩
        simp [bI, hasP, c1, c1o, c2, c2o, c3, c3o]
      · skip
        have c3o := Int32.not_le.mp c3
        refine x_iconst 18 C (v := 1) dX9_hasPath_18 rfl ?_
        refine x_goto 19 C 23 dX9_hasPath_19 (by decide) ?_
        refine x_iret 23 C dX9_hasPath_23 rfl rfl (Nat.le_refl _) (xN.intro ?_)
        refine ⟨?_, rfl, rfl⟩
        simp [bI, hasP, c1, c1o, c2, c2o, c3, c3o]
set_option maxHeartbeats 4000000 in
set_option maxRecDepth 100000 in
theorem t_X9_hasPath_k (l : Launch) (D : xD) (z n : Nat) (G : xG) (I : xI) (L : xL) (S : Nat) (k : Nat) (U : Nat) (hS : shS G S) (hU : I S 4 = nI U) (hU9 : U ≤ 9) (hk : k < U) : xM0 l D z yX9_hasPath cX9_hasPath 2 (some .boolean) 0 0 [.ref S, .int (nI k)] n G I L (xE (some (.int 1)) I L) := by
  refine xM.of (by decide) (Nat.le_of_ble_eq_true rfl) (fun p e s m args below meth c C hnm hsz => ?_)
  refine x_lv [(0, .ref S), (1, .int (nI k))] rfl ?_
  refine x_iload_n 0 C dX9_hasPath_0 rfl 1 rfl ?_
  refine x_if_lt 1 C 22 dX9_hasPath_1 (by decide) (fun c1 => absurd c1 (nI_pos (n := k) (by omega))) (fun _ => ?_)
  refine x_iload_n 4 C dX9_hasPath_4 rfl 1 rfl ?_
  refine x_aload_n 5 C dX9_hasPath_5 rfl 0 rfl ?_
  refine x_geti 6 C dX9_hasPath_6 ff_X9_47 hS.1 ?_
  refine x_int (nI U) hU ?_
  refine x_icmp_ge 9 C 22 dX9_hasPath_9 (by decide) (fun c2 => absurd c2 (fun h => absurd ((nI_leI (a := U) (b := k) (by omega) (by omega)).mp h) (by omega))) (fun _ => ?_)
  refine x_iload_n 12 C dX9_hasPath_12 rfl 1 rfl ?_
  refine x_bipush 13 C (v := 9) dX9_hasPath_13 rfl ?_
  refine x_icmp_ge 15 C 22 dX9_hasPath_15 (by decide) (fun c3 => absurd c3 (fun h => absurd ((nI_leI (a := 9) (b := k) (by omega) (by omega)).mp h) (by omega))) (fun _ => ?_)
  refine x_iconst 18 C (v := 1) dX9_hasPath_18 rfl ?_
  refine x_goto 19 C 23 dX9_hasPath_19 (by decide) ?_
  refine x_iret 23 C dX9_hasPath_23 rfl rfl (Nat.le_refl _) (xN.intro ?_)
  exact ⟨rfl, rfl, rfl⟩
theorem dX9_pathAt_0 : decode cX9_pathAt 0 = .ok (.aload_n 0, 1) := by decide +kernel
theorem dX9_pathAt_1 : decode cX9_pathAt 1 = .ok (.getfield 25, 3) := by decide +kernel
theorem dX9_pathAt_4 : decode cX9_pathAt 4 = .ok (.aload_n 0, 1) := by decide +kernel
theorem dX9_pathAt_5 : decode cX9_pathAt 5 = .ok (.iload_n 1, 1) := by decide +kernel
theorem dX9_pathAt_6 : decode cX9_pathAt 6 = .ok (.invokevirtual 78, 3) := by decide +kernel
theorem dX9_pathAt_9 : decode cX9_pathAt 9 = .ok (.ifCond .eq 7, 3) := by decide +kernel
theorem dX9_pathAt_12 : decode cX9_pathAt 12 = .ok (.iload_n 1, 1) := by decide +kernel
theorem dX9_pathAt_13 : decode cX9_pathAt 13 = .ok (.goto 4, 3) := by decide +kernel
theorem dX9_pathAt_16 : decode cX9_pathAt 16 = .ok (.iconst 0, 1) := by decide +kernel
theorem dX9_pathAt_17 : decode cX9_pathAt 17 = .ok (.aaload, 1) := by decide +kernel
theorem dX9_pathAt_18 : decode cX9_pathAt 18 = .ok (.areturn, 1) := by decide +kernel
set_option maxHeartbeats 4000000 in
set_option maxRecDepth 100000 in
theorem t_X9_pathAt (l : Launch) (D : xD) (z n : Nat) (G : xG) (I : xI) (L : xL) (S : Nat) (k : Nat) (U : Nat) (hS : shS G S) (hU : I S 4 = nI U) (hU9 : U ≤ 9) (hk : k < U) : xM0 l D z yX9_pathAt cX9_pathAt 2 (some (.object "PathTracker$Path")) 1 21 [.ref S, .int (nI k)] n G I L (xE (some (.ref (S + 11 + 3 * k))) I L) := by
  refine xM.of (by decide) (Nat.le_of_ble_eq_true rfl) (fun p e s m args below meth c C hnm hsz => ?_)
  refine x_lv [(0, .ref S), (1, .int (nI k))] rfl ?_
  refine x_aload_n 0 C dX9_pathAt_0 rfl 0 rfl ?_
  refine x_getr 1 C (b := S + 10) dX9_pathAt_1 ff_X9_25 rfl hS.1 rfl ?_
  refine x_aload_n 4 C dX9_pathAt_4 rfl 0 rfl ?_
  refine x_iload_n 5 C dX9_pathAt_5 rfl 1 rfl ?_
  refine x_callVe 6 C dX9_pathAt_6 (As := [.int (nI k)]) (rest := [.ref (S + 10)]) [.int 1, .ref (S + 10)] (t_X9_hasPath_k l D z n G I L S k U hS (by first | assumption | omega) (by first | assumption | omega) (by first | assumption | omega)) mt_X9_hasPath km_X9_78 ki_X9_hasPath ks_X9_hasPath hS.1 ⟨by decide, rfl⟩ rfl rfl (Nat.le_of_ble_eq_true rfl) ⟨⟨by decide, by decide⟩, by decide, by decide⟩ (fun I1 L2 eI1 eL2 => ?_)
  replace eI1 := eI1.symm; subst eI1
  replace eL2 := eL2.symm; subst eL2
  refine x_if_eq 9 C 16 dX9_pathAt_9 (by decide) (fun c3 => absurd c3 (by decide)) (fun _ => ?_)
  refine x_iload_n 12 C dX9_pathAt_12 rfl 1 rfl ?_
  refine x_goto 13 C 17 dX9_pathAt_13 (by decide) ?_
  refine x_aald 17 C (b := S + 11 + 3 * k) (j := k) dX9_pathAt_17 (by decide) hS.2.2.2.1 (xIx_nI (by omega) (by decide)) (if_pos (by omega)) ?_
  refine x_aret 18 C dX9_pathAt_18 rfl (Or.inl ⟨_, rfl⟩) (Nat.le_refl _) (xN.intro ?_)
  exact ⟨rfl, rfl, rfl⟩
theorem dX9_inRange_0 : decode cX9_inRange 0 = .ok (.iload_n 0, 1) := by decide +kernel
theorem dX9_inRange_1 : decode cX9_inRange 1 = .ok (.ifCond .lt 13, 3) := by decide +kernel
theorem dX9_inRange_4 : decode cX9_inRange 4 = .ok (.iload_n 0, 1) := by decide +kernel
theorem dX9_inRange_5 : decode cX9_inRange 5 = .ok (.bipush 8, 2) := by decide +kernel
theorem dX9_inRange_7 : decode cX9_inRange 7 = .ok (.if_icmp .ge 7, 3) := by decide +kernel
theorem dX9_inRange_10 : decode cX9_inRange 10 = .ok (.iconst 1, 1) := by decide +kernel
theorem dX9_inRange_11 : decode cX9_inRange 11 = .ok (.goto 4, 3) := by decide +kernel
theorem dX9_inRange_14 : decode cX9_inRange 14 = .ok (.iconst 0, 1) := by decide +kernel
theorem dX9_inRange_15 : decode cX9_inRange 15 = .ok (.istore_n 2, 1) := by decide +kernel
theorem dX9_inRange_16 : decode cX9_inRange 16 = .ok (.iload_n 2, 1) := by decide +kernel
theorem dX9_inRange_17 : decode cX9_inRange 17 = .ok (.ifCond .eq 25, 3) := by decide +kernel
theorem dX9_inRange_20 : decode cX9_inRange 20 = .ok (.iload_n 1, 1) := by decide +kernel
theorem dX9_inRange_21 : decode cX9_inRange 21 = .ok (.getstatic 58, 3) := by decide +kernel
theorem dX9_inRange_24 : decode cX9_inRange 24 = .ok (.iload_n 0, 1) := by decide +kernel
theorem dX9_inRange_25 : decode cX9_inRange 25 = .ok (.iaload, 1) := by decide +kernel
theorem dX9_inRange_26 : decode cX9_inRange 26 = .ok (.if_icmp .lt 16, 3) := by decide +kernel
theorem dX9_inRange_29 : decode cX9_inRange 29 = .ok (.iload_n 1, 1) := by decide +kernel
theorem dX9_inRange_30 : decode cX9_inRange 30 = .ok (.getstatic 61, 3) := by decide +kernel
theorem dX9_inRange_33 : decode cX9_inRange 33 = .ok (.iload_n 0, 1) := by decide +kernel
theorem dX9_inRange_34 : decode cX9_inRange 34 = .ok (.iaload, 1) := by decide +kernel
theorem dX9_inRange_35 : decode cX9_inRange 35 = .ok (.if_icmp .gt 7, 3) := by decide +kernel
theorem dX9_inRange_38 : decode cX9_inRange 38 = .ok (.iconst 1, 1) := by decide +kernel
theorem dX9_inRange_39 : decode cX9_inRange 39 = .ok (.goto 4, 3) := by decide +kernel
theorem dX9_inRange_42 : decode cX9_inRange 42 = .ok (.iconst 0, 1) := by decide +kernel
theorem dX9_inRange_43 : decode cX9_inRange 43 = .ok (.ireturn, 1) := by decide +kernel
set_option maxHeartbeats 4000000 in
set_option maxRecDepth 100000 in
theorem t_X9_inRange (l : Launch) (D : xD) (z n : Nat) (G : xG) (I : xI) (L : xL) (w : Nat) (v : Int32) (hw : w < 8) : xM0 l D z yX9_inRange cX9_inRange 3 (some .boolean) 0 0 [.int (nI w), .int v] n G I L (xE (some (.int (bI (inRg w v)))) I L) := by
  refine xM.of (by decide) (Nat.le_of_ble_eq_true rfl) (fun p e s m args below meth c C hnm hsz => ?_)
  refine x_lv [(0, .int (nI w)), (1, .int v)] rfl ?_
  refine x_iload_n 0 C dX9_inRange_0 rfl 0 rfl ?_
  refine x_if_lt 1 C 14 dX9_inRange_1 (by decide) (fun c1 => absurd c1 (nI_pos (n := w) (by omega))) (fun _ => ?_)
  refine x_iload_n 4 C dX9_inRange_4 rfl 0 rfl ?_
  refine x_bipush 5 C (v := 8) dX9_inRange_5 rfl ?_
  refine x_icmp_ge 7 C 14 dX9_inRange_7 (by decide) (fun c2 => absurd c2 (fun h => absurd ((nI_leI (a := 8) (b := w) (by omega) (by omega)).mp h) (by omega))) (fun _ => ?_)
  refine x_iconst 10 C (v := 1) dX9_inRange_10 rfl ?_
  refine x_goto 11 C 15 dX9_inRange_11 (by decide) ?_
  refine x_istore_n 15 C [(2, .int 1), (0, .int (nI w)), (1, .int v)] dX9_inRange_15 rfl (by decide) rfl ?_
  refine x_iload_n 16 C dX9_inRange_16 rfl 0 rfl ?_
  refine x_if_eq 17 C 42 dX9_inRange_17 (by decide) (fun c3 => absurd c3 (by decide)) (fun _ => ?_)
  refine x_iload_n 20 C dX9_inRange_20 rfl 2 rfl ?_
  refine x_gets 21 C (k0 := 4) dX9_inRange_21 rfl kf_X9_58 ?_
  refine x_iload_n 24 C dX9_inRange_24 rfl 1 rfl ?_
  refine x_stald 25 C (j := w) dX9_inRange_25 (k0 := 4) rfl (xIx_nI (len := 8) (by omega) (by decide)) ?_
  refine x_icmp_lt 26 C 42 dX9_inRange_26 (by decide) (fun c4 => ?_) (fun c4 => ?_)
  · skip
    have c4o := Int32.not_le.mpr c4
    refine x_iconst 42 C (v := 0) dX9_inRange_42 rfl ?_
    refine x_iret 43 C dX9_inRange_43 rfl rfl (Nat.le_refl _) (xN.intro ?_)
    refine ⟨?_, rfl, rfl⟩
    simp [bI, inRg, c4, c4o]
  · skip
    have c4o := Int32.not_lt.mp c4
    refine x_iload_n 29 C dX9_inRange_29 rfl 2 rfl ?_
    refine x_gets 30 C (k0 := 5) dX9_inRange_30 rfl kf_X9_61 ?_
    refine x_iload_n 33 C dX9_inRange_33 rfl 1 rfl ?_
    refine x_stald 34 C (j := w) dX9_inRange_34 (k0 := 5) rfl (xIx_nI (len := 8) (by omega) (by decide)) ?_
    refine x_icmp_gt 35 C 42 dX9_inRange_35 (by decide) (fun c5 => ?_) (fun c5 => ?_)
    · skip
      have c5o := Int32.not_le.mpr c5
      refine x_iconst 42 C (v := 0) dX9_inRange_42 rfl ?_
      refine x_iret 43 C dX9_inRange_43 rfl rfl (Nat.le_refl _) (xN.intro ?_)
      refine ⟨?_, rfl, rfl⟩
      simp [bI, inRg, c4, c4o, c5, c5o]
    · skip
      have c5o := Int32.not_lt.mp c5
      refine x_iconst 38 C (v := 1) dX9_inRange_38 rfl ?_
      refine x_goto 39 C 43 dX9_inRange_39 (by decide) ?_
      refine x_iret 43 C dX9_inRange_43 rfl rfl (Nat.le_refl _) (xN.intro ?_)
      refine ⟨?_, rfl, rfl⟩
      simp [bI, inRg, c4, c4o, c5, c5o]
end
section
/-! PathTracker$Homotopy: at h; its Powers at h + 1; of the equation e: the wanted one at h + 18 + 20 * e, the start at h + 22 + 20 * e, the Tangents: ends h + 26 + 20 * e, begins h + 30 + 20 * e, mixes h + 34 + 20 * e -/
def rHom (h : Nat) : Nat → Option Nat := va_up (va_up (va_up (va_up (va_up (va_up rN 0 (some (h + 1))) 1 (some (h + 13))) 2 (some (h + 14))) 3 (some (h + 15))) 4 (some (h + 16))) 5 (some (h + 17))
def rA2 (b : Nat) : Nat → Option Nat := fun k => if k < 2 then some (b + 20 * k) else none
def shH (G : xG) (h : Nat) : Prop := G h = some (5, 0, rHom h) ∧ shW G (h + 1) ∧ G (h + 13) = some (24, 2, rA2 (h + 18)) ∧ G (h + 14) = some (24, 2, rA2 (h + 22)) ∧ G (h + 15) = some (27, 2, rA2 (h + 26)) ∧ G (h + 16) = some (27, 2, rA2 (h + 30)) ∧ G (h + 17) = some (27, 2, rA2 (h + 34)) ∧ ∀ e, e < 2 → shE G (h + 18 + 20 * e) ∧ shE G (h + 22 + 20 * e) ∧ shT G (h + 26 + 20 * e) ∧ shT G (h + 30 + 20 * e) ∧ shT G (h + 34 + 20 * e)
/-- what stands in a Homotopy behind aim -/
def aimed (I : xI) (h : Nat) (cr0 ci0 cr1 ci1 : Nat → Int32) (m0 m1 : Nat) (gr gi : Int32) : Prop :=
  (∀ j, j < 10 → I (h + 18 + 20 * 0 + 1) j = cr0 j ∧ I (h + 18 + 20 * 0 + 2) j = ci0 j) ∧ (∀ j, j < 10 → I (h + 18 + 20 * 1 + 1) j = cr1 j ∧ I (h + 18 + 20 * 1 + 2) j = ci1 j) ∧
  (∀ j, j < 10 → I (h + 22 + 20 * 0 + 1) j = stRe m0 j ∧ I (h + 22 + 20 * 0 + 2) j = 0) ∧ (∀ j, j < 10 → I (h + 22 + 20 * 1 + 1) j = stRe m1 j ∧ I (h + 22 + 20 * 1 + 2) j = 0) ∧ I h 6 = gr ∧ I h 7 = gi
def sdg (I : xI) (S b : Nat) : Nat := dgN (I (S + 1 + 4 * b + 1)) (I (S + 1 + 4 * b + 2)) 10
/-- the parts of the equations at a point: wanted, start by gamma, mix -/
def sB (f : (Nat → Int32) → (Nat → Int32) → (Nat → xC) → Nat → xC) (m : Nat) (gr gi : Int32) (X Y : xC) (u : Int64) : xC := gauC gr.toInt64 gi.toInt64 (f (stRe m) (fun _ => 0) (powC X Y u) 10)
def sM (f : (Nat → Int32) → (Nat → Int32) → (Nat → xC) → Nat → xC) (cr ci : Nat → Int32) (m : Nat) (gr gi : Int32) (P : Nat) (X Y : xC) (u : Int64) : xC := mixC (nI (1024 - P)).toInt64 (sB f m gr gi X Y u) (nI P).toInt64 (f cr ci (powC X Y u) 10)
theorem mix_nz {P : Nat} (h : P ≤ 1024) : ¬ (nI (1024 - P)).toInt64 + (nI P).toInt64 = 0 := by
  rw [nI_l (by omega), nI_l (by omega), lN_add, Nat.sub_add_cancel h]
  decide
theorem dX5_aim_0 : decode cX5_aim 0 = .ok (.iconst 0, 1) := by decide +kernel
theorem dX5_aim_1 : decode cX5_aim 1 = .ok (.istore_n 2, 1) := by decide +kernel
theorem dX5_aim_2 : decode cX5_aim 2 = .ok (.iload_n 2, 1) := by decide +kernel
theorem dX5_aim_3 : decode cX5_aim 3 = .ok (.iconst 2, 1) := by decide +kernel
theorem dX5_aim_4 : decode cX5_aim 4 = .ok (.if_icmp .ge 50, 3) := by decide +kernel
theorem dX5_aim_7 : decode cX5_aim 7 = .ok (.aload_n 0, 1) := by decide +kernel
theorem dX5_aim_8 : decode cX5_aim 8 = .ok (.getfield 18, 3) := by decide +kernel
theorem dX5_aim_11 : decode cX5_aim 11 = .ok (.iload_n 2, 1) := by decide +kernel
theorem dX5_aim_12 : decode cX5_aim 12 = .ok (.aaload, 1) := by decide +kernel
theorem dX5_aim_13 : decode cX5_aim 13 = .ok (.aload_n 1, 1) := by decide +kernel
theorem dX5_aim_14 : decode cX5_aim 14 = .ok (.iload_n 2, 1) := by decide +kernel
theorem dX5_aim_15 : decode cX5_aim 15 = .ok (.invokevirtual 39, 3) := by decide +kernel
theorem dX5_aim_18 : decode cX5_aim 18 = .ok (.invokevirtual 45, 3) := by decide +kernel
theorem dX5_aim_21 : decode cX5_aim 21 = .ok (.aload_n 0, 1) := by decide +kernel
theorem dX5_aim_22 : decode cX5_aim 22 = .ok (.getfield 22, 3) := by decide +kernel
theorem dX5_aim_25 : decode cX5_aim 25 = .ok (.iload_n 2, 1) := by decide +kernel
theorem dX5_aim_26 : decode cX5_aim 26 = .ok (.aaload, 1) := by decide +kernel
theorem dX5_aim_27 : decode cX5_aim 27 = .ok (.aload_n 0, 1) := by decide +kernel
theorem dX5_aim_28 : decode cX5_aim 28 = .ok (.getfield 18, 3) := by decide +kernel
theorem dX5_aim_31 : decode cX5_aim 31 = .ok (.iload_n 2, 1) := by decide +kernel
theorem dX5_aim_32 : decode cX5_aim 32 = .ok (.aaload, 1) := by decide +kernel
theorem dX5_aim_33 : decode cX5_aim 33 = .ok (.invokevirtual 49, 3) := by decide +kernel
theorem dX5_aim_36 : decode cX5_aim 36 = .ok (.iload_n 2, 1) := by decide +kernel
theorem dX5_aim_37 : decode cX5_aim 37 = .ok (.ifCond .ne 7, 3) := by decide +kernel
theorem dX5_aim_40 : decode cX5_aim 40 = .ok (.iconst 1, 1) := by decide +kernel
theorem dX5_aim_41 : decode cX5_aim 41 = .ok (.goto 4, 3) := by decide +kernel
theorem dX5_aim_44 : decode cX5_aim 44 = .ok (.iconst 0, 1) := by decide +kernel
theorem dX5_aim_45 : decode cX5_aim 45 = .ok (.invokevirtual 53, 3) := by decide +kernel
theorem dX5_aim_48 : decode cX5_aim 48 = .ok (.iinc 2 1, 3) := by decide +kernel
theorem dX5_aim_51 : decode cX5_aim 51 = .ok (.goto (-49), 3) := by decide +kernel
theorem dX5_aim_54 : decode cX5_aim 54 = .ok (.aload_n 0, 1) := by decide +kernel
theorem dX5_aim_55 : decode cX5_aim 55 = .ok (.aload_n 1, 1) := by decide +kernel
theorem dX5_aim_56 : decode cX5_aim 56 = .ok (.bipush 6, 2) := by decide +kernel
theorem dX5_aim_58 : decode cX5_aim 58 = .ok (.invokevirtual 57, 3) := by decide +kernel
theorem dX5_aim_61 : decode cX5_aim 61 = .ok (.putfield 61, 3) := by decide +kernel
theorem dX5_aim_64 : decode cX5_aim 64 = .ok (.aload_n 0, 1) := by decide +kernel
theorem dX5_aim_65 : decode cX5_aim 65 = .ok (.aload_n 1, 1) := by decide +kernel
theorem dX5_aim_66 : decode cX5_aim 66 = .ok (.bipush 7, 2) := by decide +kernel
theorem dX5_aim_68 : decode cX5_aim 68 = .ok (.invokevirtual 57, 3) := by decide +kernel
theorem dX5_aim_71 : decode cX5_aim 71 = .ok (.putfield 65, 3) := by decide +kernel
theorem dX5_aim_74 : decode cX5_aim 74 = .ok (.return_, 1) := by decide +kernel
set_option maxHeartbeats 4000000 in
set_option maxRecDepth 100000 in
theorem t_X5_aim (l : Launch) (D : xD) (z n : Nat) (G : xG) (I : xI) (L : xL) (h : Nat) (S : Nat) (hH : shH G h) (hS : shS G S) (zh : z ≤ h) (dSh : S + 38 ≤ h ∨ h + 58 ≤ S) (hd0 : 1 ≤ sdg I S 0) (hd1 : 1 ≤ sdg I S 1) : xM0 l D z yX5_aim cX5_aim 3 none 4 90 [.ref h, .ref S] n G I L (fun v' I' L' => v' = none ∧ L' = L ∧ (aimed I' h (I (S + 1 + 4 * 0 + 1)) (I (S + 1 + 4 * 0 + 2)) (I (S + 1 + 4 * 1 + 1)) (I (S + 1 + 4 * 1 + 2)) (tm (sdg I S 0) 0) (tm 0 (sdg I S 1)) (I (S + 9) 6) (I (S + 9) 7)) ∧ (∀ a, (a < h ∨ h + 58 ≤ a) → I' a = I a)) := by
  refine xM.of (by decide) (Nat.le_of_ble_eq_true rfl) (fun p e s m args below meth c C hnm hsz => ?_)
  refine x_lv [(0, .ref h), (1, .ref S)] rfl ?_
  have hd0b : sdg I S 0 ≤ 3 := dgN_le _ _ _
  have hd1b : sdg I S 1 ≤ 3 := dgN_le _ _ _
  refine x_iconst 0 C (v := 0) dX5_aim_0 rfl ?_
  refine x_istore_n 1 C [(2, .int 0), (0, .ref h), (1, .ref S)] dX5_aim_1 rfl (by decide) rfl ?_
  refine x_iload_n 2 C dX5_aim_2 rfl 0 rfl ?_
  refine x_iconst 3 C (v := 2) dX5_aim_3 rfl ?_
  refine x_icmp_ge 4 C 54 dX5_aim_4 (by decide) (fun c1 => absurd c1 (by decide)) (fun _ => ?_)
  refine x_aload_n 7 C dX5_aim_7 rfl 1 rfl ?_
  refine x_getr 8 C (b := h + 13) dX5_aim_8 ff_X5_18 rfl hH.1 rfl ?_
  refine x_iload_n 11 C dX5_aim_11 rfl 0 rfl ?_
  refine x_aald 12 C (b := h + 18 + 20 * 0) (j := 0) dX5_aim_12 (by decide) hH.2.2.1 ⟨by decide, by decide, by decide⟩ rfl ?_
  refine x_aload_n 13 C dX5_aim_13 rfl 2 rfl ?_
  refine x_iload_n 14 C dX5_aim_14 rfl 0 rfl ?_
  refine x_callVe 15 C dX5_aim_15 (As := [.int 0]) (rest := [.ref (h + 18 + 20 * 0)]) [.ref (S + 1 + 4 * 0), .ref (h + 18 + 20 * 0)] (t_X9_equationAt l D z n G I L S 0 hS (by first | assumption | omega)) mt_X9_equationAt km_X5_39 ki_X9_equationAt ks_X9_equationAt hS.1 ⟨by decide, rfl⟩ rfl rfl (Nat.le_of_ble_eq_true rfl) ⟨⟨by decide, by decide⟩, by decide, by decide⟩ (fun I2 L3 eI2 eL3 => ?_)
  replace eI2 := eI2.symm; subst eI2
  replace eL3 := eL3.symm; subst eL3
  refine x_callVe 18 C dX5_aim_18 (As := [.ref (S + 1 + 4 * 0)]) (rest := []) [] (t_X1_copy l D z n G I L (h + 18 + 20 * 0) (S + 1 + 4 * 0) (hH.2.2.2.2.2.2.2 0 (by decide)).1 (hS.2.1 0 (by decide)) (by omega) (by first | assumption | omega)) mt_X1_copy km_X5_45 ki_X1_copy ks_X1_copy (hH.2.2.2.2.2.2.2 0 (by decide)).1.1 ⟨by decide, rfl⟩ rfl rfl (Nat.le_of_ble_eq_true rfl) ⟨⟨by decide, by decide⟩, by decide, by decide⟩ (fun I4 L5 eI4 eL5 => ?_)
  have q6 : ∀ j, j < 10 → I4 (h + 18 + 20 * 0 + 1) j = (I (S + 1 + 4 * 0 + 1)) j := fun j hj => by rw [eI4, eqFill_re _ _ _ _ hj]
  have q7 : ∀ j, j < 10 → I4 (h + 18 + 20 * 0 + 2) j = (I (S + 1 + 4 * 0 + 2)) j := fun j hj => by rw [eI4, eqFill_im _ _ _ _ hj]
  have q8 : ∀ j, j < 10 → I4 (h + 18 + 20 * 1 + 1) j = (I (h + 18 + 20 * 1 + 1)) j := fun j hj => by rw [eI4, eqFill_ne _ _ _ _ _ (by omega) (by omega)]
  have q9 : ∀ j, j < 10 → I4 (h + 18 + 20 * 1 + 2) j = (I (h + 18 + 20 * 1 + 2)) j := fun j hj => by rw [eI4, eqFill_ne _ _ _ _ _ (by omega) (by omega)]
  have q10 : ∀ j, j < 10 → I4 (h + 22 + 20 * 0 + 1) j = (I (h + 22 + 20 * 0 + 1)) j := fun j hj => by rw [eI4, eqFill_ne _ _ _ _ _ (by omega) (by omega)]
  have q11 : ∀ j, j < 10 → I4 (h + 22 + 20 * 0 + 2) j = (I (h + 22 + 20 * 0 + 2)) j := fun j hj => by rw [eI4, eqFill_ne _ _ _ _ _ (by omega) (by omega)]
  have q12 : ∀ j, j < 10 → I4 (h + 22 + 20 * 1 + 1) j = (I (h + 22 + 20 * 1 + 1)) j := fun j hj => by rw [eI4, eqFill_ne _ _ _ _ _ (by omega) (by omega)]
  have q13 : ∀ j, j < 10 → I4 (h + 22 + 20 * 1 + 2) j = (I (h + 22 + 20 * 1 + 2)) j := fun j hj => by rw [eI4, eqFill_ne _ _ _ _ _ (by omega) (by omega)]
  have q14 : ∀ j, j < 10 → I4 (S + 1 + 4 * 0 + 1) j = (I (S + 1 + 4 * 0 + 1)) j := fun j hj => by rw [eI4, eqFill_ne _ _ _ _ _ (by omega) (by omega)]
  have q15 : ∀ j, j < 10 → I4 (S + 1 + 4 * 0 + 2) j = (I (S + 1 + 4 * 0 + 2)) j := fun j hj => by rw [eI4, eqFill_ne _ _ _ _ _ (by omega) (by omega)]
  have q16 : ∀ j, j < 10 → I4 (S + 1 + 4 * 1 + 1) j = (I (S + 1 + 4 * 1 + 1)) j := fun j hj => by rw [eI4, eqFill_ne _ _ _ _ _ (by omega) (by omega)]
  have q17 : ∀ j, j < 10 → I4 (S + 1 + 4 * 1 + 2) j = (I (S + 1 + 4 * 1 + 2)) j := fun j hj => by rw [eI4, eqFill_ne _ _ _ _ _ (by omega) (by omega)]
  have q18 : ∀ j, j < 10 → I4 (S + 9) j = (I (S + 9)) j := fun j hj => by rw [eI4, eqFill_ne _ _ _ _ _ (by omega) (by omega)]
  replace eL5 := eL5.symm; subst eL5
  refine x_aload_n 21 C dX5_aim_21 rfl 1 rfl ?_
  refine x_getr 22 C (b := h + 14) dX5_aim_22 ff_X5_22 rfl hH.1 rfl ?_
  refine x_iload_n 25 C dX5_aim_25 rfl 0 rfl ?_
  refine x_aald 26 C (b := h + 22 + 20 * 0) (j := 0) dX5_aim_26 (by decide) hH.2.2.2.1 ⟨by decide, by decide, by decide⟩ rfl ?_
  refine x_aload_n 27 C dX5_aim_27 rfl 1 rfl ?_
  refine x_getr 28 C (b := h + 13) dX5_aim_28 ff_X5_18 rfl hH.1 rfl ?_
  refine x_iload_n 31 C dX5_aim_31 rfl 0 rfl ?_
  refine x_aald 32 C (b := h + 18 + 20 * 0) (j := 0) dX5_aim_32 (by decide) hH.2.2.1 ⟨by decide, by decide, by decide⟩ rfl ?_
  refine x_callVe 33 C dX5_aim_33 (As := []) (rest := [.ref (h + 22 + 20 * 0)]) [.int (nI (dgN (I4 ((h + 18 + 20 * 0) + 1)) (I4 ((h + 18 + 20 * 0) + 2)) 10)), .ref (h + 22 + 20 * 0)] (t_X1_degree l D z n G I4 L (h + 18 + 20 * 0) (hH.2.2.2.2.2.2.2 0 (by decide)).1) mt_X1_degree km_X5_49 ki_X1_degree ks_X1_degree (hH.2.2.2.2.2.2.2 0 (by decide)).1.1 ⟨by decide, rfl⟩ rfl rfl (Nat.le_of_ble_eq_true rfl) ⟨⟨by decide, by decide⟩, by decide, by decide⟩ (fun I19 L20 eI19 eL20 => ?_)
  replace eI19 := eI19.symm; subst eI19
  replace eL20 := eL20.symm; subst eL20
  refine x_int (nI (sdg I S 0)) (congrArg nI (dgN_congr q6 q7 10 (by decide))) ?_
  refine x_iload_n 36 C dX5_aim_36 rfl 0 rfl ?_
  refine x_if_ne 37 C 44 dX5_aim_37 (by decide) (fun c21 => absurd (by decide) c21) (fun _ => ?_)
  refine x_iconst 40 C (v := 1) dX5_aim_40 rfl ?_
  refine x_goto 41 C 45 dX5_aim_41 (by decide) ?_
  refine x_callVe 45 C dX5_aim_45 (As := [.int (nI (sdg I S 0)), .int 1]) (rest := []) [] (t_X1_putStart l D z n G I4 L (h + 22 + 20 * 0) (sdg I S 0) 1 (hH.2.2.2.2.2.2.2 0 (by decide)).2.1 (by omega) (by first | assumption | omega) (by first | assumption | omega)) mt_X1_putStart km_X5_53 ki_X1_putStart ks_X1_putStart (hH.2.2.2.2.2.2.2 0 (by decide)).2.1.1 ⟨by decide, rfl⟩ rfl rfl (Nat.le_of_ble_eq_true rfl) ⟨⟨by decide, by decide⟩, by decide, by decide⟩ (fun I22 L23 eI22 eL23 => ?_)
  have q24 : ∀ j, j < 10 → I22 (h + 18 + 20 * 0 + 1) j = (I (S + 1 + 4 * 0 + 1)) j := fun j hj => by rw [eI22, eqFill_ne _ _ _ _ _ (by omega) (by omega)]; exact q6 j hj
  have q25 : ∀ j, j < 10 → I22 (h + 18 + 20 * 0 + 2) j = (I (S + 1 + 4 * 0 + 2)) j := fun j hj => by rw [eI22, eqFill_ne _ _ _ _ _ (by omega) (by omega)]; exact q7 j hj
  have q26 : ∀ j, j < 10 → I22 (h + 18 + 20 * 1 + 1) j = (I (h + 18 + 20 * 1 + 1)) j := fun j hj => by rw [eI22, eqFill_ne _ _ _ _ _ (by omega) (by omega)]; exact q8 j hj
  have q27 : ∀ j, j < 10 → I22 (h + 18 + 20 * 1 + 2) j = (I (h + 18 + 20 * 1 + 2)) j := fun j hj => by rw [eI22, eqFill_ne _ _ _ _ _ (by omega) (by omega)]; exact q9 j hj
  have q28 : ∀ j, j < 10 → I22 (h + 22 + 20 * 0 + 1) j = (stRe (if 1 = 1 then tm (sdg I S 0) 0 else tm 0 (sdg I S 0))) j := fun j hj => by rw [eI22, eqFill_re _ _ _ _ hj]
  have q29 : ∀ j, j < 10 → I22 (h + 22 + 20 * 0 + 2) j = (fun _ => 0) j := fun j hj => by rw [eI22, eqFill_im _ _ _ _ hj]
  have q30 : ∀ j, j < 10 → I22 (h + 22 + 20 * 1 + 1) j = (I (h + 22 + 20 * 1 + 1)) j := fun j hj => by rw [eI22, eqFill_ne _ _ _ _ _ (by omega) (by omega)]; exact q12 j hj
  have q31 : ∀ j, j < 10 → I22 (h + 22 + 20 * 1 + 2) j = (I (h + 22 + 20 * 1 + 2)) j := fun j hj => by rw [eI22, eqFill_ne _ _ _ _ _ (by omega) (by omega)]; exact q13 j hj
  have q32 : ∀ j, j < 10 → I22 (S + 1 + 4 * 0 + 1) j = (I (S + 1 + 4 * 0 + 1)) j := fun j hj => by rw [eI22, eqFill_ne _ _ _ _ _ (by omega) (by omega)]; exact q14 j hj
  have q33 : ∀ j, j < 10 → I22 (S + 1 + 4 * 0 + 2) j = (I (S + 1 + 4 * 0 + 2)) j := fun j hj => by rw [eI22, eqFill_ne _ _ _ _ _ (by omega) (by omega)]; exact q15 j hj
  have q34 : ∀ j, j < 10 → I22 (S + 1 + 4 * 1 + 1) j = (I (S + 1 + 4 * 1 + 1)) j := fun j hj => by rw [eI22, eqFill_ne _ _ _ _ _ (by omega) (by omega)]; exact q16 j hj
  have q35 : ∀ j, j < 10 → I22 (S + 1 + 4 * 1 + 2) j = (I (S + 1 + 4 * 1 + 2)) j := fun j hj => by rw [eI22, eqFill_ne _ _ _ _ _ (by omega) (by omega)]; exact q17 j hj
  have q36 : ∀ j, j < 10 → I22 (S + 9) j = (I (S + 9)) j := fun j hj => by rw [eI22, eqFill_ne _ _ _ _ _ (by omega) (by omega)]; exact q18 j hj
  replace eL23 := eL23.symm; subst eL23
  refine x_iinc 48 C [(2, .int 1), (0, .ref h), (1, .ref S)] dX5_aim_48 0 rfl (by decide) (by decide) rfl ?_
  refine x_goto 51 C 2 dX5_aim_51 (by decide) ?_
  refine x_iload_n 2 C dX5_aim_2 rfl 0 rfl ?_
  refine x_iconst 3 C (v := 2) dX5_aim_3 rfl ?_
  refine x_icmp_ge 4 C 54 dX5_aim_4 (by decide) (fun c37 => absurd c37 (by decide)) (fun _ => ?_)
  refine x_aload_n 7 C dX5_aim_7 rfl 1 rfl ?_
  refine x_getr 8 C (b := h + 13) dX5_aim_8 ff_X5_18 rfl hH.1 rfl ?_
  refine x_iload_n 11 C dX5_aim_11 rfl 0 rfl ?_
  refine x_aald 12 C (b := h + 18 + 20 * 1) (j := 1) dX5_aim_12 (by decide) hH.2.2.1 ⟨by decide, by decide, by decide⟩ rfl ?_
  refine x_aload_n 13 C dX5_aim_13 rfl 2 rfl ?_
  refine x_iload_n 14 C dX5_aim_14 rfl 0 rfl ?_
  refine x_callVe 15 C dX5_aim_15 (As := [.int 1]) (rest := [.ref (h + 18 + 20 * 1)]) [.ref (S + 1 + 4 * 1), .ref (h + 18 + 20 * 1)] (t_X9_equationAt l D z n G I22 L S 1 hS (by first | assumption | omega)) mt_X9_equationAt km_X5_39 ki_X9_equationAt ks_X9_equationAt hS.1 ⟨by decide, rfl⟩ rfl rfl (Nat.le_of_ble_eq_true rfl) ⟨⟨by decide, by decide⟩, by decide, by decide⟩ (fun I38 L39 eI38 eL39 => ?_)
  replace eI38 := eI38.symm; subst eI38
  replace eL39 := eL39.symm; subst eL39
  refine x_callVe 18 C dX5_aim_18 (As := [.ref (S + 1 + 4 * 1)]) (rest := []) [] (t_X1_copy l D z n G I22 L (h + 18 + 20 * 1) (S + 1 + 4 * 1) (hH.2.2.2.2.2.2.2 1 (by decide)).1 (hS.2.1 1 (by decide)) (by omega) (by first | assumption | omega)) mt_X1_copy km_X5_45 ki_X1_copy ks_X1_copy (hH.2.2.2.2.2.2.2 1 (by decide)).1.1 ⟨by decide, rfl⟩ rfl rfl (Nat.le_of_ble_eq_true rfl) ⟨⟨by decide, by decide⟩, by decide, by decide⟩ (fun I40 L41 eI40 eL41 => ?_)
  have q42 : ∀ j, j < 10 → I40 (h + 18 + 20 * 0 + 1) j = (I (S + 1 + 4 * 0 + 1)) j := fun j hj => by rw [eI40, eqFill_ne _ _ _ _ _ (by omega) (by omega)]; exact q24 j hj
  have q43 : ∀ j, j < 10 → I40 (h + 18 + 20 * 0 + 2) j = (I (S + 1 + 4 * 0 + 2)) j := fun j hj => by rw [eI40, eqFill_ne _ _ _ _ _ (by omega) (by omega)]; exact q25 j hj
  have q44 : ∀ j, j < 10 → I40 (h + 18 + 20 * 1 + 1) j = (I (S + 1 + 4 * 1 + 1)) j := fun j hj => by rw [eI40, eqFill_re _ _ _ _ hj]; exact q34 j hj
  have q45 : ∀ j, j < 10 → I40 (h + 18 + 20 * 1 + 2) j = (I (S + 1 + 4 * 1 + 2)) j := fun j hj => by rw [eI40, eqFill_im _ _ _ _ hj]; exact q35 j hj
  have q46 : ∀ j, j < 10 → I40 (h + 22 + 20 * 0 + 1) j = (stRe (if 1 = 1 then tm (sdg I S 0) 0 else tm 0 (sdg I S 0))) j := fun j hj => by rw [eI40, eqFill_ne _ _ _ _ _ (by omega) (by omega)]; exact q28 j hj
  have q47 : ∀ j, j < 10 → I40 (h + 22 + 20 * 0 + 2) j = (fun _ => 0) j := fun j hj => by rw [eI40, eqFill_ne _ _ _ _ _ (by omega) (by omega)]; exact q29 j hj
  have q48 : ∀ j, j < 10 → I40 (h + 22 + 20 * 1 + 1) j = (I (h + 22 + 20 * 1 + 1)) j := fun j hj => by rw [eI40, eqFill_ne _ _ _ _ _ (by omega) (by omega)]; exact q30 j hj
  have q49 : ∀ j, j < 10 → I40 (h + 22 + 20 * 1 + 2) j = (I (h + 22 + 20 * 1 + 2)) j := fun j hj => by rw [eI40, eqFill_ne _ _ _ _ _ (by omega) (by omega)]; exact q31 j hj
  have q50 : ∀ j, j < 10 → I40 (S + 1 + 4 * 0 + 1) j = (I (S + 1 + 4 * 0 + 1)) j := fun j hj => by rw [eI40, eqFill_ne _ _ _ _ _ (by omega) (by omega)]; exact q32 j hj
  have q51 : ∀ j, j < 10 → I40 (S + 1 + 4 * 0 + 2) j = (I (S + 1 + 4 * 0 + 2)) j := fun j hj => by rw [eI40, eqFill_ne _ _ _ _ _ (by omega) (by omega)]; exact q33 j hj
  have q52 : ∀ j, j < 10 → I40 (S + 1 + 4 * 1 + 1) j = (I (S + 1 + 4 * 1 + 1)) j := fun j hj => by rw [eI40, eqFill_ne _ _ _ _ _ (by omega) (by omega)]; exact q34 j hj
  have q53 : ∀ j, j < 10 → I40 (S + 1 + 4 * 1 + 2) j = (I (S + 1 + 4 * 1 + 2)) j := fun j hj => by rw [eI40, eqFill_ne _ _ _ _ _ (by omega) (by omega)]; exact q35 j hj
  have q54 : ∀ j, j < 10 → I40 (S + 9) j = (I (S + 9)) j := fun j hj => by rw [eI40, eqFill_ne _ _ _ _ _ (by omega) (by omega)]; exact q36 j hj
  replace eL41 := eL41.symm; subst eL41
  refine x_aload_n 21 C dX5_aim_21 rfl 1 rfl ?_
  refine x_getr 22 C (b := h + 14) dX5_aim_22 ff_X5_22 rfl hH.1 rfl ?_
  refine x_iload_n 25 C dX5_aim_25 rfl 0 rfl ?_
  refine x_aald 26 C (b := h + 22 + 20 * 1) (j := 1) dX5_aim_26 (by decide) hH.2.2.2.1 ⟨by decide, by decide, by decide⟩ rfl ?_
  refine x_aload_n 27 C dX5_aim_27 rfl 1 rfl ?_
  refine x_getr 28 C (b := h + 13) dX5_aim_28 ff_X5_18 rfl hH.1 rfl ?_
  refine x_iload_n 31 C dX5_aim_31 rfl 0 rfl ?_
  refine x_aald 32 C (b := h + 18 + 20 * 1) (j := 1) dX5_aim_32 (by decide) hH.2.2.1 ⟨by decide, by decide, by decide⟩ rfl ?_
  refine x_callVe 33 C dX5_aim_33 (As := []) (rest := [.ref (h + 22 + 20 * 1)]) [.int (nI (dgN (I40 ((h + 18 + 20 * 1) + 1)) (I40 ((h + 18 + 20 * 1) + 2)) 10)), .ref (h + 22 + 20 * 1)] (t_X1_degree l D z n G I40 L (h + 18 + 20 * 1) (hH.2.2.2.2.2.2.2 1 (by decide)).1) mt_X1_degree km_X5_49 ki_X1_degree ks_X1_degree (hH.2.2.2.2.2.2.2 1 (by decide)).1.1 ⟨by decide, rfl⟩ rfl rfl (Nat.le_of_ble_eq_true rfl) ⟨⟨by decide, by decide⟩, by decide, by decide⟩ (fun I55 L56 eI55 eL56 => ?_)
  replace eI55 := eI55.symm; subst eI55
  replace eL56 := eL56.symm; subst eL56
  refine x_int (nI (sdg I S 1)) (congrArg nI (dgN_congr q44 q45 10 (by decide))) ?_
  refine x_iload_n 36 C dX5_aim_36 rfl 0 rfl ?_
  refine x_if_ne 37 C 44 dX5_aim_37 (by decide) (fun _ => ?_) (fun c57 => absurd c57 (by decide))
  refine x_iconst 44 C (v := 0) dX5_aim_44 rfl ?_
  refine x_callVe 45 C dX5_aim_45 (As := [.int (nI (sdg I S 1)), .int 0]) (rest := []) [] (t_X1_putStart l D z n G I40 L (h + 22 + 20 * 1) (sdg I S 1) 0 (hH.2.2.2.2.2.2.2 1 (by decide)).2.1 (by omega) (by first | assumption | omega) (by first | assumption | omega)) mt_X1_putStart km_X5_53 ki_X1_putStart ks_X1_putStart (hH.2.2.2.2.2.2.2 1 (by decide)).2.1.1 ⟨by decide, rfl⟩ rfl rfl (Nat.le_of_ble_eq_true rfl) ⟨⟨by decide, by decide⟩, by decide, by decide⟩ (fun I58 L59 eI58 eL59 => ?_)
  have q60 : ∀ j, j < 10 → I58 (h + 18 + 20 * 0 + 1) j = (I (S + 1 + 4 * 0 + 1)) j := fun j hj => by rw [eI58, eqFill_ne _ _ _ _ _ (by omega) (by omega)]; exact q42 j hj
  have q61 : ∀ j, j < 10 → I58 (h + 18 + 20 * 0 + 2) j = (I (S + 1 + 4 * 0 + 2)) j := fun j hj => by rw [eI58, eqFill_ne _ _ _ _ _ (by omega) (by omega)]; exact q43 j hj
  have q62 : ∀ j, j < 10 → I58 (h + 18 + 20 * 1 + 1) j = (I (S + 1 + 4 * 1 + 1)) j := fun j hj => by rw [eI58, eqFill_ne _ _ _ _ _ (by omega) (by omega)]; exact q44 j hj
  have q63 : ∀ j, j < 10 → I58 (h + 18 + 20 * 1 + 2) j = (I (S + 1 + 4 * 1 + 2)) j := fun j hj => by rw [eI58, eqFill_ne _ _ _ _ _ (by omega) (by omega)]; exact q45 j hj
  have q64 : ∀ j, j < 10 → I58 (h + 22 + 20 * 0 + 1) j = (stRe (if 1 = 1 then tm (sdg I S 0) 0 else tm 0 (sdg I S 0))) j := fun j hj => by rw [eI58, eqFill_ne _ _ _ _ _ (by omega) (by omega)]; exact q46 j hj
  have q65 : ∀ j, j < 10 → I58 (h + 22 + 20 * 0 + 2) j = (fun _ => 0) j := fun j hj => by rw [eI58, eqFill_ne _ _ _ _ _ (by omega) (by omega)]; exact q47 j hj
  have q66 : ∀ j, j < 10 → I58 (h + 22 + 20 * 1 + 1) j = (stRe (if 0 = 1 then tm (sdg I S 1) 0 else tm 0 (sdg I S 1))) j := fun j hj => by rw [eI58, eqFill_re _ _ _ _ hj]
  have q67 : ∀ j, j < 10 → I58 (h + 22 + 20 * 1 + 2) j = (fun _ => 0) j := fun j hj => by rw [eI58, eqFill_im _ _ _ _ hj]
  have q68 : ∀ j, j < 10 → I58 (S + 1 + 4 * 0 + 1) j = (I (S + 1 + 4 * 0 + 1)) j := fun j hj => by rw [eI58, eqFill_ne _ _ _ _ _ (by omega) (by omega)]; exact q50 j hj
  have q69 : ∀ j, j < 10 → I58 (S + 1 + 4 * 0 + 2) j = (I (S + 1 + 4 * 0 + 2)) j := fun j hj => by rw [eI58, eqFill_ne _ _ _ _ _ (by omega) (by omega)]; exact q51 j hj
  have q70 : ∀ j, j < 10 → I58 (S + 1 + 4 * 1 + 1) j = (I (S + 1 + 4 * 1 + 1)) j := fun j hj => by rw [eI58, eqFill_ne _ _ _ _ _ (by omega) (by omega)]; exact q52 j hj
  have q71 : ∀ j, j < 10 → I58 (S + 1 + 4 * 1 + 2) j = (I (S + 1 + 4 * 1 + 2)) j := fun j hj => by rw [eI58, eqFill_ne _ _ _ _ _ (by omega) (by omega)]; exact q53 j hj
  have q72 : ∀ j, j < 10 → I58 (S + 9) j = (I (S + 9)) j := fun j hj => by rw [eI58, eqFill_ne _ _ _ _ _ (by omega) (by omega)]; exact q54 j hj
  replace eL59 := eL59.symm; subst eL59
  refine x_iinc 48 C [(2, .int 2), (0, .ref h), (1, .ref S)] dX5_aim_48 0 rfl (by decide) (by decide) rfl ?_
  refine x_goto 51 C 2 dX5_aim_51 (by decide) ?_
  refine x_iload_n 2 C dX5_aim_2 rfl 0 rfl ?_
  refine x_iconst 3 C (v := 2) dX5_aim_3 rfl ?_
  refine x_icmp_ge 4 C 54 dX5_aim_4 (by decide) (fun _ => ?_) (fun c73 => absurd (by decide) c73)
  refine x_aload_n 54 C dX5_aim_54 rfl 1 rfl ?_
  refine x_aload_n 55 C dX5_aim_55 rfl 2 rfl ?_
  refine x_bipush 56 C (v := 6) dX5_aim_56 rfl ?_
  refine x_callVe 58 C dX5_aim_58 (As := [.int 6]) (rest := [.ref h]) [.int (I58 (S + 9) 6), .ref h] (t_X9_setting l D z n G I58 L S 6 hS (by first | assumption | omega)) mt_X9_setting km_X5_57 ki_X9_setting ks_X9_setting hS.1 ⟨by decide, rfl⟩ rfl rfl (Nat.le_of_ble_eq_true rfl) ⟨⟨by decide, by decide⟩, by decide, by decide⟩ (fun I74 L75 eI74 eL75 => ?_)
  replace eI74 := eI74.symm; subst eI74
  replace eL75 := eL75.symm; subst eL75
  refine x_int (I (S + 9) 6) (q72 6 (by decide)) ?_
  refine x_puti 61 C dX5_aim_61 ff_X5_61 rfl hH.1 (by omega) (fun I76 eI76 => ?_)
  have q77 : ∀ j, j < 10 → I76 (h + 18 + 20 * 0 + 1) j = (I (S + 1 + 4 * 0 + 1)) j := fun j hj => by rw [eI76, xup_row _ _ (by omega)]; exact q60 j hj
  have q78 : ∀ j, j < 10 → I76 (h + 18 + 20 * 0 + 2) j = (I (S + 1 + 4 * 0 + 2)) j := fun j hj => by rw [eI76, xup_row _ _ (by omega)]; exact q61 j hj
  have q79 : ∀ j, j < 10 → I76 (h + 18 + 20 * 1 + 1) j = (I (S + 1 + 4 * 1 + 1)) j := fun j hj => by rw [eI76, xup_row _ _ (by omega)]; exact q62 j hj
  have q80 : ∀ j, j < 10 → I76 (h + 18 + 20 * 1 + 2) j = (I (S + 1 + 4 * 1 + 2)) j := fun j hj => by rw [eI76, xup_row _ _ (by omega)]; exact q63 j hj
  have q81 : ∀ j, j < 10 → I76 (h + 22 + 20 * 0 + 1) j = (stRe (if 1 = 1 then tm (sdg I S 0) 0 else tm 0 (sdg I S 0))) j := fun j hj => by rw [eI76, xup_row _ _ (by omega)]; exact q64 j hj
  have q82 : ∀ j, j < 10 → I76 (h + 22 + 20 * 0 + 2) j = (fun _ => 0) j := fun j hj => by rw [eI76, xup_row _ _ (by omega)]; exact q65 j hj
  have q83 : ∀ j, j < 10 → I76 (h + 22 + 20 * 1 + 1) j = (stRe (if 0 = 1 then tm (sdg I S 1) 0 else tm 0 (sdg I S 1))) j := fun j hj => by rw [eI76, xup_row _ _ (by omega)]; exact q66 j hj
  have q84 : ∀ j, j < 10 → I76 (h + 22 + 20 * 1 + 2) j = (fun _ => 0) j := fun j hj => by rw [eI76, xup_row _ _ (by omega)]; exact q67 j hj
  have q85 : ∀ j, j < 10 → I76 (S + 1 + 4 * 0 + 1) j = (I (S + 1 + 4 * 0 + 1)) j := fun j hj => by rw [eI76, xup_row _ _ (by omega)]; exact q68 j hj
  have q86 : ∀ j, j < 10 → I76 (S + 1 + 4 * 0 + 2) j = (I (S + 1 + 4 * 0 + 2)) j := fun j hj => by rw [eI76, xup_row _ _ (by omega)]; exact q69 j hj
  have q87 : ∀ j, j < 10 → I76 (S + 1 + 4 * 1 + 1) j = (I (S + 1 + 4 * 1 + 1)) j := fun j hj => by rw [eI76, xup_row _ _ (by omega)]; exact q70 j hj
  have q88 : ∀ j, j < 10 → I76 (S + 1 + 4 * 1 + 2) j = (I (S + 1 + 4 * 1 + 2)) j := fun j hj => by rw [eI76, xup_row _ _ (by omega)]; exact q71 j hj
  have q89 : ∀ j, j < 10 → I76 (S + 9) j = (I (S + 9)) j := fun j hj => by rw [eI76, xup_row _ _ (by omega)]; exact q72 j hj
  refine x_aload_n 64 C dX5_aim_64 rfl 1 rfl ?_
  refine x_aload_n 65 C dX5_aim_65 rfl 2 rfl ?_
  refine x_bipush 66 C (v := 7) dX5_aim_66 rfl ?_
  refine x_callVe 68 C dX5_aim_68 (As := [.int 7]) (rest := [.ref h]) [.int (I76 (S + 9) 7), .ref h] (t_X9_setting l D z n G I76 L S 7 hS (by first | assumption | omega)) mt_X9_setting km_X5_57 ki_X9_setting ks_X9_setting hS.1 ⟨by decide, rfl⟩ rfl rfl (Nat.le_of_ble_eq_true rfl) ⟨⟨by decide, by decide⟩, by decide, by decide⟩ (fun I90 L91 eI90 eL91 => ?_)
  replace eI90 := eI90.symm; subst eI90
  replace eL91 := eL91.symm; subst eL91
  refine x_int (I (S + 9) 7) (q89 7 (by decide)) ?_
  refine x_puti 71 C dX5_aim_71 ff_X5_65 rfl hH.1 (by omega) (fun I92 eI92 => ?_)
  have q93 : ∀ j, j < 10 → I92 (h + 18 + 20 * 0 + 1) j = (I (S + 1 + 4 * 0 + 1)) j := fun j hj => by rw [eI92, xup_row _ _ (by omega)]; exact q77 j hj
  have q94 : ∀ j, j < 10 → I92 (h + 18 + 20 * 0 + 2) j = (I (S + 1 + 4 * 0 + 2)) j := fun j hj => by rw [eI92, xup_row _ _ (by omega)]; exact q78 j hj
  have q95 : ∀ j, j < 10 → I92 (h + 18 + 20 * 1 + 1) j = (I (S + 1 + 4 * 1 + 1)) j := fun j hj => by rw [eI92, xup_row _ _ (by omega)]; exact q79 j hj
  have q96 : ∀ j, j < 10 → I92 (h + 18 + 20 * 1 + 2) j = (I (S + 1 + 4 * 1 + 2)) j := fun j hj => by rw [eI92, xup_row _ _ (by omega)]; exact q80 j hj
  have q97 : ∀ j, j < 10 → I92 (h + 22 + 20 * 0 + 1) j = (stRe (if 1 = 1 then tm (sdg I S 0) 0 else tm 0 (sdg I S 0))) j := fun j hj => by rw [eI92, xup_row _ _ (by omega)]; exact q81 j hj
  have q98 : ∀ j, j < 10 → I92 (h + 22 + 20 * 0 + 2) j = (fun _ => 0) j := fun j hj => by rw [eI92, xup_row _ _ (by omega)]; exact q82 j hj
  have q99 : ∀ j, j < 10 → I92 (h + 22 + 20 * 1 + 1) j = (stRe (if 0 = 1 then tm (sdg I S 1) 0 else tm 0 (sdg I S 1))) j := fun j hj => by rw [eI92, xup_row _ _ (by omega)]; exact q83 j hj
  have q100 : ∀ j, j < 10 → I92 (h + 22 + 20 * 1 + 2) j = (fun _ => 0) j := fun j hj => by rw [eI92, xup_row _ _ (by omega)]; exact q84 j hj
  have q101 : ∀ j, j < 10 → I92 (S + 1 + 4 * 0 + 1) j = (I (S + 1 + 4 * 0 + 1)) j := fun j hj => by rw [eI92, xup_row _ _ (by omega)]; exact q85 j hj
  have q102 : ∀ j, j < 10 → I92 (S + 1 + 4 * 0 + 2) j = (I (S + 1 + 4 * 0 + 2)) j := fun j hj => by rw [eI92, xup_row _ _ (by omega)]; exact q86 j hj
  have q103 : ∀ j, j < 10 → I92 (S + 1 + 4 * 1 + 1) j = (I (S + 1 + 4 * 1 + 1)) j := fun j hj => by rw [eI92, xup_row _ _ (by omega)]; exact q87 j hj
  have q104 : ∀ j, j < 10 → I92 (S + 1 + 4 * 1 + 2) j = (I (S + 1 + 4 * 1 + 2)) j := fun j hj => by rw [eI92, xup_row _ _ (by omega)]; exact q88 j hj
  have q105 : ∀ j, j < 10 → I92 (S + 9) j = (I (S + 9)) j := fun j hj => by rw [eI92, xup_row _ _ (by omega)]; exact q89 j hj
  refine x_vret 74 C dX5_aim_74 rfl (Nat.le_refl _) (xN.intro ?_)
  refine ⟨rfl, rfl, ⟨fun j hj => ⟨q93 j hj, q94 j hj⟩, fun j hj => ⟨q95 j hj, q96 j hj⟩, fun j hj => ⟨q97 j hj, q98 j hj⟩, fun j hj => ⟨q99 j hj, q100 j hj⟩, ?_, ?_⟩, fun a ha => ?_⟩
  · simp [eI76, eI92, xup]
  · simp [eI76, eI92, xup]
  · rw [eI92, xup_row _ _ (by omega)]; rw [eI76, xup_row _ _ (by omega)]; rw [eI58, eqFill_ne _ _ _ _ _ (by omega) (by omega)]; rw [eI40, eqFill_ne _ _ _ _ _ (by omega) (by omega)]; rw [eI22, eqFill_ne _ _ _ _ _ (by omega) (by omega)]; rw [eI4, eqFill_ne _ _ _ _ _ (by omega) (by omega)]
theorem dX5_end_0 : decode cX5_end 0 = .ok (.aload_n 0, 1) := by decide +kernel
theorem dX5_end_1 : decode cX5_end 1 = .ok (.getfield 27, 3) := by decide +kernel
theorem dX5_end_4 : decode cX5_end 4 = .ok (.iload_n 1, 1) := by decide +kernel
theorem dX5_end_5 : decode cX5_end 5 = .ok (.iconst 1, 1) := by decide +kernel
theorem dX5_end_6 : decode cX5_end 6 = .ok (.if_icmp .ne 7, 3) := by decide +kernel
theorem dX5_end_9 : decode cX5_end 9 = .ok (.iconst 1, 1) := by decide +kernel
theorem dX5_end_10 : decode cX5_end 10 = .ok (.goto 4, 3) := by decide +kernel
theorem dX5_end_13 : decode cX5_end 13 = .ok (.iconst 0, 1) := by decide +kernel
theorem dX5_end_14 : decode cX5_end 14 = .ok (.aaload, 1) := by decide +kernel
theorem dX5_end_15 : decode cX5_end 15 = .ok (.areturn, 1) := by decide +kernel
set_option maxHeartbeats 4000000 in
set_option maxRecDepth 100000 in
theorem t_X5_end (l : Launch) (D : xD) (z n : Nat) (G : xG) (I : xI) (L : xL) (h : Nat) (e0 : Nat) (hH : shH G h) (he : e0 < 2) : xM0 l D z yX5_end cX5_end 2 (some (.object "PathTracker$Tangent")) 0 0 [.ref h, .int (nI e0)] n G I L (xE (some (.ref (h + 26 + 20 * e0))) I L) := by
  refine xM.of (by decide) (Nat.le_of_ble_eq_true rfl) (fun p e s m args below meth c C hnm hsz => ?_)
  refine x_lv [(0, .ref h), (1, .int (nI e0))] rfl ?_
  rcases (show e0 = 0 ∨ e0 = 1 by omega) with rfl | rfl
  · skip
    refine x_aload_n 0 C dX5_end_0 rfl 0 rfl ?_
    refine x_getr 1 C (b := h + 15) dX5_end_1 ff_X5_27 rfl hH.1 rfl ?_
    refine x_iload_n 4 C dX5_end_4 rfl 1 rfl ?_
    refine x_iconst 5 C (v := 1) dX5_end_5 rfl ?_
    refine x_icmp_ne 6 C 13 dX5_end_6 (by decide) (fun _ => ?_) (fun c1 => absurd c1 (by decide))
    refine x_iconst 13 C (v := 0) dX5_end_13 rfl ?_
    refine x_aald 14 C (b := h + 26 + 20 * 0) (j := 0) dX5_end_14 (by decide) hH.2.2.2.2.1 ⟨by decide, by decide, by decide⟩ rfl ?_
    refine x_aret 15 C dX5_end_15 rfl (Or.inl ⟨_, rfl⟩) (Nat.le_refl _) (xN.intro ?_)
    exact ⟨rfl, rfl, rfl⟩
  · skip
    refine x_aload_n 0 C dX5_end_0 rfl 0 rfl ?_
    refine x_getr 1 C (b := h + 15) dX5_end_1 ff_X5_27 rfl hH.1 rfl ?_
    refine x_iload_n 4 C dX5_end_4 rfl 1 rfl ?_
    refine x_iconst 5 C (v := 1) dX5_end_5 rfl ?_
    refine x_icmp_ne 6 C 13 dX5_end_6 (by decide) (fun c2 => absurd (by decide) c2) (fun _ => ?_)
    refine x_iconst 9 C (v := 1) dX5_end_9 rfl ?_
    refine x_goto 10 C 14 dX5_end_10 (by decide) ?_
    refine x_aald 14 C (b := h + 26 + 20 * 1) (j := 1) dX5_end_14 (by decide) hH.2.2.2.2.1 ⟨by decide, by decide, by decide⟩ rfl ?_
    refine x_aret 15 C dX5_end_15 rfl (Or.inl ⟨_, rfl⟩) (Nat.le_refl _) (xN.intro ?_)
    exact ⟨rfl, rfl, rfl⟩
theorem dX5_begin_0 : decode cX5_begin 0 = .ok (.aload_n 0, 1) := by decide +kernel
theorem dX5_begin_1 : decode cX5_begin 1 = .ok (.getfield 31, 3) := by decide +kernel
theorem dX5_begin_4 : decode cX5_begin 4 = .ok (.iload_n 1, 1) := by decide +kernel
theorem dX5_begin_5 : decode cX5_begin 5 = .ok (.iconst 1, 1) := by decide +kernel
theorem dX5_begin_6 : decode cX5_begin 6 = .ok (.if_icmp .ne 7, 3) := by decide +kernel
theorem dX5_begin_9 : decode cX5_begin 9 = .ok (.iconst 1, 1) := by decide +kernel
theorem dX5_begin_10 : decode cX5_begin 10 = .ok (.goto 4, 3) := by decide +kernel
theorem dX5_begin_13 : decode cX5_begin 13 = .ok (.iconst 0, 1) := by decide +kernel
theorem dX5_begin_14 : decode cX5_begin 14 = .ok (.aaload, 1) := by decide +kernel
theorem dX5_begin_15 : decode cX5_begin 15 = .ok (.areturn, 1) := by decide +kernel
set_option maxHeartbeats 4000000 in
set_option maxRecDepth 100000 in
theorem t_X5_begin (l : Launch) (D : xD) (z n : Nat) (G : xG) (I : xI) (L : xL) (h : Nat) (e0 : Nat) (hH : shH G h) (he : e0 < 2) : xM0 l D z yX5_begin cX5_begin 2 (some (.object "PathTracker$Tangent")) 0 0 [.ref h, .int (nI e0)] n G I L (xE (some (.ref (h + 30 + 20 * e0))) I L) := by
  refine xM.of (by decide) (Nat.le_of_ble_eq_true rfl) (fun p e s m args below meth c C hnm hsz => ?_)
  refine x_lv [(0, .ref h), (1, .int (nI e0))] rfl ?_
  rcases (show e0 = 0 ∨ e0 = 1 by omega) with rfl | rfl
  · skip
    refine x_aload_n 0 C dX5_begin_0 rfl 0 rfl ?_
    refine x_getr 1 C (b := h + 16) dX5_begin_1 ff_X5_31 rfl hH.1 rfl ?_
    refine x_iload_n 4 C dX5_begin_4 rfl 1 rfl ?_
    refine x_iconst 5 C (v := 1) dX5_begin_5 rfl ?_
    refine x_icmp_ne 6 C 13 dX5_begin_6 (by decide) (fun _ => ?_) (fun c1 => absurd c1 (by decide))
    refine x_iconst 13 C (v := 0) dX5_begin_13 rfl ?_
    refine x_aald 14 C (b := h + 30 + 20 * 0) (j := 0) dX5_begin_14 (by decide) hH.2.2.2.2.2.1 ⟨by decide, by decide, by decide⟩ rfl ?_
    refine x_aret 15 C dX5_begin_15 rfl (Or.inl ⟨_, rfl⟩) (Nat.le_refl _) (xN.intro ?_)
    exact ⟨rfl, rfl, rfl⟩
  · skip
    refine x_aload_n 0 C dX5_begin_0 rfl 0 rfl ?_
    refine x_getr 1 C (b := h + 16) dX5_begin_1 ff_X5_31 rfl hH.1 rfl ?_
    refine x_iload_n 4 C dX5_begin_4 rfl 1 rfl ?_
    refine x_iconst 5 C (v := 1) dX5_begin_5 rfl ?_
    refine x_icmp_ne 6 C 13 dX5_begin_6 (by decide) (fun c2 => absurd (by decide) c2) (fun _ => ?_)
    refine x_iconst 9 C (v := 1) dX5_begin_9 rfl ?_
    refine x_goto 10 C 14 dX5_begin_10 (by decide) ?_
    refine x_aald 14 C (b := h + 30 + 20 * 1) (j := 1) dX5_begin_14 (by decide) hH.2.2.2.2.2.1 ⟨by decide, by decide, by decide⟩ rfl ?_
    refine x_aret 15 C dX5_begin_15 rfl (Or.inl ⟨_, rfl⟩) (Nat.le_refl _) (xN.intro ?_)
    exact ⟨rfl, rfl, rfl⟩
theorem dX5_mix_0 : decode cX5_mix 0 = .ok (.aload_n 0, 1) := by decide +kernel
theorem dX5_mix_1 : decode cX5_mix 1 = .ok (.getfield 34, 3) := by decide +kernel
theorem dX5_mix_4 : decode cX5_mix 4 = .ok (.iload_n 1, 1) := by decide +kernel
theorem dX5_mix_5 : decode cX5_mix 5 = .ok (.iconst 1, 1) := by decide +kernel
theorem dX5_mix_6 : decode cX5_mix 6 = .ok (.if_icmp .ne 7, 3) := by decide +kernel
theorem dX5_mix_9 : decode cX5_mix 9 = .ok (.iconst 1, 1) := by decide +kernel
theorem dX5_mix_10 : decode cX5_mix 10 = .ok (.goto 4, 3) := by decide +kernel
theorem dX5_mix_13 : decode cX5_mix 13 = .ok (.iconst 0, 1) := by decide +kernel
theorem dX5_mix_14 : decode cX5_mix 14 = .ok (.aaload, 1) := by decide +kernel
theorem dX5_mix_15 : decode cX5_mix 15 = .ok (.areturn, 1) := by decide +kernel
set_option maxHeartbeats 4000000 in
set_option maxRecDepth 100000 in
theorem t_X5_mix (l : Launch) (D : xD) (z n : Nat) (G : xG) (I : xI) (L : xL) (h : Nat) (e0 : Nat) (hH : shH G h) (he : e0 < 2) : xM0 l D z yX5_mix cX5_mix 2 (some (.object "PathTracker$Tangent")) 0 0 [.ref h, .int (nI e0)] n G I L (xE (some (.ref (h + 34 + 20 * e0))) I L) := by
  refine xM.of (by decide) (Nat.le_of_ble_eq_true rfl) (fun p e s m args below meth c C hnm hsz => ?_)
  refine x_lv [(0, .ref h), (1, .int (nI e0))] rfl ?_
  rcases (show e0 = 0 ∨ e0 = 1 by omega) with rfl | rfl
  · skip
    refine x_aload_n 0 C dX5_mix_0 rfl 0 rfl ?_
    refine x_getr 1 C (b := h + 17) dX5_mix_1 ff_X5_34 rfl hH.1 rfl ?_
    refine x_iload_n 4 C dX5_mix_4 rfl 1 rfl ?_
    refine x_iconst 5 C (v := 1) dX5_mix_5 rfl ?_
    refine x_icmp_ne 6 C 13 dX5_mix_6 (by decide) (fun _ => ?_) (fun c1 => absurd c1 (by decide))
    refine x_iconst 13 C (v := 0) dX5_mix_13 rfl ?_
    refine x_aald 14 C (b := h + 34 + 20 * 0) (j := 0) dX5_mix_14 (by decide) hH.2.2.2.2.2.2.1 ⟨by decide, by decide, by decide⟩ rfl ?_
    refine x_aret 15 C dX5_mix_15 rfl (Or.inl ⟨_, rfl⟩) (Nat.le_refl _) (xN.intro ?_)
    exact ⟨rfl, rfl, rfl⟩
  · skip
    refine x_aload_n 0 C dX5_mix_0 rfl 0 rfl ?_
    refine x_getr 1 C (b := h + 17) dX5_mix_1 ff_X5_34 rfl hH.1 rfl ?_
    refine x_iload_n 4 C dX5_mix_4 rfl 1 rfl ?_
    refine x_iconst 5 C (v := 1) dX5_mix_5 rfl ?_
    refine x_icmp_ne 6 C 13 dX5_mix_6 (by decide) (fun c2 => absurd (by decide) c2) (fun _ => ?_)
    refine x_iconst 9 C (v := 1) dX5_mix_9 rfl ?_
    refine x_goto 10 C 14 dX5_mix_10 (by decide) ?_
    refine x_aald 14 C (b := h + 34 + 20 * 1) (j := 1) dX5_mix_14 (by decide) hH.2.2.2.2.2.2.1 ⟨by decide, by decide, by decide⟩ rfl ?_
    refine x_aret 15 C dX5_mix_15 rfl (Or.inl ⟨_, rfl⟩) (Nat.le_refl _) (xN.intro ?_)
    exact ⟨rfl, rfl, rfl⟩
theorem dX5_evaluate_0 : decode cX5_evaluate 0 = .ok (.aload_n 0, 1) := by decide +kernel
theorem dX5_evaluate_1 : decode cX5_evaluate 1 = .ok (.getfield 10, 3) := by decide +kernel
theorem dX5_evaluate_4 : decode cX5_evaluate 4 = .ok (.aload_n 1, 1) := by decide +kernel
theorem dX5_evaluate_5 : decode cX5_evaluate 5 = .ok (.aload_n 2, 1) := by decide +kernel
theorem dX5_evaluate_6 : decode cX5_evaluate 6 = .ok (.lload 4, 2) := by decide +kernel
theorem dX5_evaluate_8 : decode cX5_evaluate 8 = .ok (.invokevirtual 68, 3) := by decide +kernel
theorem dX5_evaluate_11 : decode cX5_evaluate 11 = .ok (.iconst 0, 1) := by decide +kernel
theorem dX5_evaluate_12 : decode cX5_evaluate 12 = .ok (.istore 6, 2) := by decide +kernel
theorem dX5_evaluate_14 : decode cX5_evaluate 14 = .ok (.iload 6, 2) := by decide +kernel
theorem dX5_evaluate_16 : decode cX5_evaluate 16 = .ok (.iconst 2, 1) := by decide +kernel
theorem dX5_evaluate_17 : decode cX5_evaluate 17 = .ok (.if_icmp .ge 103, 3) := by decide +kernel
theorem dX5_evaluate_20 : decode cX5_evaluate 20 = .ok (.aload_n 0, 1) := by decide +kernel
theorem dX5_evaluate_21 : decode cX5_evaluate 21 = .ok (.getfield 18, 3) := by decide +kernel
theorem dX5_evaluate_24 : decode cX5_evaluate 24 = .ok (.iload 6, 2) := by decide +kernel
theorem dX5_evaluate_26 : decode cX5_evaluate 26 = .ok (.aaload, 1) := by decide +kernel
theorem dX5_evaluate_27 : decode cX5_evaluate 27 = .ok (.aload_n 0, 1) := by decide +kernel
theorem dX5_evaluate_28 : decode cX5_evaluate 28 = .ok (.getfield 10, 3) := by decide +kernel
theorem dX5_evaluate_31 : decode cX5_evaluate 31 = .ok (.aload_n 0, 1) := by decide +kernel
theorem dX5_evaluate_32 : decode cX5_evaluate 32 = .ok (.getfield 27, 3) := by decide +kernel
theorem dX5_evaluate_35 : decode cX5_evaluate 35 = .ok (.iload 6, 2) := by decide +kernel
theorem dX5_evaluate_37 : decode cX5_evaluate 37 = .ok (.aaload, 1) := by decide +kernel
theorem dX5_evaluate_38 : decode cX5_evaluate 38 = .ok (.invokevirtual 72, 3) := by decide +kernel
theorem dX5_evaluate_41 : decode cX5_evaluate 41 = .ok (.aload_n 0, 1) := by decide +kernel
theorem dX5_evaluate_42 : decode cX5_evaluate 42 = .ok (.getfield 22, 3) := by decide +kernel
theorem dX5_evaluate_45 : decode cX5_evaluate 45 = .ok (.iload 6, 2) := by decide +kernel
theorem dX5_evaluate_47 : decode cX5_evaluate 47 = .ok (.aaload, 1) := by decide +kernel
theorem dX5_evaluate_48 : decode cX5_evaluate 48 = .ok (.aload_n 0, 1) := by decide +kernel
theorem dX5_evaluate_49 : decode cX5_evaluate 49 = .ok (.getfield 10, 3) := by decide +kernel
theorem dX5_evaluate_52 : decode cX5_evaluate 52 = .ok (.aload_n 0, 1) := by decide +kernel
theorem dX5_evaluate_53 : decode cX5_evaluate 53 = .ok (.getfield 31, 3) := by decide +kernel
theorem dX5_evaluate_56 : decode cX5_evaluate 56 = .ok (.iload 6, 2) := by decide +kernel
theorem dX5_evaluate_58 : decode cX5_evaluate 58 = .ok (.aaload, 1) := by decide +kernel
theorem dX5_evaluate_59 : decode cX5_evaluate 59 = .ok (.invokevirtual 72, 3) := by decide +kernel
theorem dX5_evaluate_62 : decode cX5_evaluate 62 = .ok (.aload_n 0, 1) := by decide +kernel
theorem dX5_evaluate_63 : decode cX5_evaluate 63 = .ok (.getfield 31, 3) := by decide +kernel
theorem dX5_evaluate_66 : decode cX5_evaluate 66 = .ok (.iload 6, 2) := by decide +kernel
theorem dX5_evaluate_68 : decode cX5_evaluate 68 = .ok (.aaload, 1) := by decide +kernel
theorem dX5_evaluate_69 : decode cX5_evaluate 69 = .ok (.aload_n 0, 1) := by decide +kernel
theorem dX5_evaluate_70 : decode cX5_evaluate 70 = .ok (.getfield 61, 3) := by decide +kernel
theorem dX5_evaluate_73 : decode cX5_evaluate 73 = .ok (.i2l, 1) := by decide +kernel
theorem dX5_evaluate_74 : decode cX5_evaluate 74 = .ok (.aload_n 0, 1) := by decide +kernel
theorem dX5_evaluate_75 : decode cX5_evaluate 75 = .ok (.getfield 65, 3) := by decide +kernel
theorem dX5_evaluate_78 : decode cX5_evaluate 78 = .ok (.i2l, 1) := by decide +kernel
theorem dX5_evaluate_79 : decode cX5_evaluate 79 = .ok (.invokevirtual 76, 3) := by decide +kernel
theorem dX5_evaluate_82 : decode cX5_evaluate 82 = .ok (.aload_n 0, 1) := by decide +kernel
theorem dX5_evaluate_83 : decode cX5_evaluate 83 = .ok (.getfield 34, 3) := by decide +kernel
theorem dX5_evaluate_86 : decode cX5_evaluate 86 = .ok (.iload 6, 2) := by decide +kernel
theorem dX5_evaluate_88 : decode cX5_evaluate 88 = .ok (.aaload, 1) := by decide +kernel
theorem dX5_evaluate_89 : decode cX5_evaluate 89 = .ok (.aload_n 0, 1) := by decide +kernel
theorem dX5_evaluate_90 : decode cX5_evaluate 90 = .ok (.getfield 31, 3) := by decide +kernel
theorem dX5_evaluate_93 : decode cX5_evaluate 93 = .ok (.iload 6, 2) := by decide +kernel
theorem dX5_evaluate_95 : decode cX5_evaluate 95 = .ok (.aaload, 1) := by decide +kernel
theorem dX5_evaluate_96 : decode cX5_evaluate 96 = .ok (.sipush 1024, 3) := by decide +kernel
theorem dX5_evaluate_99 : decode cX5_evaluate 99 = .ok (.iload_n 3, 1) := by decide +kernel
theorem dX5_evaluate_100 : decode cX5_evaluate 100 = .ok (.isub, 1) := by decide +kernel
theorem dX5_evaluate_101 : decode cX5_evaluate 101 = .ok (.i2l, 1) := by decide +kernel
theorem dX5_evaluate_102 : decode cX5_evaluate 102 = .ok (.aload_n 0, 1) := by decide +kernel
theorem dX5_evaluate_103 : decode cX5_evaluate 103 = .ok (.getfield 27, 3) := by decide +kernel
theorem dX5_evaluate_106 : decode cX5_evaluate 106 = .ok (.iload 6, 2) := by decide +kernel
theorem dX5_evaluate_108 : decode cX5_evaluate 108 = .ok (.aaload, 1) := by decide +kernel
theorem dX5_evaluate_109 : decode cX5_evaluate 109 = .ok (.iload_n 3, 1) := by decide +kernel
theorem dX5_evaluate_110 : decode cX5_evaluate 110 = .ok (.i2l, 1) := by decide +kernel
theorem dX5_evaluate_111 : decode cX5_evaluate 111 = .ok (.invokevirtual 82, 3) := by decide +kernel
theorem dX5_evaluate_114 : decode cX5_evaluate 114 = .ok (.iinc 6 1, 3) := by decide +kernel
theorem dX5_evaluate_117 : decode cX5_evaluate 117 = .ok (.goto (-103), 3) := by decide +kernel
theorem dX5_evaluate_120 : decode cX5_evaluate 120 = .ok (.return_, 1) := by decide +kernel
set_option maxHeartbeats 4000000 in
set_option maxRecDepth 100000 in
theorem t_X5_evaluate (l : Launch) (D : xD) (z n : Nat) (G : xG) (I : xI) (L : xL) (h : Nat) (x : Nat) (y : Nat) (P : Nat) (u : Int64) (cr0 : Nat → Int32) (ci0 : Nat → Int32) (cr1 : Nat → Int32) (ci1 : Nat → Int32) (m0 : Nat) (m1 : Nat) (gr : Int32) (gi : Int32) (hH : shH G h) (gx : G x = some (0, 0, rN)) (gy : G y = some (0, 0, rN)) (zh : z ≤ h) (dx : x < h ∨ h + 58 ≤ x) (dy : y < h ∨ h + 58 ≤ y) (hP : P ≤ 1024) (hu : ¬ u = 0) (hA : aimed I h cr0 ci0 cr1 ci1 m0 m1 gr gi) : xM0 l D z yX5_evaluate cX5_evaluate 7 none 3 78 [.ref h, .ref x, .ref y, .int (nI P), .long u] n G I L (fun v' I' L' => v' = none ∧ I' = I ∧ (rd L' (h + 26 + 20 * 0 + 1) = evV cr0 ci0 (powC (rd L x) (rd L y) u) 10) ∧ (rd L' (h + 26 + 20 * 0 + 2) = evX cr0 ci0 (powC (rd L x) (rd L y) u) 10) ∧ (rd L' (h + 26 + 20 * 0 + 3) = evY cr0 ci0 (powC (rd L x) (rd L y) u) 10) ∧ (rd L' (h + 30 + 20 * 0 + 1) = sB evV m0 gr gi (rd L x) (rd L y) u) ∧ (rd L' (h + 30 + 20 * 0 + 2) = sB evX m0 gr gi (rd L x) (rd L y) u) ∧ (rd L' (h + 30 + 20 * 0 + 3) = sB evY m0 gr gi (rd L x) (rd L y) u) ∧ (rd L' (h + 34 + 20 * 0 + 1) = sM evV cr0 ci0 m0 gr gi P (rd L x) (rd L y) u) ∧ (rd L' (h + 34 + 20 * 0 + 2) = sM evX cr0 ci0 m0 gr gi P (rd L x) (rd L y) u) ∧ (rd L' (h + 34 + 20 * 0 + 3) = sM evY cr0 ci0 m0 gr gi P (rd L x) (rd L y) u) ∧ (rd L' (h + 26 + 20 * 1 + 1) = evV cr1 ci1 (powC (rd L x) (rd L y) u) 10) ∧ (rd L' (h + 26 + 20 * 1 + 2) = evX cr1 ci1 (powC (rd L x) (rd L y) u) 10) ∧ (rd L' (h + 26 + 20 * 1 + 3) = evY cr1 ci1 (powC (rd L x) (rd L y) u) 10) ∧ (rd L' (h + 30 + 20 * 1 + 1) = sB evV m1 gr gi (rd L x) (rd L y) u) ∧ (rd L' (h + 30 + 20 * 1 + 2) = sB evX m1 gr gi (rd L x) (rd L y) u) ∧ (rd L' (h + 30 + 20 * 1 + 3) = sB evY m1 gr gi (rd L x) (rd L y) u) ∧ (rd L' (h + 34 + 20 * 1 + 1) = sM evV cr1 ci1 m1 gr gi P (rd L x) (rd L y) u) ∧ (rd L' (h + 34 + 20 * 1 + 2) = sM evX cr1 ci1 m1 gr gi P (rd L x) (rd L y) u) ∧ (rd L' (h + 34 + 20 * 1 + 3) = sM evY cr1 ci1 m1 gr gi P (rd L x) (rd L y) u) ∧ (∀ a, (a < h ∨ h + 58 ≤ a) → L' a = L a)) := by
  refine xM.of (by decide) (Nat.le_of_ble_eq_true rfl) (fun p e s m args below meth c C hnm hsz => ?_)
  refine x_lv [(0, .ref h), (1, .ref x), (2, .ref y), (3, .int (nI P)), (4, .long u)] rfl ?_
  refine x_aload_n 0 C dX5_evaluate_0 rfl 0 rfl ?_
  refine x_getr 1 C (b := h + 1) dX5_evaluate_1 ff_X5_10 rfl hH.1 rfl ?_
  refine x_aload_n 4 C dX5_evaluate_4 rfl 1 rfl ?_
  refine x_aload_n 5 C dX5_evaluate_5 rfl 2 rfl ?_
  refine x_lload 6 C dX5_evaluate_6 4 rfl ?_
  refine x_callVp 8 C dX5_evaluate_8 (As := [.ref x, .ref y, .long u]) (rest := []) (t_X7_fill l D z n G I L (h + 1) x y u hH.2.1 gx gy (by omega) (by first | assumption | omega) (by first | assumption | omega) (by first | assumption | omega)) mt_X7_fill km_X5_68 ki_X7_fill ks_X7_fill hH.2.1.1 ⟨by decide, rfl⟩ rfl (Nat.le_of_ble_eq_true rfl) ⟨⟨by decide, by decide⟩, by decide, by decide⟩ (fun w1 I2 L3 hw1 => ?_)
  obtain ⟨hw1v, eI2, hw1r0, hw1r1⟩ := hw1
  subst hw1v
  refine x_st [] rfl ?_
  replace eI2 := eI2.symm; subst eI2
  have k4 : rd L3 (h + 26 + 20 * 0 + 1) = rd L (h + 26 + 20 * 0 + 1) := (rd_congr (hw1r1 (h + 26 + 20 * 0 + 1) (by omega))).trans rfl
  have k5 : rd L3 (h + 26 + 20 * 0 + 2) = rd L (h + 26 + 20 * 0 + 2) := (rd_congr (hw1r1 (h + 26 + 20 * 0 + 2) (by omega))).trans rfl
  have k6 : rd L3 (h + 26 + 20 * 0 + 3) = rd L (h + 26 + 20 * 0 + 3) := (rd_congr (hw1r1 (h + 26 + 20 * 0 + 3) (by omega))).trans rfl
  have k7 : rd L3 (h + 30 + 20 * 0 + 1) = rd L (h + 30 + 20 * 0 + 1) := (rd_congr (hw1r1 (h + 30 + 20 * 0 + 1) (by omega))).trans rfl
  have k8 : rd L3 (h + 30 + 20 * 0 + 2) = rd L (h + 30 + 20 * 0 + 2) := (rd_congr (hw1r1 (h + 30 + 20 * 0 + 2) (by omega))).trans rfl
  have k9 : rd L3 (h + 30 + 20 * 0 + 3) = rd L (h + 30 + 20 * 0 + 3) := (rd_congr (hw1r1 (h + 30 + 20 * 0 + 3) (by omega))).trans rfl
  have k10 : rd L3 (h + 34 + 20 * 0 + 1) = rd L (h + 34 + 20 * 0 + 1) := (rd_congr (hw1r1 (h + 34 + 20 * 0 + 1) (by omega))).trans rfl
  have k11 : rd L3 (h + 34 + 20 * 0 + 2) = rd L (h + 34 + 20 * 0 + 2) := (rd_congr (hw1r1 (h + 34 + 20 * 0 + 2) (by omega))).trans rfl
  have k12 : rd L3 (h + 34 + 20 * 0 + 3) = rd L (h + 34 + 20 * 0 + 3) := (rd_congr (hw1r1 (h + 34 + 20 * 0 + 3) (by omega))).trans rfl
  have k13 : rd L3 (h + 26 + 20 * 1 + 1) = rd L (h + 26 + 20 * 1 + 1) := (rd_congr (hw1r1 (h + 26 + 20 * 1 + 1) (by omega))).trans rfl
  have k14 : rd L3 (h + 26 + 20 * 1 + 2) = rd L (h + 26 + 20 * 1 + 2) := (rd_congr (hw1r1 (h + 26 + 20 * 1 + 2) (by omega))).trans rfl
  have k15 : rd L3 (h + 26 + 20 * 1 + 3) = rd L (h + 26 + 20 * 1 + 3) := (rd_congr (hw1r1 (h + 26 + 20 * 1 + 3) (by omega))).trans rfl
  have k16 : rd L3 (h + 30 + 20 * 1 + 1) = rd L (h + 30 + 20 * 1 + 1) := (rd_congr (hw1r1 (h + 30 + 20 * 1 + 1) (by omega))).trans rfl
  have k17 : rd L3 (h + 30 + 20 * 1 + 2) = rd L (h + 30 + 20 * 1 + 2) := (rd_congr (hw1r1 (h + 30 + 20 * 1 + 2) (by omega))).trans rfl
  have k18 : rd L3 (h + 30 + 20 * 1 + 3) = rd L (h + 30 + 20 * 1 + 3) := (rd_congr (hw1r1 (h + 30 + 20 * 1 + 3) (by omega))).trans rfl
  have k19 : rd L3 (h + 34 + 20 * 1 + 1) = rd L (h + 34 + 20 * 1 + 1) := (rd_congr (hw1r1 (h + 34 + 20 * 1 + 1) (by omega))).trans rfl
  have k20 : rd L3 (h + 34 + 20 * 1 + 2) = rd L (h + 34 + 20 * 1 + 2) := (rd_congr (hw1r1 (h + 34 + 20 * 1 + 2) (by omega))).trans rfl
  have k21 : rd L3 (h + 34 + 20 * 1 + 3) = rd L (h + 34 + 20 * 1 + 3) := (rd_congr (hw1r1 (h + 34 + 20 * 1 + 3) (by omega))).trans rfl
  refine x_iconst 11 C (v := 0) dX5_evaluate_11 rfl ?_
  refine x_istore 12 C [(6, .int 0), (0, .ref h), (1, .ref x), (2, .ref y), (3, .int (nI P)), (4, .long u)] dX5_evaluate_12 (by decide) rfl ?_
  refine x_iload 14 C dX5_evaluate_14 0 rfl ?_
  refine x_iconst 16 C (v := 2) dX5_evaluate_16 rfl ?_
  refine x_icmp_ge 17 C 120 dX5_evaluate_17 (by decide) (fun c22 => absurd c22 (by decide)) (fun _ => ?_)
  refine x_aload_n 20 C dX5_evaluate_20 rfl 1 rfl ?_
  refine x_getr 21 C (b := h + 13) dX5_evaluate_21 ff_X5_18 rfl hH.1 rfl ?_
  refine x_iload 24 C dX5_evaluate_24 0 rfl ?_
  refine x_aald 26 C (b := h + 18 + 20 * 0) (j := 0) dX5_evaluate_26 (by decide) hH.2.2.1 ⟨by decide, by decide, by decide⟩ rfl ?_
  refine x_aload_n 27 C dX5_evaluate_27 rfl 1 rfl ?_
  refine x_getr 28 C (b := h + 1) dX5_evaluate_28 ff_X5_10 rfl hH.1 rfl ?_
  refine x_aload_n 31 C dX5_evaluate_31 rfl 1 rfl ?_
  refine x_getr 32 C (b := h + 15) dX5_evaluate_32 ff_X5_27 rfl hH.1 rfl ?_
  refine x_iload 35 C dX5_evaluate_35 0 rfl ?_
  refine x_aald 37 C (b := h + 26 + 20 * 0) (j := 0) dX5_evaluate_37 (by decide) hH.2.2.2.2.1 ⟨by decide, by decide, by decide⟩ rfl ?_
  refine x_callVp 38 C dX5_evaluate_38 (As := [.ref (h + 1), .ref (h + 26 + 20 * 0)]) (rest := []) (t_X1_evaluate l D z n G I L3 (h + 18 + 20 * 0) (h + 1) (h + 26 + 20 * 0) (powC (rd L x) (rd L y) u) (hH.2.2.2.2.2.2.2 0 (by decide)).1 hH.2.1 (hH.2.2.2.2.2.2.2 0 (by decide)).2.2.1 (by omega) (by omega) (by first | assumption | omega) (by first | assumption | omega) (by first | assumption | omega) (fun k hk => (rd_congr (show L3 (h + 1 + 2 + k) = L3 (h + 1 + 2 + k) by rfl)).trans (hw1r0 k hk))) mt_X1_evaluate km_X5_72 ki_X1_evaluate ks_X1_evaluate (hH.2.2.2.2.2.2.2 0 (by decide)).1.1 ⟨by decide, rfl⟩ rfl (Nat.le_of_ble_eq_true rfl) ⟨⟨by decide, by decide⟩, by decide, by decide⟩ (fun w23 I24 L25 hw23 => ?_)
  obtain ⟨hw23v, eI24, hw23r0, hw23r1, hw23r2, hw23r3⟩ := hw23
  subst hw23v
  refine x_st [] rfl ?_
  replace eI24 := eI24.symm; subst eI24
  have k26 : rd L25 (h + 26 + 20 * 0 + 1) = evV (I ((h + 18 + 20 * 0) + 1)) (I ((h + 18 + 20 * 0) + 2)) (powC (rd L x) (rd L y) u) 10 := hw23r0
  have k27 : rd L25 (h + 26 + 20 * 0 + 2) = evX (I ((h + 18 + 20 * 0) + 1)) (I ((h + 18 + 20 * 0) + 2)) (powC (rd L x) (rd L y) u) 10 := hw23r1
  have k28 : rd L25 (h + 26 + 20 * 0 + 3) = evY (I ((h + 18 + 20 * 0) + 1)) (I ((h + 18 + 20 * 0) + 2)) (powC (rd L x) (rd L y) u) 10 := hw23r2
  have k29 : rd L25 (h + 30 + 20 * 0 + 1) = rd L (h + 30 + 20 * 0 + 1) := (rd_congr (hw23r3 (h + 30 + 20 * 0 + 1) (by omega) (by omega))).trans k7
  have k30 : rd L25 (h + 30 + 20 * 0 + 2) = rd L (h + 30 + 20 * 0 + 2) := (rd_congr (hw23r3 (h + 30 + 20 * 0 + 2) (by omega) (by omega))).trans k8
  have k31 : rd L25 (h + 30 + 20 * 0 + 3) = rd L (h + 30 + 20 * 0 + 3) := (rd_congr (hw23r3 (h + 30 + 20 * 0 + 3) (by omega) (by omega))).trans k9
  have k32 : rd L25 (h + 34 + 20 * 0 + 1) = rd L (h + 34 + 20 * 0 + 1) := (rd_congr (hw23r3 (h + 34 + 20 * 0 + 1) (by omega) (by omega))).trans k10
  have k33 : rd L25 (h + 34 + 20 * 0 + 2) = rd L (h + 34 + 20 * 0 + 2) := (rd_congr (hw23r3 (h + 34 + 20 * 0 + 2) (by omega) (by omega))).trans k11
  have k34 : rd L25 (h + 34 + 20 * 0 + 3) = rd L (h + 34 + 20 * 0 + 3) := (rd_congr (hw23r3 (h + 34 + 20 * 0 + 3) (by omega) (by omega))).trans k12
  have k35 : rd L25 (h + 26 + 20 * 1 + 1) = rd L (h + 26 + 20 * 1 + 1) := (rd_congr (hw23r3 (h + 26 + 20 * 1 + 1) (by omega) (by omega))).trans k13
  have k36 : rd L25 (h + 26 + 20 * 1 + 2) = rd L (h + 26 + 20 * 1 + 2) := (rd_congr (hw23r3 (h + 26 + 20 * 1 + 2) (by omega) (by omega))).trans k14
  have k37 : rd L25 (h + 26 + 20 * 1 + 3) = rd L (h + 26 + 20 * 1 + 3) := (rd_congr (hw23r3 (h + 26 + 20 * 1 + 3) (by omega) (by omega))).trans k15
  have k38 : rd L25 (h + 30 + 20 * 1 + 1) = rd L (h + 30 + 20 * 1 + 1) := (rd_congr (hw23r3 (h + 30 + 20 * 1 + 1) (by omega) (by omega))).trans k16
  have k39 : rd L25 (h + 30 + 20 * 1 + 2) = rd L (h + 30 + 20 * 1 + 2) := (rd_congr (hw23r3 (h + 30 + 20 * 1 + 2) (by omega) (by omega))).trans k17
  have k40 : rd L25 (h + 30 + 20 * 1 + 3) = rd L (h + 30 + 20 * 1 + 3) := (rd_congr (hw23r3 (h + 30 + 20 * 1 + 3) (by omega) (by omega))).trans k18
  have k41 : rd L25 (h + 34 + 20 * 1 + 1) = rd L (h + 34 + 20 * 1 + 1) := (rd_congr (hw23r3 (h + 34 + 20 * 1 + 1) (by omega) (by omega))).trans k19
  have k42 : rd L25 (h + 34 + 20 * 1 + 2) = rd L (h + 34 + 20 * 1 + 2) := (rd_congr (hw23r3 (h + 34 + 20 * 1 + 2) (by omega) (by omega))).trans k20
  have k43 : rd L25 (h + 34 + 20 * 1 + 3) = rd L (h + 34 + 20 * 1 + 3) := (rd_congr (hw23r3 (h + 34 + 20 * 1 + 3) (by omega) (by omega))).trans k21
  have k44 : rd L25 (h + 26 + 20 * 0 + 1) = evV cr0 ci0 (powC (rd L x) (rd L y) u) 10 := k26.trans (evV_congr (fun j hj => (hA.1 j hj).1) (fun j hj => (hA.1 j hj).2) (fun _ _ => rfl) 10 (Nat.le_refl _))
  have k45 : rd L25 (h + 26 + 20 * 0 + 2) = evX cr0 ci0 (powC (rd L x) (rd L y) u) 10 := k27.trans (evX_congr (fun j hj => (hA.1 j hj).1) (fun j hj => (hA.1 j hj).2) (fun _ _ => rfl) 10 (Nat.le_refl _))
  have k46 : rd L25 (h + 26 + 20 * 0 + 3) = evY cr0 ci0 (powC (rd L x) (rd L y) u) 10 := k28.trans (evY_congr (fun j hj => (hA.1 j hj).1) (fun j hj => (hA.1 j hj).2) (fun _ _ => rfl) 10 (Nat.le_refl _))
  refine x_aload_n 41 C dX5_evaluate_41 rfl 1 rfl ?_
  refine x_getr 42 C (b := h + 14) dX5_evaluate_42 ff_X5_22 rfl hH.1 rfl ?_
  refine x_iload 45 C dX5_evaluate_45 0 rfl ?_
  refine x_aald 47 C (b := h + 22 + 20 * 0) (j := 0) dX5_evaluate_47 (by decide) hH.2.2.2.1 ⟨by decide, by decide, by decide⟩ rfl ?_
  refine x_aload_n 48 C dX5_evaluate_48 rfl 1 rfl ?_
  refine x_getr 49 C (b := h + 1) dX5_evaluate_49 ff_X5_10 rfl hH.1 rfl ?_
  refine x_aload_n 52 C dX5_evaluate_52 rfl 1 rfl ?_
  refine x_getr 53 C (b := h + 16) dX5_evaluate_53 ff_X5_31 rfl hH.1 rfl ?_
  refine x_iload 56 C dX5_evaluate_56 0 rfl ?_
  refine x_aald 58 C (b := h + 30 + 20 * 0) (j := 0) dX5_evaluate_58 (by decide) hH.2.2.2.2.2.1 ⟨by decide, by decide, by decide⟩ rfl ?_
  refine x_callVp 59 C dX5_evaluate_59 (As := [.ref (h + 1), .ref (h + 30 + 20 * 0)]) (rest := []) (t_X1_evaluate l D z n G I L25 (h + 22 + 20 * 0) (h + 1) (h + 30 + 20 * 0) (powC (rd L x) (rd L y) u) (hH.2.2.2.2.2.2.2 0 (by decide)).2.1 hH.2.1 (hH.2.2.2.2.2.2.2 0 (by decide)).2.2.2.1 (by omega) (by omega) (by first | assumption | omega) (by first | assumption | omega) (by first | assumption | omega) (fun k hk => (rd_congr (show L25 (h + 1 + 2 + k) = L3 (h + 1 + 2 + k) by rw [hw23r3 _ (by omega) (by omega)])).trans (hw1r0 k hk))) mt_X1_evaluate km_X5_72 ki_X1_evaluate ks_X1_evaluate (hH.2.2.2.2.2.2.2 0 (by decide)).2.1.1 ⟨by decide, rfl⟩ rfl (Nat.le_of_ble_eq_true rfl) ⟨⟨by decide, by decide⟩, by decide, by decide⟩ (fun w47 I48 L49 hw47 => ?_)
  obtain ⟨hw47v, eI48, hw47r0, hw47r1, hw47r2, hw47r3⟩ := hw47
  subst hw47v
  refine x_st [] rfl ?_
  replace eI48 := eI48.symm; subst eI48
  have k50 : rd L49 (h + 26 + 20 * 0 + 1) = evV cr0 ci0 (powC (rd L x) (rd L y) u) 10 := (rd_congr (hw47r3 (h + 26 + 20 * 0 + 1) (by omega) (by omega))).trans k44
  have k51 : rd L49 (h + 26 + 20 * 0 + 2) = evX cr0 ci0 (powC (rd L x) (rd L y) u) 10 := (rd_congr (hw47r3 (h + 26 + 20 * 0 + 2) (by omega) (by omega))).trans k45
  have k52 : rd L49 (h + 26 + 20 * 0 + 3) = evY cr0 ci0 (powC (rd L x) (rd L y) u) 10 := (rd_congr (hw47r3 (h + 26 + 20 * 0 + 3) (by omega) (by omega))).trans k46
  have k53 : rd L49 (h + 30 + 20 * 0 + 1) = evV (I ((h + 22 + 20 * 0) + 1)) (I ((h + 22 + 20 * 0) + 2)) (powC (rd L x) (rd L y) u) 10 := hw47r0
  have k54 : rd L49 (h + 30 + 20 * 0 + 2) = evX (I ((h + 22 + 20 * 0) + 1)) (I ((h + 22 + 20 * 0) + 2)) (powC (rd L x) (rd L y) u) 10 := hw47r1
  have k55 : rd L49 (h + 30 + 20 * 0 + 3) = evY (I ((h + 22 + 20 * 0) + 1)) (I ((h + 22 + 20 * 0) + 2)) (powC (rd L x) (rd L y) u) 10 := hw47r2
  have k56 : rd L49 (h + 34 + 20 * 0 + 1) = rd L (h + 34 + 20 * 0 + 1) := (rd_congr (hw47r3 (h + 34 + 20 * 0 + 1) (by omega) (by omega))).trans k32
  have k57 : rd L49 (h + 34 + 20 * 0 + 2) = rd L (h + 34 + 20 * 0 + 2) := (rd_congr (hw47r3 (h + 34 + 20 * 0 + 2) (by omega) (by omega))).trans k33
  have k58 : rd L49 (h + 34 + 20 * 0 + 3) = rd L (h + 34 + 20 * 0 + 3) := (rd_congr (hw47r3 (h + 34 + 20 * 0 + 3) (by omega) (by omega))).trans k34
  have k59 : rd L49 (h + 26 + 20 * 1 + 1) = rd L (h + 26 + 20 * 1 + 1) := (rd_congr (hw47r3 (h + 26 + 20 * 1 + 1) (by omega) (by omega))).trans k35
  have k60 : rd L49 (h + 26 + 20 * 1 + 2) = rd L (h + 26 + 20 * 1 + 2) := (rd_congr (hw47r3 (h + 26 + 20 * 1 + 2) (by omega) (by omega))).trans k36
  have k61 : rd L49 (h + 26 + 20 * 1 + 3) = rd L (h + 26 + 20 * 1 + 3) := (rd_congr (hw47r3 (h + 26 + 20 * 1 + 3) (by omega) (by omega))).trans k37
  have k62 : rd L49 (h + 30 + 20 * 1 + 1) = rd L (h + 30 + 20 * 1 + 1) := (rd_congr (hw47r3 (h + 30 + 20 * 1 + 1) (by omega) (by omega))).trans k38
  have k63 : rd L49 (h + 30 + 20 * 1 + 2) = rd L (h + 30 + 20 * 1 + 2) := (rd_congr (hw47r3 (h + 30 + 20 * 1 + 2) (by omega) (by omega))).trans k39
  have k64 : rd L49 (h + 30 + 20 * 1 + 3) = rd L (h + 30 + 20 * 1 + 3) := (rd_congr (hw47r3 (h + 30 + 20 * 1 + 3) (by omega) (by omega))).trans k40
  have k65 : rd L49 (h + 34 + 20 * 1 + 1) = rd L (h + 34 + 20 * 1 + 1) := (rd_congr (hw47r3 (h + 34 + 20 * 1 + 1) (by omega) (by omega))).trans k41
  have k66 : rd L49 (h + 34 + 20 * 1 + 2) = rd L (h + 34 + 20 * 1 + 2) := (rd_congr (hw47r3 (h + 34 + 20 * 1 + 2) (by omega) (by omega))).trans k42
  have k67 : rd L49 (h + 34 + 20 * 1 + 3) = rd L (h + 34 + 20 * 1 + 3) := (rd_congr (hw47r3 (h + 34 + 20 * 1 + 3) (by omega) (by omega))).trans k43
  have k68 : rd L49 (h + 30 + 20 * 0 + 1) = evV (stRe m0) (fun _ => 0) (powC (rd L x) (rd L y) u) 10 := k53.trans (evV_congr (fun j hj => (hA.2.2.1 j hj).1) (fun j hj => (hA.2.2.1 j hj).2) (fun _ _ => rfl) 10 (Nat.le_refl _))
  have k69 : rd L49 (h + 30 + 20 * 0 + 2) = evX (stRe m0) (fun _ => 0) (powC (rd L x) (rd L y) u) 10 := k54.trans (evX_congr (fun j hj => (hA.2.2.1 j hj).1) (fun j hj => (hA.2.2.1 j hj).2) (fun _ _ => rfl) 10 (Nat.le_refl _))
  have k70 : rd L49 (h + 30 + 20 * 0 + 3) = evY (stRe m0) (fun _ => 0) (powC (rd L x) (rd L y) u) 10 := k55.trans (evY_congr (fun j hj => (hA.2.2.1 j hj).1) (fun j hj => (hA.2.2.1 j hj).2) (fun _ _ => rfl) 10 (Nat.le_refl _))
  refine x_aload_n 62 C dX5_evaluate_62 rfl 1 rfl ?_
  refine x_getr 63 C (b := h + 16) dX5_evaluate_63 ff_X5_31 rfl hH.1 rfl ?_
  refine x_iload 66 C dX5_evaluate_66 0 rfl ?_
  refine x_aald 68 C (b := h + 30 + 20 * 0) (j := 0) dX5_evaluate_68 (by decide) hH.2.2.2.2.2.1 ⟨by decide, by decide, by decide⟩ rfl ?_
  refine x_aload_n 69 C dX5_evaluate_69 rfl 1 rfl ?_
  refine x_geti 70 C dX5_evaluate_70 ff_X5_61 hH.1 ?_
  refine x_int gr hA.2.2.2.2.1 ?_
  refine x_i2l 73 C dX5_evaluate_73 ?_
  refine x_aload_n 74 C dX5_evaluate_74 rfl 1 rfl ?_
  refine x_geti 75 C dX5_evaluate_75 ff_X5_65 hH.1 ?_
  refine x_int gi hA.2.2.2.2.2 ?_
  refine x_i2l 78 C dX5_evaluate_78 ?_
  refine x_callVe 79 C dX5_evaluate_79 (As := [.long (Int32.toInt64 gr), .long (Int32.toInt64 gi)]) (rest := []) [] (t_X10_timesGaussian l D z n G I L49 (h + 30 + 20 * 0) (Int32.toInt64 gr) (Int32.toInt64 gi) (hH.2.2.2.2.2.2.2 0 (by decide)).2.2.2.1 (by omega)) mt_X10_timesGaussian km_X5_76 ki_X10_timesGaussian ks_X10_timesGaussian (hH.2.2.2.2.2.2.2 0 (by decide)).2.2.2.1.1 ⟨by decide, rfl⟩ rfl rfl (Nat.le_of_ble_eq_true rfl) ⟨⟨by decide, by decide⟩, by decide, by decide⟩ (fun I71 L72 eI71 eL72 => ?_)
  replace eI71 := eI71.symm; subst eI71
  have k73 : rd L72 (h + 26 + 20 * 0 + 1) = evV cr0 ci0 (powC (rd L x) (rd L y) u) 10 := by rw [eL72, tw, rd_cw_ne _ _ (by omega), rd_cw_ne _ _ (by omega), rd_cw_ne _ _ (by omega)]; exact k50
  have k74 : rd L72 (h + 26 + 20 * 0 + 2) = evX cr0 ci0 (powC (rd L x) (rd L y) u) 10 := by rw [eL72, tw, rd_cw_ne _ _ (by omega), rd_cw_ne _ _ (by omega), rd_cw_ne _ _ (by omega)]; exact k51
  have k75 : rd L72 (h + 26 + 20 * 0 + 3) = evY cr0 ci0 (powC (rd L x) (rd L y) u) 10 := by rw [eL72, tw, rd_cw_ne _ _ (by omega), rd_cw_ne _ _ (by omega), rd_cw_ne _ _ (by omega)]; exact k52
  have k76 : rd L72 (h + 30 + 20 * 0 + 1) = gauC (Int32.toInt64 gr) (Int32.toInt64 gi) (evV (stRe m0) (fun _ => 0) (powC (rd L x) (rd L y) u) 10) := by rw [eL72, tw, rd_cw_ne _ _ (by omega), rd_cw_ne _ _ (by omega), rd_cw]; simp only [k68]
  have k77 : rd L72 (h + 30 + 20 * 0 + 2) = gauC (Int32.toInt64 gr) (Int32.toInt64 gi) (evX (stRe m0) (fun _ => 0) (powC (rd L x) (rd L y) u) 10) := by rw [eL72, tw, rd_cw_ne _ _ (by omega), rd_cw]; simp only [k69]
  have k78 : rd L72 (h + 30 + 20 * 0 + 3) = gauC (Int32.toInt64 gr) (Int32.toInt64 gi) (evY (stRe m0) (fun _ => 0) (powC (rd L x) (rd L y) u) 10) := by rw [eL72, tw, rd_cw]; simp only [k70]
  have k79 : rd L72 (h + 34 + 20 * 0 + 1) = rd L (h + 34 + 20 * 0 + 1) := by rw [eL72, tw, rd_cw_ne _ _ (by omega), rd_cw_ne _ _ (by omega), rd_cw_ne _ _ (by omega)]; exact k56
  have k80 : rd L72 (h + 34 + 20 * 0 + 2) = rd L (h + 34 + 20 * 0 + 2) := by rw [eL72, tw, rd_cw_ne _ _ (by omega), rd_cw_ne _ _ (by omega), rd_cw_ne _ _ (by omega)]; exact k57
  have k81 : rd L72 (h + 34 + 20 * 0 + 3) = rd L (h + 34 + 20 * 0 + 3) := by rw [eL72, tw, rd_cw_ne _ _ (by omega), rd_cw_ne _ _ (by omega), rd_cw_ne _ _ (by omega)]; exact k58
  have k82 : rd L72 (h + 26 + 20 * 1 + 1) = rd L (h + 26 + 20 * 1 + 1) := by rw [eL72, tw, rd_cw_ne _ _ (by omega), rd_cw_ne _ _ (by omega), rd_cw_ne _ _ (by omega)]; exact k59
  have k83 : rd L72 (h + 26 + 20 * 1 + 2) = rd L (h + 26 + 20 * 1 + 2) := by rw [eL72, tw, rd_cw_ne _ _ (by omega), rd_cw_ne _ _ (by omega), rd_cw_ne _ _ (by omega)]; exact k60
  have k84 : rd L72 (h + 26 + 20 * 1 + 3) = rd L (h + 26 + 20 * 1 + 3) := by rw [eL72, tw, rd_cw_ne _ _ (by omega), rd_cw_ne _ _ (by omega), rd_cw_ne _ _ (by omega)]; exact k61
  have k85 : rd L72 (h + 30 + 20 * 1 + 1) = rd L (h + 30 + 20 * 1 + 1) := by rw [eL72, tw, rd_cw_ne _ _ (by omega), rd_cw_ne _ _ (by omega), rd_cw_ne _ _ (by omega)]; exact k62
  have k86 : rd L72 (h + 30 + 20 * 1 + 2) = rd L (h + 30 + 20 * 1 + 2) := by rw [eL72, tw, rd_cw_ne _ _ (by omega), rd_cw_ne _ _ (by omega), rd_cw_ne _ _ (by omega)]; exact k63
  have k87 : rd L72 (h + 30 + 20 * 1 + 3) = rd L (h + 30 + 20 * 1 + 3) := by rw [eL72, tw, rd_cw_ne _ _ (by omega), rd_cw_ne _ _ (by omega), rd_cw_ne _ _ (by omega)]; exact k64
  have k88 : rd L72 (h + 34 + 20 * 1 + 1) = rd L (h + 34 + 20 * 1 + 1) := by rw [eL72, tw, rd_cw_ne _ _ (by omega), rd_cw_ne _ _ (by omega), rd_cw_ne _ _ (by omega)]; exact k65
  have k89 : rd L72 (h + 34 + 20 * 1 + 2) = rd L (h + 34 + 20 * 1 + 2) := by rw [eL72, tw, rd_cw_ne _ _ (by omega), rd_cw_ne _ _ (by omega), rd_cw_ne _ _ (by omega)]; exact k66
  have k90 : rd L72 (h + 34 + 20 * 1 + 3) = rd L (h + 34 + 20 * 1 + 3) := by rw [eL72, tw, rd_cw_ne _ _ (by omega), rd_cw_ne _ _ (by omega), rd_cw_ne _ _ (by omega)]; exact k67
  refine x_aload_n 82 C dX5_evaluate_82 rfl 1 rfl ?_
  refine x_getr 83 C (b := h + 17) dX5_evaluate_83 ff_X5_34 rfl hH.1 rfl ?_
  refine x_iload 86 C dX5_evaluate_86 0 rfl ?_
  refine x_aald 88 C (b := h + 34 + 20 * 0) (j := 0) dX5_evaluate_88 (by decide) hH.2.2.2.2.2.2.1 ⟨by decide, by decide, by decide⟩ rfl ?_
  refine x_aload_n 89 C dX5_evaluate_89 rfl 1 rfl ?_
  refine x_getr 90 C (b := h + 16) dX5_evaluate_90 ff_X5_31 rfl hH.1 rfl ?_
  refine x_iload 93 C dX5_evaluate_93 0 rfl ?_
  refine x_aald 95 C (b := h + 30 + 20 * 0) (j := 0) dX5_evaluate_95 (by decide) hH.2.2.2.2.2.1 ⟨by decide, by decide, by decide⟩ rfl ?_
  refine x_sipush 96 C (v := 1024) dX5_evaluate_96 rfl ?_
  refine x_iload_n 99 C dX5_evaluate_99 rfl 4 rfl ?_
  refine x_isub 100 C dX5_evaluate_100 ?_
  refine x_int (nI (1024 - P)) (nI_sub (a := 1024) (b := P) (by omega)) ?_
  refine x_i2l 101 C dX5_evaluate_101 ?_
  refine x_aload_n 102 C dX5_evaluate_102 rfl 1 rfl ?_
  refine x_getr 103 C (b := h + 15) dX5_evaluate_103 ff_X5_27 rfl hH.1 rfl ?_
  refine x_iload 106 C dX5_evaluate_106 0 rfl ?_
  refine x_aald 108 C (b := h + 26 + 20 * 0) (j := 0) dX5_evaluate_108 (by decide) hH.2.2.2.2.1 ⟨by decide, by decide, by decide⟩ rfl ?_
  refine x_iload_n 109 C dX5_evaluate_109 rfl 4 rfl ?_
  refine x_i2l 110 C dX5_evaluate_110 ?_
  refine x_callVe 111 C dX5_evaluate_111 (As := [.ref (h + 30 + 20 * 0), .long (Int32.toInt64 (nI (1024 - P))), .ref (h + 26 + 20 * 0), .long (Int32.toInt64 (nI P))]) (rest := []) [] (t_X10_putMix l D z n G I L72 (h + 34 + 20 * 0) (h + 30 + 20 * 0) (Int32.toInt64 (nI (1024 - P))) (h + 26 + 20 * 0) (Int32.toInt64 (nI P)) (hH.2.2.2.2.2.2.2 0 (by decide)).2.2.2.2 (hH.2.2.2.2.2.2.2 0 (by decide)).2.2.2.1 (hH.2.2.2.2.2.2.2 0 (by decide)).2.2.1 (by omega) (by first | assumption | omega) (by first | assumption | omega) (mix_nz hP)) mt_X10_putMix km_X5_82 ki_X10_putMix ks_X10_putMix (hH.2.2.2.2.2.2.2 0 (by decide)).2.2.2.2.1 ⟨by decide, rfl⟩ rfl rfl (Nat.le_of_ble_eq_true rfl) ⟨⟨by decide, by decide⟩, by decide, by decide⟩ (fun I91 L92 eI91 eL92 => ?_)
  replace eI91 := eI91.symm; subst eI91
  have k93 : rd L92 (h + 26 + 20 * 0 + 1) = evV cr0 ci0 (powC (rd L x) (rd L y) u) 10 := by rw [eL92, tw, rd_cw_ne _ _ (by omega), rd_cw_ne _ _ (by omega), rd_cw_ne _ _ (by omega)]; exact k73
  have k94 : rd L92 (h + 26 + 20 * 0 + 2) = evX cr0 ci0 (powC (rd L x) (rd L y) u) 10 := by rw [eL92, tw, rd_cw_ne _ _ (by omega), rd_cw_ne _ _ (by omega), rd_cw_ne _ _ (by omega)]; exact k74
  have k95 : rd L92 (h + 26 + 20 * 0 + 3) = evY cr0 ci0 (powC (rd L x) (rd L y) u) 10 := by rw [eL92, tw, rd_cw_ne _ _ (by omega), rd_cw_ne _ _ (by omega), rd_cw_ne _ _ (by omega)]; exact k75
  have k96 : rd L92 (h + 30 + 20 * 0 + 1) = gauC (Int32.toInt64 gr) (Int32.toInt64 gi) (evV (stRe m0) (fun _ => 0) (powC (rd L x) (rd L y) u) 10) := by rw [eL92, tw, rd_cw_ne _ _ (by omega), rd_cw_ne _ _ (by omega), rd_cw_ne _ _ (by omega)]; exact k76
  have k97 : rd L92 (h + 30 + 20 * 0 + 2) = gauC (Int32.toInt64 gr) (Int32.toInt64 gi) (evX (stRe m0) (fun _ => 0) (powC (rd L x) (rd L y) u) 10) := by rw [eL92, tw, rd_cw_ne _ _ (by omega), rd_cw_ne _ _ (by omega), rd_cw_ne _ _ (by omega)]; exact k77
  have k98 : rd L92 (h + 30 + 20 * 0 + 3) = gauC (Int32.toInt64 gr) (Int32.toInt64 gi) (evY (stRe m0) (fun _ => 0) (powC (rd L x) (rd L y) u) 10) := by rw [eL92, tw, rd_cw_ne _ _ (by omega), rd_cw_ne _ _ (by omega), rd_cw_ne _ _ (by omega)]; exact k78
  have k99 : rd L92 (h + 34 + 20 * 0 + 1) = mixC (Int32.toInt64 (nI (1024 - P))) (gauC (Int32.toInt64 gr) (Int32.toInt64 gi) (evV (stRe m0) (fun _ => 0) (powC (rd L x) (rd L y) u) 10)) (Int32.toInt64 (nI P)) (evV cr0 ci0 (powC (rd L x) (rd L y) u) 10) := by rw [eL92, tw, rd_cw_ne _ _ (by omega), rd_cw_ne _ _ (by omega), rd_cw]; simp only [k76, k73]
  have k100 : rd L92 (h + 34 + 20 * 0 + 2) = mixC (Int32.toInt64 (nI (1024 - P))) (gauC (Int32.toInt64 gr) (Int32.toInt64 gi) (evX (stRe m0) (fun _ => 0) (powC (rd L x) (rd L y) u) 10)) (Int32.toInt64 (nI P)) (evX cr0 ci0 (powC (rd L x) (rd L y) u) 10) := by rw [eL92, tw, rd_cw_ne _ _ (by omega), rd_cw]; simp only [k77, k74]
  have k101 : rd L92 (h + 34 + 20 * 0 + 3) = mixC (Int32.toInt64 (nI (1024 - P))) (gauC (Int32.toInt64 gr) (Int32.toInt64 gi) (evY (stRe m0) (fun _ => 0) (powC (rd L x) (rd L y) u) 10)) (Int32.toInt64 (nI P)) (evY cr0 ci0 (powC (rd L x) (rd L y) u) 10) := by rw [eL92, tw, rd_cw]; simp only [k78, k75]
  have k102 : rd L92 (h + 26 + 20 * 1 + 1) = rd L (h + 26 + 20 * 1 + 1) := by rw [eL92, tw, rd_cw_ne _ _ (by omega), rd_cw_ne _ _ (by omega), rd_cw_ne _ _ (by omega)]; exact k82
  have k103 : rd L92 (h + 26 + 20 * 1 + 2) = rd L (h + 26 + 20 * 1 + 2) := by rw [eL92, tw, rd_cw_ne _ _ (by omega), rd_cw_ne _ _ (by omega), rd_cw_ne _ _ (by omega)]; exact k83
  have k104 : rd L92 (h + 26 + 20 * 1 + 3) = rd L (h + 26 + 20 * 1 + 3) := by rw [eL92, tw, rd_cw_ne _ _ (by omega), rd_cw_ne _ _ (by omega), rd_cw_ne _ _ (by omega)]; exact k84
  have k105 : rd L92 (h + 30 + 20 * 1 + 1) = rd L (h + 30 + 20 * 1 + 1) := by rw [eL92, tw, rd_cw_ne _ _ (by omega), rd_cw_ne _ _ (by omega), rd_cw_ne _ _ (by omega)]; exact k85
  have k106 : rd L92 (h + 30 + 20 * 1 + 2) = rd L (h + 30 + 20 * 1 + 2) := by rw [eL92, tw, rd_cw_ne _ _ (by omega), rd_cw_ne _ _ (by omega), rd_cw_ne _ _ (by omega)]; exact k86
  have k107 : rd L92 (h + 30 + 20 * 1 + 3) = rd L (h + 30 + 20 * 1 + 3) := by rw [eL92, tw, rd_cw_ne _ _ (by omega), rd_cw_ne _ _ (by omega), rd_cw_ne _ _ (by omega)]; exact k87
  have k108 : rd L92 (h + 34 + 20 * 1 + 1) = rd L (h + 34 + 20 * 1 + 1) := by rw [eL92, tw, rd_cw_ne _ _ (by omega), rd_cw_ne _ _ (by omega), rd_cw_ne _ _ (by omega)]; exact k88
  have k109 : rd L92 (h + 34 + 20 * 1 + 2) = rd L (h + 34 + 20 * 1 + 2) := by rw [eL92, tw, rd_cw_ne _ _ (by omega), rd_cw_ne _ _ (by omega), rd_cw_ne _ _ (by omega)]; exact k89
  have k110 : rd L92 (h + 34 + 20 * 1 + 3) = rd L (h + 34 + 20 * 1 + 3) := by rw [eL92, tw, rd_cw_ne _ _ (by omega), rd_cw_ne _ _ (by omega), rd_cw_ne _ _ (by omega)]; exact k90
  refine x_iinc 114 C [(6, .int 1), (0, .ref h), (1, .ref x), (2, .ref y), (3, .int (nI P)), (4, .long u)] dX5_evaluate_114 0 rfl (by decide) (by decide) rfl ?_
  refine x_goto 117 C 14 dX5_evaluate_117 (by decide) ?_
  refine x_iload 14 C dX5_evaluate_14 0 rfl ?_
  refine x_iconst 16 C (v := 2) dX5_evaluate_16 rfl ?_
  refine x_icmp_ge 17 C 120 dX5_evaluate_17 (by decide) (fun c111 => absurd c111 (by decide)) (fun _ => ?_)
  refine x_aload_n 20 C dX5_evaluate_20 rfl 1 rfl ?_
  refine x_getr 21 C (b := h + 13) dX5_evaluate_21 ff_X5_18 rfl hH.1 rfl ?_
  refine x_iload 24 C dX5_evaluate_24 0 rfl ?_
  refine x_aald 26 C (b := h + 18 + 20 * 1) (j := 1) dX5_evaluate_26 (by decide) hH.2.2.1 ⟨by decide, by decide, by decide⟩ rfl ?_
  refine x_aload_n 27 C dX5_evaluate_27 rfl 1 rfl ?_
  refine x_getr 28 C (b := h + 1) dX5_evaluate_28 ff_X5_10 rfl hH.1 rfl ?_
  refine x_aload_n 31 C dX5_evaluate_31 rfl 1 rfl ?_
  refine x_getr 32 C (b := h + 15) dX5_evaluate_32 ff_X5_27 rfl hH.1 rfl ?_
  refine x_iload 35 C dX5_evaluate_35 0 rfl ?_
  refine x_aald 37 C (b := h + 26 + 20 * 1) (j := 1) dX5_evaluate_37 (by decide) hH.2.2.2.2.1 ⟨by decide, by decide, by decide⟩ rfl ?_
  refine x_callVp 38 C dX5_evaluate_38 (As := [.ref (h + 1), .ref (h + 26 + 20 * 1)]) (rest := []) (t_X1_evaluate l D z n G I L92 (h + 18 + 20 * 1) (h + 1) (h + 26 + 20 * 1) (powC (rd L x) (rd L y) u) (hH.2.2.2.2.2.2.2 1 (by decide)).1 hH.2.1 (hH.2.2.2.2.2.2.2 1 (by decide)).2.2.1 (by omega) (by omega) (by first | assumption | omega) (by first | assumption | omega) (by first | assumption | omega) (fun k hk => (rd_congr (show L92 (h + 1 + 2 + k) = L3 (h + 1 + 2 + k) by rw [eL92, tw, cw_ne _ _ (by omega), cw_ne _ _ (by omega), cw_ne _ _ (by omega)]; rw [eL72, tw, cw_ne _ _ (by omega), cw_ne _ _ (by omega), cw_ne _ _ (by omega)]; rw [hw47r3 _ (by omega) (by omega)]; rw [hw23r3 _ (by omega) (by omega)])).trans (hw1r0 k hk))) mt_X1_evaluate km_X5_72 ki_X1_evaluate ks_X1_evaluate (hH.2.2.2.2.2.2.2 1 (by decide)).1.1 ⟨by decide, rfl⟩ rfl (Nat.le_of_ble_eq_true rfl) ⟨⟨by decide, by decide⟩, by decide, by decide⟩ (fun w112 I113 L114 hw112 => ?_)
  obtain ⟨hw112v, eI113, hw112r0, hw112r1, hw112r2, hw112r3⟩ := hw112
  subst hw112v
  refine x_st [] rfl ?_
  replace eI113 := eI113.symm; subst eI113
  have k115 : rd L114 (h + 26 + 20 * 0 + 1) = evV cr0 ci0 (powC (rd L x) (rd L y) u) 10 := (rd_congr (hw112r3 (h + 26 + 20 * 0 + 1) (by omega) (by omega))).trans k93
  have k116 : rd L114 (h + 26 + 20 * 0 + 2) = evX cr0 ci0 (powC (rd L x) (rd L y) u) 10 := (rd_congr (hw112r3 (h + 26 + 20 * 0 + 2) (by omega) (by omega))).trans k94
  have k117 : rd L114 (h + 26 + 20 * 0 + 3) = evY cr0 ci0 (powC (rd L x) (rd L y) u) 10 := (rd_congr (hw112r3 (h + 26 + 20 * 0 + 3) (by omega) (by omega))).trans k95
  have k118 : rd L114 (h + 30 + 20 * 0 + 1) = gauC (Int32.toInt64 gr) (Int32.toInt64 gi) (evV (stRe m0) (fun _ => 0) (powC (rd L x) (rd L y) u) 10) := (rd_congr (hw112r3 (h + 30 + 20 * 0 + 1) (by omega) (by omega))).trans k96
  have k119 : rd L114 (h + 30 + 20 * 0 + 2) = gauC (Int32.toInt64 gr) (Int32.toInt64 gi) (evX (stRe m0) (fun _ => 0) (powC (rd L x) (rd L y) u) 10) := (rd_congr (hw112r3 (h + 30 + 20 * 0 + 2) (by omega) (by omega))).trans k97
  have k120 : rd L114 (h + 30 + 20 * 0 + 3) = gauC (Int32.toInt64 gr) (Int32.toInt64 gi) (evY (stRe m0) (fun _ => 0) (powC (rd L x) (rd L y) u) 10) := (rd_congr (hw112r3 (h + 30 + 20 * 0 + 3) (by omega) (by omega))).trans k98
  have k121 : rd L114 (h + 34 + 20 * 0 + 1) = mixC (Int32.toInt64 (nI (1024 - P))) (gauC (Int32.toInt64 gr) (Int32.toInt64 gi) (evV (stRe m0) (fun _ => 0) (powC (rd L x) (rd L y) u) 10)) (Int32.toInt64 (nI P)) (evV cr0 ci0 (powC (rd L x) (rd L y) u) 10) := (rd_congr (hw112r3 (h + 34 + 20 * 0 + 1) (by omega) (by omega))).trans k99
  have k122 : rd L114 (h + 34 + 20 * 0 + 2) = mixC (Int32.toInt64 (nI (1024 - P))) (gauC (Int32.toInt64 gr) (Int32.toInt64 gi) (evX (stRe m0) (fun _ => 0) (powC (rd L x) (rd L y) u) 10)) (Int32.toInt64 (nI P)) (evX cr0 ci0 (powC (rd L x) (rd L y) u) 10) := (rd_congr (hw112r3 (h + 34 + 20 * 0 + 2) (by omega) (by omega))).trans k100
  have k123 : rd L114 (h + 34 + 20 * 0 + 3) = mixC (Int32.toInt64 (nI (1024 - P))) (gauC (Int32.toInt64 gr) (Int32.toInt64 gi) (evY (stRe m0) (fun _ => 0) (powC (rd L x) (rd L y) u) 10)) (Int32.toInt64 (nI P)) (evY cr0 ci0 (powC (rd L x) (rd L y) u) 10) := (rd_congr (hw112r3 (h + 34 + 20 * 0 + 3) (by omega) (by omega))).trans k101
  have k124 : rd L114 (h + 26 + 20 * 1 + 1) = evV (I ((h + 18 + 20 * 1) + 1)) (I ((h + 18 + 20 * 1) + 2)) (powC (rd L x) (rd L y) u) 10 := hw112r0
  have k125 : rd L114 (h + 26 + 20 * 1 + 2) = evX (I ((h + 18 + 20 * 1) + 1)) (I ((h + 18 + 20 * 1) + 2)) (powC (rd L x) (rd L y) u) 10 := hw112r1
  have k126 : rd L114 (h + 26 + 20 * 1 + 3) = evY (I ((h + 18 + 20 * 1) + 1)) (I ((h + 18 + 20 * 1) + 2)) (powC (rd L x) (rd L y) u) 10 := hw112r2
  have k127 : rd L114 (h + 30 + 20 * 1 + 1) = rd L (h + 30 + 20 * 1 + 1) := (rd_congr (hw112r3 (h + 30 + 20 * 1 + 1) (by omega) (by omega))).trans k105
  have k128 : rd L114 (h + 30 + 20 * 1 + 2) = rd L (h + 30 + 20 * 1 + 2) := (rd_congr (hw112r3 (h + 30 + 20 * 1 + 2) (by omega) (by omega))).trans k106
  have k129 : rd L114 (h + 30 + 20 * 1 + 3) = rd L (h + 30 + 20 * 1 + 3) := (rd_congr (hw112r3 (h + 30 + 20 * 1 + 3) (by omega) (by omega))).trans k107
  have k130 : rd L114 (h + 34 + 20 * 1 + 1) = rd L (h + 34 + 20 * 1 + 1) := (rd_congr (hw112r3 (h + 34 + 20 * 1 + 1) (by omega) (by omega))).trans k108
  have k131 : rd L114 (h + 34 + 20 * 1 + 2) = rd L (h + 34 + 20 * 1 + 2) := (rd_congr (hw112r3 (h + 34 + 20 * 1 + 2) (by omega) (by omega))).trans k109
  have k132 : rd L114 (h + 34 + 20 * 1 + 3) = rd L (h + 34 + 20 * 1 + 3) := (rd_congr (hw112r3 (h + 34 + 20 * 1 + 3) (by omega) (by omega))).trans k110
  have k133 : rd L114 (h + 26 + 20 * 1 + 1) = evV cr1 ci1 (powC (rd L x) (rd L y) u) 10 := k124.trans (evV_congr (fun j hj => (hA.2.1 j hj).1) (fun j hj => (hA.2.1 j hj).2) (fun _ _ => rfl) 10 (Nat.le_refl _))
  have k134 : rd L114 (h + 26 + 20 * 1 + 2) = evX cr1 ci1 (powC (rd L x) (rd L y) u) 10 := k125.trans (evX_congr (fun j hj => (hA.2.1 j hj).1) (fun j hj => (hA.2.1 j hj).2) (fun _ _ => rfl) 10 (Nat.le_refl _))
  have k135 : rd L114 (h + 26 + 20 * 1 + 3) = evY cr1 ci1 (powC (rd L x) (rd L y) u) 10 := k126.trans (evY_congr (fun j hj => (hA.2.1 j hj).1) (fun j hj => (hA.2.1 j hj).2) (fun _ _ => rfl) 10 (Nat.le_refl _))
  refine x_aload_n 41 C dX5_evaluate_41 rfl 1 rfl ?_
  refine x_getr 42 C (b := h + 14) dX5_evaluate_42 ff_X5_22 rfl hH.1 rfl ?_
  refine x_iload 45 C dX5_evaluate_45 0 rfl ?_
  refine x_aald 47 C (b := h + 22 + 20 * 1) (j := 1) dX5_evaluate_47 (by decide) hH.2.2.2.1 ⟨by decide, by decide, by decide⟩ rfl ?_
  refine x_aload_n 48 C dX5_evaluate_48 rfl 1 rfl ?_
  refine x_getr 49 C (b := h + 1) dX5_evaluate_49 ff_X5_10 rfl hH.1 rfl ?_
  refine x_aload_n 52 C dX5_evaluate_52 rfl 1 rfl ?_
  refine x_getr 53 C (b := h + 16) dX5_evaluate_53 ff_X5_31 rfl hH.1 rfl ?_
  refine x_iload 56 C dX5_evaluate_56 0 rfl ?_
  refine x_aald 58 C (b := h + 30 + 20 * 1) (j := 1) dX5_evaluate_58 (by decide) hH.2.2.2.2.2.1 ⟨by decide, by decide, by decide⟩ rfl ?_
  refine x_callVp 59 C dX5_evaluate_59 (As := [.ref (h + 1), .ref (h + 30 + 20 * 1)]) (rest := []) (t_X1_evaluate l D z n G I L114 (h + 22 + 20 * 1) (h + 1) (h + 30 + 20 * 1) (powC (rd L x) (rd L y) u) (hH.2.2.2.2.2.2.2 1 (by decide)).2.1 hH.2.1 (hH.2.2.2.2.2.2.2 1 (by decide)).2.2.2.1 (by omega) (by omega) (by first | assumption | omega) (by first | assumption | omega) (by first | assumption | omega) (fun k hk => (rd_congr (show L114 (h + 1 + 2 + k) = L3 (h + 1 + 2 + k) by rw [hw112r3 _ (by omega) (by omega)]; rw [eL92, tw, cw_ne _ _ (by omega), cw_ne _ _ (by omega), cw_ne _ _ (by omega)]; rw [eL72, tw, cw_ne _ _ (by omega), cw_ne _ _ (by omega), cw_ne _ _ (by omega)]; rw [hw47r3 _ (by omega) (by omega)]; rw [hw23r3 _ (by omega) (by omega)])).trans (hw1r0 k hk))) mt_X1_evaluate km_X5_72 ki_X1_evaluate ks_X1_evaluate (hH.2.2.2.2.2.2.2 1 (by decide)).2.1.1 ⟨by decide, rfl⟩ rfl (Nat.le_of_ble_eq_true rfl) ⟨⟨by decide, by decide⟩, by decide, by decide⟩ (fun w136 I137 L138 hw136 => ?_)
  obtain ⟨hw136v, eI137, hw136r0, hw136r1, hw136r2, hw136r3⟩ := hw136
  subst hw136v
  refine x_st [] rfl ?_
  replace eI137 := eI137.symm; subst eI137
  have k139 : rd L138 (h + 26 + 20 * 0 + 1) = evV cr0 ci0 (powC (rd L x) (rd L y) u) 10 := (rd_congr (hw136r3 (h + 26 + 20 * 0 + 1) (by omega) (by omega))).trans k115
  have k140 : rd L138 (h + 26 + 20 * 0 + 2) = evX cr0 ci0 (powC (rd L x) (rd L y) u) 10 := (rd_congr (hw136r3 (h + 26 + 20 * 0 + 2) (by omega) (by omega))).trans k116
  have k141 : rd L138 (h + 26 + 20 * 0 + 3) = evY cr0 ci0 (powC (rd L x) (rd L y) u) 10 := (rd_congr (hw136r3 (h + 26 + 20 * 0 + 3) (by omega) (by omega))).trans k117
  have k142 : rd L138 (h + 30 + 20 * 0 + 1) = gauC (Int32.toInt64 gr) (Int32.toInt64 gi) (evV (stRe m0) (fun _ => 0) (powC (rd L x) (rd L y) u) 10) := (rd_congr (hw136r3 (h + 30 + 20 * 0 + 1) (by omega) (by omega))).trans k118
  have k143 : rd L138 (h + 30 + 20 * 0 + 2) = gauC (Int32.toInt64 gr) (Int32.toInt64 gi) (evX (stRe m0) (fun _ => 0) (powC (rd L x) (rd L y) u) 10) := (rd_congr (hw136r3 (h + 30 + 20 * 0 + 2) (by omega) (by omega))).trans k119
  have k144 : rd L138 (h + 30 + 20 * 0 + 3) = gauC (Int32.toInt64 gr) (Int32.toInt64 gi) (evY (stRe m0) (fun _ => 0) (powC (rd L x) (rd L y) u) 10) := (rd_congr (hw136r3 (h + 30 + 20 * 0 + 3) (by omega) (by omega))).trans k120
  have k145 : rd L138 (h + 34 + 20 * 0 + 1) = mixC (Int32.toInt64 (nI (1024 - P))) (gauC (Int32.toInt64 gr) (Int32.toInt64 gi) (evV (stRe m0) (fun _ => 0) (powC (rd L x) (rd L y) u) 10)) (Int32.toInt64 (nI P)) (evV cr0 ci0 (powC (rd L x) (rd L y) u) 10) := (rd_congr (hw136r3 (h + 34 + 20 * 0 + 1) (by omega) (by omega))).trans k121
  have k146 : rd L138 (h + 34 + 20 * 0 + 2) = mixC (Int32.toInt64 (nI (1024 - P))) (gauC (Int32.toInt64 gr) (Int32.toInt64 gi) (evX (stRe m0) (fun _ => 0) (powC (rd L x) (rd L y) u) 10)) (Int32.toInt64 (nI P)) (evX cr0 ci0 (powC (rd L x) (rd L y) u) 10) := (rd_congr (hw136r3 (h + 34 + 20 * 0 + 2) (by omega) (by omega))).trans k122
  have k147 : rd L138 (h + 34 + 20 * 0 + 3) = mixC (Int32.toInt64 (nI (1024 - P))) (gauC (Int32.toInt64 gr) (Int32.toInt64 gi) (evY (stRe m0) (fun _ => 0) (powC (rd L x) (rd L y) u) 10)) (Int32.toInt64 (nI P)) (evY cr0 ci0 (powC (rd L x) (rd L y) u) 10) := (rd_congr (hw136r3 (h + 34 + 20 * 0 + 3) (by omega) (by omega))).trans k123
  have k148 : rd L138 (h + 26 + 20 * 1 + 1) = evV cr1 ci1 (powC (rd L x) (rd L y) u) 10 := (rd_congr (hw136r3 (h + 26 + 20 * 1 + 1) (by omega) (by omega))).trans k133
  have k149 : rd L138 (h + 26 + 20 * 1 + 2) = evX cr1 ci1 (powC (rd L x) (rd L y) u) 10 := (rd_congr (hw136r3 (h + 26 + 20 * 1 + 2) (by omega) (by omega))).trans k134
  have k150 : rd L138 (h + 26 + 20 * 1 + 3) = evY cr1 ci1 (powC (rd L x) (rd L y) u) 10 := (rd_congr (hw136r3 (h + 26 + 20 * 1 + 3) (by omega) (by omega))).trans k135
  have k151 : rd L138 (h + 30 + 20 * 1 + 1) = evV (I ((h + 22 + 20 * 1) + 1)) (I ((h + 22 + 20 * 1) + 2)) (powC (rd L x) (rd L y) u) 10 := hw136r0
  have k152 : rd L138 (h + 30 + 20 * 1 + 2) = evX (I ((h + 22 + 20 * 1) + 1)) (I ((h + 22 + 20 * 1) + 2)) (powC (rd L x) (rd L y) u) 10 := hw136r1
  have k153 : rd L138 (h + 30 + 20 * 1 + 3) = evY (I ((h + 22 + 20 * 1) + 1)) (I ((h + 22 + 20 * 1) + 2)) (powC (rd L x) (rd L y) u) 10 := hw136r2
  have k154 : rd L138 (h + 34 + 20 * 1 + 1) = rd L (h + 34 + 20 * 1 + 1) := (rd_congr (hw136r3 (h + 34 + 20 * 1 + 1) (by omega) (by omega))).trans k130
  have k155 : rd L138 (h + 34 + 20 * 1 + 2) = rd L (h + 34 + 20 * 1 + 2) := (rd_congr (hw136r3 (h + 34 + 20 * 1 + 2) (by omega) (by omega))).trans k131
  have k156 : rd L138 (h + 34 + 20 * 1 + 3) = rd L (h + 34 + 20 * 1 + 3) := (rd_congr (hw136r3 (h + 34 + 20 * 1 + 3) (by omega) (by omega))).trans k132
  have k157 : rd L138 (h + 30 + 20 * 1 + 1) = evV (stRe m1) (fun _ => 0) (powC (rd L x) (rd L y) u) 10 := k151.trans (evV_congr (fun j hj => (hA.2.2.2.1 j hj).1) (fun j hj => (hA.2.2.2.1 j hj).2) (fun _ _ => rfl) 10 (Nat.le_refl _))
  have k158 : rd L138 (h + 30 + 20 * 1 + 2) = evX (stRe m1) (fun _ => 0) (powC (rd L x) (rd L y) u) 10 := k152.trans (evX_congr (fun j hj => (hA.2.2.2.1 j hj).1) (fun j hj => (hA.2.2.2.1 j hj).2) (fun _ _ => rfl) 10 (Nat.le_refl _))
  have k159 : rd L138 (h + 30 + 20 * 1 + 3) = evY (stRe m1) (fun _ => 0) (powC (rd L x) (rd L y) u) 10 := k153.trans (evY_congr (fun j hj => (hA.2.2.2.1 j hj).1) (fun j hj => (hA.2.2.2.1 j hj).2) (fun _ _ => rfl) 10 (Nat.le_refl _))
  refine x_aload_n 62 C dX5_evaluate_62 rfl 1 rfl ?_
  refine x_getr 63 C (b := h + 16) dX5_evaluate_63 ff_X5_31 rfl hH.1 rfl ?_
  refine x_iload 66 C dX5_evaluate_66 0 rfl ?_
  refine x_aald 68 C (b := h + 30 + 20 * 1) (j := 1) dX5_evaluate_68 (by decide) hH.2.2.2.2.2.1 ⟨by decide, by decide, by decide⟩ rfl ?_
  refine x_aload_n 69 C dX5_evaluate_69 rfl 1 rfl ?_
  refine x_geti 70 C dX5_evaluate_70 ff_X5_61 hH.1 ?_
  refine x_int gr hA.2.2.2.2.1 ?_
  refine x_i2l 73 C dX5_evaluate_73 ?_
  refine x_aload_n 74 C dX5_evaluate_74 rfl 1 rfl ?_
  refine x_geti 75 C dX5_evaluate_75 ff_X5_65 hH.1 ?_
  refine x_int gi hA.2.2.2.2.2 ?_
  refine x_i2l 78 C dX5_evaluate_78 ?_
  refine x_callVe 79 C dX5_evaluate_79 (As := [.long (Int32.toInt64 gr), .long (Int32.toInt64 gi)]) (rest := []) [] (t_X10_timesGaussian l D z n G I L138 (h + 30 + 20 * 1) (Int32.toInt64 gr) (Int32.toInt64 gi) (hH.2.2.2.2.2.2.2 1 (by decide)).2.2.2.1 (by omega)) mt_X10_timesGaussian km_X5_76 ki_X10_timesGaussian ks_X10_timesGaussian (hH.2.2.2.2.2.2.2 1 (by decide)).2.2.2.1.1 ⟨by decide, rfl⟩ rfl rfl (Nat.le_of_ble_eq_true rfl) ⟨⟨by decide, by decide⟩, by decide, by decide⟩ (fun I160 L161 eI160 eL161 => ?_)
  replace eI160 := eI160.symm; subst eI160
  have k162 : rd L161 (h + 26 + 20 * 0 + 1) = evV cr0 ci0 (powC (rd L x) (rd L y) u) 10 := by rw [eL161, tw, rd_cw_ne _ _ (by omega), rd_cw_ne _ _ (by omega), rd_cw_ne _ _ (by omega)]; exact k139
  have k163 : rd L161 (h + 26 + 20 * 0 + 2) = evX cr0 ci0 (powC (rd L x) (rd L y) u) 10 := by rw [eL161, tw, rd_cw_ne _ _ (by omega), rd_cw_ne _ _ (by omega), rd_cw_ne _ _ (by omega)]; exact k140
  have k164 : rd L161 (h + 26 + 20 * 0 + 3) = evY cr0 ci0 (powC (rd L x) (rd L y) u) 10 := by rw [eL161, tw, rd_cw_ne _ _ (by omega), rd_cw_ne _ _ (by omega), rd_cw_ne _ _ (by omega)]; exact k141
  have k165 : rd L161 (h + 30 + 20 * 0 + 1) = gauC (Int32.toInt64 gr) (Int32.toInt64 gi) (evV (stRe m0) (fun _ => 0) (powC (rd L x) (rd L y) u) 10) := by rw [eL161, tw, rd_cw_ne _ _ (by omega), rd_cw_ne _ _ (by omega), rd_cw_ne _ _ (by omega)]; exact k142
  have k166 : rd L161 (h + 30 + 20 * 0 + 2) = gauC (Int32.toInt64 gr) (Int32.toInt64 gi) (evX (stRe m0) (fun _ => 0) (powC (rd L x) (rd L y) u) 10) := by rw [eL161, tw, rd_cw_ne _ _ (by omega), rd_cw_ne _ _ (by omega), rd_cw_ne _ _ (by omega)]; exact k143
  have k167 : rd L161 (h + 30 + 20 * 0 + 3) = gauC (Int32.toInt64 gr) (Int32.toInt64 gi) (evY (stRe m0) (fun _ => 0) (powC (rd L x) (rd L y) u) 10) := by rw [eL161, tw, rd_cw_ne _ _ (by omega), rd_cw_ne _ _ (by omega), rd_cw_ne _ _ (by omega)]; exact k144
  have k168 : rd L161 (h + 34 + 20 * 0 + 1) = mixC (Int32.toInt64 (nI (1024 - P))) (gauC (Int32.toInt64 gr) (Int32.toInt64 gi) (evV (stRe m0) (fun _ => 0) (powC (rd L x) (rd L y) u) 10)) (Int32.toInt64 (nI P)) (evV cr0 ci0 (powC (rd L x) (rd L y) u) 10) := by rw [eL161, tw, rd_cw_ne _ _ (by omega), rd_cw_ne _ _ (by omega), rd_cw_ne _ _ (by omega)]; exact k145
  have k169 : rd L161 (h + 34 + 20 * 0 + 2) = mixC (Int32.toInt64 (nI (1024 - P))) (gauC (Int32.toInt64 gr) (Int32.toInt64 gi) (evX (stRe m0) (fun _ => 0) (powC (rd L x) (rd L y) u) 10)) (Int32.toInt64 (nI P)) (evX cr0 ci0 (powC (rd L x) (rd L y) u) 10) := by rw [eL161, tw, rd_cw_ne _ _ (by omega), rd_cw_ne _ _ (by omega), rd_cw_ne _ _ (by omega)]; exact k146
  have k170 : rd L161 (h + 34 + 20 * 0 + 3) = mixC (Int32.toInt64 (nI (1024 - P))) (gauC (Int32.toInt64 gr) (Int32.toInt64 gi) (evY (stRe m0) (fun _ => 0) (powC (rd L x) (rd L y) u) 10)) (Int32.toInt64 (nI P)) (evY cr0 ci0 (powC (rd L x) (rd L y) u) 10) := by rw [eL161, tw, rd_cw_ne _ _ (by omega), rd_cw_ne _ _ (by omega), rd_cw_ne _ _ (by omega)]; exact k147
  have k171 : rd L161 (h + 26 + 20 * 1 + 1) = evV cr1 ci1 (powC (rd L x) (rd L y) u) 10 := by rw [eL161, tw, rd_cw_ne _ _ (by omega), rd_cw_ne _ _ (by omega), rd_cw_ne _ _ (by omega)]; exact k148
  have k172 : rd L161 (h + 26 + 20 * 1 + 2) = evX cr1 ci1 (powC (rd L x) (rd L y) u) 10 := by rw [eL161, tw, rd_cw_ne _ _ (by omega), rd_cw_ne _ _ (by omega), rd_cw_ne _ _ (by omega)]; exact k149
  have k173 : rd L161 (h + 26 + 20 * 1 + 3) = evY cr1 ci1 (powC (rd L x) (rd L y) u) 10 := by rw [eL161, tw, rd_cw_ne _ _ (by omega), rd_cw_ne _ _ (by omega), rd_cw_ne _ _ (by omega)]; exact k150
  have k174 : rd L161 (h + 30 + 20 * 1 + 1) = gauC (Int32.toInt64 gr) (Int32.toInt64 gi) (evV (stRe m1) (fun _ => 0) (powC (rd L x) (rd L y) u) 10) := by rw [eL161, tw, rd_cw_ne _ _ (by omega), rd_cw_ne _ _ (by omega), rd_cw]; simp only [k157]
  have k175 : rd L161 (h + 30 + 20 * 1 + 2) = gauC (Int32.toInt64 gr) (Int32.toInt64 gi) (evX (stRe m1) (fun _ => 0) (powC (rd L x) (rd L y) u) 10) := by rw [eL161, tw, rd_cw_ne _ _ (by omega), rd_cw]; simp only [k158]
  have k176 : rd L161 (h + 30 + 20 * 1 + 3) = gauC (Int32.toInt64 gr) (Int32.toInt64 gi) (evY (stRe m1) (fun _ => 0) (powC (rd L x) (rd L y) u) 10) := by rw [eL161, tw, rd_cw]; simp only [k159]
  have k177 : rd L161 (h + 34 + 20 * 1 + 1) = rd L (h + 34 + 20 * 1 + 1) := by rw [eL161, tw, rd_cw_ne _ _ (by omega), rd_cw_ne _ _ (by omega), rd_cw_ne _ _ (by omega)]; exact k154
  have k178 : rd L161 (h + 34 + 20 * 1 + 2) = rd L (h + 34 + 20 * 1 + 2) := by rw [eL161, tw, rd_cw_ne _ _ (by omega), rd_cw_ne _ _ (by omega), rd_cw_ne _ _ (by omega)]; exact k155
  have k179 : rd L161 (h + 34 + 20 * 1 + 3) = rd L (h + 34 + 20 * 1 + 3) := by rw [eL161, tw, rd_cw_ne _ _ (by omega), rd_cw_ne _ _ (by omega), rd_cw_ne _ _ (by omega)]; exact k156
  refine x_aload_n 82 C dX5_evaluate_82 rfl 1 rfl ?_
  refine x_getr 83 C (b := h + 17) dX5_evaluate_83 ff_X5_34 rfl hH.1 rfl ?_
  refine x_iload 86 C dX5_evaluate_86 0 rfl ?_
  refine x_aald 88 C (b := h + 34 + 20 * 1) (j := 1) dX5_evaluate_88 (by decide) hH.2.2.2.2.2.2.1 ⟨by decide, by decide, by decide⟩ rfl ?_
  refine x_aload_n 89 C dX5_evaluate_89 rfl 1 rfl ?_
  refine x_getr 90 C (b := h + 16) dX5_evaluate_90 ff_X5_31 rfl hH.1 rfl ?_
  refine x_iload 93 C dX5_evaluate_93 0 rfl ?_
  refine x_aald 95 C (b := h + 30 + 20 * 1) (j := 1) dX5_evaluate_95 (by decide) hH.2.2.2.2.2.1 ⟨by decide, by decide, by decide⟩ rfl ?_
  refine x_sipush 96 C (v := 1024) dX5_evaluate_96 rfl ?_
  refine x_iload_n 99 C dX5_evaluate_99 rfl 4 rfl ?_
  refine x_isub 100 C dX5_evaluate_100 ?_
  refine x_int (nI (1024 - P)) (nI_sub (a := 1024) (b := P) (by omega)) ?_
  refine x_i2l 101 C dX5_evaluate_101 ?_
  refine x_aload_n 102 C dX5_evaluate_102 rfl 1 rfl ?_
  refine x_getr 103 C (b := h + 15) dX5_evaluate_103 ff_X5_27 rfl hH.1 rfl ?_
  refine x_iload 106 C dX5_evaluate_106 0 rfl ?_
  refine x_aald 108 C (b := h + 26 + 20 * 1) (j := 1) dX5_evaluate_108 (by decide) hH.2.2.2.2.1 ⟨by decide, by decide, by decide⟩ rfl ?_
  refine x_iload_n 109 C dX5_evaluate_109 rfl 4 rfl ?_
  refine x_i2l 110 C dX5_evaluate_110 ?_
  refine x_callVe 111 C dX5_evaluate_111 (As := [.ref (h + 30 + 20 * 1), .long (Int32.toInt64 (nI (1024 - P))), .ref (h + 26 + 20 * 1), .long (Int32.toInt64 (nI P))]) (rest := []) [] (t_X10_putMix l D z n G I L161 (h + 34 + 20 * 1) (h + 30 + 20 * 1) (Int32.toInt64 (nI (1024 - P))) (h + 26 + 20 * 1) (Int32.toInt64 (nI P)) (hH.2.2.2.2.2.2.2 1 (by decide)).2.2.2.2 (hH.2.2.2.2.2.2.2 1 (by decide)).2.2.2.1 (hH.2.2.2.2.2.2.2 1 (by decide)).2.2.1 (by omega) (by first | assumption | omega) (by first | assumption | omega) (mix_nz hP)) mt_X10_putMix km_X5_82 ki_X10_putMix ks_X10_putMix (hH.2.2.2.2.2.2.2 1 (by decide)).2.2.2.2.1 ⟨by decide, rfl⟩ rfl rfl (Nat.le_of_ble_eq_true rfl) ⟨⟨by decide, by decide⟩, by decide, by decide⟩ (fun I180 L181 eI180 eL181 => ?_)
  replace eI180 := eI180.symm; subst eI180
  have k182 : rd L181 (h + 26 + 20 * 0 + 1) = evV cr0 ci0 (powC (rd L x) (rd L y) u) 10 := by rw [eL181, tw, rd_cw_ne _ _ (by omega), rd_cw_ne _ _ (by omega), rd_cw_ne _ _ (by omega)]; exact k162
  have k183 : rd L181 (h + 26 + 20 * 0 + 2) = evX cr0 ci0 (powC (rd L x) (rd L y) u) 10 := by rw [eL181, tw, rd_cw_ne _ _ (by omega), rd_cw_ne _ _ (by omega), rd_cw_ne _ _ (by omega)]; exact k163
  have k184 : rd L181 (h + 26 + 20 * 0 + 3) = evY cr0 ci0 (powC (rd L x) (rd L y) u) 10 := by rw [eL181, tw, rd_cw_ne _ _ (by omega), rd_cw_ne _ _ (by omega), rd_cw_ne _ _ (by omega)]; exact k164
  have k185 : rd L181 (h + 30 + 20 * 0 + 1) = gauC (Int32.toInt64 gr) (Int32.toInt64 gi) (evV (stRe m0) (fun _ => 0) (powC (rd L x) (rd L y) u) 10) := by rw [eL181, tw, rd_cw_ne _ _ (by omega), rd_cw_ne _ _ (by omega), rd_cw_ne _ _ (by omega)]; exact k165
  have k186 : rd L181 (h + 30 + 20 * 0 + 2) = gauC (Int32.toInt64 gr) (Int32.toInt64 gi) (evX (stRe m0) (fun _ => 0) (powC (rd L x) (rd L y) u) 10) := by rw [eL181, tw, rd_cw_ne _ _ (by omega), rd_cw_ne _ _ (by omega), rd_cw_ne _ _ (by omega)]; exact k166
  have k187 : rd L181 (h + 30 + 20 * 0 + 3) = gauC (Int32.toInt64 gr) (Int32.toInt64 gi) (evY (stRe m0) (fun _ => 0) (powC (rd L x) (rd L y) u) 10) := by rw [eL181, tw, rd_cw_ne _ _ (by omega), rd_cw_ne _ _ (by omega), rd_cw_ne _ _ (by omega)]; exact k167
  have k188 : rd L181 (h + 34 + 20 * 0 + 1) = mixC (Int32.toInt64 (nI (1024 - P))) (gauC (Int32.toInt64 gr) (Int32.toInt64 gi) (evV (stRe m0) (fun _ => 0) (powC (rd L x) (rd L y) u) 10)) (Int32.toInt64 (nI P)) (evV cr0 ci0 (powC (rd L x) (rd L y) u) 10) := by rw [eL181, tw, rd_cw_ne _ _ (by omega), rd_cw_ne _ _ (by omega), rd_cw_ne _ _ (by omega)]; exact k168
  have k189 : rd L181 (h + 34 + 20 * 0 + 2) = mixC (Int32.toInt64 (nI (1024 - P))) (gauC (Int32.toInt64 gr) (Int32.toInt64 gi) (evX (stRe m0) (fun _ => 0) (powC (rd L x) (rd L y) u) 10)) (Int32.toInt64 (nI P)) (evX cr0 ci0 (powC (rd L x) (rd L y) u) 10) := by rw [eL181, tw, rd_cw_ne _ _ (by omega), rd_cw_ne _ _ (by omega), rd_cw_ne _ _ (by omega)]; exact k169
  have k190 : rd L181 (h + 34 + 20 * 0 + 3) = mixC (Int32.toInt64 (nI (1024 - P))) (gauC (Int32.toInt64 gr) (Int32.toInt64 gi) (evY (stRe m0) (fun _ => 0) (powC (rd L x) (rd L y) u) 10)) (Int32.toInt64 (nI P)) (evY cr0 ci0 (powC (rd L x) (rd L y) u) 10) := by rw [eL181, tw, rd_cw_ne _ _ (by omega), rd_cw_ne _ _ (by omega), rd_cw_ne _ _ (by omega)]; exact k170
  have k191 : rd L181 (h + 26 + 20 * 1 + 1) = evV cr1 ci1 (powC (rd L x) (rd L y) u) 10 := by rw [eL181, tw, rd_cw_ne _ _ (by omega), rd_cw_ne _ _ (by omega), rd_cw_ne _ _ (by omega)]; exact k171
  have k192 : rd L181 (h + 26 + 20 * 1 + 2) = evX cr1 ci1 (powC (rd L x) (rd L y) u) 10 := by rw [eL181, tw, rd_cw_ne _ _ (by omega), rd_cw_ne _ _ (by omega), rd_cw_ne _ _ (by omega)]; exact k172
  have k193 : rd L181 (h + 26 + 20 * 1 + 3) = evY cr1 ci1 (powC (rd L x) (rd L y) u) 10 := by rw [eL181, tw, rd_cw_ne _ _ (by omega), rd_cw_ne _ _ (by omega), rd_cw_ne _ _ (by omega)]; exact k173
  have k194 : rd L181 (h + 30 + 20 * 1 + 1) = gauC (Int32.toInt64 gr) (Int32.toInt64 gi) (evV (stRe m1) (fun _ => 0) (powC (rd L x) (rd L y) u) 10) := by rw [eL181, tw, rd_cw_ne _ _ (by omega), rd_cw_ne _ _ (by omega), rd_cw_ne _ _ (by omega)]; exact k174
  have k195 : rd L181 (h + 30 + 20 * 1 + 2) = gauC (Int32.toInt64 gr) (Int32.toInt64 gi) (evX (stRe m1) (fun _ => 0) (powC (rd L x) (rd L y) u) 10) := by rw [eL181, tw, rd_cw_ne _ _ (by omega), rd_cw_ne _ _ (by omega), rd_cw_ne _ _ (by omega)]; exact k175
  have k196 : rd L181 (h + 30 + 20 * 1 + 3) = gauC (Int32.toInt64 gr) (Int32.toInt64 gi) (evY (stRe m1) (fun _ => 0) (powC (rd L x) (rd L y) u) 10) := by rw [eL181, tw, rd_cw_ne _ _ (by omega), rd_cw_ne _ _ (by omega), rd_cw_ne _ _ (by omega)]; exact k176
  have k197 : rd L181 (h + 34 + 20 * 1 + 1) = mixC (Int32.toInt64 (nI (1024 - P))) (gauC (Int32.toInt64 gr) (Int32.toInt64 gi) (evV (stRe m1) (fun _ => 0) (powC (rd L x) (rd L y) u) 10)) (Int32.toInt64 (nI P)) (evV cr1 ci1 (powC (rd L x) (rd L y) u) 10) := by rw [eL181, tw, rd_cw_ne _ _ (by omega), rd_cw_ne _ _ (by omega), rd_cw]; simp only [k174, k171]
  have k198 : rd L181 (h + 34 + 20 * 1 + 2) = mixC (Int32.toInt64 (nI (1024 - P))) (gauC (Int32.toInt64 gr) (Int32.toInt64 gi) (evX (stRe m1) (fun _ => 0) (powC (rd L x) (rd L y) u) 10)) (Int32.toInt64 (nI P)) (evX cr1 ci1 (powC (rd L x) (rd L y) u) 10) := by rw [eL181, tw, rd_cw_ne _ _ (by omega), rd_cw]; simp only [k175, k172]
  have k199 : rd L181 (h + 34 + 20 * 1 + 3) = mixC (Int32.toInt64 (nI (1024 - P))) (gauC (Int32.toInt64 gr) (Int32.toInt64 gi) (evY (stRe m1) (fun _ => 0) (powC (rd L x) (rd L y) u) 10)) (Int32.toInt64 (nI P)) (evY cr1 ci1 (powC (rd L x) (rd L y) u) 10) := by rw [eL181, tw, rd_cw]; simp only [k176, k173]
  refine x_iinc 114 C [(6, .int 2), (0, .ref h), (1, .ref x), (2, .ref y), (3, .int (nI P)), (4, .long u)] dX5_evaluate_114 0 rfl (by decide) (by decide) rfl ?_
  refine x_goto 117 C 14 dX5_evaluate_117 (by decide) ?_
  refine x_iload 14 C dX5_evaluate_14 0 rfl ?_
  refine x_iconst 16 C (v := 2) dX5_evaluate_16 rfl ?_
  refine x_icmp_ge 17 C 120 dX5_evaluate_17 (by decide) (fun _ => ?_) (fun c200 => absurd (by decide) c200)
  refine x_vret 120 C dX5_evaluate_120 rfl (Nat.le_refl _) (xN.intro ?_)
  exact ⟨rfl, rfl, k182, k183, k184, k185, k186, k187, k188, k189, k190, k191, k192, k193, k194, k195, k196, k197, k198, k199, fun a ha => by rw [eL181, tw, cw_ne _ _ (by omega), cw_ne _ _ (by omega), cw_ne _ _ (by omega)]; rw [eL161, tw, cw_ne _ _ (by omega), cw_ne _ _ (by omega), cw_ne _ _ (by omega)]; rw [hw136r3 _ (by omega) (by omega)]; rw [hw112r3 _ (by omega) (by omega)]; rw [eL92, tw, cw_ne _ _ (by omega), cw_ne _ _ (by omega), cw_ne _ _ (by omega)]; rw [eL72, tw, cw_ne _ _ (by omega), cw_ne _ _ (by omega), cw_ne _ _ (by omega)]; rw [hw47r3 _ (by omega) (by omega)]; rw [hw23r3 _ (by omega) (by omega)]; rw [hw1r1 _ (by omega)]⟩
end
section
/-! PathTracker$Follower at f: its Homotopy f + 1, its Solver f + 59, its point f + 66, f + 67; first step 4, rounds 5, tolerance 6, bound 7 -/
def rFol (f : Nat) : Nat → Option Nat := va_up (va_up (va_up (va_up rN 0 (some (f + 1))) 1 (some (f + 59))) 2 (some (f + 66))) 3 (some (f + 67))
def shF (G : xG) (f : Nat) : Prop := G f = some (3, 0, rFol f) ∧ shH G (f + 1) ∧ shO G (f + 59) ∧ G (f + 66) = some (0, 0, rN) ∧ G (f + 67) = some (0, 0, rN)
/-- a system of equations with its start: coefficients of both, the start's top terms, gamma -/
abbrev xSy : Type := (Nat → Int32) × (Nat → Int32) × (Nat → Int32) × (Nat → Int32) × Nat × Nat × Int32 × Int32
def aimedS (I : xI) (h : Nat) (Y : xSy) : Prop := aimed I h Y.1 Y.2.1 Y.2.2.1 Y.2.2.2.1 Y.2.2.2.2.1 Y.2.2.2.2.2.1 Y.2.2.2.2.2.2.1 Y.2.2.2.2.2.2.2
abbrev xFn : Type := (Nat → Int32) → (Nat → Int32) → (Nat → xC) → Nat → xC
def syE0 (Y : xSy) (f : xFn) (a b : xC) (u : Int64) : xC := f Y.1 Y.2.1 (powC a b u) 10
def syE1 (Y : xSy) (f : xFn) (a b : xC) (u : Int64) : xC := f Y.2.2.1 Y.2.2.2.1 (powC a b u) 10
def syB0 (Y : xSy) (f : xFn) (a b : xC) (u : Int64) : xC := sB f Y.2.2.2.2.1 Y.2.2.2.2.2.2.1 Y.2.2.2.2.2.2.2 a b u
def syB1 (Y : xSy) (f : xFn) (a b : xC) (u : Int64) : xC := sB f Y.2.2.2.2.2.1 Y.2.2.2.2.2.2.1 Y.2.2.2.2.2.2.2 a b u
def syM0 (Y : xSy) (P : Nat) (f : xFn) (a b : xC) (u : Int64) : xC := sM f Y.1 Y.2.1 Y.2.2.2.2.1 Y.2.2.2.2.2.2.1 Y.2.2.2.2.2.2.2 P a b u
def syM1 (Y : xSy) (P : Nat) (f : xFn) (a b : xC) (u : Int64) : xC := sM f Y.2.2.1 Y.2.2.2.1 Y.2.2.2.2.2.1 Y.2.2.2.2.2.2.1 Y.2.2.2.2.2.2.2 P a b u
def syN (Y : xSy) (P : Nat) (u : Int64) (a b : xC) : Int64 := solN u (syM0 Y P evX a b u) (syM0 Y P evY a b u) (syM1 Y P evX a b u) (syM1 Y P evY a b u)
def syU (Y : xSy) (P : Nat) (u : Int64) (a b r0 r1 : xC) : xC := solU u (syM0 Y P evX a b u) (syM0 Y P evY a b u) (syM1 Y P evX a b u) (syM1 Y P evY a b u) r0 r1
def syV (Y : xSy) (P : Nat) (u : Int64) (a b r0 r1 : xC) : xC := solV u (syM0 Y P evX a b u) (syM0 Y P evY a b u) (syM1 Y P evX a b u) (syM1 Y P evY a b u) r0 r1
/-- the predictor -/
def pdR0 (Y : xSy) (h : Int32) (u : Int64) (a b : xC) : xC := shaC (subC (syB0 Y evV a b u) (syE0 Y evV a b u)) h.toInt64 1024
def pdR1 (Y : xSy) (h : Int32) (u : Int64) (a b : xC) : xC := shaC (subC (syB1 Y evV a b u) (syE1 Y evV a b u)) h.toInt64 1024
def pdX (Y : xSy) (P : Nat) (h : Int32) (u : Int64) (a b : xC) : xC := addC a (syU Y P u a b (pdR0 Y h u a b) (pdR1 Y h u a b))
def pdY (Y : xSy) (P : Nat) (h : Int32) (u : Int64) (a b : xC) : xC := addC b (syV Y P u a b (pdR0 Y h u a b) (pdR1 Y h u a b))
/-- a round of the corrector -/
def coU (Y : xSy) (P : Nat) (u : Int64) (a b : xC) : xC := syU Y P u a b (negC (syM0 Y P evV a b u)) (negC (syM1 Y P evV a b u))
def coV (Y : xSy) (P : Nat) (u : Int64) (a b : xC) : xC := syV Y P u a b (negC (syM0 Y P evV a b u)) (negC (syM1 Y P evV a b u))
def coS (Y : xSy) (P : Nat) (u : Int64) (a b : xC) : Int64 := lmax (sizC (coU Y P u a b)) (sizC (coV Y P u a b))
/-- the corrector: r rounds are left, i were made, the last correction was bf -/
def coN (Y : xSy) (P : Nat) (u : Int64) (tol : Int32) : Nat → Nat → Int64 → xC → xC → Option (xC × xC)
  | 0, _, _, _, _ => none
  | r + 1, i, bf, a, b => if syN Y P u a b = 0 then none else
      if coS Y P u a b ≤ tol.toInt64 then some (addC a (coU Y P u a b), addC b (coV Y P u a b)) else
      if 0 < i ∧ ¬ coS Y P u a b ≤ bf / 2 then none else coN Y P u tol r (i + 1) (coS Y P u a b) (addC a (coU Y P u a b)) (addC b (coV Y P u a b))
theorem punit_nz (x : Int32) : ¬ punit x = 0 := by
  unfold punit
  split <;> decide
theorem aimedS_congr {I I' : xI} {h : Nat} {Y : xSy} (hq : ∀ a, h ≤ a → a < h + 58 → I' a = I a) (hA : aimedS I h Y) : aimedS I' h Y := by
  obtain ⟨h1, h2, h3, h4, h5, h6⟩ := hA
  refine ⟨fun j hj => ?_, fun j hj => ?_, fun j hj => ?_, fun j hj => ?_, ?_, ?_⟩
  · rw [hq _ (by omega) (by omega), hq _ (by omega) (by omega)]; exact h1 j hj
  · rw [hq _ (by omega) (by omega), hq _ (by omega) (by omega)]; exact h2 j hj
  · rw [hq _ (by omega) (by omega), hq _ (by omega) (by omega)]; exact h3 j hj
  · rw [hq _ (by omega) (by omega), hq _ (by omega) (by omega)]; exact h4 j hj
  · rw [hq _ (by omega) (by omega)]; exact h5
  · rw [hq _ (by omega) (by omega)]; exact h6
theorem dX3_aim_0 : decode cX3_aim 0 = .ok (.aload_n 0, 1) := by decide +kernel
theorem dX3_aim_1 : decode cX3_aim 1 = .ok (.getfield 10, 3) := by decide +kernel
theorem dX3_aim_4 : decode cX3_aim 4 = .ok (.aload_n 1, 1) := by decide +kernel
theorem dX3_aim_5 : decode cX3_aim 5 = .ok (.invokevirtual 33, 3) := by decide +kernel
theorem dX3_aim_8 : decode cX3_aim 8 = .ok (.aload_n 0, 1) := by decide +kernel
theorem dX3_aim_9 : decode cX3_aim 9 = .ok (.aload_n 1, 1) := by decide +kernel
theorem dX3_aim_10 : decode cX3_aim 10 = .ok (.iconst 0, 1) := by decide +kernel
theorem dX3_aim_11 : decode cX3_aim 11 = .ok (.invokevirtual 39, 3) := by decide +kernel
theorem dX3_aim_14 : decode cX3_aim 14 = .ok (.putfield 43, 3) := by decide +kernel
theorem dX3_aim_17 : decode cX3_aim 17 = .ok (.aload_n 0, 1) := by decide +kernel
theorem dX3_aim_18 : decode cX3_aim 18 = .ok (.aload_n 1, 1) := by decide +kernel
theorem dX3_aim_19 : decode cX3_aim 19 = .ok (.iconst 2, 1) := by decide +kernel
theorem dX3_aim_20 : decode cX3_aim 20 = .ok (.invokevirtual 39, 3) := by decide +kernel
theorem dX3_aim_23 : decode cX3_aim 23 = .ok (.putfield 47, 3) := by decide +kernel
theorem dX3_aim_26 : decode cX3_aim 26 = .ok (.aload_n 0, 1) := by decide +kernel
theorem dX3_aim_27 : decode cX3_aim 27 = .ok (.aload_n 1, 1) := by decide +kernel
theorem dX3_aim_28 : decode cX3_aim 28 = .ok (.iconst 3, 1) := by decide +kernel
theorem dX3_aim_29 : decode cX3_aim 29 = .ok (.invokevirtual 39, 3) := by decide +kernel
theorem dX3_aim_32 : decode cX3_aim 32 = .ok (.putfield 50, 3) := by decide +kernel
theorem dX3_aim_35 : decode cX3_aim 35 = .ok (.aload_n 0, 1) := by decide +kernel
theorem dX3_aim_36 : decode cX3_aim 36 = .ok (.aload_n 1, 1) := by decide +kernel
theorem dX3_aim_37 : decode cX3_aim 37 = .ok (.iconst 4, 1) := by decide +kernel
theorem dX3_aim_38 : decode cX3_aim 38 = .ok (.invokevirtual 39, 3) := by decide +kernel
theorem dX3_aim_41 : decode cX3_aim 41 = .ok (.putfield 53, 3) := by decide +kernel
theorem dX3_aim_44 : decode cX3_aim 44 = .ok (.return_, 1) := by decide +kernel
set_option maxHeartbeats 4000000 in
set_option maxRecDepth 100000 in
theorem t_X3_aim (l : Launch) (D : xD) (z n : Nat) (G : xG) (I : xI) (L : xL) (f : Nat) (S : Nat) (hF : shF G f) (hS : shS G S) (zf : z ≤ f) (dSf : S + 38 ≤ f ∨ f + 68 ≤ S) (hd0 : 1 ≤ sdg I S 0) (hd1 : 1 ≤ sdg I S 1) : xM0 l D z yX3_aim cX3_aim 2 none 5 112 [.ref f, .ref S] n G I L (fun v' I' L' => v' = none ∧ L' = L ∧ (aimedS I' (f + 1) (I (S + 1 + 4 * 0 + 1), I (S + 1 + 4 * 0 + 2), I (S + 1 + 4 * 1 + 1), I (S + 1 + 4 * 1 + 2), tm (sdg I S 0) 0, tm 0 (sdg I S 1), I (S + 9) 6, I (S + 9) 7)) ∧ (I' f 4 = I (S + 9) 0 ∧ I' f 5 = I (S + 9) 2 ∧ I' f 6 = I (S + 9) 3 ∧ I' f 7 = I (S + 9) 4) ∧ (∀ a, (a < f ∨ f + 68 ≤ a) → I' a = I a)) := by
  refine xM.of (by decide) (Nat.le_of_ble_eq_true rfl) (fun p e s m args below meth c C hnm hsz => ?_)
  refine x_lv [(0, .ref f), (1, .ref S)] rfl ?_
  refine x_aload_n 0 C dX3_aim_0 rfl 0 rfl ?_
  refine x_getr 1 C (b := f + 1) dX3_aim_1 ff_X3_10 rfl hF.1 rfl ?_
  refine x_aload_n 4 C dX3_aim_4 rfl 1 rfl ?_
  refine x_callVp 5 C dX3_aim_5 (As := [.ref S]) (rest := []) (t_X5_aim l D z n G I L (f + 1) S hF.2.1 hS (by omega) (by first | assumption | omega | decide) (by first | assumption | omega | decide) (by first | assumption | omega | decide)) mt_X5_aim km_X3_33 ki_X5_aim ks_X5_aim hF.2.1.1 ⟨by decide, rfl⟩ rfl (Nat.le_of_ble_eq_true rfl) ⟨⟨by decide, by decide⟩, by decide, by decide⟩ (fun w1 I2 L3 hw1 => ?_)
  obtain ⟨hw1v, eL3, hw1r0, hw1r1⟩ := hw1
  subst hw1v
  refine x_st [] rfl ?_
  replace eL3 := eL3.symm; subst eL3
  have hSet : I2 (S + 9) = I (S + 9) := hw1r1 _ (by omega)
  refine x_aload_n 8 C dX3_aim_8 rfl 0 rfl ?_
  refine x_aload_n 9 C dX3_aim_9 rfl 1 rfl ?_
  refine x_iconst 10 C (v := 0) dX3_aim_10 rfl ?_
  refine x_callVe 11 C dX3_aim_11 (As := [.int 0]) (rest := [.ref f]) [.int (I2 (S + 9) 0), .ref f] (t_X9_setting l D z n G I2 L S 0 hS (by first | assumption | omega | decide)) mt_X9_setting km_X3_39 ki_X9_setting ks_X9_setting hS.1 ⟨by decide, rfl⟩ rfl rfl (Nat.le_of_ble_eq_true rfl) ⟨⟨by decide, by decide⟩, by decide, by decide⟩ (fun I4 L5 eI4 eL5 => ?_)
  replace eI4 := eI4.symm; subst eI4
  replace eL5 := eL5.symm; subst eL5
  refine x_int (I (S + 9) 0) (by rw [hSet]) ?_
  refine x_puti 14 C dX3_aim_14 ff_X3_43 rfl hF.1 (by omega) (fun I6 eI6 => ?_)
  refine x_aload_n 17 C dX3_aim_17 rfl 0 rfl ?_
  refine x_aload_n 18 C dX3_aim_18 rfl 1 rfl ?_
  refine x_iconst 19 C (v := 2) dX3_aim_19 rfl ?_
  refine x_callVe 20 C dX3_aim_20 (As := [.int 2]) (rest := [.ref f]) [.int (I6 (S + 9) 2), .ref f] (t_X9_setting l D z n G I6 L S 2 hS (by first | assumption | omega | decide)) mt_X9_setting km_X3_39 ki_X9_setting ks_X9_setting hS.1 ⟨by decide, rfl⟩ rfl rfl (Nat.le_of_ble_eq_true rfl) ⟨⟨by decide, by decide⟩, by decide, by decide⟩ (fun I7 L8 eI7 eL8 => ?_)
  replace eI7 := eI7.symm; subst eI7
  replace eL8 := eL8.symm; subst eL8
  refine x_int (I (S + 9) 2) (by rw [eI6, xup_row _ _ (show S + 9 ≠ f by omega), hSet]) ?_
  refine x_puti 23 C dX3_aim_23 ff_X3_47 rfl hF.1 (by omega) (fun I9 eI9 => ?_)
  refine x_aload_n 26 C dX3_aim_26 rfl 0 rfl ?_
  refine x_aload_n 27 C dX3_aim_27 rfl 1 rfl ?_
  refine x_iconst 28 C (v := 3) dX3_aim_28 rfl ?_
  refine x_callVe 29 C dX3_aim_29 (As := [.int 3]) (rest := [.ref f]) [.int (I9 (S + 9) 3), .ref f] (t_X9_setting l D z n G I9 L S 3 hS (by first | assumption | omega | decide)) mt_X9_setting km_X3_39 ki_X9_setting ks_X9_setting hS.1 ⟨by decide, rfl⟩ rfl rfl (Nat.le_of_ble_eq_true rfl) ⟨⟨by decide, by decide⟩, by decide, by decide⟩ (fun I10 L11 eI10 eL11 => ?_)
  replace eI10 := eI10.symm; subst eI10
  replace eL11 := eL11.symm; subst eL11
  refine x_int (I (S + 9) 3) (by rw [eI9, xup_row _ _ (show S + 9 ≠ f by omega), eI6, xup_row _ _ (show S + 9 ≠ f by omega), hSet]) ?_
  refine x_puti 32 C dX3_aim_32 ff_X3_50 rfl hF.1 (by omega) (fun I12 eI12 => ?_)
  refine x_aload_n 35 C dX3_aim_35 rfl 0 rfl ?_
  refine x_aload_n 36 C dX3_aim_36 rfl 1 rfl ?_
  refine x_iconst 37 C (v := 4) dX3_aim_37 rfl ?_
  refine x_callVe 38 C dX3_aim_38 (As := [.int 4]) (rest := [.ref f]) [.int (I12 (S + 9) 4), .ref f] (t_X9_setting l D z n G I12 L S 4 hS (by first | assumption | omega | decide)) mt_X9_setting km_X3_39 ki_X9_setting ks_X9_setting hS.1 ⟨by decide, rfl⟩ rfl rfl (Nat.le_of_ble_eq_true rfl) ⟨⟨by decide, by decide⟩, by decide, by decide⟩ (fun I13 L14 eI13 eL14 => ?_)
  replace eI13 := eI13.symm; subst eI13
  replace eL14 := eL14.symm; subst eL14
  refine x_int (I (S + 9) 4) (by rw [eI12, xup_row _ _ (show S + 9 ≠ f by omega), eI9, xup_row _ _ (show S + 9 ≠ f by omega), eI6, xup_row _ _ (show S + 9 ≠ f by omega), hSet]) ?_
  refine x_puti 41 C dX3_aim_41 ff_X3_53 rfl hF.1 (by omega) (fun I15 eI15 => ?_)
  refine x_vret 44 C dX3_aim_44 rfl (Nat.le_refl _) (xN.intro ?_)
  subst eI6; subst eI9; subst eI12; subst eI15
  refine ⟨rfl, rfl, ?_, ?_, fun a ha => ?_⟩
  · refine aimedS_congr ?_ hw1r0
    intro a h1 h2; rw [xup_row _ _ (by omega), xup_row _ _ (by omega), xup_row _ _ (by omega), xup_row _ _ (by omega)]
  · simp [xup]
  · rw [xup_row _ _ (by omega), xup_row _ _ (by omega), xup_row _ _ (by omega), xup_row _ _ (by omega)]; exact hw1r1 a (by omega)
theorem dX3_predict_0 : decode cX3_predict 0 = .ok (.aload_n 0, 1) := by decide +kernel
theorem dX3_predict_1 : decode cX3_predict 1 = .ok (.getfield 10, 3) := by decide +kernel
theorem dX3_predict_4 : decode cX3_predict 4 = .ok (.aload_n 0, 1) := by decide +kernel
theorem dX3_predict_5 : decode cX3_predict 5 = .ok (.getfield 26, 3) := by decide +kernel
theorem dX3_predict_8 : decode cX3_predict 8 = .ok (.aload_n 0, 1) := by decide +kernel
theorem dX3_predict_9 : decode cX3_predict 9 = .ok (.getfield 30, 3) := by decide +kernel
theorem dX3_predict_12 : decode cX3_predict 12 = .ok (.iload_n 1, 1) := by decide +kernel
theorem dX3_predict_13 : decode cX3_predict 13 = .ok (.lload_n 3, 1) := by decide +kernel
theorem dX3_predict_14 : decode cX3_predict 14 = .ok (.invokevirtual 99, 3) := by decide +kernel
theorem dX3_predict_17 : decode cX3_predict 17 = .ok (.aload_n 0, 1) := by decide +kernel
theorem dX3_predict_18 : decode cX3_predict 18 = .ok (.getfield 19, 3) := by decide +kernel
theorem dX3_predict_21 : decode cX3_predict 21 = .ok (.getfield 103, 3) := by decide +kernel
theorem dX3_predict_24 : decode cX3_predict 24 = .ok (.aload_n 0, 1) := by decide +kernel
theorem dX3_predict_25 : decode cX3_predict 25 = .ok (.getfield 10, 3) := by decide +kernel
theorem dX3_predict_28 : decode cX3_predict 28 = .ok (.iconst 0, 1) := by decide +kernel
theorem dX3_predict_29 : decode cX3_predict 29 = .ok (.invokevirtual 106, 3) := by decide +kernel
theorem dX3_predict_32 : decode cX3_predict 32 = .ok (.getfield 110, 3) := by decide +kernel
theorem dX3_predict_35 : decode cX3_predict 35 = .ok (.aload_n 0, 1) := by decide +kernel
theorem dX3_predict_36 : decode cX3_predict 36 = .ok (.getfield 10, 3) := by decide +kernel
theorem dX3_predict_39 : decode cX3_predict 39 = .ok (.iconst 0, 1) := by decide +kernel
theorem dX3_predict_40 : decode cX3_predict 40 = .ok (.invokevirtual 115, 3) := by decide +kernel
theorem dX3_predict_43 : decode cX3_predict 43 = .ok (.getfield 110, 3) := by decide +kernel
theorem dX3_predict_46 : decode cX3_predict 46 = .ok (.invokevirtual 118, 3) := by decide +kernel
theorem dX3_predict_49 : decode cX3_predict 49 = .ok (.aload_n 0, 1) := by decide +kernel
theorem dX3_predict_50 : decode cX3_predict 50 = .ok (.getfield 19, 3) := by decide +kernel
theorem dX3_predict_53 : decode cX3_predict 53 = .ok (.getfield 103, 3) := by decide +kernel
theorem dX3_predict_56 : decode cX3_predict 56 = .ok (.iload_n 2, 1) := by decide +kernel
theorem dX3_predict_57 : decode cX3_predict 57 = .ok (.i2l, 1) := by decide +kernel
theorem dX3_predict_58 : decode cX3_predict 58 = .ok (.ldc2_w 122, 3) := by decide +kernel
theorem dX3_predict_61 : decode cX3_predict 61 = .ok (.invokevirtual 124, 3) := by decide +kernel
theorem dX3_predict_64 : decode cX3_predict 64 = .ok (.aload_n 0, 1) := by decide +kernel
theorem dX3_predict_65 : decode cX3_predict 65 = .ok (.getfield 19, 3) := by decide +kernel
theorem dX3_predict_68 : decode cX3_predict 68 = .ok (.getfield 128, 3) := by decide +kernel
theorem dX3_predict_71 : decode cX3_predict 71 = .ok (.aload_n 0, 1) := by decide +kernel
theorem dX3_predict_72 : decode cX3_predict 72 = .ok (.getfield 10, 3) := by decide +kernel
theorem dX3_predict_75 : decode cX3_predict 75 = .ok (.iconst 1, 1) := by decide +kernel
theorem dX3_predict_76 : decode cX3_predict 76 = .ok (.invokevirtual 106, 3) := by decide +kernel
theorem dX3_predict_79 : decode cX3_predict 79 = .ok (.getfield 110, 3) := by decide +kernel
theorem dX3_predict_82 : decode cX3_predict 82 = .ok (.aload_n 0, 1) := by decide +kernel
theorem dX3_predict_83 : decode cX3_predict 83 = .ok (.getfield 10, 3) := by decide +kernel
theorem dX3_predict_86 : decode cX3_predict 86 = .ok (.iconst 1, 1) := by decide +kernel
theorem dX3_predict_87 : decode cX3_predict 87 = .ok (.invokevirtual 115, 3) := by decide +kernel
theorem dX3_predict_90 : decode cX3_predict 90 = .ok (.getfield 110, 3) := by decide +kernel
theorem dX3_predict_93 : decode cX3_predict 93 = .ok (.invokevirtual 118, 3) := by decide +kernel
theorem dX3_predict_96 : decode cX3_predict 96 = .ok (.aload_n 0, 1) := by decide +kernel
theorem dX3_predict_97 : decode cX3_predict 97 = .ok (.getfield 19, 3) := by decide +kernel
theorem dX3_predict_100 : decode cX3_predict 100 = .ok (.getfield 128, 3) := by decide +kernel
theorem dX3_predict_103 : decode cX3_predict 103 = .ok (.iload_n 2, 1) := by decide +kernel
theorem dX3_predict_104 : decode cX3_predict 104 = .ok (.i2l, 1) := by decide +kernel
theorem dX3_predict_105 : decode cX3_predict 105 = .ok (.ldc2_w 122, 3) := by decide +kernel
theorem dX3_predict_108 : decode cX3_predict 108 = .ok (.invokevirtual 124, 3) := by decide +kernel
theorem dX3_predict_111 : decode cX3_predict 111 = .ok (.aload_n 0, 1) := by decide +kernel
theorem dX3_predict_112 : decode cX3_predict 112 = .ok (.getfield 19, 3) := by decide +kernel
theorem dX3_predict_115 : decode cX3_predict 115 = .ok (.aload_n 0, 1) := by decide +kernel
theorem dX3_predict_116 : decode cX3_predict 116 = .ok (.getfield 10, 3) := by decide +kernel
theorem dX3_predict_119 : decode cX3_predict 119 = .ok (.iconst 0, 1) := by decide +kernel
theorem dX3_predict_120 : decode cX3_predict 120 = .ok (.invokevirtual 131, 3) := by decide +kernel
theorem dX3_predict_123 : decode cX3_predict 123 = .ok (.aload_n 0, 1) := by decide +kernel
theorem dX3_predict_124 : decode cX3_predict 124 = .ok (.getfield 10, 3) := by decide +kernel
theorem dX3_predict_127 : decode cX3_predict 127 = .ok (.iconst 1, 1) := by decide +kernel
theorem dX3_predict_128 : decode cX3_predict 128 = .ok (.invokevirtual 131, 3) := by decide +kernel
theorem dX3_predict_131 : decode cX3_predict 131 = .ok (.aload_n 0, 1) := by decide +kernel
theorem dX3_predict_132 : decode cX3_predict 132 = .ok (.getfield 26, 3) := by decide +kernel
theorem dX3_predict_135 : decode cX3_predict 135 = .ok (.aload_n 0, 1) := by decide +kernel
theorem dX3_predict_136 : decode cX3_predict 136 = .ok (.getfield 30, 3) := by decide +kernel
theorem dX3_predict_139 : decode cX3_predict 139 = .ok (.lload_n 3, 1) := by decide +kernel
theorem dX3_predict_140 : decode cX3_predict 140 = .ok (.invokevirtual 134, 3) := by decide +kernel
theorem dX3_predict_143 : decode cX3_predict 143 = .ok (.ireturn, 1) := by decide +kernel
set_option maxHeartbeats 4000000 in
set_option maxRecDepth 100000 in
theorem t_X3_predict (l : Launch) (D : xD) (z n : Nat) (G : xG) (I : xI) (L : xL) (f : Nat) (P : Nat) (h0 : Int32) (u : Int64) (Y : xSy) (hF : shF G f) (zf : z ≤ f) (hP : P ≤ 1024) (hu : ¬ u = 0) (hA : aimedS I (f + 1) Y) : xM0 l D z yX3_predict cX3_predict 5 (some .boolean) 4 104 [.ref f, .int (nI P), .int h0, .long u] n G I L (fun v' I' L' => v' = (some (.int (if syN Y P u (rd L (f + 66)) (rd L (f + 67)) = 0 then 0 else 1))) ∧ I' = I ∧ (rd L' (f + 66) = if syN Y P u (rd L (f + 66)) (rd L (f + 67)) = 0 then rd L (f + 66) else pdX Y P h0 u (rd L (f + 66)) (rd L (f + 67))) ∧ (rd L' (f + 67) = if syN Y P u (rd L (f + 66)) (rd L (f + 67)) = 0 then rd L (f + 67) else pdY Y P h0 u (rd L (f + 66)) (rd L (f + 67))) ∧ (∀ a, (a < f ∨ f + 68 ≤ a) → L' a = L a)) := by
  refine xM.of (by decide) (Nat.le_of_ble_eq_true rfl) (fun p e s m args below meth c C hnm hsz => ?_)
  refine x_lv [(0, .ref f), (1, .int (nI P)), (2, .int h0), (3, .long u)] rfl ?_
  refine x_aload_n 0 C dX3_predict_0 rfl 0 rfl ?_
  refine x_getr 1 C (b := f + 1) dX3_predict_1 ff_X3_10 rfl hF.1 rfl ?_
  refine x_aload_n 4 C dX3_predict_4 rfl 0 rfl ?_
  refine x_getr 5 C (b := f + 66) dX3_predict_5 ff_X3_26 rfl hF.1 rfl ?_
  refine x_aload_n 8 C dX3_predict_8 rfl 0 rfl ?_
  refine x_getr 9 C (b := f + 67) dX3_predict_9 ff_X3_30 rfl hF.1 rfl ?_
  refine x_iload_n 12 C dX3_predict_12 rfl 1 rfl ?_
  refine x_lload_n 13 C dX3_predict_13 rfl 3 rfl ?_
  refine x_callVp 14 C dX3_predict_14 (As := [.ref (f + 66), .ref (f + 67), .int (nI P), .long u]) (rest := []) (t_X5_evaluate l D z n G I L (f + 1) (f + 66) (f + 67) P u Y.1 Y.2.1 Y.2.2.1 Y.2.2.2.1 Y.2.2.2.2.1 Y.2.2.2.2.2.1 Y.2.2.2.2.2.2.1 Y.2.2.2.2.2.2.2 hF.2.1 hF.2.2.2.1 hF.2.2.2.2 (by omega) (by first | assumption | omega | decide) (by first | assumption | omega | decide) (by first | assumption | omega | decide) (by first | assumption | omega | decide) hA) mt_X5_evaluate km_X3_99 ki_X5_evaluate ks_X5_evaluate hF.2.1.1 ⟨by decide, rfl⟩ rfl (Nat.le_of_ble_eq_true rfl) ⟨⟨by decide, by decide⟩, by decide, by decide⟩ (fun w1 I2 L3 hw1 => ?_)
  obtain ⟨hw1v, eI2, hw1r0, hw1r1, hw1r2, hw1r3, hw1r4, hw1r5, hw1r6, hw1r7, hw1r8, hw1r9, hw1r10, hw1r11, hw1r12, hw1r13, hw1r14, hw1r15, hw1r16, hw1r17, hw1r18⟩ := hw1
  subst hw1v
  refine x_st [] rfl ?_
  replace eI2 := eI2.symm; subst eI2
  have k4 : rd L3 (f + 1 + 26 + 20 * 0 + 1) = evV Y.1 Y.2.1 (powC (rd L (f + 66)) (rd L (f + 67)) u) 10 := hw1r0
  have k5 : rd L3 (f + 1 + 26 + 20 * 0 + 2) = evX Y.1 Y.2.1 (powC (rd L (f + 66)) (rd L (f + 67)) u) 10 := hw1r1
  have k6 : rd L3 (f + 1 + 26 + 20 * 0 + 3) = evY Y.1 Y.2.1 (powC (rd L (f + 66)) (rd L (f + 67)) u) 10 := hw1r2
  have k7 : rd L3 (f + 1 + 30 + 20 * 0 + 1) = sB evV Y.2.2.2.2.1 Y.2.2.2.2.2.2.1 Y.2.2.2.2.2.2.2 (rd L (f + 66)) (rd L (f + 67)) u := hw1r3
  have k8 : rd L3 (f + 1 + 30 + 20 * 0 + 2) = sB evX Y.2.2.2.2.1 Y.2.2.2.2.2.2.1 Y.2.2.2.2.2.2.2 (rd L (f + 66)) (rd L (f + 67)) u := hw1r4
  have k9 : rd L3 (f + 1 + 30 + 20 * 0 + 3) = sB evY Y.2.2.2.2.1 Y.2.2.2.2.2.2.1 Y.2.2.2.2.2.2.2 (rd L (f + 66)) (rd L (f + 67)) u := hw1r5
  have k10 : rd L3 (f + 1 + 34 + 20 * 0 + 1) = sM evV Y.1 Y.2.1 Y.2.2.2.2.1 Y.2.2.2.2.2.2.1 Y.2.2.2.2.2.2.2 P (rd L (f + 66)) (rd L (f + 67)) u := hw1r6
  have k11 : rd L3 (f + 1 + 34 + 20 * 0 + 2) = sM evX Y.1 Y.2.1 Y.2.2.2.2.1 Y.2.2.2.2.2.2.1 Y.2.2.2.2.2.2.2 P (rd L (f + 66)) (rd L (f + 67)) u := hw1r7
  have k12 : rd L3 (f + 1 + 34 + 20 * 0 + 3) = sM evY Y.1 Y.2.1 Y.2.2.2.2.1 Y.2.2.2.2.2.2.1 Y.2.2.2.2.2.2.2 P (rd L (f + 66)) (rd L (f + 67)) u := hw1r8
  have k13 : rd L3 (f + 1 + 26 + 20 * 1 + 1) = evV Y.2.2.1 Y.2.2.2.1 (powC (rd L (f + 66)) (rd L (f + 67)) u) 10 := hw1r9
  have k14 : rd L3 (f + 1 + 26 + 20 * 1 + 2) = evX Y.2.2.1 Y.2.2.2.1 (powC (rd L (f + 66)) (rd L (f + 67)) u) 10 := hw1r10
  have k15 : rd L3 (f + 1 + 26 + 20 * 1 + 3) = evY Y.2.2.1 Y.2.2.2.1 (powC (rd L (f + 66)) (rd L (f + 67)) u) 10 := hw1r11
  have k16 : rd L3 (f + 1 + 30 + 20 * 1 + 1) = sB evV Y.2.2.2.2.2.1 Y.2.2.2.2.2.2.1 Y.2.2.2.2.2.2.2 (rd L (f + 66)) (rd L (f + 67)) u := hw1r12
  have k17 : rd L3 (f + 1 + 30 + 20 * 1 + 2) = sB evX Y.2.2.2.2.2.1 Y.2.2.2.2.2.2.1 Y.2.2.2.2.2.2.2 (rd L (f + 66)) (rd L (f + 67)) u := hw1r13
  have k18 : rd L3 (f + 1 + 30 + 20 * 1 + 3) = sB evY Y.2.2.2.2.2.1 Y.2.2.2.2.2.2.1 Y.2.2.2.2.2.2.2 (rd L (f + 66)) (rd L (f + 67)) u := hw1r14
  have k19 : rd L3 (f + 1 + 34 + 20 * 1 + 1) = sM evV Y.2.2.1 Y.2.2.2.1 Y.2.2.2.2.2.1 Y.2.2.2.2.2.2.1 Y.2.2.2.2.2.2.2 P (rd L (f + 66)) (rd L (f + 67)) u := hw1r15
  have k20 : rd L3 (f + 1 + 34 + 20 * 1 + 2) = sM evX Y.2.2.1 Y.2.2.2.1 Y.2.2.2.2.2.1 Y.2.2.2.2.2.2.1 Y.2.2.2.2.2.2.2 P (rd L (f + 66)) (rd L (f + 67)) u := hw1r16
  have k21 : rd L3 (f + 1 + 34 + 20 * 1 + 3) = sM evY Y.2.2.1 Y.2.2.2.1 Y.2.2.2.2.2.1 Y.2.2.2.2.2.2.1 Y.2.2.2.2.2.2.2 P (rd L (f + 66)) (rd L (f + 67)) u := hw1r17
  have k22 : rd L3 (f + 59 + 1 + 0) = rd L (f + 59 + 1 + 0) := (rd_congr (hw1r18 (f + 59 + 1 + 0) (by omega))).trans rfl
  have k23 : rd L3 (f + 59 + 1 + 1) = rd L (f + 59 + 1 + 1) := (rd_congr (hw1r18 (f + 59 + 1 + 1) (by omega))).trans rfl
  have k24 : rd L3 (f + 59 + 1 + 2) = rd L (f + 59 + 1 + 2) := (rd_congr (hw1r18 (f + 59 + 1 + 2) (by omega))).trans rfl
  have k25 : rd L3 (f + 59 + 1 + 3) = rd L (f + 59 + 1 + 3) := (rd_congr (hw1r18 (f + 59 + 1 + 3) (by omega))).trans rfl
  have k26 : rd L3 (f + 66) = rd L (f + 66) := (rd_congr (hw1r18 (f + 66) (by omega))).trans rfl
  have k27 : rd L3 (f + 67) = rd L (f + 67) := (rd_congr (hw1r18 (f + 67) (by omega))).trans rfl
  have k28 : rd L3 (f + 1 + 26 + 20 * 0 + 1) = syE0 Y evV (rd L (f + 66)) (rd L (f + 67)) u := k4
  have k29 : rd L3 (f + 1 + 26 + 20 * 0 + 2) = syE0 Y evX (rd L (f + 66)) (rd L (f + 67)) u := k5
  have k30 : rd L3 (f + 1 + 26 + 20 * 0 + 3) = syE0 Y evY (rd L (f + 66)) (rd L (f + 67)) u := k6
  have k31 : rd L3 (f + 1 + 30 + 20 * 0 + 1) = syB0 Y evV (rd L (f + 66)) (rd L (f + 67)) u := k7
  have k32 : rd L3 (f + 1 + 30 + 20 * 0 + 2) = syB0 Y evX (rd L (f + 66)) (rd L (f + 67)) u := k8
  have k33 : rd L3 (f + 1 + 30 + 20 * 0 + 3) = syB0 Y evY (rd L (f + 66)) (rd L (f + 67)) u := k9
  have k34 : rd L3 (f + 1 + 34 + 20 * 0 + 1) = syM0 Y P evV (rd L (f + 66)) (rd L (f + 67)) u := k10
  have k35 : rd L3 (f + 1 + 34 + 20 * 0 + 2) = syM0 Y P evX (rd L (f + 66)) (rd L (f + 67)) u := k11
  have k36 : rd L3 (f + 1 + 34 + 20 * 0 + 3) = syM0 Y P evY (rd L (f + 66)) (rd L (f + 67)) u := k12
  have k37 : rd L3 (f + 1 + 26 + 20 * 1 + 1) = syE1 Y evV (rd L (f + 66)) (rd L (f + 67)) u := k13
  have k38 : rd L3 (f + 1 + 26 + 20 * 1 + 2) = syE1 Y evX (rd L (f + 66)) (rd L (f + 67)) u := k14
  have k39 : rd L3 (f + 1 + 26 + 20 * 1 + 3) = syE1 Y evY (rd L (f + 66)) (rd L (f + 67)) u := k15
  have k40 : rd L3 (f + 1 + 30 + 20 * 1 + 1) = syB1 Y evV (rd L (f + 66)) (rd L (f + 67)) u := k16
  have k41 : rd L3 (f + 1 + 30 + 20 * 1 + 2) = syB1 Y evX (rd L (f + 66)) (rd L (f + 67)) u := k17
  have k42 : rd L3 (f + 1 + 30 + 20 * 1 + 3) = syB1 Y evY (rd L (f + 66)) (rd L (f + 67)) u := k18
  have k43 : rd L3 (f + 1 + 34 + 20 * 1 + 1) = syM1 Y P evV (rd L (f + 66)) (rd L (f + 67)) u := k19
  have k44 : rd L3 (f + 1 + 34 + 20 * 1 + 2) = syM1 Y P evX (rd L (f + 66)) (rd L (f + 67)) u := k20
  have k45 : rd L3 (f + 1 + 34 + 20 * 1 + 3) = syM1 Y P evY (rd L (f + 66)) (rd L (f + 67)) u := k21
  refine x_aload_n 17 C dX3_predict_17 rfl 0 rfl ?_
  refine x_getr 18 C (b := f + 59) dX3_predict_18 ff_X3_19 rfl hF.1 rfl ?_
  refine x_getr 21 C (b := f + 59 + 1 + 0) dX3_predict_21 ff_X3_103 rfl hF.2.2.1.1 rfl ?_
  refine x_aload_n 24 C dX3_predict_24 rfl 0 rfl ?_
  refine x_getr 25 C (b := f + 1) dX3_predict_25 ff_X3_10 rfl hF.1 rfl ?_
  refine x_iconst 28 C (v := 0) dX3_predict_28 rfl ?_
  refine x_callVe 29 C dX3_predict_29 (As := [.int 0]) (rest := [.ref (f + 59 + 1 + 0)]) [.ref (f + 1 + 30 + 20 * 0), .ref (f + 59 + 1 + 0)] (t_X5_begin l D z n G I L3 (f + 1) 0 hF.2.1 (by first | assumption | omega | decide)) mt_X5_begin km_X3_106 ki_X5_begin ks_X5_begin hF.2.1.1 ⟨by decide, rfl⟩ rfl rfl (Nat.le_of_ble_eq_true rfl) ⟨⟨by decide, by decide⟩, by decide, by decide⟩ (fun I46 L47 eI46 eL47 => ?_)
  replace eI46 := eI46.symm; subst eI46
  replace eL47 := eL47.symm; subst eL47
  refine x_getr 32 C (b := f + 1 + 30 + 20 * 0 + 1) dX3_predict_32 ff_X3_110 rfl (hF.2.1.2.2.2.2.2.2.2 0 (by decide)).2.2.2.1.1 rfl ?_
  refine x_aload_n 35 C dX3_predict_35 rfl 0 rfl ?_
  refine x_getr 36 C (b := f + 1) dX3_predict_36 ff_X3_10 rfl hF.1 rfl ?_
  refine x_iconst 39 C (v := 0) dX3_predict_39 rfl ?_
  refine x_callVe 40 C dX3_predict_40 (As := [.int 0]) (rest := [.ref (f + 1 + 30 + 20 * 0 + 1), .ref (f + 59 + 1 + 0)]) [.ref (f + 1 + 26 + 20 * 0), .ref (f + 1 + 30 + 20 * 0 + 1), .ref (f + 59 + 1 + 0)] (t_X5_end l D z n G I L3 (f + 1) 0 hF.2.1 (by first | assumption | omega | decide)) mt_X5_end km_X3_115 ki_X5_end ks_X5_end hF.2.1.1 ⟨by decide, rfl⟩ rfl rfl (Nat.le_of_ble_eq_true rfl) ⟨⟨by decide, by decide⟩, by decide, by decide⟩ (fun I48 L49 eI48 eL49 => ?_)
  replace eI48 := eI48.symm; subst eI48
  replace eL49 := eL49.symm; subst eL49
  refine x_getr 43 C (b := f + 1 + 26 + 20 * 0 + 1) dX3_predict_43 ff_X3_110 rfl (hF.2.1.2.2.2.2.2.2.2 0 (by decide)).2.2.1.1 rfl ?_
  refine x_callVe 46 C dX3_predict_46 (As := [.ref (f + 1 + 30 + 20 * 0 + 1), .ref (f + 1 + 26 + 20 * 0 + 1)]) (rest := []) [] (t_X0_putDifference_c l D z n G I L3 (f + 59 + 1 + 0) (f + 1 + 30 + 20 * 0 + 1) (f + 1 + 26 + 20 * 0 + 1) (hF.2.2.1.2 0 (by decide)) (hF.2.1.2.2.2.2.2.2.2 0 (by decide)).2.2.2.1.2.1 (hF.2.1.2.2.2.2.2.2.2 0 (by decide)).2.2.1.2.1 (by omega)) mt_X0_putDifference km_X3_118 ki_X0_putDifference ks_X0_putDifference (hF.2.2.1.2 0 (by decide)) ⟨by decide, rfl⟩ rfl rfl (Nat.le_of_ble_eq_true rfl) ⟨⟨by decide, by decide⟩, by decide, by decide⟩ (fun I50 L51 eI50 eL51 => ?_)
  replace eI50 := eI50.symm; subst eI50
  have k52 : rd L51 (f + 1 + 26 + 20 * 0 + 1) = syE0 Y evV (rd L (f + 66)) (rd L (f + 67)) u := by rw [eL51, rd_cw_ne _ _ (by omega)]; exact k28
  have k53 : rd L51 (f + 1 + 26 + 20 * 0 + 2) = syE0 Y evX (rd L (f + 66)) (rd L (f + 67)) u := by rw [eL51, rd_cw_ne _ _ (by omega)]; exact k29
  have k54 : rd L51 (f + 1 + 26 + 20 * 0 + 3) = syE0 Y evY (rd L (f + 66)) (rd L (f + 67)) u := by rw [eL51, rd_cw_ne _ _ (by omega)]; exact k30
  have k55 : rd L51 (f + 1 + 30 + 20 * 0 + 1) = syB0 Y evV (rd L (f + 66)) (rd L (f + 67)) u := by rw [eL51, rd_cw_ne _ _ (by omega)]; exact k31
  have k56 : rd L51 (f + 1 + 30 + 20 * 0 + 2) = syB0 Y evX (rd L (f + 66)) (rd L (f + 67)) u := by rw [eL51, rd_cw_ne _ _ (by omega)]; exact k32
  have k57 : rd L51 (f + 1 + 30 + 20 * 0 + 3) = syB0 Y evY (rd L (f + 66)) (rd L (f + 67)) u := by rw [eL51, rd_cw_ne _ _ (by omega)]; exact k33
  have k58 : rd L51 (f + 1 + 34 + 20 * 0 + 1) = syM0 Y P evV (rd L (f + 66)) (rd L (f + 67)) u := by rw [eL51, rd_cw_ne _ _ (by omega)]; exact k34
  have k59 : rd L51 (f + 1 + 34 + 20 * 0 + 2) = syM0 Y P evX (rd L (f + 66)) (rd L (f + 67)) u := by rw [eL51, rd_cw_ne _ _ (by omega)]; exact k35
  have k60 : rd L51 (f + 1 + 34 + 20 * 0 + 3) = syM0 Y P evY (rd L (f + 66)) (rd L (f + 67)) u := by rw [eL51, rd_cw_ne _ _ (by omega)]; exact k36
  have k61 : rd L51 (f + 1 + 26 + 20 * 1 + 1) = syE1 Y evV (rd L (f + 66)) (rd L (f + 67)) u := by rw [eL51, rd_cw_ne _ _ (by omega)]; exact k37
  have k62 : rd L51 (f + 1 + 26 + 20 * 1 + 2) = syE1 Y evX (rd L (f + 66)) (rd L (f + 67)) u := by rw [eL51, rd_cw_ne _ _ (by omega)]; exact k38
  have k63 : rd L51 (f + 1 + 26 + 20 * 1 + 3) = syE1 Y evY (rd L (f + 66)) (rd L (f + 67)) u := by rw [eL51, rd_cw_ne _ _ (by omega)]; exact k39
  have k64 : rd L51 (f + 1 + 30 + 20 * 1 + 1) = syB1 Y evV (rd L (f + 66)) (rd L (f + 67)) u := by rw [eL51, rd_cw_ne _ _ (by omega)]; exact k40
  have k65 : rd L51 (f + 1 + 30 + 20 * 1 + 2) = syB1 Y evX (rd L (f + 66)) (rd L (f + 67)) u := by rw [eL51, rd_cw_ne _ _ (by omega)]; exact k41
  have k66 : rd L51 (f + 1 + 30 + 20 * 1 + 3) = syB1 Y evY (rd L (f + 66)) (rd L (f + 67)) u := by rw [eL51, rd_cw_ne _ _ (by omega)]; exact k42
  have k67 : rd L51 (f + 1 + 34 + 20 * 1 + 1) = syM1 Y P evV (rd L (f + 66)) (rd L (f + 67)) u := by rw [eL51, rd_cw_ne _ _ (by omega)]; exact k43
  have k68 : rd L51 (f + 1 + 34 + 20 * 1 + 2) = syM1 Y P evX (rd L (f + 66)) (rd L (f + 67)) u := by rw [eL51, rd_cw_ne _ _ (by omega)]; exact k44
  have k69 : rd L51 (f + 1 + 34 + 20 * 1 + 3) = syM1 Y P evY (rd L (f + 66)) (rd L (f + 67)) u := by rw [eL51, rd_cw_ne _ _ (by omega)]; exact k45
  have k70 : rd L51 (f + 59 + 1 + 0) = subC (syB0 Y evV (rd L (f + 66)) (rd L (f + 67)) u) (syE0 Y evV (rd L (f + 66)) (rd L (f + 67)) u) := by rw [eL51, rd_cw]; simp only [k31, k28]
  have k71 : rd L51 (f + 59 + 1 + 1) = rd L (f + 59 + 1 + 1) := by rw [eL51, rd_cw_ne _ _ (by omega)]; exact k23
  have k72 : rd L51 (f + 59 + 1 + 2) = rd L (f + 59 + 1 + 2) := by rw [eL51, rd_cw_ne _ _ (by omega)]; exact k24
  have k73 : rd L51 (f + 59 + 1 + 3) = rd L (f + 59 + 1 + 3) := by rw [eL51, rd_cw_ne _ _ (by omega)]; exact k25
  have k74 : rd L51 (f + 66) = rd L (f + 66) := by rw [eL51, rd_cw_ne _ _ (by omega)]; exact k26
  have k75 : rd L51 (f + 67) = rd L (f + 67) := by rw [eL51, rd_cw_ne _ _ (by omega)]; exact k27
  refine x_aload_n 49 C dX3_predict_49 rfl 0 rfl ?_
  refine x_getr 50 C (b := f + 59) dX3_predict_50 ff_X3_19 rfl hF.1 rfl ?_
  refine x_getr 53 C (b := f + 59 + 1 + 0) dX3_predict_53 ff_X3_103 rfl hF.2.2.1.1 rfl ?_
  refine x_iload_n 56 C dX3_predict_56 rfl 2 rfl ?_
  refine x_i2l 57 C dX3_predict_57 ?_
  refine x_ldc2 58 C 1024 dX3_predict_58 kk_X3_122 ?_
  refine x_callVe 61 C dX3_predict_61 (As := [.long (Int32.toInt64 h0), .long 1024]) (rest := []) [] (t_X0_takeShare_c l D z n G I L51 (f + 59 + 1 + 0) (Int32.toInt64 h0) 1024 (hF.2.2.1.2 0 (by decide)) (by omega) (by first | assumption | omega | decide)) mt_X0_takeShare km_X3_124 ki_X0_takeShare ks_X0_takeShare (hF.2.2.1.2 0 (by decide)) ⟨by decide, rfl⟩ rfl rfl (Nat.le_of_ble_eq_true rfl) ⟨⟨by decide, by decide⟩, by decide, by decide⟩ (fun I76 L77 eI76 eL77 => ?_)
  replace eI76 := eI76.symm; subst eI76
  have k78 : rd L77 (f + 1 + 26 + 20 * 0 + 1) = syE0 Y evV (rd L (f + 66)) (rd L (f + 67)) u := by rw [eL77, rd_cw_ne _ _ (by omega)]; exact k52
  have k79 : rd L77 (f + 1 + 26 + 20 * 0 + 2) = syE0 Y evX (rd L (f + 66)) (rd L (f + 67)) u := by rw [eL77, rd_cw_ne _ _ (by omega)]; exact k53
  have k80 : rd L77 (f + 1 + 26 + 20 * 0 + 3) = syE0 Y evY (rd L (f + 66)) (rd L (f + 67)) u := by rw [eL77, rd_cw_ne _ _ (by omega)]; exact k54
  have k81 : rd L77 (f + 1 + 30 + 20 * 0 + 1) = syB0 Y evV (rd L (f + 66)) (rd L (f + 67)) u := by rw [eL77, rd_cw_ne _ _ (by omega)]; exact k55
  have k82 : rd L77 (f + 1 + 30 + 20 * 0 + 2) = syB0 Y evX (rd L (f + 66)) (rd L (f + 67)) u := by rw [eL77, rd_cw_ne _ _ (by omega)]; exact k56
  have k83 : rd L77 (f + 1 + 30 + 20 * 0 + 3) = syB0 Y evY (rd L (f + 66)) (rd L (f + 67)) u := by rw [eL77, rd_cw_ne _ _ (by omega)]; exact k57
  have k84 : rd L77 (f + 1 + 34 + 20 * 0 + 1) = syM0 Y P evV (rd L (f + 66)) (rd L (f + 67)) u := by rw [eL77, rd_cw_ne _ _ (by omega)]; exact k58
  have k85 : rd L77 (f + 1 + 34 + 20 * 0 + 2) = syM0 Y P evX (rd L (f + 66)) (rd L (f + 67)) u := by rw [eL77, rd_cw_ne _ _ (by omega)]; exact k59
  have k86 : rd L77 (f + 1 + 34 + 20 * 0 + 3) = syM0 Y P evY (rd L (f + 66)) (rd L (f + 67)) u := by rw [eL77, rd_cw_ne _ _ (by omega)]; exact k60
  have k87 : rd L77 (f + 1 + 26 + 20 * 1 + 1) = syE1 Y evV (rd L (f + 66)) (rd L (f + 67)) u := by rw [eL77, rd_cw_ne _ _ (by omega)]; exact k61
  have k88 : rd L77 (f + 1 + 26 + 20 * 1 + 2) = syE1 Y evX (rd L (f + 66)) (rd L (f + 67)) u := by rw [eL77, rd_cw_ne _ _ (by omega)]; exact k62
  have k89 : rd L77 (f + 1 + 26 + 20 * 1 + 3) = syE1 Y evY (rd L (f + 66)) (rd L (f + 67)) u := by rw [eL77, rd_cw_ne _ _ (by omega)]; exact k63
  have k90 : rd L77 (f + 1 + 30 + 20 * 1 + 1) = syB1 Y evV (rd L (f + 66)) (rd L (f + 67)) u := by rw [eL77, rd_cw_ne _ _ (by omega)]; exact k64
  have k91 : rd L77 (f + 1 + 30 + 20 * 1 + 2) = syB1 Y evX (rd L (f + 66)) (rd L (f + 67)) u := by rw [eL77, rd_cw_ne _ _ (by omega)]; exact k65
  have k92 : rd L77 (f + 1 + 30 + 20 * 1 + 3) = syB1 Y evY (rd L (f + 66)) (rd L (f + 67)) u := by rw [eL77, rd_cw_ne _ _ (by omega)]; exact k66
  have k93 : rd L77 (f + 1 + 34 + 20 * 1 + 1) = syM1 Y P evV (rd L (f + 66)) (rd L (f + 67)) u := by rw [eL77, rd_cw_ne _ _ (by omega)]; exact k67
  have k94 : rd L77 (f + 1 + 34 + 20 * 1 + 2) = syM1 Y P evX (rd L (f + 66)) (rd L (f + 67)) u := by rw [eL77, rd_cw_ne _ _ (by omega)]; exact k68
  have k95 : rd L77 (f + 1 + 34 + 20 * 1 + 3) = syM1 Y P evY (rd L (f + 66)) (rd L (f + 67)) u := by rw [eL77, rd_cw_ne _ _ (by omega)]; exact k69
  have k96 : rd L77 (f + 59 + 1 + 0) = shaC (subC (syB0 Y evV (rd L (f + 66)) (rd L (f + 67)) u) (syE0 Y evV (rd L (f + 66)) (rd L (f + 67)) u)) (Int32.toInt64 h0) 1024 := by rw [eL77, rd_cw]; simp only [k70]
  have k97 : rd L77 (f + 59 + 1 + 1) = rd L (f + 59 + 1 + 1) := by rw [eL77, rd_cw_ne _ _ (by omega)]; exact k71
  have k98 : rd L77 (f + 59 + 1 + 2) = rd L (f + 59 + 1 + 2) := by rw [eL77, rd_cw_ne _ _ (by omega)]; exact k72
  have k99 : rd L77 (f + 59 + 1 + 3) = rd L (f + 59 + 1 + 3) := by rw [eL77, rd_cw_ne _ _ (by omega)]; exact k73
  have k100 : rd L77 (f + 66) = rd L (f + 66) := by rw [eL77, rd_cw_ne _ _ (by omega)]; exact k74
  have k101 : rd L77 (f + 67) = rd L (f + 67) := by rw [eL77, rd_cw_ne _ _ (by omega)]; exact k75
  refine x_aload_n 64 C dX3_predict_64 rfl 0 rfl ?_
  refine x_getr 65 C (b := f + 59) dX3_predict_65 ff_X3_19 rfl hF.1 rfl ?_
  refine x_getr 68 C (b := f + 59 + 1 + 1) dX3_predict_68 ff_X3_128 rfl hF.2.2.1.1 rfl ?_
  refine x_aload_n 71 C dX3_predict_71 rfl 0 rfl ?_
  refine x_getr 72 C (b := f + 1) dX3_predict_72 ff_X3_10 rfl hF.1 rfl ?_
  refine x_iconst 75 C (v := 1) dX3_predict_75 rfl ?_
  refine x_callVe 76 C dX3_predict_76 (As := [.int 1]) (rest := [.ref (f + 59 + 1 + 1)]) [.ref (f + 1 + 30 + 20 * 1), .ref (f + 59 + 1 + 1)] (t_X5_begin l D z n G I L77 (f + 1) 1 hF.2.1 (by first | assumption | omega | decide)) mt_X5_begin km_X3_106 ki_X5_begin ks_X5_begin hF.2.1.1 ⟨by decide, rfl⟩ rfl rfl (Nat.le_of_ble_eq_true rfl) ⟨⟨by decide, by decide⟩, by decide, by decide⟩ (fun I102 L103 eI102 eL103 => ?_)
  replace eI102 := eI102.symm; subst eI102
  replace eL103 := eL103.symm; subst eL103
  refine x_getr 79 C (b := f + 1 + 30 + 20 * 1 + 1) dX3_predict_79 ff_X3_110 rfl (hF.2.1.2.2.2.2.2.2.2 1 (by decide)).2.2.2.1.1 rfl ?_
  refine x_aload_n 82 C dX3_predict_82 rfl 0 rfl ?_
  refine x_getr 83 C (b := f + 1) dX3_predict_83 ff_X3_10 rfl hF.1 rfl ?_
  refine x_iconst 86 C (v := 1) dX3_predict_86 rfl ?_
  refine x_callVe 87 C dX3_predict_87 (As := [.int 1]) (rest := [.ref (f + 1 + 30 + 20 * 1 + 1), .ref (f + 59 + 1 + 1)]) [.ref (f + 1 + 26 + 20 * 1), .ref (f + 1 + 30 + 20 * 1 + 1), .ref (f + 59 + 1 + 1)] (t_X5_end l D z n G I L77 (f + 1) 1 hF.2.1 (by first | assumption | omega | decide)) mt_X5_end km_X3_115 ki_X5_end ks_X5_end hF.2.1.1 ⟨by decide, rfl⟩ rfl rfl (Nat.le_of_ble_eq_true rfl) ⟨⟨by decide, by decide⟩, by decide, by decide⟩ (fun I104 L105 eI104 eL105 => ?_)
  replace eI104 := eI104.symm; subst eI104
  replace eL105 := eL105.symm; subst eL105
  refine x_getr 90 C (b := f + 1 + 26 + 20 * 1 + 1) dX3_predict_90 ff_X3_110 rfl (hF.2.1.2.2.2.2.2.2.2 1 (by decide)).2.2.1.1 rfl ?_
  refine x_callVe 93 C dX3_predict_93 (As := [.ref (f + 1 + 30 + 20 * 1 + 1), .ref (f + 1 + 26 + 20 * 1 + 1)]) (rest := []) [] (t_X0_putDifference_c l D z n G I L77 (f + 59 + 1 + 1) (f + 1 + 30 + 20 * 1 + 1) (f + 1 + 26 + 20 * 1 + 1) (hF.2.2.1.2 1 (by decide)) (hF.2.1.2.2.2.2.2.2.2 1 (by decide)).2.2.2.1.2.1 (hF.2.1.2.2.2.2.2.2.2 1 (by decide)).2.2.1.2.1 (by omega)) mt_X0_putDifference km_X3_118 ki_X0_putDifference ks_X0_putDifference (hF.2.2.1.2 1 (by decide)) ⟨by decide, rfl⟩ rfl rfl (Nat.le_of_ble_eq_true rfl) ⟨⟨by decide, by decide⟩, by decide, by decide⟩ (fun I106 L107 eI106 eL107 => ?_)
  replace eI106 := eI106.symm; subst eI106
  have k108 : rd L107 (f + 1 + 26 + 20 * 0 + 1) = syE0 Y evV (rd L (f + 66)) (rd L (f + 67)) u := by rw [eL107, rd_cw_ne _ _ (by omega)]; exact k78
  have k109 : rd L107 (f + 1 + 26 + 20 * 0 + 2) = syE0 Y evX (rd L (f + 66)) (rd L (f + 67)) u := by rw [eL107, rd_cw_ne _ _ (by omega)]; exact k79
  have k110 : rd L107 (f + 1 + 26 + 20 * 0 + 3) = syE0 Y evY (rd L (f + 66)) (rd L (f + 67)) u := by rw [eL107, rd_cw_ne _ _ (by omega)]; exact k80
  have k111 : rd L107 (f + 1 + 30 + 20 * 0 + 1) = syB0 Y evV (rd L (f + 66)) (rd L (f + 67)) u := by rw [eL107, rd_cw_ne _ _ (by omega)]; exact k81
  have k112 : rd L107 (f + 1 + 30 + 20 * 0 + 2) = syB0 Y evX (rd L (f + 66)) (rd L (f + 67)) u := by rw [eL107, rd_cw_ne _ _ (by omega)]; exact k82
  have k113 : rd L107 (f + 1 + 30 + 20 * 0 + 3) = syB0 Y evY (rd L (f + 66)) (rd L (f + 67)) u := by rw [eL107, rd_cw_ne _ _ (by omega)]; exact k83
  have k114 : rd L107 (f + 1 + 34 + 20 * 0 + 1) = syM0 Y P evV (rd L (f + 66)) (rd L (f + 67)) u := by rw [eL107, rd_cw_ne _ _ (by omega)]; exact k84
  have k115 : rd L107 (f + 1 + 34 + 20 * 0 + 2) = syM0 Y P evX (rd L (f + 66)) (rd L (f + 67)) u := by rw [eL107, rd_cw_ne _ _ (by omega)]; exact k85
  have k116 : rd L107 (f + 1 + 34 + 20 * 0 + 3) = syM0 Y P evY (rd L (f + 66)) (rd L (f + 67)) u := by rw [eL107, rd_cw_ne _ _ (by omega)]; exact k86
  have k117 : rd L107 (f + 1 + 26 + 20 * 1 + 1) = syE1 Y evV (rd L (f + 66)) (rd L (f + 67)) u := by rw [eL107, rd_cw_ne _ _ (by omega)]; exact k87
  have k118 : rd L107 (f + 1 + 26 + 20 * 1 + 2) = syE1 Y evX (rd L (f + 66)) (rd L (f + 67)) u := by rw [eL107, rd_cw_ne _ _ (by omega)]; exact k88
  have k119 : rd L107 (f + 1 + 26 + 20 * 1 + 3) = syE1 Y evY (rd L (f + 66)) (rd L (f + 67)) u := by rw [eL107, rd_cw_ne _ _ (by omega)]; exact k89
  have k120 : rd L107 (f + 1 + 30 + 20 * 1 + 1) = syB1 Y evV (rd L (f + 66)) (rd L (f + 67)) u := by rw [eL107, rd_cw_ne _ _ (by omega)]; exact k90
  have k121 : rd L107 (f + 1 + 30 + 20 * 1 + 2) = syB1 Y evX (rd L (f + 66)) (rd L (f + 67)) u := by rw [eL107, rd_cw_ne _ _ (by omega)]; exact k91
  have k122 : rd L107 (f + 1 + 30 + 20 * 1 + 3) = syB1 Y evY (rd L (f + 66)) (rd L (f + 67)) u := by rw [eL107, rd_cw_ne _ _ (by omega)]; exact k92
  have k123 : rd L107 (f + 1 + 34 + 20 * 1 + 1) = syM1 Y P evV (rd L (f + 66)) (rd L (f + 67)) u := by rw [eL107, rd_cw_ne _ _ (by omega)]; exact k93
  have k124 : rd L107 (f + 1 + 34 + 20 * 1 + 2) = syM1 Y P evX (rd L (f + 66)) (rd L (f + 67)) u := by rw [eL107, rd_cw_ne _ _ (by omega)]; exact k94
  have k125 : rd L107 (f + 1 + 34 + 20 * 1 + 3) = syM1 Y P evY (rd L (f + 66)) (rd L (f + 67)) u := by rw [eL107, rd_cw_ne _ _ (by omega)]; exact k95
  have k126 : rd L107 (f + 59 + 1 + 0) = shaC (subC (syB0 Y evV (rd L (f + 66)) (rd L (f + 67)) u) (syE0 Y evV (rd L (f + 66)) (rd L (f + 67)) u)) (Int32.toInt64 h0) 1024 := by rw [eL107, rd_cw_ne _ _ (by omega)]; exact k96
  have k127 : rd L107 (f + 59 + 1 + 1) = subC (syB1 Y evV (rd L (f + 66)) (rd L (f + 67)) u) (syE1 Y evV (rd L (f + 66)) (rd L (f + 67)) u) := by rw [eL107, rd_cw]; simp only [k90, k87]
  have k128 : rd L107 (f + 59 + 1 + 2) = rd L (f + 59 + 1 + 2) := by rw [eL107, rd_cw_ne _ _ (by omega)]; exact k98
  have k129 : rd L107 (f + 59 + 1 + 3) = rd L (f + 59 + 1 + 3) := by rw [eL107, rd_cw_ne _ _ (by omega)]; exact k99
  have k130 : rd L107 (f + 66) = rd L (f + 66) := by rw [eL107, rd_cw_ne _ _ (by omega)]; exact k100
  have k131 : rd L107 (f + 67) = rd L (f + 67) := by rw [eL107, rd_cw_ne _ _ (by omega)]; exact k101
  refine x_aload_n 96 C dX3_predict_96 rfl 0 rfl ?_
  refine x_getr 97 C (b := f + 59) dX3_predict_97 ff_X3_19 rfl hF.1 rfl ?_
  refine x_getr 100 C (b := f + 59 + 1 + 1) dX3_predict_100 ff_X3_128 rfl hF.2.2.1.1 rfl ?_
  refine x_iload_n 103 C dX3_predict_103 rfl 2 rfl ?_
  refine x_i2l 104 C dX3_predict_104 ?_
  refine x_ldc2 105 C 1024 dX3_predict_105 kk_X3_122 ?_
  refine x_callVe 108 C dX3_predict_108 (As := [.long (Int32.toInt64 h0), .long 1024]) (rest := []) [] (t_X0_takeShare_c l D z n G I L107 (f + 59 + 1 + 1) (Int32.toInt64 h0) 1024 (hF.2.2.1.2 1 (by decide)) (by omega) (by first | assumption | omega | decide)) mt_X0_takeShare km_X3_124 ki_X0_takeShare ks_X0_takeShare (hF.2.2.1.2 1 (by decide)) ⟨by decide, rfl⟩ rfl rfl (Nat.le_of_ble_eq_true rfl) ⟨⟨by decide, by decide⟩, by decide, by decide⟩ (fun I132 L133 eI132 eL133 => ?_)
  replace eI132 := eI132.symm; subst eI132
  have k134 : rd L133 (f + 1 + 26 + 20 * 0 + 1) = syE0 Y evV (rd L (f + 66)) (rd L (f + 67)) u := by rw [eL133, rd_cw_ne _ _ (by omega)]; exact k108
  have k135 : rd L133 (f + 1 + 26 + 20 * 0 + 2) = syE0 Y evX (rd L (f + 66)) (rd L (f + 67)) u := by rw [eL133, rd_cw_ne _ _ (by omega)]; exact k109
  have k136 : rd L133 (f + 1 + 26 + 20 * 0 + 3) = syE0 Y evY (rd L (f + 66)) (rd L (f + 67)) u := by rw [eL133, rd_cw_ne _ _ (by omega)]; exact k110
  have k137 : rd L133 (f + 1 + 30 + 20 * 0 + 1) = syB0 Y evV (rd L (f + 66)) (rd L (f + 67)) u := by rw [eL133, rd_cw_ne _ _ (by omega)]; exact k111
  have k138 : rd L133 (f + 1 + 30 + 20 * 0 + 2) = syB0 Y evX (rd L (f + 66)) (rd L (f + 67)) u := by rw [eL133, rd_cw_ne _ _ (by omega)]; exact k112
  have k139 : rd L133 (f + 1 + 30 + 20 * 0 + 3) = syB0 Y evY (rd L (f + 66)) (rd L (f + 67)) u := by rw [eL133, rd_cw_ne _ _ (by omega)]; exact k113
  have k140 : rd L133 (f + 1 + 34 + 20 * 0 + 1) = syM0 Y P evV (rd L (f + 66)) (rd L (f + 67)) u := by rw [eL133, rd_cw_ne _ _ (by omega)]; exact k114
  have k141 : rd L133 (f + 1 + 34 + 20 * 0 + 2) = syM0 Y P evX (rd L (f + 66)) (rd L (f + 67)) u := by rw [eL133, rd_cw_ne _ _ (by omega)]; exact k115
  have k142 : rd L133 (f + 1 + 34 + 20 * 0 + 3) = syM0 Y P evY (rd L (f + 66)) (rd L (f + 67)) u := by rw [eL133, rd_cw_ne _ _ (by omega)]; exact k116
  have k143 : rd L133 (f + 1 + 26 + 20 * 1 + 1) = syE1 Y evV (rd L (f + 66)) (rd L (f + 67)) u := by rw [eL133, rd_cw_ne _ _ (by omega)]; exact k117
  have k144 : rd L133 (f + 1 + 26 + 20 * 1 + 2) = syE1 Y evX (rd L (f + 66)) (rd L (f + 67)) u := by rw [eL133, rd_cw_ne _ _ (by omega)]; exact k118
  have k145 : rd L133 (f + 1 + 26 + 20 * 1 + 3) = syE1 Y evY (rd L (f + 66)) (rd L (f + 67)) u := by rw [eL133, rd_cw_ne _ _ (by omega)]; exact k119
  have k146 : rd L133 (f + 1 + 30 + 20 * 1 + 1) = syB1 Y evV (rd L (f + 66)) (rd L (f + 67)) u := by rw [eL133, rd_cw_ne _ _ (by omega)]; exact k120
  have k147 : rd L133 (f + 1 + 30 + 20 * 1 + 2) = syB1 Y evX (rd L (f + 66)) (rd L (f + 67)) u := by rw [eL133, rd_cw_ne _ _ (by omega)]; exact k121
  have k148 : rd L133 (f + 1 + 30 + 20 * 1 + 3) = syB1 Y evY (rd L (f + 66)) (rd L (f + 67)) u := by rw [eL133, rd_cw_ne _ _ (by omega)]; exact k122
  have k149 : rd L133 (f + 1 + 34 + 20 * 1 + 1) = syM1 Y P evV (rd L (f + 66)) (rd L (f + 67)) u := by rw [eL133, rd_cw_ne _ _ (by omega)]; exact k123
  have k150 : rd L133 (f + 1 + 34 + 20 * 1 + 2) = syM1 Y P evX (rd L (f + 66)) (rd L (f + 67)) u := by rw [eL133, rd_cw_ne _ _ (by omega)]; exact k124
  have k151 : rd L133 (f + 1 + 34 + 20 * 1 + 3) = syM1 Y P evY (rd L (f + 66)) (rd L (f + 67)) u := by rw [eL133, rd_cw_ne _ _ (by omega)]; exact k125
  have k152 : rd L133 (f + 59 + 1 + 0) = shaC (subC (syB0 Y evV (rd L (f + 66)) (rd L (f + 67)) u) (syE0 Y evV (rd L (f + 66)) (rd L (f + 67)) u)) (Int32.toInt64 h0) 1024 := by rw [eL133, rd_cw_ne _ _ (by omega)]; exact k126
  have k153 : rd L133 (f + 59 + 1 + 1) = shaC (subC (syB1 Y evV (rd L (f + 66)) (rd L (f + 67)) u) (syE1 Y evV (rd L (f + 66)) (rd L (f + 67)) u)) (Int32.toInt64 h0) 1024 := by rw [eL133, rd_cw]; simp only [k127]
  have k154 : rd L133 (f + 59 + 1 + 2) = rd L (f + 59 + 1 + 2) := by rw [eL133, rd_cw_ne _ _ (by omega)]; exact k128
  have k155 : rd L133 (f + 59 + 1 + 3) = rd L (f + 59 + 1 + 3) := by rw [eL133, rd_cw_ne _ _ (by omega)]; exact k129
  have k156 : rd L133 (f + 66) = rd L (f + 66) := by rw [eL133, rd_cw_ne _ _ (by omega)]; exact k130
  have k157 : rd L133 (f + 67) = rd L (f + 67) := by rw [eL133, rd_cw_ne _ _ (by omega)]; exact k131
  refine x_aload_n 111 C dX3_predict_111 rfl 0 rfl ?_
  refine x_getr 112 C (b := f + 59) dX3_predict_112 ff_X3_19 rfl hF.1 rfl ?_
  refine x_aload_n 115 C dX3_predict_115 rfl 0 rfl ?_
  refine x_getr 116 C (b := f + 1) dX3_predict_116 ff_X3_10 rfl hF.1 rfl ?_
  refine x_iconst 119 C (v := 0) dX3_predict_119 rfl ?_
  refine x_callVe 120 C dX3_predict_120 (As := [.int 0]) (rest := [.ref (f + 59)]) [.ref (f + 1 + 34 + 20 * 0), .ref (f + 59)] (t_X5_mix l D z n G I L133 (f + 1) 0 hF.2.1 (by first | assumption | omega | decide)) mt_X5_mix km_X3_131 ki_X5_mix ks_X5_mix hF.2.1.1 ⟨by decide, rfl⟩ rfl rfl (Nat.le_of_ble_eq_true rfl) ⟨⟨by decide, by decide⟩, by decide, by decide⟩ (fun I158 L159 eI158 eL159 => ?_)
  replace eI158 := eI158.symm; subst eI158
  replace eL159 := eL159.symm; subst eL159
  refine x_aload_n 123 C dX3_predict_123 rfl 0 rfl ?_
  refine x_getr 124 C (b := f + 1) dX3_predict_124 ff_X3_10 rfl hF.1 rfl ?_
  refine x_iconst 127 C (v := 1) dX3_predict_127 rfl ?_
  refine x_callVe 128 C dX3_predict_128 (As := [.int 1]) (rest := [.ref (f + 1 + 34 + 20 * 0), .ref (f + 59)]) [.ref (f + 1 + 34 + 20 * 1), .ref (f + 1 + 34 + 20 * 0), .ref (f + 59)] (t_X5_mix l D z n G I L133 (f + 1) 1 hF.2.1 (by first | assumption | omega | decide)) mt_X5_mix km_X3_131 ki_X5_mix ks_X5_mix hF.2.1.1 ⟨by decide, rfl⟩ rfl rfl (Nat.le_of_ble_eq_true rfl) ⟨⟨by decide, by decide⟩, by decide, by decide⟩ (fun I160 L161 eI160 eL161 => ?_)
  replace eI160 := eI160.symm; subst eI160
  replace eL161 := eL161.symm; subst eL161
  refine x_aload_n 131 C dX3_predict_131 rfl 0 rfl ?_
  refine x_getr 132 C (b := f + 66) dX3_predict_132 ff_X3_26 rfl hF.1 rfl ?_
  refine x_aload_n 135 C dX3_predict_135 rfl 0 rfl ?_
  refine x_getr 136 C (b := f + 67) dX3_predict_136 ff_X3_30 rfl hF.1 rfl ?_
  refine x_lload_n 139 C dX3_predict_139 rfl 3 rfl ?_
  refine x_callVp 140 C dX3_predict_140 (As := [.ref (f + 1 + 34 + 20 * 0), .ref (f + 1 + 34 + 20 * 1), .ref (f + 66), .ref (f + 67), .long u]) (rest := []) (t_X8_moveBySolution l D z n G I L133 (f + 59) (f + 1 + 34 + 20 * 0) (f + 1 + 34 + 20 * 1) (f + 66) (f + 67) u hF.2.2.1 (hF.2.1.2.2.2.2.2.2.2 0 (by decide)).2.2.2.2 (hF.2.1.2.2.2.2.2.2.2 1 (by decide)).2.2.2.2 hF.2.2.2.1 hF.2.2.2.2 (by omega) (by omega) (by omega) (by first | assumption | omega | decide) (by first | assumption | omega | decide) (by first | assumption | omega | decide) (by first | assumption | omega | decide) (by first | assumption | omega | decide) (by first | assumption | omega | decide)) mt_X8_moveBySolution km_X3_134 ki_X8_moveBySolution ks_X8_moveBySolution hF.2.2.1.1 ⟨by decide, rfl⟩ rfl (Nat.le_of_ble_eq_true rfl) ⟨⟨by decide, by decide⟩, by decide, by decide⟩ (fun w162 I163 L164 hw162 => ?_)
  obtain ⟨hw162v, eI163, hw162r0, hw162r1, hw162r2, hw162r3⟩ := hw162
  subst hw162v
  refine x_st [.int (if solN u (rd L133 ((f + 1 + 34 + 20 * 0) + 2)) (rd L133 ((f + 1 + 34 + 20 * 0) + 3)) (rd L133 ((f + 1 + 34 + 20 * 1) + 2)) (rd L133 ((f + 1 + 34 + 20 * 1) + 3)) = 0 then 0 else 1)] rfl ?_
  replace eI163 := eI163.symm; subst eI163
  have k165 : rd L164 (f + 66) = if solN u (syM0 Y P evX (rd L (f + 66)) (rd L (f + 67)) u) (syM0 Y P evY (rd L (f + 66)) (rd L (f + 67)) u) (syM1 Y P evX (rd L (f + 66)) (rd L (f + 67)) u) (syM1 Y P evY (rd L (f + 66)) (rd L (f + 67)) u) = 0 then (rd L (f + 66)) else addC (rd L (f + 66)) (solU u (syM0 Y P evX (rd L (f + 66)) (rd L (f + 67)) u) (syM0 Y P evY (rd L (f + 66)) (rd L (f + 67)) u) (syM1 Y P evX (rd L (f + 66)) (rd L (f + 67)) u) (syM1 Y P evY (rd L (f + 66)) (rd L (f + 67)) u) (shaC (subC (syB0 Y evV (rd L (f + 66)) (rd L (f + 67)) u) (syE0 Y evV (rd L (f + 66)) (rd L (f + 67)) u)) (Int32.toInt64 h0) 1024) (shaC (subC (syB1 Y evV (rd L (f + 66)) (rd L (f + 67)) u) (syE1 Y evV (rd L (f + 66)) (rd L (f + 67)) u)) (Int32.toInt64 h0) 1024)) := by rw [hw162r0]; simp only [k141, k142, k150, k151, k156, k152, k153]
  have k166 : rd L164 (f + 67) = if solN u (syM0 Y P evX (rd L (f + 66)) (rd L (f + 67)) u) (syM0 Y P evY (rd L (f + 66)) (rd L (f + 67)) u) (syM1 Y P evX (rd L (f + 66)) (rd L (f + 67)) u) (syM1 Y P evY (rd L (f + 66)) (rd L (f + 67)) u) = 0 then (rd L (f + 67)) else addC (rd L (f + 67)) (solV u (syM0 Y P evX (rd L (f + 66)) (rd L (f + 67)) u) (syM0 Y P evY (rd L (f + 66)) (rd L (f + 67)) u) (syM1 Y P evX (rd L (f + 66)) (rd L (f + 67)) u) (syM1 Y P evY (rd L (f + 66)) (rd L (f + 67)) u) (shaC (subC (syB0 Y evV (rd L (f + 66)) (rd L (f + 67)) u) (syE0 Y evV (rd L (f + 66)) (rd L (f + 67)) u)) (Int32.toInt64 h0) 1024) (shaC (subC (syB1 Y evV (rd L (f + 66)) (rd L (f + 67)) u) (syE1 Y evV (rd L (f + 66)) (rd L (f + 67)) u)) (Int32.toInt64 h0) 1024)) := by rw [hw162r1]; simp only [k141, k142, k150, k151, k157, k152, k153]
  refine x_int (if syN Y P u (rd L (f + 66)) (rd L (f + 67)) = 0 then 0 else 1) (by simp only [k134, k135, k136, k137, k138, k139, k140, k141, k142, k143, k144, k145, k146, k147, k148, k149, k150, k151, k152, k153, k154, k155, k156, k157]; rfl) ?_
  refine x_iret 143 C dX3_predict_143 rfl (by split <;> rfl) (Nat.le_refl _) (xN.intro ?_)
  exact ⟨rfl, rfl, k165, k166, fun a ha => by rw [hw162r3 _ (by omega) (by omega) (by omega)]; rw [eL133, cw_ne _ _ (by omega)]; rw [eL107, cw_ne _ _ (by omega)]; rw [eL77, cw_ne _ _ (by omega)]; rw [eL51, cw_ne _ _ (by omega)]; rw [hw1r18 _ (by omega)]⟩
end
section
theorem dX3_correct_0 : decode cX3_correct 0 = .ok (.lconst 0, 1) := by decide +kernel
theorem dX3_correct_1 : decode cX3_correct 1 = .ok (.lstore 4, 2) := by decide +kernel
theorem dX3_correct_3 : decode cX3_correct 3 = .ok (.iconst 0, 1) := by decide +kernel
theorem dX3_correct_4 : decode cX3_correct 4 = .ok (.istore 6, 2) := by decide +kernel
theorem dX3_correct_6 : decode cX3_correct 6 = .ok (.iload 6, 2) := by decide +kernel
theorem dX3_correct_8 : decode cX3_correct 8 = .ok (.aload_n 0, 1) := by decide +kernel
theorem dX3_correct_9 : decode cX3_correct 9 = .ok (.getfield 47, 3) := by decide +kernel
theorem dX3_correct_12 : decode cX3_correct 12 = .ok (.if_icmp .ge 150, 3) := by decide +kernel
theorem dX3_correct_15 : decode cX3_correct 15 = .ok (.aload_n 0, 1) := by decide +kernel
theorem dX3_correct_16 : decode cX3_correct 16 = .ok (.getfield 10, 3) := by decide +kernel
theorem dX3_correct_19 : decode cX3_correct 19 = .ok (.aload_n 0, 1) := by decide +kernel
theorem dX3_correct_20 : decode cX3_correct 20 = .ok (.getfield 26, 3) := by decide +kernel
theorem dX3_correct_23 : decode cX3_correct 23 = .ok (.aload_n 0, 1) := by decide +kernel
theorem dX3_correct_24 : decode cX3_correct 24 = .ok (.getfield 30, 3) := by decide +kernel
theorem dX3_correct_27 : decode cX3_correct 27 = .ok (.iload_n 1, 1) := by decide +kernel
theorem dX3_correct_28 : decode cX3_correct 28 = .ok (.lload_n 2, 1) := by decide +kernel
theorem dX3_correct_29 : decode cX3_correct 29 = .ok (.invokevirtual 99, 3) := by decide +kernel
theorem dX3_correct_32 : decode cX3_correct 32 = .ok (.aload_n 0, 1) := by decide +kernel
theorem dX3_correct_33 : decode cX3_correct 33 = .ok (.getfield 19, 3) := by decide +kernel
theorem dX3_correct_36 : decode cX3_correct 36 = .ok (.getfield 103, 3) := by decide +kernel
theorem dX3_correct_39 : decode cX3_correct 39 = .ok (.aload_n 0, 1) := by decide +kernel
theorem dX3_correct_40 : decode cX3_correct 40 = .ok (.getfield 10, 3) := by decide +kernel
theorem dX3_correct_43 : decode cX3_correct 43 = .ok (.iconst 0, 1) := by decide +kernel
theorem dX3_correct_44 : decode cX3_correct 44 = .ok (.invokevirtual 131, 3) := by decide +kernel
theorem dX3_correct_47 : decode cX3_correct 47 = .ok (.getfield 110, 3) := by decide +kernel
theorem dX3_correct_50 : decode cX3_correct 50 = .ok (.invokevirtual 138, 3) := by decide +kernel
theorem dX3_correct_53 : decode cX3_correct 53 = .ok (.aload_n 0, 1) := by decide +kernel
theorem dX3_correct_54 : decode cX3_correct 54 = .ok (.getfield 19, 3) := by decide +kernel
theorem dX3_correct_57 : decode cX3_correct 57 = .ok (.getfield 128, 3) := by decide +kernel
theorem dX3_correct_60 : decode cX3_correct 60 = .ok (.aload_n 0, 1) := by decide +kernel
theorem dX3_correct_61 : decode cX3_correct 61 = .ok (.getfield 10, 3) := by decide +kernel
theorem dX3_correct_64 : decode cX3_correct 64 = .ok (.iconst 1, 1) := by decide +kernel
theorem dX3_correct_65 : decode cX3_correct 65 = .ok (.invokevirtual 131, 3) := by decide +kernel
theorem dX3_correct_68 : decode cX3_correct 68 = .ok (.getfield 110, 3) := by decide +kernel
theorem dX3_correct_71 : decode cX3_correct 71 = .ok (.invokevirtual 138, 3) := by decide +kernel
theorem dX3_correct_74 : decode cX3_correct 74 = .ok (.aload_n 0, 1) := by decide +kernel
theorem dX3_correct_75 : decode cX3_correct 75 = .ok (.getfield 19, 3) := by decide +kernel
theorem dX3_correct_78 : decode cX3_correct 78 = .ok (.aload_n 0, 1) := by decide +kernel
theorem dX3_correct_79 : decode cX3_correct 79 = .ok (.getfield 10, 3) := by decide +kernel
theorem dX3_correct_82 : decode cX3_correct 82 = .ok (.iconst 0, 1) := by decide +kernel
theorem dX3_correct_83 : decode cX3_correct 83 = .ok (.invokevirtual 131, 3) := by decide +kernel
theorem dX3_correct_86 : decode cX3_correct 86 = .ok (.aload_n 0, 1) := by decide +kernel
theorem dX3_correct_87 : decode cX3_correct 87 = .ok (.getfield 10, 3) := by decide +kernel
theorem dX3_correct_90 : decode cX3_correct 90 = .ok (.iconst 1, 1) := by decide +kernel
theorem dX3_correct_91 : decode cX3_correct 91 = .ok (.invokevirtual 131, 3) := by decide +kernel
theorem dX3_correct_94 : decode cX3_correct 94 = .ok (.aload_n 0, 1) := by decide +kernel
theorem dX3_correct_95 : decode cX3_correct 95 = .ok (.getfield 26, 3) := by decide +kernel
theorem dX3_correct_98 : decode cX3_correct 98 = .ok (.aload_n 0, 1) := by decide +kernel
theorem dX3_correct_99 : decode cX3_correct 99 = .ok (.getfield 30, 3) := by decide +kernel
theorem dX3_correct_102 : decode cX3_correct 102 = .ok (.lload_n 2, 1) := by decide +kernel
theorem dX3_correct_103 : decode cX3_correct 103 = .ok (.invokevirtual 134, 3) := by decide +kernel
theorem dX3_correct_106 : decode cX3_correct 106 = .ok (.ifCond .ne 5, 3) := by decide +kernel
theorem dX3_correct_109 : decode cX3_correct 109 = .ok (.iconst 0, 1) := by decide +kernel
theorem dX3_correct_110 : decode cX3_correct 110 = .ok (.ireturn, 1) := by decide +kernel
theorem dX3_correct_111 : decode cX3_correct 111 = .ok (.aload_n 0, 1) := by decide +kernel
theorem dX3_correct_112 : decode cX3_correct 112 = .ok (.getfield 19, 3) := by decide +kernel
theorem dX3_correct_115 : decode cX3_correct 115 = .ok (.invokevirtual 141, 3) := by decide +kernel
theorem dX3_correct_118 : decode cX3_correct 118 = .ok (.lstore 7, 2) := by decide +kernel
theorem dX3_correct_120 : decode cX3_correct 120 = .ok (.lload 7, 2) := by decide +kernel
theorem dX3_correct_122 : decode cX3_correct 122 = .ok (.aload_n 0, 1) := by decide +kernel
theorem dX3_correct_123 : decode cX3_correct 123 = .ok (.getfield 50, 3) := by decide +kernel
theorem dX3_correct_126 : decode cX3_correct 126 = .ok (.i2l, 1) := by decide +kernel
theorem dX3_correct_127 : decode cX3_correct 127 = .ok (.lcmp, 1) := by decide +kernel
theorem dX3_correct_128 : decode cX3_correct 128 = .ok (.ifCond .gt 5, 3) := by decide +kernel
theorem dX3_correct_131 : decode cX3_correct 131 = .ok (.iconst 1, 1) := by decide +kernel
theorem dX3_correct_132 : decode cX3_correct 132 = .ok (.ireturn, 1) := by decide +kernel
theorem dX3_correct_133 : decode cX3_correct 133 = .ok (.iload 6, 2) := by decide +kernel
theorem dX3_correct_135 : decode cX3_correct 135 = .ok (.ifCond .le 17, 3) := by decide +kernel
theorem dX3_correct_138 : decode cX3_correct 138 = .ok (.lload 7, 2) := by decide +kernel
theorem dX3_correct_140 : decode cX3_correct 140 = .ok (.lload 4, 2) := by decide +kernel
theorem dX3_correct_142 : decode cX3_correct 142 = .ok (.ldc2_w 144, 3) := by decide +kernel
theorem dX3_correct_145 : decode cX3_correct 145 = .ok (.ldiv, 1) := by decide +kernel
theorem dX3_correct_146 : decode cX3_correct 146 = .ok (.lcmp, 1) := by decide +kernel
theorem dX3_correct_147 : decode cX3_correct 147 = .ok (.ifCond .le 5, 3) := by decide +kernel
theorem dX3_correct_150 : decode cX3_correct 150 = .ok (.iconst 0, 1) := by decide +kernel
theorem dX3_correct_151 : decode cX3_correct 151 = .ok (.ireturn, 1) := by decide +kernel
theorem dX3_correct_152 : decode cX3_correct 152 = .ok (.lload 7, 2) := by decide +kernel
theorem dX3_correct_154 : decode cX3_correct 154 = .ok (.lstore 4, 2) := by decide +kernel
theorem dX3_correct_156 : decode cX3_correct 156 = .ok (.iinc 6 1, 3) := by decide +kernel
theorem dX3_correct_159 : decode cX3_correct 159 = .ok (.goto (-153), 3) := by decide +kernel
theorem dX3_correct_162 : decode cX3_correct 162 = .ok (.iconst 0, 1) := by decide +kernel
theorem dX3_correct_163 : decode cX3_correct 163 = .ok (.ireturn, 1) := by decide +kernel
set_option maxHeartbeats 4000000 in
set_option maxRecDepth 100000 in
theorem t_X3_correct (l : Launch) (D : xD) (z n : Nat) (G : xG) (I : xI) (L : xL) (f : Nat) (P : Nat) (u : Int64) (R : Nat) (Y : xSy) (hF : shF G f) (zf : z ≤ f) (hP : P ≤ 1024) (hu : ¬ u = 0) (hR : I f 5 = nI R) (hR9 : R ≤ 9) (hA : aimedS I (f + 1) Y) : xM0 l D z yX3_correct cX3_correct 9 (some .boolean) 4 104 [.ref f, .int (nI P), .long u] n G I L (fun v' I' L' => v' = (some (.int (if (coN Y P u (I f 6) R 0 0 (rd L (f + 66)) (rd L (f + 67))).isSome then 1 else 0))) ∧ I' = I ∧ (∀ c, coN Y P u (I f 6) R 0 0 (rd L (f + 66)) (rd L (f + 67)) = some c → rd L' (f + 66) = c.1 ∧ rd L' (f + 67) = c.2) ∧ (∀ a, (a < f ∨ f + 68 ≤ a) → L' a = L a)) := by
  refine xM.of (by decide) (Nat.le_of_ble_eq_true rfl) (fun p e s m args below meth c C hnm hsz => ?_)
  refine x_lv [(0, .ref f), (1, .int (nI P)), (2, .long u)] rfl ?_
  refine x_lconst 0 C (v := 0) dX3_correct_0 rfl ?_
  refine x_lstore 1 C [(4, .long 0), (0, .ref f), (1, .int (nI P)), (2, .long u)] dX3_correct_1 (by decide) rfl ?_
  refine x_iconst 3 C (v := 0) dX3_correct_3 rfl ?_
  refine x_istore 4 C [(6, .int 0), (4, .long 0), (0, .ref f), (1, .int (nI P)), (2, .long u)] dX3_correct_4 (by decide) rfl ?_
  have loop6 : ∀ (fuel : Nat) (i : Nat) (Lk : xL) (bf : Int64), (i ≤ R) → (R + 1 ≤ i + fuel) → (coN Y P u (I f 6) R 0 0 (rd L (f + 66)) (rd L (f + 67)) = coN Y P u (I f 6) (R - i) i bf (rd Lk (f + 66)) (rd Lk (f + 67))) → (∀ a, (a < f ∨ f + 68 ≤ a) → Lk a = L a) → X p l e (xRm 4 104 0 0) s m args below meth c D z 9 (MQ below (xQc D z n (xN n G (fun v' I' L' => v' = (some (.int (if (coN Y P u (I f 6) R 0 0 (rd L (f + 66)) (rd L (f + 67))).isSome then 1 else 0))) ∧ I' = I ∧ (∀ c, coN Y P u (I f 6) R 0 0 (rd L (f + 66)) (rd L (f + 67)) = some c → rd L' (f + 66) = c.1 ∧ rd L' (f + 67) = c.2) ∧ (∀ a, (a < f ∨ f + 68 ≤ a) → L' a = L a)))) args s 0 0 (fun a => z ≤ a)) 0 0 n G I Lk 6 [(0, .ref f), (1, .int (nI P)), (2, .long u), (4, .long bf), (6, .int (nI i))] [] := by
    intro fuel
    induction fuel with
    | zero =>
      intro i Lk bf hi hf hS hfr
      exact absurd hf (by omega)
    | succ fuel ih =>
      intro i Lk bf hi hf hS hfr
      refine x_iload 6 C dX3_correct_6 4 rfl ?_
      refine x_aload_n 8 C dX3_correct_8 rfl 0 rfl ?_
      refine x_geti 9 C dX3_correct_9 ff_X3_47 hF.1 ?_
      refine x_int (nI R) hR ?_
      refine x_icmp_ge 12 C 162 dX3_correct_12 (by decide) (fun c1 => ?_) (fun c1 => ?_)
      · skip
        have c1n : R ≤ i := (nI_leI (a := R) (b := i) (by omega) (by omega)).mp c1
        have c1o := Int32.not_lt.mpr c1
        refine x_iconst 162 C (v := 0) dX3_correct_162 rfl ?_
        refine x_iret 163 C dX3_correct_163 rfl rfl (Nat.le_refl _) (xN.intro ?_)
        have hz : coN Y P u (I f 6) R 0 0 (rd L (f + 66)) (rd L (f + 67)) = none := by rw [hS, show R - i = 0 by omega, coN]
        exact ⟨by rw [hz]; rfl, rfl, (fun c hc => by rw [hz] at hc; cases hc), hfr⟩
      · skip
        have c1n : ¬ (R ≤ i) := fun h => c1 ((nI_leI (a := R) (b := i) (by omega) (by omega)).mpr h)
        have c1o := Int32.not_le.mp c1
        refine x_aload_n 15 C dX3_correct_15 rfl 0 rfl ?_
        refine x_getr 16 C (b := f + 1) dX3_correct_16 ff_X3_10 rfl hF.1 rfl ?_
        refine x_aload_n 19 C dX3_correct_19 rfl 0 rfl ?_
        refine x_getr 20 C (b := f + 66) dX3_correct_20 ff_X3_26 rfl hF.1 rfl ?_
        refine x_aload_n 23 C dX3_correct_23 rfl 0 rfl ?_
        refine x_getr 24 C (b := f + 67) dX3_correct_24 ff_X3_30 rfl hF.1 rfl ?_
        refine x_iload_n 27 C dX3_correct_27 rfl 1 rfl ?_
        refine x_lload_n 28 C dX3_correct_28 rfl 2 rfl ?_
        refine x_callVp 29 C dX3_correct_29 (As := [.ref (f + 66), .ref (f + 67), .int (nI P), .long u]) (rest := []) (t_X5_evaluate l D z n G I Lk (f + 1) (f + 66) (f + 67) P u Y.1 Y.2.1 Y.2.2.1 Y.2.2.2.1 Y.2.2.2.2.1 Y.2.2.2.2.2.1 Y.2.2.2.2.2.2.1 Y.2.2.2.2.2.2.2 hF.2.1 hF.2.2.2.1 hF.2.2.2.2 (by omega) (by first | assumption | omega | decide) (by first | assumption | omega | decide) (by first | assumption | omega | decide) (by first | assumption | omega | decide) hA) mt_X5_evaluate km_X3_99 ki_X5_evaluate ks_X5_evaluate hF.2.1.1 ⟨by decide, rfl⟩ rfl (Nat.le_of_ble_eq_true rfl) ⟨⟨by decide, by decide⟩, by decide, by decide⟩ (fun w2 I3 L4 hw2 => ?_)
        obtain ⟨hw2v, eI3, hw2r0, hw2r1, hw2r2, hw2r3, hw2r4, hw2r5, hw2r6, hw2r7, hw2r8, hw2r9, hw2r10, hw2r11, hw2r12, hw2r13, hw2r14, hw2r15, hw2r16, hw2r17, hw2r18⟩ := hw2
        subst hw2v
        refine x_st [] rfl ?_
        replace eI3 := eI3.symm; subst eI3
        have k5 : rd L4 (f + 1 + 26 + 20 * 0 + 1) = evV Y.1 Y.2.1 (powC (rd Lk (f + 66)) (rd Lk (f + 67)) u) 10 := hw2r0
        have k6 : rd L4 (f + 1 + 26 + 20 * 0 + 2) = evX Y.1 Y.2.1 (powC (rd Lk (f + 66)) (rd Lk (f + 67)) u) 10 := hw2r1
        have k7 : rd L4 (f + 1 + 26 + 20 * 0 + 3) = evY Y.1 Y.2.1 (powC (rd Lk (f + 66)) (rd Lk (f + 67)) u) 10 := hw2r2
        have k8 : rd L4 (f + 1 + 30 + 20 * 0 + 1) = sB evV Y.2.2.2.2.1 Y.2.2.2.2.2.2.1 Y.2.2.2.2.2.2.2 (rd Lk (f + 66)) (rd Lk (f + 67)) u := hw2r3
        have k9 : rd L4 (f + 1 + 30 + 20 * 0 + 2) = sB evX Y.2.2.2.2.1 Y.2.2.2.2.2.2.1 Y.2.2.2.2.2.2.2 (rd Lk (f + 66)) (rd Lk (f + 67)) u := hw2r4
        have k10 : rd L4 (f + 1 + 30 + 20 * 0 + 3) = sB evY Y.2.2.2.2.1 Y.2.2.2.2.2.2.1 Y.2.2.2.2.2.2.2 (rd Lk (f + 66)) (rd Lk (f + 67)) u := hw2r5
        have k11 : rd L4 (f + 1 + 34 + 20 * 0 + 1) = sM evV Y.1 Y.2.1 Y.2.2.2.2.1 Y.2.2.2.2.2.2.1 Y.2.2.2.2.2.2.2 P (rd Lk (f + 66)) (rd Lk (f + 67)) u := hw2r6
        have k12 : rd L4 (f + 1 + 34 + 20 * 0 + 2) = sM evX Y.1 Y.2.1 Y.2.2.2.2.1 Y.2.2.2.2.2.2.1 Y.2.2.2.2.2.2.2 P (rd Lk (f + 66)) (rd Lk (f + 67)) u := hw2r7
        have k13 : rd L4 (f + 1 + 34 + 20 * 0 + 3) = sM evY Y.1 Y.2.1 Y.2.2.2.2.1 Y.2.2.2.2.2.2.1 Y.2.2.2.2.2.2.2 P (rd Lk (f + 66)) (rd Lk (f + 67)) u := hw2r8
        have k14 : rd L4 (f + 1 + 26 + 20 * 1 + 1) = evV Y.2.2.1 Y.2.2.2.1 (powC (rd Lk (f + 66)) (rd Lk (f + 67)) u) 10 := hw2r9
        have k15 : rd L4 (f + 1 + 26 + 20 * 1 + 2) = evX Y.2.2.1 Y.2.2.2.1 (powC (rd Lk (f + 66)) (rd Lk (f + 67)) u) 10 := hw2r10
        have k16 : rd L4 (f + 1 + 26 + 20 * 1 + 3) = evY Y.2.2.1 Y.2.2.2.1 (powC (rd Lk (f + 66)) (rd Lk (f + 67)) u) 10 := hw2r11
        have k17 : rd L4 (f + 1 + 30 + 20 * 1 + 1) = sB evV Y.2.2.2.2.2.1 Y.2.2.2.2.2.2.1 Y.2.2.2.2.2.2.2 (rd Lk (f + 66)) (rd Lk (f + 67)) u := hw2r12
        have k18 : rd L4 (f + 1 + 30 + 20 * 1 + 2) = sB evX Y.2.2.2.2.2.1 Y.2.2.2.2.2.2.1 Y.2.2.2.2.2.2.2 (rd Lk (f + 66)) (rd Lk (f + 67)) u := hw2r13
        have k19 : rd L4 (f + 1 + 30 + 20 * 1 + 3) = sB evY Y.2.2.2.2.2.1 Y.2.2.2.2.2.2.1 Y.2.2.2.2.2.2.2 (rd Lk (f + 66)) (rd Lk (f + 67)) u := hw2r14
        have k20 : rd L4 (f + 1 + 34 + 20 * 1 + 1) = sM evV Y.2.2.1 Y.2.2.2.1 Y.2.2.2.2.2.1 Y.2.2.2.2.2.2.1 Y.2.2.2.2.2.2.2 P (rd Lk (f + 66)) (rd Lk (f + 67)) u := hw2r15
        have k21 : rd L4 (f + 1 + 34 + 20 * 1 + 2) = sM evX Y.2.2.1 Y.2.2.2.1 Y.2.2.2.2.2.1 Y.2.2.2.2.2.2.1 Y.2.2.2.2.2.2.2 P (rd Lk (f + 66)) (rd Lk (f + 67)) u := hw2r16
        have k22 : rd L4 (f + 1 + 34 + 20 * 1 + 3) = sM evY Y.2.2.1 Y.2.2.2.1 Y.2.2.2.2.2.1 Y.2.2.2.2.2.2.1 Y.2.2.2.2.2.2.2 P (rd Lk (f + 66)) (rd Lk (f + 67)) u := hw2r17
        have k23 : rd L4 (f + 59 + 1 + 0) = rd Lk (f + 59 + 1 + 0) := (rd_congr (hw2r18 (f + 59 + 1 + 0) (by omega))).trans rfl
        have k24 : rd L4 (f + 59 + 1 + 1) = rd Lk (f + 59 + 1 + 1) := (rd_congr (hw2r18 (f + 59 + 1 + 1) (by omega))).trans rfl
        have k25 : rd L4 (f + 59 + 1 + 2) = rd Lk (f + 59 + 1 + 2) := (rd_congr (hw2r18 (f + 59 + 1 + 2) (by omega))).trans rfl
        have k26 : rd L4 (f + 59 + 1 + 3) = rd Lk (f + 59 + 1 + 3) := (rd_congr (hw2r18 (f + 59 + 1 + 3) (by omega))).trans rfl
        have k27 : rd L4 (f + 66) = rd Lk (f + 66) := (rd_congr (hw2r18 (f + 66) (by omega))).trans rfl
        have k28 : rd L4 (f + 67) = rd Lk (f + 67) := (rd_congr (hw2r18 (f + 67) (by omega))).trans rfl
        have k29 : rd L4 (f + 1 + 26 + 20 * 0 + 1) = syE0 Y evV (rd Lk (f + 66)) (rd Lk (f + 67)) u := k5
        have k30 : rd L4 (f + 1 + 26 + 20 * 0 + 2) = syE0 Y evX (rd Lk (f + 66)) (rd Lk (f + 67)) u := k6
        have k31 : rd L4 (f + 1 + 26 + 20 * 0 + 3) = syE0 Y evY (rd Lk (f + 66)) (rd Lk (f + 67)) u := k7
        have k32 : rd L4 (f + 1 + 30 + 20 * 0 + 1) = syB0 Y evV (rd Lk (f + 66)) (rd Lk (f + 67)) u := k8
        have k33 : rd L4 (f + 1 + 30 + 20 * 0 + 2) = syB0 Y evX (rd Lk (f + 66)) (rd Lk (f + 67)) u := k9
        have k34 : rd L4 (f + 1 + 30 + 20 * 0 + 3) = syB0 Y evY (rd Lk (f + 66)) (rd Lk (f + 67)) u := k10
        have k35 : rd L4 (f + 1 + 34 + 20 * 0 + 1) = syM0 Y P evV (rd Lk (f + 66)) (rd Lk (f + 67)) u := k11
        have k36 : rd L4 (f + 1 + 34 + 20 * 0 + 2) = syM0 Y P evX (rd Lk (f + 66)) (rd Lk (f + 67)) u := k12
        have k37 : rd L4 (f + 1 + 34 + 20 * 0 + 3) = syM0 Y P evY (rd Lk (f + 66)) (rd Lk (f + 67)) u := k13
        have k38 : rd L4 (f + 1 + 26 + 20 * 1 + 1) = syE1 Y evV (rd Lk (f + 66)) (rd Lk (f + 67)) u := k14
        have k39 : rd L4 (f + 1 + 26 + 20 * 1 + 2) = syE1 Y evX (rd Lk (f + 66)) (rd Lk (f + 67)) u := k15
        have k40 : rd L4 (f + 1 + 26 + 20 * 1 + 3) = syE1 Y evY (rd Lk (f + 66)) (rd Lk (f + 67)) u := k16
        have k41 : rd L4 (f + 1 + 30 + 20 * 1 + 1) = syB1 Y evV (rd Lk (f + 66)) (rd Lk (f + 67)) u := k17
        have k42 : rd L4 (f + 1 + 30 + 20 * 1 + 2) = syB1 Y evX (rd Lk (f + 66)) (rd Lk (f + 67)) u := k18
        have k43 : rd L4 (f + 1 + 30 + 20 * 1 + 3) = syB1 Y evY (rd Lk (f + 66)) (rd Lk (f + 67)) u := k19
        have k44 : rd L4 (f + 1 + 34 + 20 * 1 + 1) = syM1 Y P evV (rd Lk (f + 66)) (rd Lk (f + 67)) u := k20
        have k45 : rd L4 (f + 1 + 34 + 20 * 1 + 2) = syM1 Y P evX (rd Lk (f + 66)) (rd Lk (f + 67)) u := k21
        have k46 : rd L4 (f + 1 + 34 + 20 * 1 + 3) = syM1 Y P evY (rd Lk (f + 66)) (rd Lk (f + 67)) u := k22
        refine x_aload_n 32 C dX3_correct_32 rfl 0 rfl ?_
        refine x_getr 33 C (b := f + 59) dX3_correct_33 ff_X3_19 rfl hF.1 rfl ?_
        refine x_getr 36 C (b := f + 59 + 1 + 0) dX3_correct_36 ff_X3_103 rfl hF.2.2.1.1 rfl ?_
        refine x_aload_n 39 C dX3_correct_39 rfl 0 rfl ?_
        refine x_getr 40 C (b := f + 1) dX3_correct_40 ff_X3_10 rfl hF.1 rfl ?_
        refine x_iconst 43 C (v := 0) dX3_correct_43 rfl ?_
        refine x_callVe 44 C dX3_correct_44 (As := [.int 0]) (rest := [.ref (f + 59 + 1 + 0)]) [.ref (f + 1 + 34 + 20 * 0), .ref (f + 59 + 1 + 0)] (t_X5_mix l D z n G I L4 (f + 1) 0 hF.2.1 (by first | assumption | omega | decide)) mt_X5_mix km_X3_131 ki_X5_mix ks_X5_mix hF.2.1.1 ⟨by decide, rfl⟩ rfl rfl (Nat.le_of_ble_eq_true rfl) ⟨⟨by decide, by decide⟩, by decide, by decide⟩ (fun I47 L48 eI47 eL48 => ?_)
        replace eI47 := eI47.symm; subst eI47
        replace eL48 := eL48.symm; subst eL48
        refine x_getr 47 C (b := f + 1 + 34 + 20 * 0 + 1) dX3_correct_47 ff_X3_110 rfl (hF.2.1.2.2.2.2.2.2.2 0 (by decide)).2.2.2.2.1 rfl ?_
        refine x_callVe 50 C dX3_correct_50 (As := [.ref (f + 1 + 34 + 20 * 0 + 1)]) (rest := []) [] (t_X0_putNegative_c l D z n G I L4 (f + 59 + 1 + 0) (f + 1 + 34 + 20 * 0 + 1) (hF.2.2.1.2 0 (by decide)) (hF.2.1.2.2.2.2.2.2.2 0 (by decide)).2.2.2.2.2.1 (by omega)) mt_X0_putNegative km_X3_138 ki_X0_putNegative ks_X0_putNegative (hF.2.2.1.2 0 (by decide)) ⟨by decide, rfl⟩ rfl rfl (Nat.le_of_ble_eq_true rfl) ⟨⟨by decide, by decide⟩, by decide, by decide⟩ (fun I49 L50 eI49 eL50 => ?_)
        replace eI49 := eI49.symm; subst eI49
        have k51 : rd L50 (f + 1 + 26 + 20 * 0 + 1) = syE0 Y evV (rd Lk (f + 66)) (rd Lk (f + 67)) u := by rw [eL50, rd_cw_ne _ _ (by omega)]; exact k29
        have k52 : rd L50 (f + 1 + 26 + 20 * 0 + 2) = syE0 Y evX (rd Lk (f + 66)) (rd Lk (f + 67)) u := by rw [eL50, rd_cw_ne _ _ (by omega)]; exact k30
        have k53 : rd L50 (f + 1 + 26 + 20 * 0 + 3) = syE0 Y evY (rd Lk (f + 66)) (rd Lk (f + 67)) u := by rw [eL50, rd_cw_ne _ _ (by omega)]; exact k31
        have k54 : rd L50 (f + 1 + 30 + 20 * 0 + 1) = syB0 Y evV (rd Lk (f + 66)) (rd Lk (f + 67)) u := by rw [eL50, rd_cw_ne _ _ (by omega)]; exact k32
        have k55 : rd L50 (f + 1 + 30 + 20 * 0 + 2) = syB0 Y evX (rd Lk (f + 66)) (rd Lk (f + 67)) u := by rw [eL50, rd_cw_ne _ _ (by omega)]; exact k33
        have k56 : rd L50 (f + 1 + 30 + 20 * 0 + 3) = syB0 Y evY (rd Lk (f + 66)) (rd Lk (f + 67)) u := by rw [eL50, rd_cw_ne _ _ (by omega)]; exact k34
        have k57 : rd L50 (f + 1 + 34 + 20 * 0 + 1) = syM0 Y P evV (rd Lk (f + 66)) (rd Lk (f + 67)) u := by rw [eL50, rd_cw_ne _ _ (by omega)]; exact k35
        have k58 : rd L50 (f + 1 + 34 + 20 * 0 + 2) = syM0 Y P evX (rd Lk (f + 66)) (rd Lk (f + 67)) u := by rw [eL50, rd_cw_ne _ _ (by omega)]; exact k36
        have k59 : rd L50 (f + 1 + 34 + 20 * 0 + 3) = syM0 Y P evY (rd Lk (f + 66)) (rd Lk (f + 67)) u := by rw [eL50, rd_cw_ne _ _ (by omega)]; exact k37
        have k60 : rd L50 (f + 1 + 26 + 20 * 1 + 1) = syE1 Y evV (rd Lk (f + 66)) (rd Lk (f + 67)) u := by rw [eL50, rd_cw_ne _ _ (by omega)]; exact k38
        have k61 : rd L50 (f + 1 + 26 + 20 * 1 + 2) = syE1 Y evX (rd Lk (f + 66)) (rd Lk (f + 67)) u := by rw [eL50, rd_cw_ne _ _ (by omega)]; exact k39
        have k62 : rd L50 (f + 1 + 26 + 20 * 1 + 3) = syE1 Y evY (rd Lk (f + 66)) (rd Lk (f + 67)) u := by rw [eL50, rd_cw_ne _ _ (by omega)]; exact k40
        have k63 : rd L50 (f + 1 + 30 + 20 * 1 + 1) = syB1 Y evV (rd Lk (f + 66)) (rd Lk (f + 67)) u := by rw [eL50, rd_cw_ne _ _ (by omega)]; exact k41
        have k64 : rd L50 (f + 1 + 30 + 20 * 1 + 2) = syB1 Y evX (rd Lk (f + 66)) (rd Lk (f + 67)) u := by rw [eL50, rd_cw_ne _ _ (by omega)]; exact k42
        have k65 : rd L50 (f + 1 + 30 + 20 * 1 + 3) = syB1 Y evY (rd Lk (f + 66)) (rd Lk (f + 67)) u := by rw [eL50, rd_cw_ne _ _ (by omega)]; exact k43
        have k66 : rd L50 (f + 1 + 34 + 20 * 1 + 1) = syM1 Y P evV (rd Lk (f + 66)) (rd Lk (f + 67)) u := by rw [eL50, rd_cw_ne _ _ (by omega)]; exact k44
        have k67 : rd L50 (f + 1 + 34 + 20 * 1 + 2) = syM1 Y P evX (rd Lk (f + 66)) (rd Lk (f + 67)) u := by rw [eL50, rd_cw_ne _ _ (by omega)]; exact k45
        have k68 : rd L50 (f + 1 + 34 + 20 * 1 + 3) = syM1 Y P evY (rd Lk (f + 66)) (rd Lk (f + 67)) u := by rw [eL50, rd_cw_ne _ _ (by omega)]; exact k46
        have k69 : rd L50 (f + 59 + 1 + 0) = negC (syM0 Y P evV (rd Lk (f + 66)) (rd Lk (f + 67)) u) := by rw [eL50, rd_cw]; simp only [k35]
        have k70 : rd L50 (f + 59 + 1 + 1) = rd Lk (f + 59 + 1 + 1) := by rw [eL50, rd_cw_ne _ _ (by omega)]; exact k24
        have k71 : rd L50 (f + 59 + 1 + 2) = rd Lk (f + 59 + 1 + 2) := by rw [eL50, rd_cw_ne _ _ (by omega)]; exact k25
        have k72 : rd L50 (f + 59 + 1 + 3) = rd Lk (f + 59 + 1 + 3) := by rw [eL50, rd_cw_ne _ _ (by omega)]; exact k26
        have k73 : rd L50 (f + 66) = rd Lk (f + 66) := by rw [eL50, rd_cw_ne _ _ (by omega)]; exact k27
        have k74 : rd L50 (f + 67) = rd Lk (f + 67) := by rw [eL50, rd_cw_ne _ _ (by omega)]; exact k28
        refine x_aload_n 53 C dX3_correct_53 rfl 0 rfl ?_
        refine x_getr 54 C (b := f + 59) dX3_correct_54 ff_X3_19 rfl hF.1 rfl ?_
        refine x_getr 57 C (b := f + 59 + 1 + 1) dX3_correct_57 ff_X3_128 rfl hF.2.2.1.1 rfl ?_
        refine x_aload_n 60 C dX3_correct_60 rfl 0 rfl ?_
        refine x_getr 61 C (b := f + 1) dX3_correct_61 ff_X3_10 rfl hF.1 rfl ?_
        refine x_iconst 64 C (v := 1) dX3_correct_64 rfl ?_
        refine x_callVe 65 C dX3_correct_65 (As := [.int 1]) (rest := [.ref (f + 59 + 1 + 1)]) [.ref (f + 1 + 34 + 20 * 1), .ref (f + 59 + 1 + 1)] (t_X5_mix l D z n G I L50 (f + 1) 1 hF.2.1 (by first | assumption | omega | decide)) mt_X5_mix km_X3_131 ki_X5_mix ks_X5_mix hF.2.1.1 ⟨by decide, rfl⟩ rfl rfl (Nat.le_of_ble_eq_true rfl) ⟨⟨by decide, by decide⟩, by decide, by decide⟩ (fun I75 L76 eI75 eL76 => ?_)
        replace eI75 := eI75.symm; subst eI75
        replace eL76 := eL76.symm; subst eL76
        refine x_getr 68 C (b := f + 1 + 34 + 20 * 1 + 1) dX3_correct_68 ff_X3_110 rfl (hF.2.1.2.2.2.2.2.2.2 1 (by decide)).2.2.2.2.1 rfl ?_
        refine x_callVe 71 C dX3_correct_71 (As := [.ref (f + 1 + 34 + 20 * 1 + 1)]) (rest := []) [] (t_X0_putNegative_c l D z n G I L50 (f + 59 + 1 + 1) (f + 1 + 34 + 20 * 1 + 1) (hF.2.2.1.2 1 (by decide)) (hF.2.1.2.2.2.2.2.2.2 1 (by decide)).2.2.2.2.2.1 (by omega)) mt_X0_putNegative km_X3_138 ki_X0_putNegative ks_X0_putNegative (hF.2.2.1.2 1 (by decide)) ⟨by decide, rfl⟩ rfl rfl (Nat.le_of_ble_eq_true rfl) ⟨⟨by decide, by decide⟩, by decide, by decide⟩ (fun I77 L78 eI77 eL78 => ?_)
        replace eI77 := eI77.symm; subst eI77
        have k79 : rd L78 (f + 1 + 26 + 20 * 0 + 1) = syE0 Y evV (rd Lk (f + 66)) (rd Lk (f + 67)) u := by rw [eL78, rd_cw_ne _ _ (by omega)]; exact k51
        have k80 : rd L78 (f + 1 + 26 + 20 * 0 + 2) = syE0 Y evX (rd Lk (f + 66)) (rd Lk (f + 67)) u := by rw [eL78, rd_cw_ne _ _ (by omega)]; exact k52
        have k81 : rd L78 (f + 1 + 26 + 20 * 0 + 3) = syE0 Y evY (rd Lk (f + 66)) (rd Lk (f + 67)) u := by rw [eL78, rd_cw_ne _ _ (by omega)]; exact k53
        have k82 : rd L78 (f + 1 + 30 + 20 * 0 + 1) = syB0 Y evV (rd Lk (f + 66)) (rd Lk (f + 67)) u := by rw [eL78, rd_cw_ne _ _ (by omega)]; exact k54
        have k83 : rd L78 (f + 1 + 30 + 20 * 0 + 2) = syB0 Y evX (rd Lk (f + 66)) (rd Lk (f + 67)) u := by rw [eL78, rd_cw_ne _ _ (by omega)]; exact k55
        have k84 : rd L78 (f + 1 + 30 + 20 * 0 + 3) = syB0 Y evY (rd Lk (f + 66)) (rd Lk (f + 67)) u := by rw [eL78, rd_cw_ne _ _ (by omega)]; exact k56
        have k85 : rd L78 (f + 1 + 34 + 20 * 0 + 1) = syM0 Y P evV (rd Lk (f + 66)) (rd Lk (f + 67)) u := by rw [eL78, rd_cw_ne _ _ (by omega)]; exact k57
        have k86 : rd L78 (f + 1 + 34 + 20 * 0 + 2) = syM0 Y P evX (rd Lk (f + 66)) (rd Lk (f + 67)) u := by rw [eL78, rd_cw_ne _ _ (by omega)]; exact k58
        have k87 : rd L78 (f + 1 + 34 + 20 * 0 + 3) = syM0 Y P evY (rd Lk (f + 66)) (rd Lk (f + 67)) u := by rw [eL78, rd_cw_ne _ _ (by omega)]; exact k59
        have k88 : rd L78 (f + 1 + 26 + 20 * 1 + 1) = syE1 Y evV (rd Lk (f + 66)) (rd Lk (f + 67)) u := by rw [eL78, rd_cw_ne _ _ (by omega)]; exact k60
        have k89 : rd L78 (f + 1 + 26 + 20 * 1 + 2) = syE1 Y evX (rd Lk (f + 66)) (rd Lk (f + 67)) u := by rw [eL78, rd_cw_ne _ _ (by omega)]; exact k61
        have k90 : rd L78 (f + 1 + 26 + 20 * 1 + 3) = syE1 Y evY (rd Lk (f + 66)) (rd Lk (f + 67)) u := by rw [eL78, rd_cw_ne _ _ (by omega)]; exact k62
        have k91 : rd L78 (f + 1 + 30 + 20 * 1 + 1) = syB1 Y evV (rd Lk (f + 66)) (rd Lk (f + 67)) u := by rw [eL78, rd_cw_ne _ _ (by omega)]; exact k63
        have k92 : rd L78 (f + 1 + 30 + 20 * 1 + 2) = syB1 Y evX (rd Lk (f + 66)) (rd Lk (f + 67)) u := by rw [eL78, rd_cw_ne _ _ (by omega)]; exact k64
        have k93 : rd L78 (f + 1 + 30 + 20 * 1 + 3) = syB1 Y evY (rd Lk (f + 66)) (rd Lk (f + 67)) u := by rw [eL78, rd_cw_ne _ _ (by omega)]; exact k65
        have k94 : rd L78 (f + 1 + 34 + 20 * 1 + 1) = syM1 Y P evV (rd Lk (f + 66)) (rd Lk (f + 67)) u := by rw [eL78, rd_cw_ne _ _ (by omega)]; exact k66
        have k95 : rd L78 (f + 1 + 34 + 20 * 1 + 2) = syM1 Y P evX (rd Lk (f + 66)) (rd Lk (f + 67)) u := by rw [eL78, rd_cw_ne _ _ (by omega)]; exact k67
        have k96 : rd L78 (f + 1 + 34 + 20 * 1 + 3) = syM1 Y P evY (rd Lk (f + 66)) (rd Lk (f + 67)) u := by rw [eL78, rd_cw_ne _ _ (by omega)]; exact k68
        have k97 : rd L78 (f + 59 + 1 + 0) = negC (syM0 Y P evV (rd Lk (f + 66)) (rd Lk (f + 67)) u) := by rw [eL78, rd_cw_ne _ _ (by omega)]; exact k69
        have k98 : rd L78 (f + 59 + 1 + 1) = negC (syM1 Y P evV (rd Lk (f + 66)) (rd Lk (f + 67)) u) := by rw [eL78, rd_cw]; simp only [k66]
        have k99 : rd L78 (f + 59 + 1 + 2) = rd Lk (f + 59 + 1 + 2) := by rw [eL78, rd_cw_ne _ _ (by omega)]; exact k71
        have k100 : rd L78 (f + 59 + 1 + 3) = rd Lk (f + 59 + 1 + 3) := by rw [eL78, rd_cw_ne _ _ (by omega)]; exact k72
        have k101 : rd L78 (f + 66) = rd Lk (f + 66) := by rw [eL78, rd_cw_ne _ _ (by omega)]; exact k73
        have k102 : rd L78 (f + 67) = rd Lk (f + 67) := by rw [eL78, rd_cw_ne _ _ (by omega)]; exact k74
        refine x_aload_n 74 C dX3_correct_74 rfl 0 rfl ?_
        refine x_getr 75 C (b := f + 59) dX3_correct_75 ff_X3_19 rfl hF.1 rfl ?_
        refine x_aload_n 78 C dX3_correct_78 rfl 0 rfl ?_
        refine x_getr 79 C (b := f + 1) dX3_correct_79 ff_X3_10 rfl hF.1 rfl ?_
        refine x_iconst 82 C (v := 0) dX3_correct_82 rfl ?_
        refine x_callVe 83 C dX3_correct_83 (As := [.int 0]) (rest := [.ref (f + 59)]) [.ref (f + 1 + 34 + 20 * 0), .ref (f + 59)] (t_X5_mix l D z n G I L78 (f + 1) 0 hF.2.1 (by first | assumption | omega | decide)) mt_X5_mix km_X3_131 ki_X5_mix ks_X5_mix hF.2.1.1 ⟨by decide, rfl⟩ rfl rfl (Nat.le_of_ble_eq_true rfl) ⟨⟨by decide, by decide⟩, by decide, by decide⟩ (fun I103 L104 eI103 eL104 => ?_)
        replace eI103 := eI103.symm; subst eI103
        replace eL104 := eL104.symm; subst eL104
        refine x_aload_n 86 C dX3_correct_86 rfl 0 rfl ?_
        refine x_getr 87 C (b := f + 1) dX3_correct_87 ff_X3_10 rfl hF.1 rfl ?_
        refine x_iconst 90 C (v := 1) dX3_correct_90 rfl ?_
        refine x_callVe 91 C dX3_correct_91 (As := [.int 1]) (rest := [.ref (f + 1 + 34 + 20 * 0), .ref (f + 59)]) [.ref (f + 1 + 34 + 20 * 1), .ref (f + 1 + 34 + 20 * 0), .ref (f + 59)] (t_X5_mix l D z n G I L78 (f + 1) 1 hF.2.1 (by first | assumption | omega | decide)) mt_X5_mix km_X3_131 ki_X5_mix ks_X5_mix hF.2.1.1 ⟨by decide, rfl⟩ rfl rfl (Nat.le_of_ble_eq_true rfl) ⟨⟨by decide, by decide⟩, by decide, by decide⟩ (fun I105 L106 eI105 eL106 => ?_)
        replace eI105 := eI105.symm; subst eI105
        replace eL106 := eL106.symm; subst eL106
        refine x_aload_n 94 C dX3_correct_94 rfl 0 rfl ?_
        refine x_getr 95 C (b := f + 66) dX3_correct_95 ff_X3_26 rfl hF.1 rfl ?_
        refine x_aload_n 98 C dX3_correct_98 rfl 0 rfl ?_
        refine x_getr 99 C (b := f + 67) dX3_correct_99 ff_X3_30 rfl hF.1 rfl ?_
        refine x_lload_n 102 C dX3_correct_102 rfl 2 rfl ?_
        refine x_callVp 103 C dX3_correct_103 (As := [.ref (f + 1 + 34 + 20 * 0), .ref (f + 1 + 34 + 20 * 1), .ref (f + 66), .ref (f + 67), .long u]) (rest := []) (t_X8_moveBySolution l D z n G I L78 (f + 59) (f + 1 + 34 + 20 * 0) (f + 1 + 34 + 20 * 1) (f + 66) (f + 67) u hF.2.2.1 (hF.2.1.2.2.2.2.2.2.2 0 (by decide)).2.2.2.2 (hF.2.1.2.2.2.2.2.2.2 1 (by decide)).2.2.2.2 hF.2.2.2.1 hF.2.2.2.2 (by omega) (by omega) (by omega) (by first | assumption | omega | decide) (by first | assumption | omega | decide) (by first | assumption | omega | decide) (by first | assumption | omega | decide) (by first | assumption | omega | decide) (by first | assumption | omega | decide)) mt_X8_moveBySolution km_X3_134 ki_X8_moveBySolution ks_X8_moveBySolution hF.2.2.1.1 ⟨by decide, rfl⟩ rfl (Nat.le_of_ble_eq_true rfl) ⟨⟨by decide, by decide⟩, by decide, by decide⟩ (fun w107 I108 L109 hw107 => ?_)
        obtain ⟨hw107v, eI108, hw107r0, hw107r1, hw107r2, hw107r3⟩ := hw107
        subst hw107v
        refine x_st [.int (if solN u (rd L78 ((f + 1 + 34 + 20 * 0) + 2)) (rd L78 ((f + 1 + 34 + 20 * 0) + 3)) (rd L78 ((f + 1 + 34 + 20 * 1) + 2)) (rd L78 ((f + 1 + 34 + 20 * 1) + 3)) = 0 then 0 else 1)] rfl ?_
        replace eI108 := eI108.symm; subst eI108
        have k110 : rd L109 (f + 66) = if solN u (syM0 Y P evX (rd Lk (f + 66)) (rd Lk (f + 67)) u) (syM0 Y P evY (rd Lk (f + 66)) (rd Lk (f + 67)) u) (syM1 Y P evX (rd Lk (f + 66)) (rd Lk (f + 67)) u) (syM1 Y P evY (rd Lk (f + 66)) (rd Lk (f + 67)) u) = 0 then (rd Lk (f + 66)) else addC (rd Lk (f + 66)) (solU u (syM0 Y P evX (rd Lk (f + 66)) (rd Lk (f + 67)) u) (syM0 Y P evY (rd Lk (f + 66)) (rd Lk (f + 67)) u) (syM1 Y P evX (rd Lk (f + 66)) (rd Lk (f + 67)) u) (syM1 Y P evY (rd Lk (f + 66)) (rd Lk (f + 67)) u) (negC (syM0 Y P evV (rd Lk (f + 66)) (rd Lk (f + 67)) u)) (negC (syM1 Y P evV (rd Lk (f + 66)) (rd Lk (f + 67)) u))) := by rw [hw107r0]; simp only [k86, k87, k95, k96, k101, k97, k98]
        have k111 : rd L109 (f + 67) = if solN u (syM0 Y P evX (rd Lk (f + 66)) (rd Lk (f + 67)) u) (syM0 Y P evY (rd Lk (f + 66)) (rd Lk (f + 67)) u) (syM1 Y P evX (rd Lk (f + 66)) (rd Lk (f + 67)) u) (syM1 Y P evY (rd Lk (f + 66)) (rd Lk (f + 67)) u) = 0 then (rd Lk (f + 67)) else addC (rd Lk (f + 67)) (solV u (syM0 Y P evX (rd Lk (f + 66)) (rd Lk (f + 67)) u) (syM0 Y P evY (rd Lk (f + 66)) (rd Lk (f + 67)) u) (syM1 Y P evX (rd Lk (f + 66)) (rd Lk (f + 67)) u) (syM1 Y P evY (rd Lk (f + 66)) (rd Lk (f + 67)) u) (negC (syM0 Y P evV (rd Lk (f + 66)) (rd Lk (f + 67)) u)) (negC (syM1 Y P evV (rd Lk (f + 66)) (rd Lk (f + 67)) u))) := by rw [hw107r1]; simp only [k86, k87, k95, k96, k102, k97, k98]
        refine x_if_ne 106 C 111 dX3_correct_106 (by decide) (fun c112 => ?_) (fun c112 => ?_)
        · skip
          have hn := ite01n c112
          have hUV := hw107r2 hn
          simp only [k79, k80, k81, k82, k83, k84, k85, k86, k87, k88, k89, k90, k91, k92, k93, k94, k95, k96, k97, k98, k99, k100, k101, k102] at hn hUV
          have hn2 : ¬ syN Y P u (rd Lk (f + 66)) (rd Lk (f + 67)) = 0 := hn
          have k113 : rd L109 (f + 66) = addC (rd Lk (f + 66)) (coU Y P u (rd Lk (f + 66)) (rd Lk (f + 67))) := k110.trans (if_neg hn)
          have k114 : rd L109 (f + 67) = addC (rd Lk (f + 67)) (coV Y P u (rd Lk (f + 66)) (rd Lk (f + 67))) := k111.trans (if_neg hn)
          have k115 : rd L109 (f + 59 + 1 + 2) = coU Y P u (rd Lk (f + 66)) (rd Lk (f + 67)) := hUV.1
          have k116 : rd L109 (f + 59 + 1 + 3) = coV Y P u (rd Lk (f + 66)) (rd Lk (f + 67)) := hUV.2
          refine x_aload_n 111 C dX3_correct_111 rfl 0 rfl ?_
          refine x_getr 112 C (b := f + 59) dX3_correct_112 ff_X3_19 rfl hF.1 rfl ?_
          refine x_callVe 115 C dX3_correct_115 (As := []) (rest := []) [.long (lmax (sizC (rd L109 ((f + 59) + 1 + 2))) (sizC (rd L109 ((f + 59) + 1 + 3))))] (t_X8_solutionSize l D z n G I L109 (f + 59) hF.2.2.1) mt_X8_solutionSize km_X3_141 ki_X8_solutionSize ks_X8_solutionSize hF.2.2.1.1 ⟨by decide, rfl⟩ rfl rfl (Nat.le_of_ble_eq_true rfl) ⟨⟨by decide, by decide⟩, by decide, by decide⟩ (fun I117 L118 eI117 eL118 => ?_)
          replace eI117 := eI117.symm; subst eI117
          replace eL118 := eL118.symm; subst eL118
          refine x_long (coS Y P u (rd Lk (f + 66)) (rd Lk (f + 67))) (by rw [k115, k116]; rfl) ?_
          refine x_lstore 118 C [(7, .long (coS Y P u (rd Lk (f + 66)) (rd Lk (f + 67)))), (0, .ref f), (1, .int (nI P)), (2, .long u), (4, .long bf), (6, .int (nI i))] dX3_correct_118 (by decide) rfl ?_
          refine x_lload 120 C dX3_correct_120 0 rfl ?_
          refine x_aload_n 122 C dX3_correct_122 rfl 1 rfl ?_
          refine x_geti 123 C dX3_correct_123 ff_X3_50 hF.1 ?_
          refine x_i2l 126 C dX3_correct_126 ?_
          refine x_lc_gt 127 C 133 dX3_correct_127 dX3_correct_128 (by decide) (fun c119 => ?_) (fun c119 => ?_)
          · skip
            have c119o := Int64.not_le.mpr c119
            have hgt : ¬ coS Y P u (rd Lk (f + 66)) (rd Lk (f + 67)) ≤ (I f 6).toInt64 := Int64.not_le.mpr c119
            refine x_iload 133 C dX3_correct_133 5 rfl ?_
            refine x_if_le 135 C 152 dX3_correct_135 (by decide) (fun c120 => ?_) (fun c120 => ?_)
            · skip
              have c120n : i ≤ 0 := (nI_leI (a := i) (b := 0) (by omega) (by omega)).mp c120
              have c120o := Int32.not_lt.mpr c120
              have hlast : ¬ (0 < i ∧ ¬ coS Y P u (rd Lk (f + 66)) (rd Lk (f + 67)) ≤ bf / 2) := fun h => by omega
              refine x_lload 152 C dX3_correct_152 0 rfl ?_
              refine x_lstore 154 C [(4, .long (coS Y P u (rd Lk (f + 66)) (rd Lk (f + 67)))), (7, .long (coS Y P u (rd Lk (f + 66)) (rd Lk (f + 67)))), (0, .ref f), (1, .int (nI P)), (2, .long u), (6, .int (nI i))] dX3_correct_154 (by decide) rfl ?_
              refine x_iinc 156 C [(6, .int (nI (i + 1))), (4, .long (coS Y P u (rd Lk (f + 66)) (rd Lk (f + 67)))), (7, .long (coS Y P u (rd Lk (f + 66)) (rd Lk (f + 67)))), (0, .ref f), (1, .int (nI P)), (2, .long u)] dX3_correct_156 5 rfl (nI_add i 1) (by decide) rfl ?_
              refine x_goto 159 C 6 dX3_correct_159 (by decide) ?_
              refine x_sub [(0, .ref f), (1, .int (nI P)), (2, .long u), (4, .long (coS Y P u (rd Lk (f + 66)) (rd Lk (f + 67)))), (6, .int (nI (i + 1)))] [3, 4, 5, 1, 0] rfl ?_
              refine ih (i + 1) L109 (coS Y P u (rd Lk (f + 66)) (rd Lk (f + 67))) (by omega) (by omega) ?_ ?_
              · rw [hS]; rw [show R - i = (R - (i + 1)) + 1 by omega]; rw [coN, if_neg hn2, if_neg hgt, if_neg hlast, k113, k114]
              · intro a ha; rw [hw107r3 _ (by omega) (by omega) (by omega)]; rw [eL78, cw_ne _ _ (by omega)]; rw [eL50, cw_ne _ _ (by omega)]; rw [hw2r18 _ (by omega)]; exact hfr a ha
            · skip
              have c120n : ¬ (i ≤ 0) := fun h => c120 ((nI_leI (a := i) (b := 0) (by omega) (by omega)).mpr h)
              have c120o := Int32.not_le.mp c120
              refine x_lload 138 C dX3_correct_138 0 rfl ?_
              refine x_lload 140 C dX3_correct_140 4 rfl ?_
              refine x_ldc2 142 C 2 dX3_correct_142 kk_X3_144 ?_
              refine x_ldiv 145 C dX3_correct_145 (by first | assumption | decide) ?_
              refine x_lc_le 146 C 152 dX3_correct_146 dX3_correct_147 (by decide) (fun c121 => ?_) (fun c121 => ?_)
              · skip
                have c121o := Int64.not_lt.mpr c121
                have hlast : ¬ (0 < i ∧ ¬ coS Y P u (rd Lk (f + 66)) (rd Lk (f + 67)) ≤ bf / 2) := fun h => h.2 c121
                refine x_lload 152 C dX3_correct_152 0 rfl ?_
                refine x_lstore 154 C [(4, .long (coS Y P u (rd Lk (f + 66)) (rd Lk (f + 67)))), (7, .long (coS Y P u (rd Lk (f + 66)) (rd Lk (f + 67)))), (0, .ref f), (1, .int (nI P)), (2, .long u), (6, .int (nI i))] dX3_correct_154 (by decide) rfl ?_
                refine x_iinc 156 C [(6, .int (nI (i + 1))), (4, .long (coS Y P u (rd Lk (f + 66)) (rd Lk (f + 67)))), (7, .long (coS Y P u (rd Lk (f + 66)) (rd Lk (f + 67)))), (0, .ref f), (1, .int (nI P)), (2, .long u)] dX3_correct_156 5 rfl (nI_add i 1) (by decide) rfl ?_
                refine x_goto 159 C 6 dX3_correct_159 (by decide) ?_
                refine x_sub [(0, .ref f), (1, .int (nI P)), (2, .long u), (4, .long (coS Y P u (rd Lk (f + 66)) (rd Lk (f + 67)))), (6, .int (nI (i + 1)))] [3, 4, 5, 1, 0] rfl ?_
                refine ih (i + 1) L109 (coS Y P u (rd Lk (f + 66)) (rd Lk (f + 67))) (by omega) (by omega) ?_ ?_
                · rw [hS]; rw [show R - i = (R - (i + 1)) + 1 by omega]; rw [coN, if_neg hn2, if_neg hgt, if_neg hlast, k113, k114]
                · intro a ha; rw [hw107r3 _ (by omega) (by omega) (by omega)]; rw [eL78, cw_ne _ _ (by omega)]; rw [eL50, cw_ne _ _ (by omega)]; rw [hw2r18 _ (by omega)]; exact hfr a ha
              · skip
                have c121o := Int64.not_le.mp c121
                have hlast : 0 < i ∧ ¬ coS Y P u (rd Lk (f + 66)) (rd Lk (f + 67)) ≤ bf / 2 := ⟨by omega, c121⟩
                refine x_iconst 150 C (v := 0) dX3_correct_150 rfl ?_
                refine x_iret 151 C dX3_correct_151 rfl rfl (Nat.le_refl _) (xN.intro ?_)
                have hz : coN Y P u (I f 6) R 0 0 (rd L (f + 66)) (rd L (f + 67)) = none := by rw [hS, show R - i = (R - (i + 1)) + 1 by omega, coN, if_neg hn2, if_neg hgt, if_pos hlast]
                exact ⟨by rw [hz]; rfl, rfl, (fun c hc => by rw [hz] at hc; cases hc), fun a ha => by rw [hw107r3 _ (by omega) (by omega) (by omega)]; rw [eL78, cw_ne _ _ (by omega)]; rw [eL50, cw_ne _ _ (by omega)]; rw [hw2r18 _ (by omega)]; exact hfr a ha⟩
          · skip
            have c119o := Int64.not_lt.mp c119
            have hle : coS Y P u (rd Lk (f + 66)) (rd Lk (f + 67)) ≤ (I f 6).toInt64 := Int64.not_lt.mp c119
            refine x_iconst 131 C (v := 1) dX3_correct_131 rfl ?_
            refine x_iret 132 C dX3_correct_132 rfl rfl (Nat.le_refl _) (xN.intro ?_)
            have hz : coN Y P u (I f 6) R 0 0 (rd L (f + 66)) (rd L (f + 67)) = some (addC (rd Lk (f + 66)) (coU Y P u (rd Lk (f + 66)) (rd Lk (f + 67))), addC (rd Lk (f + 67)) (coV Y P u (rd Lk (f + 66)) (rd Lk (f + 67)))) := by rw [hS, show R - i = (R - (i + 1)) + 1 by omega, coN, if_neg hn2, if_pos hle]
            exact ⟨by rw [hz]; rfl, rfl, (fun c hc => by rw [hz] at hc; cases hc; exact ⟨k113, k114⟩), fun a ha => by rw [hw107r3 _ (by omega) (by omega) (by omega)]; rw [eL78, cw_ne _ _ (by omega)]; rw [eL50, cw_ne _ _ (by omega)]; rw [hw2r18 _ (by omega)]; exact hfr a ha⟩
        · skip
          have hn := ite01 c112
          have hn2 : syN Y P u (rd Lk (f + 66)) (rd Lk (f + 67)) = 0 := by simp only [k79, k80, k81, k82, k83, k84, k85, k86, k87, k88, k89, k90, k91, k92, k93, k94, k95, k96, k97, k98, k99, k100, k101, k102] at hn; exact hn
          refine x_iconst 109 C (v := 0) dX3_correct_109 rfl ?_
          refine x_iret 110 C dX3_correct_110 rfl rfl (Nat.le_refl _) (xN.intro ?_)
          have hz : coN Y P u (I f 6) R 0 0 (rd L (f + 66)) (rd L (f + 67)) = none := by rw [hS, show R - i = (R - (i + 1)) + 1 by omega, coN, if_pos hn2]
          exact ⟨by rw [hz]; rfl, rfl, (fun c hc => by rw [hz] at hc; cases hc), fun a ha => by rw [hw107r3 _ (by omega) (by omega) (by omega)]; rw [eL78, cw_ne _ _ (by omega)]; rw [eL50, cw_ne _ _ (by omega)]; rw [hw2r18 _ (by omega)]; exact hfr a ha⟩
  refine x_sub [(0, .ref f), (1, .int (nI P)), (2, .long u), (4, .long 0), (6, .int 0)] [2, 3, 4, 1, 0] rfl ?_
  exact loop6 (R + 1) 0 L 0 (by omega) (by omega) rfl (fun _ _ => rfl)
end
section
theorem dX3_residue_0 : decode cX3_residue 0 = .ok (.aload_n 0, 1) := by decide +kernel
theorem dX3_residue_1 : decode cX3_residue 1 = .ok (.getfield 10, 3) := by decide +kernel
theorem dX3_residue_4 : decode cX3_residue 4 = .ok (.aload_n 1, 1) := by decide +kernel
theorem dX3_residue_5 : decode cX3_residue 5 = .ok (.getfield 73, 3) := by decide +kernel
theorem dX3_residue_8 : decode cX3_residue 8 = .ok (.aload_n 1, 1) := by decide +kernel
theorem dX3_residue_9 : decode cX3_residue 9 = .ok (.getfield 78, 3) := by decide +kernel
theorem dX3_residue_12 : decode cX3_residue 12 = .ok (.aload_n 1, 1) := by decide +kernel
theorem dX3_residue_13 : decode cX3_residue 13 = .ok (.getfield 64, 3) := by decide +kernel
theorem dX3_residue_16 : decode cX3_residue 16 = .ok (.aload_n 1, 1) := by decide +kernel
theorem dX3_residue_17 : decode cX3_residue 17 = .ok (.invokevirtual 79, 3) := by decide +kernel
theorem dX3_residue_20 : decode cX3_residue 20 = .ok (.invokevirtual 99, 3) := by decide +kernel
theorem dX3_residue_23 : decode cX3_residue 23 = .ok (.aload_n 0, 1) := by decide +kernel
theorem dX3_residue_24 : decode cX3_residue 24 = .ok (.getfield 10, 3) := by decide +kernel
theorem dX3_residue_27 : decode cX3_residue 27 = .ok (.iconst 0, 1) := by decide +kernel
theorem dX3_residue_28 : decode cX3_residue 28 = .ok (.invokevirtual 115, 3) := by decide +kernel
theorem dX3_residue_31 : decode cX3_residue 31 = .ok (.getfield 110, 3) := by decide +kernel
theorem dX3_residue_34 : decode cX3_residue 34 = .ok (.invokevirtual 146, 3) := by decide +kernel
theorem dX3_residue_37 : decode cX3_residue 37 = .ok (.aload_n 0, 1) := by decide +kernel
theorem dX3_residue_38 : decode cX3_residue 38 = .ok (.getfield 10, 3) := by decide +kernel
theorem dX3_residue_41 : decode cX3_residue 41 = .ok (.iconst 1, 1) := by decide +kernel
theorem dX3_residue_42 : decode cX3_residue 42 = .ok (.invokevirtual 115, 3) := by decide +kernel
theorem dX3_residue_45 : decode cX3_residue 45 = .ok (.getfield 110, 3) := by decide +kernel
theorem dX3_residue_48 : decode cX3_residue 48 = .ok (.invokevirtual 146, 3) := by decide +kernel
theorem dX3_residue_51 : decode cX3_residue 51 = .ok (.invokestatic 149, 3) := by decide +kernel
theorem dX3_residue_54 : decode cX3_residue 54 = .ok (.lstore_n 2, 1) := by decide +kernel
theorem dX3_residue_55 : decode cX3_residue 55 = .ok (.lload_n 2, 1) := by decide +kernel
theorem dX3_residue_56 : decode cX3_residue 56 = .ok (.aload_n 1, 1) := by decide +kernel
theorem dX3_residue_57 : decode cX3_residue 57 = .ok (.invokevirtual 79, 3) := by decide +kernel
theorem dX3_residue_60 : decode cX3_residue 60 = .ok (.invokestatic 153, 3) := by decide +kernel
theorem dX3_residue_63 : decode cX3_residue 63 = .ok (.ireturn, 1) := by decide +kernel
set_option maxHeartbeats 4000000 in
set_option maxRecDepth 100000 in
theorem t_X3_residue (l : Launch) (D : xD) (z n : Nat) (G : xG) (I : xI) (L : xL) (f : Nat) (a : Nat) (P : Nat) (Y : xSy) (hF : shF G f) (zf : z ≤ f) (hPa : shP G a) (daf : a + 2 < f ∨ f + 68 ≤ a) (hP3 : I a 3 = nI P) (hP : P ≤ 1024) (hA : aimedS I (f + 1) Y) : xM0 l D z yX3_residue cX3_residue 4 (some .int) 4 104 [.ref f, .ref a] n G I L (fun v' I' L' => v' = (some (.int (cthou (lmax (sizC (syE0 Y evV (rd L (a + 1)) (rd L (a + 2)) (punit (I a 6)))) (sizC (syE1 Y evV (rd L (a + 1)) (rd L (a + 2)) (punit (I a 6))))) (punit (I a 6))))) ∧ I' = I ∧ (∀ q, (q < f ∨ f + 68 ≤ q) → L' q = L q)) := by
  refine xM.of (by decide) (Nat.le_of_ble_eq_true rfl) (fun p e s m args below meth c C hnm hsz => ?_)
  refine x_lv [(0, .ref f), (1, .ref a)] rfl ?_
  refine x_aload_n 0 C dX3_residue_0 rfl 0 rfl ?_
  refine x_getr 1 C (b := f + 1) dX3_residue_1 ff_X3_10 rfl hF.1 rfl ?_
  refine x_aload_n 4 C dX3_residue_4 rfl 1 rfl ?_
  refine x_getr 5 C (b := a + 1) dX3_residue_5 ff_X3_73 rfl hPa.1 rfl ?_
  refine x_aload_n 8 C dX3_residue_8 rfl 1 rfl ?_
  refine x_getr 9 C (b := a + 2) dX3_residue_9 ff_X3_78 rfl hPa.1 rfl ?_
  refine x_aload_n 12 C dX3_residue_12 rfl 1 rfl ?_
  refine x_geti 13 C dX3_residue_13 ff_X3_64 hPa.1 ?_
  refine x_int (nI P) hP3 ?_
  refine x_aload_n 16 C dX3_residue_16 rfl 1 rfl ?_
  refine x_callVe 17 C dX3_residue_17 (As := []) (rest := [.int (nI P), .ref (a + 2), .ref (a + 1), .ref (f + 1)]) [.long (punit (I a 6)), .int (nI P), .ref (a + 2), .ref (a + 1), .ref (f + 1)] (t_X6_unit l D z n G I L a hPa) mt_X6_unit km_X3_79 ki_X6_unit ks_X6_unit hPa.1 ⟨by decide, rfl⟩ rfl rfl (Nat.le_of_ble_eq_true rfl) ⟨⟨by decide, by decide⟩, by decide, by decide⟩ (fun I1 L2 eI1 eL2 => ?_)
  replace eI1 := eI1.symm; subst eI1
  replace eL2 := eL2.symm; subst eL2
  refine x_callVp 20 C dX3_residue_20 (As := [.ref (a + 1), .ref (a + 2), .int (nI P), .long (punit (I a 6))]) (rest := []) (t_X5_evaluate l D z n G I L (f + 1) (a + 1) (a + 2) P (punit (I a 6)) Y.1 Y.2.1 Y.2.2.1 Y.2.2.2.1 Y.2.2.2.2.1 Y.2.2.2.2.2.1 Y.2.2.2.2.2.2.1 Y.2.2.2.2.2.2.2 hF.2.1 hPa.2.1 hPa.2.2 (by omega) (by first | omega | assumption | decide) (by first | omega | assumption | decide) (by first | omega | assumption | decide) (punit_nz _) hA) mt_X5_evaluate km_X3_99 ki_X5_evaluate ks_X5_evaluate hF.2.1.1 ⟨by decide, rfl⟩ rfl (Nat.le_of_ble_eq_true rfl) ⟨⟨by decide, by decide⟩, by decide, by decide⟩ (fun w3 I4 L5 hw3 => ?_)
  obtain ⟨hw3v, eI4, hw3r0, hw3r1, hw3r2, hw3r3, hw3r4, hw3r5, hw3r6, hw3r7, hw3r8, hw3r9, hw3r10, hw3r11, hw3r12, hw3r13, hw3r14, hw3r15, hw3r16, hw3r17, hw3r18⟩ := hw3
  subst hw3v
  refine x_st [] rfl ?_
  replace eI4 := eI4.symm; subst eI4
  have k6 : rd L5 (f + 1 + 26 + 20 * 0 + 1) = evV Y.1 Y.2.1 (powC (rd L (a + 1)) (rd L (a + 2)) (punit (I a 6))) 10 := hw3r0
  have k7 : rd L5 (f + 1 + 26 + 20 * 1 + 1) = evV Y.2.2.1 Y.2.2.2.1 (powC (rd L (a + 1)) (rd L (a + 2)) (punit (I a 6))) 10 := hw3r9
  have k8 : rd L5 (f + 1 + 26 + 20 * 0 + 1) = syE0 Y evV (rd L (a + 1)) (rd L (a + 2)) (punit (I a 6)) := k6
  have k9 : rd L5 (f + 1 + 26 + 20 * 1 + 1) = syE1 Y evV (rd L (a + 1)) (rd L (a + 2)) (punit (I a 6)) := k7
  refine x_aload_n 23 C dX3_residue_23 rfl 0 rfl ?_
  refine x_getr 24 C (b := f + 1) dX3_residue_24 ff_X3_10 rfl hF.1 rfl ?_
  refine x_iconst 27 C (v := 0) dX3_residue_27 rfl ?_
  refine x_callVe 28 C dX3_residue_28 (As := [.int 0]) (rest := []) [.ref (f + 1 + 26 + 20 * 0)] (t_X5_end l D z n G I L5 (f + 1) 0 hF.2.1 (by first | omega | assumption | decide)) mt_X5_end km_X3_115 ki_X5_end ks_X5_end hF.2.1.1 ⟨by decide, rfl⟩ rfl rfl (Nat.le_of_ble_eq_true rfl) ⟨⟨by decide, by decide⟩, by decide, by decide⟩ (fun I10 L11 eI10 eL11 => ?_)
  replace eI10 := eI10.symm; subst eI10
  replace eL11 := eL11.symm; subst eL11
  refine x_getr 31 C (b := f + 1 + 26 + 20 * 0 + 1) dX3_residue_31 ff_X3_110 rfl (hF.2.1.2.2.2.2.2.2.2 0 (by decide)).2.2.1.1 rfl ?_
  refine x_callVe 34 C dX3_residue_34 (As := []) (rest := []) [.long (sizC (rd L5 (f + 1 + 26 + 20 * 0 + 1)))] (t_X0_size_c l D z n G I L5 (f + 1 + 26 + 20 * 0 + 1) (hF.2.1.2.2.2.2.2.2.2 0 (by decide)).2.2.1.2.1) mt_X0_size km_X3_146 ki_X0_size ks_X0_size (hF.2.1.2.2.2.2.2.2.2 0 (by decide)).2.2.1.2.1 ⟨by decide, rfl⟩ rfl rfl (Nat.le_of_ble_eq_true rfl) ⟨⟨by decide, by decide⟩, by decide, by decide⟩ (fun I12 L13 eI12 eL13 => ?_)
  replace eI12 := eI12.symm; subst eI12
  replace eL13 := eL13.symm; subst eL13
  refine x_long (sizC (syE0 Y evV (rd L (a + 1)) (rd L (a + 2)) (punit (I a 6)))) (by rw [k8]) ?_
  refine x_aload_n 37 C dX3_residue_37 rfl 0 rfl ?_
  refine x_getr 38 C (b := f + 1) dX3_residue_38 ff_X3_10 rfl hF.1 rfl ?_
  refine x_iconst 41 C (v := 1) dX3_residue_41 rfl ?_
  refine x_callVe 42 C dX3_residue_42 (As := [.int 1]) (rest := [.long (sizC (syE0 Y evV (rd L (a + 1)) (rd L (a + 2)) (punit (I a 6))))]) [.ref (f + 1 + 26 + 20 * 1), .long (sizC (syE0 Y evV (rd L (a + 1)) (rd L (a + 2)) (punit (I a 6))))] (t_X5_end l D z n G I L5 (f + 1) 1 hF.2.1 (by first | omega | assumption | decide)) mt_X5_end km_X3_115 ki_X5_end ks_X5_end hF.2.1.1 ⟨by decide, rfl⟩ rfl rfl (Nat.le_of_ble_eq_true rfl) ⟨⟨by decide, by decide⟩, by decide, by decide⟩ (fun I14 L15 eI14 eL15 => ?_)
  replace eI14 := eI14.symm; subst eI14
  replace eL15 := eL15.symm; subst eL15
  refine x_getr 45 C (b := f + 1 + 26 + 20 * 1 + 1) dX3_residue_45 ff_X3_110 rfl (hF.2.1.2.2.2.2.2.2.2 1 (by decide)).2.2.1.1 rfl ?_
  refine x_callVe 48 C dX3_residue_48 (As := []) (rest := [.long (sizC (syE0 Y evV (rd L (a + 1)) (rd L (a + 2)) (punit (I a 6))))]) [.long (sizC (rd L5 (f + 1 + 26 + 20 * 1 + 1))), .long (sizC (syE0 Y evV (rd L (a + 1)) (rd L (a + 2)) (punit (I a 6))))] (t_X0_size_c l D z n G I L5 (f + 1 + 26 + 20 * 1 + 1) (hF.2.1.2.2.2.2.2.2.2 1 (by decide)).2.2.1.2.1) mt_X0_size km_X3_146 ki_X0_size ks_X0_size (hF.2.1.2.2.2.2.2.2.2 1 (by decide)).2.2.1.2.1 ⟨by decide, rfl⟩ rfl rfl (Nat.le_of_ble_eq_true rfl) ⟨⟨by decide, by decide⟩, by decide, by decide⟩ (fun I16 L17 eI16 eL17 => ?_)
  replace eI16 := eI16.symm; subst eI16
  replace eL17 := eL17.symm; subst eL17
  refine x_long (sizC (syE1 Y evV (rd L (a + 1)) (rd L (a + 2)) (punit (I a 6)))) (by rw [k9]) ?_
  refine x_mmaxl 51 C dX3_residue_51 km_X3_149 kt_J9_max_f86c9 kn_J9 kc_J9_max_f86c9 ⟨by decide, Nat.le_of_ble_eq_true rfl, by decide, by decide⟩ ?_
  refine x_long (lmax (sizC (syE0 Y evV (rd L (a + 1)) (rd L (a + 2)) (punit (I a 6)))) (sizC (syE1 Y evV (rd L (a + 1)) (rd L (a + 2)) (punit (I a 6))))) rfl ?_
  refine x_topl (fun v18 ev18 => ?_)
  refine x_lstore_n 54 C [(2, .long v18), (0, .ref f), (1, .ref a)] dX3_residue_54 rfl (by decide) rfl ?_
  refine x_lload_n 55 C dX3_residue_55 rfl 0 rfl ?_
  refine x_aload_n 56 C dX3_residue_56 rfl 2 rfl ?_
  refine x_callVe 57 C dX3_residue_57 (As := []) (rest := [.long v18]) [.long (punit (I a 6)), .long v18] (t_X6_unit l D z n G I L5 a hPa) mt_X6_unit km_X3_79 ki_X6_unit ks_X6_unit hPa.1 ⟨by decide, rfl⟩ rfl rfl (Nat.le_of_ble_eq_true rfl) ⟨⟨by decide, by decide⟩, by decide, by decide⟩ (fun I19 L20 eI19 eL20 => ?_)
  replace eI19 := eI19.symm; subst eI19
  replace eL20 := eL20.symm; subst eL20
  refine x_callSe 60 C dX3_residue_60 (As := [.long v18, .long (punit (I a 6))]) (rest := []) [.int (cthou v18 (punit (I a 6)))] (t_X0_thousandths l D z n G I L5 v18 (punit (I a 6)) ) mt_X0_thousandths km_X3_153 kt_X0_thousandths rfl rfl (Nat.le_of_ble_eq_true rfl) ⟨⟨by decide, by decide⟩, by decide, by decide⟩ (fun I21 L22 eI21 eL22 => ?_)
  replace eI21 := eI21.symm; subst eI21
  replace eL22 := eL22.symm; subst eL22
  refine x_iret 63 C dX3_residue_63 rfl rfl (Nat.le_refl _) (xN.intro ?_)
  subst ev18
  exact ⟨rfl, rfl, fun q hq => by rw [hw3r18 _ (by omega)]⟩
end
section
/-! Follower.follow: tries on one path. A path's value: its row of ints and its point -/
abbrev xP : Type := (Nat → Int32) × xC × xC
def pv (I : xI) (L : xL) (a : Nat) : xP := (I a, rd L (a + 1), rd L (a + 2))
def gMove1 (r : Nat → Int32) (h : Int32) : Nat → Int32 := va_up (va_up (va_up r 3 (r 3 + h)) 7 (r 7 + 1)) 9 (r 9 + 1)
def gMove2 (r : Nat → Int32) (h : Int32) : Nat → Int32 := if r 9 + 1 < 3 then gMove1 r h else va_up (va_up (gMove1 r h) 9 0) 4 (imin (r 4 * 2) (r 5))
def gMove (r : Nat → Int32) (h bo : Int32) (m : Int64) : Nat → Int32 := if m ≤ bo.toInt64 * punit (r 6) then (if r 3 + h < 1024 then gMove2 r h else va_up (gMove2 r h) 2 1) else va_up (gMove2 r h) 2 2
def gFail1 (r : Nat → Int32) : Nat → Int32 := va_up (va_up r 8 (r 8 + 1)) 9 0
def gFail (r : Nat → Int32) (s : Int32) : Nat → Int32 := if r 4 ≤ 1 then (if r 6 = 10 then va_up (va_up (gFail1 r) 6 18) 4 (imin s (r 5)) else va_up (gFail1 r) 2 3) else va_up (gFail1 r) 4 (r 4 / 2)
def gFailC (r : Nat → Int32) (c : xC) : xC := if r 4 ≤ 1 ∧ r 6 = 10 then hC (c.1 * 256, c.2 * 256) else c
theorem xup_rw {α : Type} (f : Nat → Nat → α) (a k : Nat) (v : α) : xup f a k v a = va_up (f a) k v := by funext j; simp [xup, va_up]
theorem pMoveI_row (I : xI) (a : Nat) (h bo : Int32) (m : Int64) : pMoveI I a h bo m a = gMove (I a) h bo m := by
  simp only [pMoveI, gMove, pMove2, gMove2, pMove1, gMove1]
  (repeat' split) <;> simp only [xup_rw]
theorem pMoveI_ne (I : xI) {a q : Nat} (h bo : Int32) (m : Int64) (hq : q ≠ a) : pMoveI I a h bo m q = I q := by
  simp only [pMoveI, pMove2, pMove1]
  (repeat' split) <;> simp only [xup_row _ _ hq]
theorem pFailI_row (I : xI) (a : Nat) (s : Int32) : pFailI I a s a = gFail (I a) s := by
  simp only [pFailI, gFail, pFail1, gFail1]
  (repeat' split) <;> simp only [xup_rw]
theorem pFailI_ne (I : xI) {a q : Nat} (s : Int32) (hq : q ≠ a) : pFailI I a s q = I q := by
  simp only [pFailI, pFail1]
  (repeat' split) <;> simp only [xup_row _ _ hq]
theorem pFailL_1 (I : xI) (L : xL) (a : Nat) : rd (pFailL I L a) (a + 1) = gFailC (I a) (rd L (a + 1)) := by
  unfold pFailL gFailC
  by_cases h : I a 4 ≤ 1 ∧ I a 6 = 10
  · rw [if_pos h, if_pos h]
    show rd (cw (cw L (a + 1) (hC ((rd L (a + 1)).1 * 256, (rd L (a + 1)).2 * 256))) (a + 2) (hC ((rd L (a + 2)).1 * 256, (rd L (a + 2)).2 * 256))) (a + 1) = _
    rw [rd_cw_ne _ _ (by omega), rd_cw]
  · rw [if_neg h, if_neg h]
theorem pFailL_2 (I : xI) (L : xL) (a : Nat) : rd (pFailL I L a) (a + 2) = gFailC (I a) (rd L (a + 2)) := by
  unfold pFailL gFailC
  by_cases h : I a 4 ≤ 1 ∧ I a 6 = 10
  · rw [if_pos h, if_pos h]
    show rd (cw (cw L (a + 1) (hC ((rd L (a + 1)).1 * 256, (rd L (a + 1)).2 * 256))) (a + 2) (hC ((rd L (a + 2)).1 * 256, (rd L (a + 2)).2 * 256))) (a + 2) = _
    rw [rd_cw]
  · rw [if_neg h, if_neg h]
theorem pFailL_ne (I : xI) (L : xL) {a q : Nat} (h1 : q ≠ a + 1) (h2 : q ≠ a + 2) : pFailL I L a q = L q := by
  simp only [pFailL]
  split
  · rw [cput_ne _ _ _ h2, cput_ne _ _ _ h1]
  · rfl
theorem imin_nI {a b : Nat} (ha : a < 2147483648) (hb : b < 2147483648) : (if nI b < nI a then nI b else nI a) = nI (min a b) := by
  by_cases h : b < a
  · rw [if_pos (nI_lt h (by omega)), Nat.min_eq_right (by omega)]
  · rw [if_neg (nI_nlt (by omega) (by omega)), Nat.min_eq_left (by omega)]
theorem imin_n {a b : Nat} (ha : a < 2147483648) (hb : b < 2147483648) : imin (nI a) (nI b) = nI (min a b) := imin_nI ha hb
theorem nI_half {s : Nat} (hs : s < 2147483648) : nI s / 2 = nI (s / 2) := by
  apply Int32.toInt_inj.mp
  have e2 : (2 : Int32).toInt = 2 := by decide
  rw [Int32.toInt_div, nI_toInt (by omega), nI_toInt (by omega), e2, Int.tdiv_eq_ediv_of_nonneg (by omega), Int.bmod_eq_of_le (by omega) (by omega)]
  omega
/-- place at most 1024, steps at most 256 -/
def wfR (r : Nat → Int32) : Prop := ∃ P s g : Nat, r 3 = nI P ∧ P ≤ 1024 ∧ r 4 = nI s ∧ s ≤ 256 ∧ r 5 = nI g ∧ g ≤ 256
theorem wf_move {r : Nat → Int32} {P s g : Nat} (h1 : r 3 = nI P) (h2 : P ≤ 1024) (h3 : r 4 = nI s) (h4 : s ≤ 256) (h5 : r 5 = nI g) (h6 : g ≤ 256) (bo : Int32) (m : Int64) : wfR (gMove r (nI (min s (1024 - P))) bo m) := by
  have e3 : ∀ r' : Nat → Int32, r' = gMove2 r (nI (min s (1024 - P))) → wfR r' ∧ ∀ x, wfR (va_up r' 2 x) := by
    intro r' hr'
    have k3 : gMove1 r (nI (min s (1024 - P))) 3 = nI (P + min s (1024 - P)) := by simp [gMove1, va_up, h1, nI_add]
    have k4 : gMove1 r (nI (min s (1024 - P))) 4 = nI s := by simp [gMove1, va_up, h3]
    have k5 : gMove1 r (nI (min s (1024 - P))) 5 = nI g := by simp [gMove1, va_up, h5]
    have hm : imin (r 4 * 2) (r 5) = nI (min (s * 2) g) := by
      rw [h3, h5]; exact (congrArg (fun x => imin x (nI g)) (nI_mul s 2)).trans (imin_n (by omega) (by omega))
    have hw : wfR r' := by
      subst hr'
      unfold gMove2
      split
      · exact ⟨_, _, _, k3, by omega, k4, h4, k5, h6⟩
      · exact ⟨P + min s (1024 - P), min (s * 2) g, g, by simp [va_up, k3], by omega, by simp [va_up, hm], by omega, by simp [va_up, k5], h6⟩
    refine ⟨hw, fun x => ?_⟩
    obtain ⟨a, b, c, q1, q2, q3, q4, q5, q6⟩ := hw
    exact ⟨a, b, c, by simp [va_up, q1], q2, by simp [va_up, q3], q4, by simp [va_up, q5], q6⟩
  obtain ⟨w1, w2⟩ := e3 _ rfl
  unfold gMove
  split
  · split
    · exact w1
    · exact w2 _
  · exact w2 _
theorem wf_fail {r : Nat → Int32} {P s g s0 : Nat} (h1 : r 3 = nI P) (h2 : P ≤ 1024) (h3 : r 4 = nI s) (h4 : s ≤ 256) (h5 : r 5 = nI g) (h6 : g ≤ 256) (h0 : s0 ≤ 256) : wfR (gFail r (nI s0)) := by
  have k3 : gFail1 r 3 = nI P := by simp [gFail1, va_up, h1]
  have k4 : gFail1 r 4 = nI s := by simp [gFail1, va_up, h3]
  have k5 : gFail1 r 5 = nI g := by simp [gFail1, va_up, h5]
  unfold gFail
  split
  · split
    · refine ⟨P, min s0 g, g, by simp [va_up, k3], h2, ?_, by omega, by simp [va_up, k5], h6⟩
      rw [h5, imin_n (by omega) (by omega)]; simp [va_up]
    · exact ⟨P, s, g, by simp [va_up, k3], h2, by simp [va_up, k4], h4, by simp [va_up, k5], h6⟩
  · exact ⟨P, s / 2, g, by simp [va_up, k3], h2, by simp [va_up, h3, nI_half (show s < 2147483648 by omega)], by omega, by simp [va_up, k5], h6⟩
/-- one try: the new point, if it is good -/
def tryC (Y : xSy) (R : Nat) (tol : Int32) (P hN : Nat) (u : Int64) (a b : xC) : Option (xC × xC) := if syN Y P u a b = 0 then none else coN Y (P + hN) u tol R 0 0 (pdX Y P (nI hN) u a b) (pdY Y P (nI hN) u a b)
def tryF (Y : xSy) (R : Nat) (tol bo s0 : Int32) (v : xP) (P s : Nat) : xP := match tryC Y R tol P (min s (1024 - P)) (punit (v.1 6)) v.2.1 v.2.2 with
  | some c => (gMove v.1 (nI (min s (1024 - P))) bo (lmax (sizC c.1) (sizC c.2)), c.1, c.2)
  | none => (gFail v.1 s0, gFailC v.1 v.2.1, gFailC v.1 v.2.2)
def tryP (Y : xSy) (R : Nat) (tol bo s0 : Int32) (v : xP) : xP := tryF Y R tol bo s0 v (v.1 3).toNatClampNeg (v.1 4).toNatClampNeg
def foll (Y : xSy) (R : Nat) (tol bo s0 : Int32) : Nat → xP → Nat × xP
  | 0, v => (0, v)
  | n + 1, v => if v.1 2 = 0 then ((foll Y R tol bo s0 n (tryP Y R tol bo s0 v)).1 + 1, (foll Y R tol bo s0 n (tryP Y R tol bo s0 v)).2) else (0, v)
theorem iteS {α : Type} {o : Option α} (h : ¬ (if o.isSome then (1 : Int32) else 0) = 0) : ∃ c, o = some c := by
  cases o with
  | none => exact absurd rfl h
  | some c => exact ⟨c, rfl⟩
theorem iteN {α : Type} {o : Option α} (h : (if o.isSome then (1 : Int32) else 0) = 0) : o = none := by
  cases o with
  | none => rfl
  | some c => exact absurd h (by simp)
theorem t_X6_moveOn_c (l : Launch) (D : xD) (z n : Nat) (G : xG) (I : xI) (L : xL) (a : Nat) (h0 : Int32) (b : Nat) (d : Nat) (bo : Int32) (hP : shP G a) (gb : G b = some (0, 0, rN)) (gd : G d = some (0, 0, rN)) (za : z ≤ a) (hd : d ≠ a + 1) : xM0 l D z yX6_moveOn cX6_moveOn 5 none 2 43 [.ref a, .int h0, .ref b, .ref d, .int bo] n G I L (xE none (pMoveI I a h0 bo (lmax (sizC (rd L b)) (sizC (rd L d)))) (cw (cw L (a + 1) (rd L b)) (a + 2) (rd L d))) := by
  exact t_X6_moveOn l D z n G I L a h0 b d bo hP gb gd za hd
theorem dX3_follow_0 : decode cX3_follow 0 = .ok (.iconst 0, 1) := by decide +kernel
theorem dX3_follow_1 : decode cX3_follow 1 = .ok (.istore_n 3, 1) := by decide +kernel
theorem dX3_follow_2 : decode cX3_follow 2 = .ok (.iload_n 3, 1) := by decide +kernel
theorem dX3_follow_3 : decode cX3_follow 3 = .ok (.iload_n 2, 1) := by decide +kernel
theorem dX3_follow_4 : decode cX3_follow 4 = .ok (.if_icmp .ge 119, 3) := by decide +kernel
theorem dX3_follow_7 : decode cX3_follow 7 = .ok (.aload_n 1, 1) := by decide +kernel
theorem dX3_follow_8 : decode cX3_follow 8 = .ok (.getfield 56, 3) := by decide +kernel
theorem dX3_follow_11 : decode cX3_follow 11 = .ok (.ifCond .ne 112, 3) := by decide +kernel
theorem dX3_follow_14 : decode cX3_follow 14 = .ok (.aload_n 1, 1) := by decide +kernel
theorem dX3_follow_15 : decode cX3_follow 15 = .ok (.getfield 61, 3) := by decide +kernel
theorem dX3_follow_18 : decode cX3_follow 18 = .ok (.sipush 1024, 3) := by decide +kernel
theorem dX3_follow_21 : decode cX3_follow 21 = .ok (.aload_n 1, 1) := by decide +kernel
theorem dX3_follow_22 : decode cX3_follow 22 = .ok (.getfield 64, 3) := by decide +kernel
theorem dX3_follow_25 : decode cX3_follow 25 = .ok (.isub, 1) := by decide +kernel
theorem dX3_follow_26 : decode cX3_follow 26 = .ok (.invokestatic 67, 3) := by decide +kernel
theorem dX3_follow_29 : decode cX3_follow 29 = .ok (.istore 4, 2) := by decide +kernel
theorem dX3_follow_31 : decode cX3_follow 31 = .ok (.aload_n 0, 1) := by decide +kernel
theorem dX3_follow_32 : decode cX3_follow 32 = .ok (.getfield 26, 3) := by decide +kernel
theorem dX3_follow_35 : decode cX3_follow 35 = .ok (.aload_n 1, 1) := by decide +kernel
theorem dX3_follow_36 : decode cX3_follow 36 = .ok (.getfield 73, 3) := by decide +kernel
theorem dX3_follow_39 : decode cX3_follow 39 = .ok (.invokevirtual 74, 3) := by decide +kernel
theorem dX3_follow_42 : decode cX3_follow 42 = .ok (.aload_n 0, 1) := by decide +kernel
theorem dX3_follow_43 : decode cX3_follow 43 = .ok (.getfield 30, 3) := by decide +kernel
theorem dX3_follow_46 : decode cX3_follow 46 = .ok (.aload_n 1, 1) := by decide +kernel
theorem dX3_follow_47 : decode cX3_follow 47 = .ok (.getfield 78, 3) := by decide +kernel
theorem dX3_follow_50 : decode cX3_follow 50 = .ok (.invokevirtual 74, 3) := by decide +kernel
theorem dX3_follow_53 : decode cX3_follow 53 = .ok (.aload_n 0, 1) := by decide +kernel
theorem dX3_follow_54 : decode cX3_follow 54 = .ok (.aload_n 1, 1) := by decide +kernel
theorem dX3_follow_55 : decode cX3_follow 55 = .ok (.getfield 64, 3) := by decide +kernel
theorem dX3_follow_58 : decode cX3_follow 58 = .ok (.iload 4, 2) := by decide +kernel
theorem dX3_follow_60 : decode cX3_follow 60 = .ok (.aload_n 1, 1) := by decide +kernel
theorem dX3_follow_61 : decode cX3_follow 61 = .ok (.invokevirtual 79, 3) := by decide +kernel
theorem dX3_follow_64 : decode cX3_follow 64 = .ok (.invokevirtual 83, 3) := by decide +kernel
theorem dX3_follow_67 : decode cX3_follow 67 = .ok (.ifCond .eq 42, 3) := by decide +kernel
theorem dX3_follow_70 : decode cX3_follow 70 = .ok (.aload_n 0, 1) := by decide +kernel
theorem dX3_follow_71 : decode cX3_follow 71 = .ok (.aload_n 1, 1) := by decide +kernel
theorem dX3_follow_72 : decode cX3_follow 72 = .ok (.getfield 64, 3) := by decide +kernel
theorem dX3_follow_75 : decode cX3_follow 75 = .ok (.iload 4, 2) := by decide +kernel
theorem dX3_follow_77 : decode cX3_follow 77 = .ok (.iadd, 1) := by decide +kernel
theorem dX3_follow_78 : decode cX3_follow 78 = .ok (.aload_n 1, 1) := by decide +kernel
theorem dX3_follow_79 : decode cX3_follow 79 = .ok (.invokevirtual 79, 3) := by decide +kernel
theorem dX3_follow_82 : decode cX3_follow 82 = .ok (.invokevirtual 87, 3) := by decide +kernel
theorem dX3_follow_85 : decode cX3_follow 85 = .ok (.ifCond .eq 24, 3) := by decide +kernel
theorem dX3_follow_88 : decode cX3_follow 88 = .ok (.aload_n 1, 1) := by decide +kernel
theorem dX3_follow_89 : decode cX3_follow 89 = .ok (.iload 4, 2) := by decide +kernel
theorem dX3_follow_91 : decode cX3_follow 91 = .ok (.aload_n 0, 1) := by decide +kernel
theorem dX3_follow_92 : decode cX3_follow 92 = .ok (.getfield 26, 3) := by decide +kernel
theorem dX3_follow_95 : decode cX3_follow 95 = .ok (.aload_n 0, 1) := by decide +kernel
theorem dX3_follow_96 : decode cX3_follow 96 = .ok (.getfield 30, 3) := by decide +kernel
theorem dX3_follow_99 : decode cX3_follow 99 = .ok (.aload_n 0, 1) := by decide +kernel
theorem dX3_follow_100 : decode cX3_follow 100 = .ok (.getfield 53, 3) := by decide +kernel
theorem dX3_follow_103 : decode cX3_follow 103 = .ok (.invokevirtual 91, 3) := by decide +kernel
theorem dX3_follow_106 : decode cX3_follow 106 = .ok (.goto 11, 3) := by decide +kernel
theorem dX3_follow_109 : decode cX3_follow 109 = .ok (.aload_n 1, 1) := by decide +kernel
theorem dX3_follow_110 : decode cX3_follow 110 = .ok (.aload_n 0, 1) := by decide +kernel
theorem dX3_follow_111 : decode cX3_follow 111 = .ok (.getfield 43, 3) := by decide +kernel
theorem dX3_follow_114 : decode cX3_follow 114 = .ok (.invokevirtual 95, 3) := by decide +kernel
theorem dX3_follow_117 : decode cX3_follow 117 = .ok (.iinc 3 1, 3) := by decide +kernel
theorem dX3_follow_120 : decode cX3_follow 120 = .ok (.goto (-118), 3) := by decide +kernel
theorem dX3_follow_123 : decode cX3_follow 123 = .ok (.iload_n 3, 1) := by decide +kernel
theorem dX3_follow_124 : decode cX3_follow 124 = .ok (.ireturn, 1) := by decide +kernel
set_option maxHeartbeats 1000000 in
set_option maxRecDepth 100000 in
theorem t_X3_follow (l : Launch) (D : xD) (z n : Nat) (G : xG) (I : xI) (L : xL) (f : Nat) (a : Nat) (T : Nat) (s0 : Nat) (R : Nat) (Y : xSy) (hF : shF G f) (zf : z ≤ f) (hPa : shP G a) (za : z ≤ a) (daf : a + 2 < f ∨ f + 68 ≤ a) (hT : T ≤ 200) (hA : aimedS I (f + 1) Y) (hR : I f 5 = nI R) (hR9 : R ≤ 9) (hs0 : I f 4 = nI s0) (hs0l : s0 ≤ 256) (hw0 : wfR (I a)) : xM0 l D z yX3_follow cX3_follow 5 (some .int) 5 132 [.ref f, .ref a, .int (nI T)] n G I L (fun v' I' L' => v' = (some (.int (nI (foll Y R (I f 6) (I f 7) (nI s0) T (pv I L a)).1))) ∧ (pv I' L' a = (foll Y R (I f 6) (I f 7) (nI s0) T (pv I L a)).2) ∧ (wfR (I' a)) ∧ (∀ q, q ≠ a → I' q = I q) ∧ (∀ q, q ≠ a + 1 → q ≠ a + 2 → (q < f ∨ f + 68 ≤ q) → L' q = L q)) := by
  refine xM.of (by decide) (Nat.le_of_ble_eq_true rfl) (fun p e s m args below meth c C hnm hsz => ?_)
  refine x_lv [(0, .ref f), (1, .ref a), (2, .int (nI T))] rfl ?_
  refine x_iconst 0 C (v := 0) dX3_follow_0 rfl ?_
  refine x_istore_n 1 C [(3, .int 0), (0, .ref f), (1, .ref a), (2, .int (nI T))] dX3_follow_1 rfl (by decide) rfl ?_
  have loop2 : ∀ (fuel : Nat) (mk : Nat) (Ik : xI) (Lk : xL), (mk ≤ T) → (T + 1 ≤ mk + fuel) → (wfR (Ik a)) → (foll Y R (I f 6) (I f 7) (nI s0) T (pv I L a) = (mk + (foll Y R (I f 6) (I f 7) (nI s0) (T - mk) (pv Ik Lk a)).1, (foll Y R (I f 6) (I f 7) (nI s0) (T - mk) (pv Ik Lk a)).2)) → (∀ q, q ≠ a → Ik q = I q) → (∀ q, q ≠ a + 1 → q ≠ a + 2 → (q < f ∨ f + 68 ≤ q) → Lk q = L q) → X p l e (xRm 5 132 0 0) s m args below meth c D z 5 (MQ below (xQc D z n (xN n G (fun v' I' L' => v' = (some (.int (nI (foll Y R (I f 6) (I f 7) (nI s0) T (pv I L a)).1))) ∧ (pv I' L' a = (foll Y R (I f 6) (I f 7) (nI s0) T (pv I L a)).2) ∧ (wfR (I' a)) ∧ (∀ q, q ≠ a → I' q = I q) ∧ (∀ q, q ≠ a + 1 → q ≠ a + 2 → (q < f ∨ f + 68 ≤ q) → L' q = L q)))) args s 0 0 (fun a => z ≤ a)) 0 0 n G Ik Lk 2 [(0, .ref f), (1, .ref a), (2, .int (nI T)), (3, .int (nI mk))] [] := by
    intro fuel
    induction fuel with
    | zero =>
      intro mk Ik Lk hm hf hw hS hfI hfL
      exact absurd hf (by omega)
    | succ fuel ih =>
      intro mk Ik Lk hm hf hw hS hfI hfL
      obtain ⟨P, sN, gN, hP3, hPl, hs4, hsl, hg5, hgl⟩ := id hw
      have hAk : aimedS Ik (f + 1) Y := aimedS_congr (fun q h1 h2 => hfI q (by omega)) hA
      have hRk : Ik f 5 = nI R := by rw [hfI f (by omega)]; exact hR
      have h6k : Ik f 6 = I f 6 := by rw [hfI f (by omega)]
      have h7k : Ik f 7 = I f 7 := by rw [hfI f (by omega)]
      have h4k : Ik f 4 = nI s0 := by rw [hfI f (by omega)]; exact hs0
      refine x_iload_n 2 C dX3_follow_2 rfl 3 rfl ?_
      refine x_iload_n 3 C dX3_follow_3 rfl 2 rfl ?_
      refine x_icmp_ge 4 C 123 dX3_follow_4 (by decide) (fun c1 => ?_) (fun c1 => ?_)
      · skip
        have c1n : T ≤ mk := (nI_leI (a := T) (b := mk) (by omega) (by omega)).mp c1
        have c1o := Int32.not_lt.mpr c1
        refine x_iload_n 123 C dX3_follow_123 rfl 3 rfl ?_
        refine x_iret 124 C dX3_follow_124 rfl rfl (Nat.le_refl _) (xN.intro ?_)
        first | (have hz : foll Y R (I f 6) (I f 7) (nI s0) (T - mk) (pv Ik Lk a) = (0, pv Ik Lk a) := (by rw [show T - mk = 0 by omega]; rfl); exact ⟨by rw [hS, hz]; rfl, by rw [hS, hz], hw, hfI, hfL⟩) | (have hz : foll Y R (I f 6) (I f 7) (nI s0) (T - mk) (pv Ik Lk a) = (0, pv Ik Lk a) := (by rw [show T - mk = (T - (mk + 1)) + 1 by omega]; simp only [foll]; exact if_neg hst1); exact ⟨by rw [hS, hz]; rfl, by rw [hS, hz], hw, hfI, hfL⟩)
      · skip
        have c1n : ¬ (T ≤ mk) := fun h => c1 ((nI_leI (a := T) (b := mk) (by omega) (by omega)).mpr h)
        have c1o := Int32.not_le.mp c1
        refine x_aload_n 7 C dX3_follow_7 rfl 1 rfl ?_
        refine x_geti 8 C dX3_follow_8 ff_X3_56 hPa.1 ?_
        refine x_if_ne 11 C 123 dX3_follow_11 (by decide) (fun c2 => ?_) (fun c2 => ?_)
        · skip
          have hst1 : ¬ Ik a 2 = 0 := c2
          refine x_iload_n 123 C dX3_follow_123 rfl 3 rfl ?_
          refine x_iret 124 C dX3_follow_124 rfl rfl (Nat.le_refl _) (xN.intro ?_)
          first | (have hz : foll Y R (I f 6) (I f 7) (nI s0) (T - mk) (pv Ik Lk a) = (0, pv Ik Lk a) := (by rw [show T - mk = 0 by omega]; rfl); exact ⟨by rw [hS, hz]; rfl, by rw [hS, hz], hw, hfI, hfL⟩) | (have hz : foll Y R (I f 6) (I f 7) (nI s0) (T - mk) (pv Ik Lk a) = (0, pv Ik Lk a) := (by rw [show T - mk = (T - (mk + 1)) + 1 by omega]; simp only [foll]; exact if_neg hst1); exact ⟨by rw [hS, hz]; rfl, by rw [hS, hz], hw, hfI, hfL⟩)
        · skip
          have hst0 : Ik a 2 = 0 := c2
          refine x_aload_n 14 C dX3_follow_14 rfl 1 rfl ?_
          refine x_geti 15 C dX3_follow_15 ff_X3_61 hPa.1 ?_
          refine x_int (nI sN) hs4 ?_
          refine x_sipush 18 C (v := 1024) dX3_follow_18 rfl ?_
          refine x_aload_n 21 C dX3_follow_21 rfl 1 rfl ?_
          refine x_geti 22 C dX3_follow_22 ff_X3_64 hPa.1 ?_
          refine x_int (nI P) hP3 ?_
          refine x_isub 25 C dX3_follow_25 ?_
          refine x_int (nI (1024 - P)) (nI_sub (a := 1024) (b := P) (by omega)) ?_
          refine x_mmin 26 C dX3_follow_26 km_X3_67 kt_J9_min_7cf53 kn_J9 kc_J9_min_7cf53 ⟨by decide, Nat.le_of_ble_eq_true rfl, by decide, by decide⟩ ?_
          refine x_int (nI (min sN (1024 - P))) (imin_nI (by omega) (by omega)) ?_
          refine x_istore 29 C [(4, .int (nI (min sN (1024 - P)))), (0, .ref f), (1, .ref a), (2, .int (nI T)), (3, .int (nI mk))] dX3_follow_29 (by decide) rfl ?_
          refine x_aload_n 31 C dX3_follow_31 rfl 1 rfl ?_
          refine x_getr 32 C (b := f + 66) dX3_follow_32 ff_X3_26 rfl hF.1 rfl ?_
          refine x_aload_n 35 C dX3_follow_35 rfl 2 rfl ?_
          refine x_getr 36 C (b := a + 1) dX3_follow_36 ff_X3_73 rfl hPa.1 rfl ?_
          refine x_callVe 39 C dX3_follow_39 (As := [.ref (a + 1)]) (rest := []) [] (t_X0_copy_c l D z n G Ik Lk (f + 66) (a + 1) hF.2.2.2.1 hPa.2.1 (by omega)) mt_X0_copy km_X3_74 ki_X0_copy ks_X0_copy hF.2.2.2.1 ⟨by decide, rfl⟩ rfl rfl (Nat.le_of_ble_eq_true rfl) ⟨⟨by decide, by decide⟩, by decide, by decide⟩ (fun I3 L4 eI3 eL4 => ?_)
          replace eI3 := eI3.symm; subst eI3
          have k5 : rd L4 (a + 1) = rd Lk (a + 1) := by rw [eL4, rd_cw_ne _ _ (by omega)]
          have k6 : rd L4 (a + 2) = rd Lk (a + 2) := by rw [eL4, rd_cw_ne _ _ (by omega)]
          have k7 : rd L4 (f + 66) = (rd Lk (a + 1)) := by rw [eL4, rd_cw]
          have k8 : rd L4 (f + 67) = rd Lk (f + 67) := by rw [eL4, rd_cw_ne _ _ (by omega)]
          refine x_aload_n 42 C dX3_follow_42 rfl 1 rfl ?_
          refine x_getr 43 C (b := f + 67) dX3_follow_43 ff_X3_30 rfl hF.1 rfl ?_
          refine x_aload_n 46 C dX3_follow_46 rfl 2 rfl ?_
          refine x_getr 47 C (b := a + 2) dX3_follow_47 ff_X3_78 rfl hPa.1 rfl ?_
          refine x_callVe 50 C dX3_follow_50 (As := [.ref (a + 2)]) (rest := []) [] (t_X0_copy_c l D z n G Ik L4 (f + 67) (a + 2) hF.2.2.2.2 hPa.2.2 (by omega)) mt_X0_copy km_X3_74 ki_X0_copy ks_X0_copy hF.2.2.2.2 ⟨by decide, rfl⟩ rfl rfl (Nat.le_of_ble_eq_true rfl) ⟨⟨by decide, by decide⟩, by decide, by decide⟩ (fun I9 L10 eI9 eL10 => ?_)
          replace eI9 := eI9.symm; subst eI9
          have k11 : rd L10 (a + 1) = rd Lk (a + 1) := by rw [eL10, rd_cw_ne _ _ (by omega)]; exact k5
          have k12 : rd L10 (a + 2) = rd Lk (a + 2) := by rw [eL10, rd_cw_ne _ _ (by omega)]; exact k6
          have k13 : rd L10 (f + 66) = (rd Lk (a + 1)) := by rw [eL10, rd_cw_ne _ _ (by omega)]; exact k7
          have k14 : rd L10 (f + 67) = (rd Lk (a + 2)) := by rw [eL10, rd_cw]; simp only [k6]
          refine x_aload_n 53 C dX3_follow_53 rfl 1 rfl ?_
          refine x_aload_n 54 C dX3_follow_54 rfl 2 rfl ?_
          refine x_geti 55 C dX3_follow_55 ff_X3_64 hPa.1 ?_
          refine x_int (nI P) hP3 ?_
          refine x_iload 58 C dX3_follow_58 0 rfl ?_
          refine x_aload_n 60 C dX3_follow_60 rfl 2 rfl ?_
          refine x_callVe 61 C dX3_follow_61 (As := []) (rest := [.int (nI (min sN (1024 - P))), .int (nI P), .ref f]) [.long (punit (Ik a 6)), .int (nI (min sN (1024 - P))), .int (nI P), .ref f] (t_X6_unit l D z n G Ik L10 a hPa) mt_X6_unit km_X3_79 ki_X6_unit ks_X6_unit hPa.1 ⟨by decide, rfl⟩ rfl rfl (Nat.le_of_ble_eq_true rfl) ⟨⟨by decide, by decide⟩, by decide, by decide⟩ (fun I15 L16 eI15 eL16 => ?_)
          replace eI15 := eI15.symm; subst eI15
          replace eL16 := eL16.symm; subst eL16
          refine x_callVp 64 C dX3_follow_64 (As := [.int (nI P), .int (nI (min sN (1024 - P))), .long (punit (Ik a 6))]) (rest := []) (t_X3_predict l D z n G Ik L10 f P (nI (min sN (1024 - P))) (punit (Ik a 6)) Y hF (by omega) (by first | omega | assumption | decide) (punit_nz _) hAk) mt_X3_predict km_X3_83 ki_X3_predict ks_X3_predict hF.1 ⟨by decide, rfl⟩ rfl (Nat.le_of_ble_eq_true rfl) ⟨⟨by decide, by decide⟩, by decide, by decide⟩ (fun w17 I18 L19 hw17 => ?_)
          obtain ⟨hw17v, eI18, hw17r0, hw17r1, hw17r2⟩ := hw17
          subst hw17v
          refine x_st [.int (if syN Y P (punit (Ik a 6)) (rd L10 (f + 66)) (rd L10 (f + 67)) = 0 then 0 else 1)] rfl ?_
          replace eI18 := eI18.symm; subst eI18
          have k20 : rd L19 (a + 1) = rd Lk (a + 1) := (rd_congr (hw17r2 (a + 1) (by omega))).trans k11
          have k21 : rd L19 (a + 2) = rd Lk (a + 2) := (rd_congr (hw17r2 (a + 2) (by omega))).trans k12
          have k22 : rd L19 (f + 66) = if syN Y P (punit (Ik a 6)) (rd Lk (a + 1)) (rd Lk (a + 2)) = 0 then (rd Lk (a + 1)) else pdX Y P (nI (min sN (1024 - P))) (punit (Ik a 6)) (rd Lk (a + 1)) (rd Lk (a + 2)) := by rw [hw17r0]; simp only [k13, k14]
          have k23 : rd L19 (f + 67) = if syN Y P (punit (Ik a 6)) (rd Lk (a + 1)) (rd Lk (a + 2)) = 0 then (rd Lk (a + 2)) else pdY Y P (nI (min sN (1024 - P))) (punit (Ik a 6)) (rd Lk (a + 1)) (rd Lk (a + 2)) := by rw [hw17r1]; simp only [k13, k14]
          refine x_if_eq 67 C 109 dX3_follow_67 (by decide) (fun c24 => ?_) (fun c24 => ?_)
          · skip
            have hn := ite01 c24
            rw [k13, k14] at hn
            have htry : tryC Y R (I f 6) P (min sN (1024 - P)) (punit (Ik a 6)) (rd Lk (a + 1)) (rd Lk (a + 2)) = none := by unfold tryC; exact if_pos hn
            refine x_aload_n 109 C dX3_follow_109 rfl 2 rfl ?_
            refine x_aload_n 110 C dX3_follow_110 rfl 1 rfl ?_
            refine x_geti 111 C dX3_follow_111 ff_X3_43 hF.1 ?_
            refine x_int (nI s0) h4k ?_
            refine x_callVe 114 C dX3_follow_114 (As := [.int (nI s0)]) (rest := []) [] (t_X6_shorten l D z n G Ik L19 a (nI s0) hPa (by omega)) mt_X6_shorten km_X3_95 ki_X6_shorten ks_X6_shorten hPa.1 ⟨by decide, rfl⟩ rfl rfl (Nat.le_of_ble_eq_true rfl) ⟨⟨by decide, by decide⟩, by decide, by decide⟩ (fun I25 L26 eI25 eL26 => ?_)
            refine x_iinc 117 C [(3, .int (nI (mk + 1))), (4, .int (nI (min sN (1024 - P)))), (0, .ref f), (1, .ref a), (2, .int (nI T))] dX3_follow_117 4 rfl (nI_add mk 1) (by decide) rfl ?_
            refine x_goto 120 C 2 dX3_follow_120 (by decide) ?_
            refine x_sub [(0, .ref f), (1, .ref a), (2, .int (nI T)), (3, .int (nI (mk + 1)))] [2, 3, 4, 0] rfl ?_
            have hst : Ik a 2 = 0 := hst0
            have hP0 : (Ik a 3).toNatClampNeg = P := by rw [hP3]; exact nI_clamp (by omega)
            have hs0n : (Ik a 4).toNatClampNeg = sN := by rw [hs4]; exact nI_clamp (by omega)
            have hnew : pv I25 L26 a = tryP Y R (I f 6) (I f 7) (nI s0) (pv Ik Lk a) := by
              show (I25 a, rd L26 (a + 1), rd L26 (a + 2)) = tryF Y R (I f 6) (I f 7) (nI s0) (pv Ik Lk a) (Ik a 3).toNatClampNeg (Ik a 4).toNatClampNeg
              rw [hP0, hs0n, eL26, pFailL_1, pFailL_2, k20, k21]
              unfold tryF; simp only [pv]; rw [htry, eI25, pFailI_row]; try rfl
            have hwn : wfR (I25 a) := by rw [eI25, pFailI_row]; exact wf_fail hP3 hPl hs4 hsl hg5 hgl hs0l
            refine ih (mk + 1) I25 L26 (by omega) (by omega) hwn ?_ ?_ ?_
            · rw [hS, show T - mk = (T - (mk + 1)) + 1 by omega]; simp only [foll]; rw [if_pos (show (pv Ik Lk a).1 2 = 0 from hst0), hnew]; exact Prod.ext (by show mk + (_ + 1) = mk + 1 + _; omega) rfl
            · intro q hq; rw [eI25, pFailI_ne _ _ hq]; exact hfI q hq
            · intro q h1 h2 h3; rw [eL26, pFailL_ne _ _ h1 h2]; rw [hw17r2 _ (by omega)]; rw [eL10, cw_ne _ _ (by omega)]; rw [eL4, cw_ne _ _ (by omega)]; exact hfL q h1 h2 h3
          · skip
            have hn := ite01n c24
            rw [k13, k14] at hn
            have k27 : rd L19 (f + 66) = pdX Y P (nI (min sN (1024 - P))) (punit (Ik a 6)) (rd Lk (a + 1)) (rd Lk (a + 2)) := k22.trans (if_neg hn)
            have k28 : rd L19 (f + 67) = pdY Y P (nI (min sN (1024 - P))) (punit (Ik a 6)) (rd Lk (a + 1)) (rd Lk (a + 2)) := k23.trans (if_neg hn)
            refine x_aload_n 70 C dX3_follow_70 rfl 1 rfl ?_
            refine x_aload_n 71 C dX3_follow_71 rfl 2 rfl ?_
            refine x_geti 72 C dX3_follow_72 ff_X3_64 hPa.1 ?_
            refine x_int (nI P) hP3 ?_
            refine x_iload 75 C dX3_follow_75 0 rfl ?_
            refine x_iadd 77 C dX3_follow_77 ?_
            refine x_int (nI (P + (min sN (1024 - P)))) (nI_add P (min sN (1024 - P))) ?_
            refine x_aload_n 78 C dX3_follow_78 rfl 2 rfl ?_
            refine x_callVe 79 C dX3_follow_79 (As := []) (rest := [.int (nI (P + (min sN (1024 - P)))), .ref f]) [.long (punit (Ik a 6)), .int (nI (P + (min sN (1024 - P)))), .ref f] (t_X6_unit l D z n G Ik L19 a hPa) mt_X6_unit km_X3_79 ki_X6_unit ks_X6_unit hPa.1 ⟨by decide, rfl⟩ rfl rfl (Nat.le_of_ble_eq_true rfl) ⟨⟨by decide, by decide⟩, by decide, by decide⟩ (fun I29 L30 eI29 eL30 => ?_)
            replace eI29 := eI29.symm; subst eI29
            replace eL30 := eL30.symm; subst eL30
            refine x_callVp 82 C dX3_follow_82 (As := [.int (nI (P + (min sN (1024 - P)))), .long (punit (Ik a 6))]) (rest := []) (t_X3_correct l D z n G Ik L19 f (P + (min sN (1024 - P))) (punit (Ik a 6)) R Y hF (by omega) (by first | omega | assumption | decide) (punit_nz _) hRk (by first | omega | assumption | decide) hAk) mt_X3_correct km_X3_87 ki_X3_correct ks_X3_correct hF.1 ⟨by decide, rfl⟩ rfl (Nat.le_of_ble_eq_true rfl) ⟨⟨by decide, by decide⟩, by decide, by decide⟩ (fun w31 I32 L33 hw31 => ?_)
            obtain ⟨hw31v, eI32, hw31r0, hw31r1⟩ := hw31
            subst hw31v
            refine x_st [.int (if (coN Y (P + (min sN (1024 - P))) (punit (Ik a 6)) (Ik f 6) R 0 0 (rd L19 (f + 66)) (rd L19 (f + 67))).isSome then 1 else 0)] rfl ?_
            replace eI32 := eI32.symm; subst eI32
            have k34 : rd L33 (a + 1) = rd Lk (a + 1) := (rd_congr (hw31r1 (a + 1) (by omega))).trans k20
            have k35 : rd L33 (a + 2) = rd Lk (a + 2) := (rd_congr (hw31r1 (a + 2) (by omega))).trans k21
            refine x_if_eq 85 C 109 dX3_follow_85 (by decide) (fun c36 => ?_) (fun c36 => ?_)
            · skip
              have hco : coN Y (P + (min sN (1024 - P))) (punit (Ik a 6)) (I f 6) R 0 0 (pdX Y P (nI (min sN (1024 - P))) (punit (Ik a 6)) (rd Lk (a + 1)) (rd Lk (a + 2))) (pdY Y P (nI (min sN (1024 - P))) (punit (Ik a 6)) (rd Lk (a + 1)) (rd Lk (a + 2))) = none := by have h := iteN c36; rw [k27, k28, h6k] at h; exact h
              have htry : tryC Y R (I f 6) P (min sN (1024 - P)) (punit (Ik a 6)) (rd Lk (a + 1)) (rd Lk (a + 2)) = none := by unfold tryC; rw [if_neg hn]; exact hco
              refine x_aload_n 109 C dX3_follow_109 rfl 2 rfl ?_
              refine x_aload_n 110 C dX3_follow_110 rfl 1 rfl ?_
              refine x_geti 111 C dX3_follow_111 ff_X3_43 hF.1 ?_
              refine x_int (nI s0) h4k ?_
              refine x_callVe 114 C dX3_follow_114 (As := [.int (nI s0)]) (rest := []) [] (t_X6_shorten l D z n G Ik L33 a (nI s0) hPa (by omega)) mt_X6_shorten km_X3_95 ki_X6_shorten ks_X6_shorten hPa.1 ⟨by decide, rfl⟩ rfl rfl (Nat.le_of_ble_eq_true rfl) ⟨⟨by decide, by decide⟩, by decide, by decide⟩ (fun I37 L38 eI37 eL38 => ?_)
              refine x_iinc 117 C [(3, .int (nI (mk + 1))), (4, .int (nI (min sN (1024 - P)))), (0, .ref f), (1, .ref a), (2, .int (nI T))] dX3_follow_117 4 rfl (nI_add mk 1) (by decide) rfl ?_
              refine x_goto 120 C 2 dX3_follow_120 (by decide) ?_
              refine x_sub [(0, .ref f), (1, .ref a), (2, .int (nI T)), (3, .int (nI (mk + 1)))] [2, 3, 4, 0] rfl ?_
              have hst : Ik a 2 = 0 := hst0
              have hP0 : (Ik a 3).toNatClampNeg = P := by rw [hP3]; exact nI_clamp (by omega)
              have hs0n : (Ik a 4).toNatClampNeg = sN := by rw [hs4]; exact nI_clamp (by omega)
              have hnew : pv I37 L38 a = tryP Y R (I f 6) (I f 7) (nI s0) (pv Ik Lk a) := by
                show (I37 a, rd L38 (a + 1), rd L38 (a + 2)) = tryF Y R (I f 6) (I f 7) (nI s0) (pv Ik Lk a) (Ik a 3).toNatClampNeg (Ik a 4).toNatClampNeg
                rw [hP0, hs0n, eL38, pFailL_1, pFailL_2, k34, k35]
                unfold tryF; simp only [pv]; rw [htry, eI37, pFailI_row]; try rfl
              have hwn : wfR (I37 a) := by rw [eI37, pFailI_row]; exact wf_fail hP3 hPl hs4 hsl hg5 hgl hs0l
              refine ih (mk + 1) I37 L38 (by omega) (by omega) hwn ?_ ?_ ?_
              · rw [hS, show T - mk = (T - (mk + 1)) + 1 by omega]; simp only [foll]; rw [if_pos (show (pv Ik Lk a).1 2 = 0 from hst0), hnew]; exact Prod.ext (by show mk + (_ + 1) = mk + 1 + _; omega) rfl
              · intro q hq; rw [eI37, pFailI_ne _ _ hq]; exact hfI q hq
              · intro q h1 h2 h3; rw [eL38, pFailL_ne _ _ h1 h2]; rw [hw31r1 _ (by omega)]; rw [hw17r2 _ (by omega)]; rw [eL10, cw_ne _ _ (by omega)]; rw [eL4, cw_ne _ _ (by omega)]; exact hfL q h1 h2 h3
            · skip
              obtain ⟨cc1, hcc⟩ := iteS c36
              have hpt := hw31r0 cc1 hcc
              have hco : coN Y (P + (min sN (1024 - P))) (punit (Ik a 6)) (I f 6) R 0 0 (pdX Y P (nI (min sN (1024 - P))) (punit (Ik a 6)) (rd Lk (a + 1)) (rd Lk (a + 2))) (pdY Y P (nI (min sN (1024 - P))) (punit (Ik a 6)) (rd Lk (a + 1)) (rd Lk (a + 2))) = some cc1 := by have h := hcc; rw [k27, k28, h6k] at h; exact h
              have htry : tryC Y R (I f 6) P (min sN (1024 - P)) (punit (Ik a 6)) (rd Lk (a + 1)) (rd Lk (a + 2)) = some cc1 := by unfold tryC; rw [if_neg hn]; exact hco
              refine x_aload_n 88 C dX3_follow_88 rfl 2 rfl ?_
              refine x_iload 89 C dX3_follow_89 0 rfl ?_
              refine x_aload_n 91 C dX3_follow_91 rfl 1 rfl ?_
              refine x_getr 92 C (b := f + 66) dX3_follow_92 ff_X3_26 rfl hF.1 rfl ?_
              refine x_aload_n 95 C dX3_follow_95 rfl 1 rfl ?_
              refine x_getr 96 C (b := f + 67) dX3_follow_96 ff_X3_30 rfl hF.1 rfl ?_
              refine x_aload_n 99 C dX3_follow_99 rfl 1 rfl ?_
              refine x_geti 100 C dX3_follow_100 ff_X3_53 hF.1 ?_
              refine x_int (I f 7) h7k ?_
              refine x_callVe 103 C dX3_follow_103 (As := [.int (nI (min sN (1024 - P))), .ref (f + 66), .ref (f + 67), .int (I f 7)]) (rest := []) [] (t_X6_moveOn_c l D z n G Ik L33 a (nI (min sN (1024 - P))) (f + 66) (f + 67) (I f 7) hPa hF.2.2.2.1 hF.2.2.2.2 (by omega) (by first | omega | assumption | decide)) mt_X6_moveOn km_X3_91 ki_X6_moveOn ks_X6_moveOn hPa.1 ⟨by decide, rfl⟩ rfl rfl (Nat.le_of_ble_eq_true rfl) ⟨⟨by decide, by decide⟩, by decide, by decide⟩ (fun I39 L40 eI39 eL40 => ?_)
              have k41 : rd L40 (a + 1) = cc1.1 := by rw [eL40, rd_cw_ne _ _ (by omega), rd_cw]; simp only [hpt.1]
              have k42 : rd L40 (a + 2) = cc1.2 := by rw [eL40, rd_cw]; simp only [hpt.2]
              have k43 : rd L40 (f + 66) = cc1.1 := by rw [eL40, rd_cw_ne _ _ (by omega), rd_cw_ne _ _ (by omega)]; exact hpt.1
              have k44 : rd L40 (f + 67) = cc1.2 := by rw [eL40, rd_cw_ne _ _ (by omega), rd_cw_ne _ _ (by omega)]; exact hpt.2
              refine x_goto 106 C 117 dX3_follow_106 (by decide) ?_
              refine x_iinc 117 C [(3, .int (nI (mk + 1))), (4, .int (nI (min sN (1024 - P)))), (0, .ref f), (1, .ref a), (2, .int (nI T))] dX3_follow_117 4 rfl (nI_add mk 1) (by decide) rfl ?_
              refine x_goto 120 C 2 dX3_follow_120 (by decide) ?_
              refine x_sub [(0, .ref f), (1, .ref a), (2, .int (nI T)), (3, .int (nI (mk + 1)))] [2, 3, 4, 0] rfl ?_
              have hst : Ik a 2 = 0 := hst0
              have hP0 : (Ik a 3).toNatClampNeg = P := by rw [hP3]; exact nI_clamp (by omega)
              have hs0n : (Ik a 4).toNatClampNeg = sN := by rw [hs4]; exact nI_clamp (by omega)
              have hnew : pv I39 L40 a = tryP Y R (I f 6) (I f 7) (nI s0) (pv Ik Lk a) := by
                show (I39 a, rd L40 (a + 1), rd L40 (a + 2)) = tryF Y R (I f 6) (I f 7) (nI s0) (pv Ik Lk a) (Ik a 3).toNatClampNeg (Ik a 4).toNatClampNeg
                rw [hP0, hs0n, k41, k42]
                unfold tryF; simp only [pv]; rw [htry, eI39, pMoveI_row, hpt.1, hpt.2]; try rfl
              have hwn : wfR (I39 a) := by rw [eI39, pMoveI_row]; exact wf_move hP3 hPl hs4 hsl hg5 hgl _ _
              refine ih (mk + 1) I39 L40 (by omega) (by omega) hwn ?_ ?_ ?_
              · rw [hS, show T - mk = (T - (mk + 1)) + 1 by omega]; simp only [foll]; rw [if_pos (show (pv Ik Lk a).1 2 = 0 from hst0), hnew]; exact Prod.ext (by show mk + (_ + 1) = mk + 1 + _; omega) rfl
              · intro q hq; rw [eI39, pMoveI_ne _ _ _ _ hq]; exact hfI q hq
              · intro q h1 h2 h3; rw [eL40, cw_ne _ _ (by omega), cw_ne _ _ (by omega)]; rw [hw31r1 _ (by omega)]; rw [hw17r2 _ (by omega)]; rw [eL10, cw_ne _ _ (by omega)]; rw [eL4, cw_ne _ _ (by omega)]; exact hfL q h1 h2 h3
  refine x_sub [(0, .ref f), (1, .ref a), (2, .int (nI T)), (3, .int 0)] [1, 2, 3, 0] rfl ?_
  exact loop2 (T + 1) 0 I L (by omega) (by omega) hw0 (Prod.ext (Nat.zero_add _).symm rfl) (fun _ _ => rfl) (fun _ _ _ _ => rfl)
end
section
/-! PathTracker$State: copying, and the beginnings of paths -/
def rowFill (I : xI) (r k : Nat) (f : Nat → Int32) : xI := fun a j => if a = r ∧ j < k then f j else I a j
theorem rowFill_0 (I : xI) (r : Nat) (f : Nat → Int32) : rowFill I r 0 f = I := by funext a j; simp [rowFill]
theorem rowFill_succ (I : xI) (r k : Nat) (f : Nat → Int32) : xup (rowFill I r k f) r k (f k) = rowFill I r (k + 1) f := by
  funext a j
  have e : (j < k + 1) ↔ (j < k ∨ j = k) := by omega
  simp only [rowFill, xup, e]
  by_cases h1 : a = r <;> by_cases h3 : j = k <;> by_cases h4 : j < k <;> simp_all
theorem rowFill_at (I : xI) (r : Nat) (f : Nat → Int32) {j k : Nat} (h : j < k) : rowFill I r k f r j = f j := by simp [rowFill, h]
theorem rowFill_ne (I : xI) (r k : Nat) (f : Nat → Int32) {a : Nat} (h : a ≠ r) : rowFill I r k f a = I a := by funext j; simp [rowFill, h]
theorem pCopyI_row (I : xI) (a b : Nat) {j : Nat} (h1 : 2 ≤ j) (h2 : j ≤ 9) : pCopyI I a b a j = I b j := by
  rcases (show j = 2 ∨ j = 3 ∨ j = 4 ∨ j = 5 ∨ j = 6 ∨ j = 7 ∨ j = 8 ∨ j = 9 by omega) with rfl | rfl | rfl | rfl | rfl | rfl | rfl | rfl <;> simp [pCopyI, xup]
theorem pCopyI_ne (I : xI) {a q : Nat} (b : Nat) (h : q ≠ a) : pCopyI I a b q = I q := by
  simp only [pCopyI, xup_row _ _ h]
def bRow (s g : Int32) (j : Nat) : Int32 := if j = 4 then imin s g else if j = 5 then g else if j = 6 then 10 else 0
theorem pBegin_row (I : xI) (a : Nat) (s g : Int32) {j : Nat} (h1 : 2 ≤ j) (h2 : j ≤ 9) : pBegin I a s g a j = bRow s g j := by
  rcases (show j = 2 ∨ j = 3 ∨ j = 4 ∨ j = 5 ∨ j = 6 ∨ j = 7 ∨ j = 8 ∨ j = 9 by omega) with rfl | rfl | rfl | rfl | rfl | rfl | rfl | rfl <;> simp [pBegin, xup, bRow]
theorem pBegin_ne (I : xI) {a q : Nat} (s g : Int32) (h : q ≠ a) : pBegin I a s g q = I q := by
  simp only [pBegin, xup_row _ _ h]
/-- the state at S in (I', L') is the one at O in (I, L) -/
def stEq (I : xI) (L : xL) (O : Nat) (I' : xI) (L' : xL) (S : Nat) : Prop :=
  (∀ b, b < 2 → ∀ j, j < 10 → I' (S + 1 + 4 * b + 1) j = I (O + 1 + 4 * b + 1) j ∧ I' (S + 1 + 4 * b + 2) j = I (O + 1 + 4 * b + 2) j) ∧ (∀ j, j < 8 → I' (S + 9) j = I (O + 9) j) ∧ I' S 4 = I O 4 ∧
  ∀ k, k < 9 → (∀ j, 2 ≤ j → j ≤ 9 → I' (S + 11 + 3 * k) j = I (O + 11 + 3 * k) j) ∧ rd L' (S + 11 + 3 * k + 1) = rd L (O + 11 + 3 * k + 1) ∧ rd L' (S + 11 + 3 * k + 2) = rd L (O + 11 + 3 * k + 2)
theorem nI_div {a b : Nat} (ha : a < 2147483648) (hb : b < 2147483648) : nI a / nI b = nI (a / b) := by
  apply Int32.toInt_inj.mp
  have h1 : a / b ≤ a := Nat.div_le_self a b
  have h2 : ((a / b : Nat) : Int) = (a : Int) / (b : Int) := Int.natCast_ediv a b
  have h5 : (0 : Int) ≤ (a : Int) / (b : Int) := Int.ediv_nonneg (by omega) (by omega)
  rw [Int32.toInt_div, nI_toInt (by omega), nI_toInt (by omega), nI_toInt (by omega), Int.tdiv_eq_ediv_of_nonneg (by omega), ← h2, Int.bmod_eq_of_le (by omega) (by omega)]
theorem nI_mod {a b : Nat} (ha : a < 2147483648) (hb : b < 2147483648) : nI a - nI a / nI b * nI b = nI (a % b) := by
  have h0 : a / b * b ≤ a := Nat.div_mul_le_self a b
  have h1 : a % b = a - a / b * b := by
    have h3 := Nat.mod_add_div a b
    have h4 : b * (a / b) = a / b * b := Nat.mul_comm _ _
    omega
  rw [nI_div ha hb, nI_mul, nI_sub h0, h1]
def begun (I' : xI) (L' : xL) (S dx dy : Nat) (s g : Int32) (K : Nat) : Prop :=
  ∀ k, k < K → (∀ j, 2 ≤ j → j ≤ 9 → I' (S + 11 + 3 * k) j = bRow s g j) ∧ rd L' (S + 11 + 3 * k + 1) = hC (rootC (nI dx) (nI (k / dy)) 1024) ∧ rd L' (S + 11 + 3 * k + 2) = hC (rootC (nI dy) (nI (k % dy)) 1024)
theorem t_X6_copy_c (l : Launch) (D : xD) (z n : Nat) (G : xG) (I : xI) (L : xL) (a : Nat) (b : Nat) (hP : shP G a) (hPb : shP G b) (za : z ≤ a) (hab : b + 2 ≠ a + 1) : xM0 l D z yX6_copy cX6_copy 2 none 1 21 [.ref a, .ref b] n G I L (xE none (pCopyI I a b) (cw (cw L (a + 1) (rd L (b + 1))) (a + 2) (rd L (b + 2)))) := by
  exact t_X6_copy l D z n G I L a b hP hPb za hab
theorem t_X6_putOnRoots_c (l : Launch) (D : xD) (z n : Nat) (G : xG) (I : xI) (L : xL) (a : Nat) (d1 : Int32) (n1 : Int32) (d2 : Int32) (n2 : Int32) (hP : shP G a) (za : z ≤ a) : xM0 l D z yX6_putOnRoots cX6_putOnRoots 5 none 2 50 [.ref a, .int d1, .int n1, .int d2, .int n2] n G I L (xE none I (cw (cw L (a + 1) (hC (rootC d1 n1 (punit (I a 6))))) (a + 2) (hC (rootC d2 n2 (punit (I a 6)))))) := by
  exact t_X6_putOnRoots l D z n G I L a d1 n1 d2 n2 hP za
theorem dX9_copy_0 : decode cX9_copy 0 = .ok (.aload_n 0, 1) := by decide +kernel
theorem dX9_copy_1 : decode cX9_copy 1 = .ok (.getfield 10, 3) := by decide +kernel
theorem dX9_copy_4 : decode cX9_copy 4 = .ok (.aload_n 1, 1) := by decide +kernel
theorem dX9_copy_5 : decode cX9_copy 5 = .ok (.getfield 10, 3) := by decide +kernel
theorem dX9_copy_8 : decode cX9_copy 8 = .ok (.invokevirtual 43, 3) := by decide +kernel
theorem dX9_copy_11 : decode cX9_copy 11 = .ok (.aload_n 0, 1) := by decide +kernel
theorem dX9_copy_12 : decode cX9_copy 12 = .ok (.getfield 16, 3) := by decide +kernel
theorem dX9_copy_15 : decode cX9_copy 15 = .ok (.aload_n 1, 1) := by decide +kernel
theorem dX9_copy_16 : decode cX9_copy 16 = .ok (.getfield 16, 3) := by decide +kernel
theorem dX9_copy_19 : decode cX9_copy 19 = .ok (.invokevirtual 43, 3) := by decide +kernel
theorem dX9_copy_22 : decode cX9_copy 22 = .ok (.iconst 0, 1) := by decide +kernel
theorem dX9_copy_23 : decode cX9_copy 23 = .ok (.istore_n 2, 1) := by decide +kernel
theorem dX9_copy_24 : decode cX9_copy 24 = .ok (.iload_n 2, 1) := by decide +kernel
theorem dX9_copy_25 : decode cX9_copy 25 = .ok (.bipush 8, 2) := by decide +kernel
theorem dX9_copy_27 : decode cX9_copy 27 = .ok (.if_icmp .ge 21, 3) := by decide +kernel
theorem dX9_copy_30 : decode cX9_copy 30 = .ok (.aload_n 0, 1) := by decide +kernel
theorem dX9_copy_31 : decode cX9_copy 31 = .ok (.getfield 19, 3) := by decide +kernel
theorem dX9_copy_34 : decode cX9_copy 34 = .ok (.iload_n 2, 1) := by decide +kernel
theorem dX9_copy_35 : decode cX9_copy 35 = .ok (.aload_n 1, 1) := by decide +kernel
theorem dX9_copy_36 : decode cX9_copy 36 = .ok (.getfield 19, 3) := by decide +kernel
theorem dX9_copy_39 : decode cX9_copy 39 = .ok (.iload_n 2, 1) := by decide +kernel
theorem dX9_copy_40 : decode cX9_copy 40 = .ok (.iaload, 1) := by decide +kernel
theorem dX9_copy_41 : decode cX9_copy 41 = .ok (.iastore, 1) := by decide +kernel
theorem dX9_copy_42 : decode cX9_copy 42 = .ok (.iinc 2 1, 3) := by decide +kernel
theorem dX9_copy_45 : decode cX9_copy 45 = .ok (.goto (-21), 3) := by decide +kernel
theorem dX9_copy_48 : decode cX9_copy 48 = .ok (.aload_n 0, 1) := by decide +kernel
theorem dX9_copy_49 : decode cX9_copy 49 = .ok (.aload_n 1, 1) := by decide +kernel
theorem dX9_copy_50 : decode cX9_copy 50 = .ok (.getfield 47, 3) := by decide +kernel
theorem dX9_copy_53 : decode cX9_copy 53 = .ok (.putfield 47, 3) := by decide +kernel
theorem dX9_copy_56 : decode cX9_copy 56 = .ok (.iconst 0, 1) := by decide +kernel
theorem dX9_copy_57 : decode cX9_copy 57 = .ok (.istore_n 2, 1) := by decide +kernel
theorem dX9_copy_58 : decode cX9_copy 58 = .ok (.iload_n 2, 1) := by decide +kernel
theorem dX9_copy_59 : decode cX9_copy 59 = .ok (.bipush 9, 2) := by decide +kernel
theorem dX9_copy_61 : decode cX9_copy 61 = .ok (.if_icmp .ge 24, 3) := by decide +kernel
theorem dX9_copy_64 : decode cX9_copy 64 = .ok (.aload_n 0, 1) := by decide +kernel
theorem dX9_copy_65 : decode cX9_copy 65 = .ok (.getfield 25, 3) := by decide +kernel
theorem dX9_copy_68 : decode cX9_copy 68 = .ok (.iload_n 2, 1) := by decide +kernel
theorem dX9_copy_69 : decode cX9_copy 69 = .ok (.aaload, 1) := by decide +kernel
theorem dX9_copy_70 : decode cX9_copy 70 = .ok (.aload_n 1, 1) := by decide +kernel
theorem dX9_copy_71 : decode cX9_copy 71 = .ok (.getfield 25, 3) := by decide +kernel
theorem dX9_copy_74 : decode cX9_copy 74 = .ok (.iload_n 2, 1) := by decide +kernel
theorem dX9_copy_75 : decode cX9_copy 75 = .ok (.aaload, 1) := by decide +kernel
theorem dX9_copy_76 : decode cX9_copy 76 = .ok (.invokevirtual 51, 3) := by decide +kernel
theorem dX9_copy_79 : decode cX9_copy 79 = .ok (.iinc 2 1, 3) := by decide +kernel
theorem dX9_copy_82 : decode cX9_copy 82 = .ok (.goto (-24), 3) := by decide +kernel
theorem dX9_copy_85 : decode cX9_copy 85 = .ok (.return_, 1) := by decide +kernel
set_option maxHeartbeats 1000000 in
set_option maxRecDepth 100000 in
theorem t_X9_copy (l : Launch) (D : xD) (z n : Nat) (G : xG) (I : xI) (L : xL) (S : Nat) (O : Nat) (hS : shS G S) (hO : shS G O) (zS : z ≤ S) (dSO : S + 38 ≤ O ∨ O + 38 ≤ S) : xM0 l D z yX9_copy cX9_copy 3 none 2 42 [.ref S, .ref O] n G I L (fun v' I' L' => v' = none ∧ (stEq I L O I' L' S) ∧ (∀ a, (a < S ∨ S + 38 ≤ a) → I' a = I a) ∧ (∀ a, (a < S ∨ S + 38 ≤ a) → L' a = L a)) := by
  refine xM.of (by decide) (Nat.le_of_ble_eq_true rfl) (fun p e s m args below meth c C hnm hsz => ?_)
  refine x_lv [(0, .ref S), (1, .ref O)] rfl ?_
  refine x_aload_n 0 C dX9_copy_0 rfl 0 rfl ?_
  refine x_getr 1 C (b := S + 1 + 4 * 0) dX9_copy_1 ff_X9_10 rfl hS.1 rfl ?_
  refine x_aload_n 4 C dX9_copy_4 rfl 1 rfl ?_
  refine x_getr 5 C (b := O + 1 + 4 * 0) dX9_copy_5 ff_X9_10 rfl hO.1 rfl ?_
  refine x_callVe 8 C dX9_copy_8 (As := [.ref (O + 1 + 4 * 0)]) (rest := []) [] (t_X1_copy l D z n G I L (S + 1 + 4 * 0) (O + 1 + 4 * 0) (hS.2.1 0 (by decide)) (hO.2.1 0 (by decide)) (by omega) (by first | omega | assumption | decide)) mt_X1_copy km_X9_43 ki_X1_copy ks_X1_copy (hS.2.1 0 (by decide)).1 ⟨by decide, rfl⟩ rfl rfl (Nat.le_of_ble_eq_true rfl) ⟨⟨by decide, by decide⟩, by decide, by decide⟩ (fun I1 L2 eI1 eL2 => ?_)
  have q3 : ∀ j, j < 10 → I1 (S + 1 + 4 * 0 + 1) j = (I (O + 1 + 4 * 0 + 1)) j := fun j hj => by rw [eI1, eqFill_re _ _ _ _ hj]
  have q4 : ∀ j, j < 10 → I1 (S + 1 + 4 * 0 + 2) j = (I (O + 1 + 4 * 0 + 2)) j := fun j hj => by rw [eI1, eqFill_im _ _ _ _ hj]
  have q5 : ∀ j, j < 10 → I1 (S + 1 + 4 * 1 + 1) j = (I (S + 1 + 4 * 1 + 1)) j := fun j hj => by rw [eI1, eqFill_ne _ _ _ _ _ (by omega) (by omega)]
  have q6 : ∀ j, j < 10 → I1 (S + 1 + 4 * 1 + 2) j = (I (S + 1 + 4 * 1 + 2)) j := fun j hj => by rw [eI1, eqFill_ne _ _ _ _ _ (by omega) (by omega)]
  have q7 : ∀ j, j < 10 → I1 (O + 1 + 4 * 0 + 1) j = (I (O + 1 + 4 * 0 + 1)) j := fun j hj => by rw [eI1, eqFill_ne _ _ _ _ _ (by omega) (by omega)]
  have q8 : ∀ j, j < 10 → I1 (O + 1 + 4 * 0 + 2) j = (I (O + 1 + 4 * 0 + 2)) j := fun j hj => by rw [eI1, eqFill_ne _ _ _ _ _ (by omega) (by omega)]
  have q9 : ∀ j, j < 10 → I1 (O + 1 + 4 * 1 + 1) j = (I (O + 1 + 4 * 1 + 1)) j := fun j hj => by rw [eI1, eqFill_ne _ _ _ _ _ (by omega) (by omega)]
  have q10 : ∀ j, j < 10 → I1 (O + 1 + 4 * 1 + 2) j = (I (O + 1 + 4 * 1 + 2)) j := fun j hj => by rw [eI1, eqFill_ne _ _ _ _ _ (by omega) (by omega)]
  replace eL2 := eL2.symm; subst eL2
  refine x_aload_n 11 C dX9_copy_11 rfl 0 rfl ?_
  refine x_getr 12 C (b := S + 1 + 4 * 1) dX9_copy_12 ff_X9_16 rfl hS.1 rfl ?_
  refine x_aload_n 15 C dX9_copy_15 rfl 1 rfl ?_
  refine x_getr 16 C (b := O + 1 + 4 * 1) dX9_copy_16 ff_X9_16 rfl hO.1 rfl ?_
  refine x_callVe 19 C dX9_copy_19 (As := [.ref (O + 1 + 4 * 1)]) (rest := []) [] (t_X1_copy l D z n G I1 L (S + 1 + 4 * 1) (O + 1 + 4 * 1) (hS.2.1 1 (by decide)) (hO.2.1 1 (by decide)) (by omega) (by first | omega | assumption | decide)) mt_X1_copy km_X9_43 ki_X1_copy ks_X1_copy (hS.2.1 1 (by decide)).1 ⟨by decide, rfl⟩ rfl rfl (Nat.le_of_ble_eq_true rfl) ⟨⟨by decide, by decide⟩, by decide, by decide⟩ (fun I11 L12 eI11 eL12 => ?_)
  have q13 : ∀ j, j < 10 → I11 (S + 1 + 4 * 0 + 1) j = (I (O + 1 + 4 * 0 + 1)) j := fun j hj => by rw [eI11, eqFill_ne _ _ _ _ _ (by omega) (by omega)]; exact q3 j hj
  have q14 : ∀ j, j < 10 → I11 (S + 1 + 4 * 0 + 2) j = (I (O + 1 + 4 * 0 + 2)) j := fun j hj => by rw [eI11, eqFill_ne _ _ _ _ _ (by omega) (by omega)]; exact q4 j hj
  have q15 : ∀ j, j < 10 → I11 (S + 1 + 4 * 1 + 1) j = (I (O + 1 + 4 * 1 + 1)) j := fun j hj => by rw [eI11, eqFill_re _ _ _ _ hj]; exact q9 j hj
  have q16 : ∀ j, j < 10 → I11 (S + 1 + 4 * 1 + 2) j = (I (O + 1 + 4 * 1 + 2)) j := fun j hj => by rw [eI11, eqFill_im _ _ _ _ hj]; exact q10 j hj
  have q17 : ∀ j, j < 10 → I11 (O + 1 + 4 * 0 + 1) j = (I (O + 1 + 4 * 0 + 1)) j := fun j hj => by rw [eI11, eqFill_ne _ _ _ _ _ (by omega) (by omega)]; exact q7 j hj
  have q18 : ∀ j, j < 10 → I11 (O + 1 + 4 * 0 + 2) j = (I (O + 1 + 4 * 0 + 2)) j := fun j hj => by rw [eI11, eqFill_ne _ _ _ _ _ (by omega) (by omega)]; exact q8 j hj
  have q19 : ∀ j, j < 10 → I11 (O + 1 + 4 * 1 + 1) j = (I (O + 1 + 4 * 1 + 1)) j := fun j hj => by rw [eI11, eqFill_ne _ _ _ _ _ (by omega) (by omega)]; exact q9 j hj
  have q20 : ∀ j, j < 10 → I11 (O + 1 + 4 * 1 + 2) j = (I (O + 1 + 4 * 1 + 2)) j := fun j hj => by rw [eI11, eqFill_ne _ _ _ _ _ (by omega) (by omega)]; exact q10 j hj
  replace eL12 := eL12.symm; subst eL12
  refine x_iconst 22 C (v := 0) dX9_copy_22 rfl ?_
  refine x_istore_n 23 C [(2, .int 0), (0, .ref S), (1, .ref O)] dX9_copy_23 rfl (by decide) rfl ?_
  have hO24 : ∀ a, (a < S ∨ S + 38 ≤ a) → I11 a = I a := by intro a ha; rw [eI11, eqFill_ne _ _ _ _ _ (by omega) (by omega)]; rw [eI1, eqFill_ne _ _ _ _ _ (by omega) (by omega)]
  have loop24 : ∀ (fuel : Nat) (k : Nat) (Ik : xI), (k ≤ 8) → (9 ≤ k + fuel) → (Ik = rowFill I11 (S + 9) k (I11 (O + 9))) → X p l e (xRm 2 42 0 0) s m args below meth c D z 3 (MQ below (xQc D z n (xN n G (fun v' I' L' => v' = none ∧ (stEq I L O I' L' S) ∧ (∀ a, (a < S ∨ S + 38 ≤ a) → I' a = I a) ∧ (∀ a, (a < S ∨ S + 38 ≤ a) → L' a = L a)))) args s 0 0 (fun a => z ≤ a)) 0 0 n G Ik L 24 [(0, .ref S), (1, .ref O), (2, .int (nI k))] [] := by
    intro fuel
    induction fuel with
    | zero =>
      intro k Ik hk hf hI
      exact absurd hf (by omega)
    | succ fuel ih =>
      intro k Ik hk hf hI
      refine x_iload_n 24 C dX9_copy_24 rfl 2 rfl ?_
      refine x_bipush 25 C (v := 8) dX9_copy_25 rfl ?_
      refine x_icmp_ge 27 C 48 dX9_copy_27 (by decide) (fun c21 => ?_) (fun c21 => ?_)
      · skip
        have c21n : 8 ≤ k := (nI_leI (a := 8) (b := k) (by omega) (by omega)).mp c21
        have c21o := Int32.not_lt.mpr c21
        refine x_aload_n 48 C dX9_copy_48 rfl 0 rfl ?_
        refine x_aload_n 49 C dX9_copy_49 rfl 1 rfl ?_
        refine x_geti 50 C dX9_copy_50 ff_X9_47 hO.1 ?_
        refine x_puti 53 C dX9_copy_53 ff_X9_47 rfl hS.1 (by omega) (fun I22 eI22 => ?_)
        refine x_iconst 56 C (v := 0) dX9_copy_56 rfl ?_
        refine x_istore_n 57 C [(2, .int 0), (0, .ref S), (1, .ref O)] dX9_copy_57 rfl (by decide) rfl ?_
        have hk8 : k = 8 := by omega
        subst hk8
        have hIk24 := hI
        have loop58 : ∀ (fuel : Nat) (k : Nat) (Jk : xI) (Lk : xL), (k ≤ 9) → (10 ≤ k + fuel) → (∀ i, i < k → (∀ j, 2 ≤ j → j ≤ 9 → Jk (S + 11 + 3 * i) j = I22 (O + 11 + 3 * i) j) ∧ rd Lk (S + 11 + 3 * i + 1) = rd L (O + 11 + 3 * i + 1) ∧ rd Lk (S + 11 + 3 * i + 2) = rd L (O + 11 + 3 * i + 2)) → (∀ a, (a < S + 11 ∨ S + 38 ≤ a) → Jk a = I22 a) → (∀ a, (a < S + 11 ∨ S + 38 ≤ a) → Lk a = L a) → X p l e (xRm 2 42 0 0) s m args below meth c D z 3 (MQ below (xQc D z n (xN n G (fun v' I' L' => v' = none ∧ (stEq I L O I' L' S) ∧ (∀ a, (a < S ∨ S + 38 ≤ a) → I' a = I a) ∧ (∀ a, (a < S ∨ S + 38 ≤ a) → L' a = L a)))) args s 0 0 (fun a => z ≤ a)) 0 0 n G Jk Lk 58 [(0, .ref S), (1, .ref O), (2, .int (nI k))] [] := by
          intro fuel
          induction fuel with
          | zero =>
            intro k Jk Lk hk2 hf2 hp2 hI2 hL2
            exact absurd hf (by omega)
          | succ fuel ih =>
            intro k Jk Lk hk2 hf2 hp2 hI2 hL2
            refine x_iload_n 58 C dX9_copy_58 rfl 2 rfl ?_
            refine x_bipush 59 C (v := 9) dX9_copy_59 rfl ?_
            refine x_icmp_ge 61 C 85 dX9_copy_61 (by decide) (fun c23 => ?_) (fun c23 => ?_)
            · skip
              have c23n : 9 ≤ k := (nI_leI (a := 9) (b := k) (by omega) (by omega)).mp c23
              have c23o := Int32.not_lt.mpr c23
              refine x_vret 85 C dX9_copy_85 rfl (Nat.le_refl _) (xN.intro ?_)
              have hk9 : k = 9 := by omega
              subst hk9
              have hrow : ∀ a, a ≠ S → a ≠ S + 9 → I22 a = I11 a := by intro a h1 h2; rw [eI22, xup_row _ _ h1, hIk24, rowFill_ne _ _ _ _ h2]
              refine ⟨rfl, ⟨fun b hb j hj => ?_, fun j hj => ?_, ?_, fun i hi => ?_⟩, fun a ha => ?_, fun a ha => hL2 a (by omega)⟩
              · rcases (show b = 0 ∨ b = 1 by omega) with rfl | rfl
                · rw [hI2 _ (by omega), hI2 _ (by omega), hrow _ (by omega) (by omega), hrow _ (by omega) (by omega)]; exact ⟨q13 j hj, q14 j hj⟩
                · rw [hI2 _ (by omega), hI2 _ (by omega), hrow _ (by omega) (by omega), hrow _ (by omega) (by omega)]; exact ⟨q15 j hj, q16 j hj⟩
              · rw [hI2 _ (by omega), eI22, xup_row _ _ (by omega), hIk24, rowFill_at _ _ _ hj, hO24 _ (by omega)]
              · rw [hI2 _ (by omega), eI22, xup_self, hIk24, rowFill_ne _ _ _ _ (by omega), hO24 _ (by omega)]
              · obtain ⟨g1, g2, g3⟩ := hp2 i hi; exact ⟨fun j j1 j2 => by rw [g1 j j1 j2, hrow _ (by omega) (by omega), hO24 _ (by omega)], g2, g3⟩
              · rw [hI2 _ (by omega), hrow _ (by omega) (by omega), hO24 _ (by omega)]
            · skip
              have c23n : ¬ (9 ≤ k) := fun h => c23 ((nI_leI (a := 9) (b := k) (by omega) (by omega)).mpr h)
              have c23o := Int32.not_le.mp c23
              refine x_aload_n 64 C dX9_copy_64 rfl 0 rfl ?_
              refine x_getr 65 C (b := S + 10) dX9_copy_65 ff_X9_25 rfl hS.1 rfl ?_
              refine x_iload_n 68 C dX9_copy_68 rfl 2 rfl ?_
              refine x_aald 69 C (b := S + 11 + 3 * k) (j := k) dX9_copy_69 (by decide) hS.2.2.2.1 (xIx_nI (by omega) (by decide)) (if_pos (by omega)) ?_
              refine x_aload_n 70 C dX9_copy_70 rfl 1 rfl ?_
              refine x_getr 71 C (b := O + 10) dX9_copy_71 ff_X9_25 rfl hO.1 rfl ?_
              refine x_iload_n 74 C dX9_copy_74 rfl 2 rfl ?_
              refine x_aald 75 C (b := O + 11 + 3 * k) (j := k) dX9_copy_75 (by decide) hO.2.2.2.1 (xIx_nI (by omega) (by decide)) (if_pos (by omega)) ?_
              refine x_callVe 76 C dX9_copy_76 (As := [.ref (O + 11 + 3 * k)]) (rest := []) [] (t_X6_copy_c l D z n G Jk Lk (S + 11 + 3 * k) (O + 11 + 3 * k) (hS.2.2.2.2 k (by omega)) (hO.2.2.2.2 k (by omega)) (by omega) (by first | omega | assumption | decide)) mt_X6_copy km_X9_51 ki_X6_copy ks_X6_copy (hS.2.2.2.2 k (by omega)).1 ⟨by decide, rfl⟩ rfl rfl (Nat.le_of_ble_eq_true rfl) ⟨⟨by decide, by decide⟩, by decide, by decide⟩ (fun I24 L25 eI24 eL25 => ?_)
              have k26 : rd L25 (S + 11 + 3 * k + 1) = (rd Lk (O + 11 + 3 * k + 1)) := by rw [eL25, rd_cw_ne _ _ (by omega), rd_cw]
              have k27 : rd L25 (S + 11 + 3 * k + 2) = (rd Lk (O + 11 + 3 * k + 2)) := by rw [eL25, rd_cw]
              have k28 : rd L25 (O + 11 + 3 * k + 1) = rd Lk (O + 11 + 3 * k + 1) := by rw [eL25, rd_cw_ne _ _ (by omega), rd_cw_ne _ _ (by omega)]
              have k29 : rd L25 (O + 11 + 3 * k + 2) = rd Lk (O + 11 + 3 * k + 2) := by rw [eL25, rd_cw_ne _ _ (by omega), rd_cw_ne _ _ (by omega)]
              refine x_iinc 79 C [(2, .int (nI (k + 1))), (0, .ref S), (1, .ref O)] dX9_copy_79 2 rfl (nI_add k 1) (by decide) rfl ?_
              refine x_goto 82 C 58 dX9_copy_82 (by decide) ?_
              refine x_sub [(0, .ref S), (1, .ref O), (2, .int (nI (k + 1)))] [1, 2, 0] rfl ?_
              refine ih (k + 1) I24 L25 (by omega) (by omega) ?_ ?_ ?_
              · intro i hi
                by_cases hik : i = k
                · subst hik; exact ⟨fun j j1 j2 => by rw [eI24, pCopyI_row _ _ _ j1 j2, hI2 _ (by omega)], by rw [k26]; exact rd_congr (hL2 _ (by omega)), by rw [k27]; exact rd_congr (hL2 _ (by omega))⟩
                · obtain ⟨g1, g2, g3⟩ := hp2 i (by omega); exact ⟨fun j j1 j2 => by rw [eI24, pCopyI_ne _ _ (by omega)]; exact g1 j j1 j2, by rw [eL25, rd_cw_ne _ _ (by omega), rd_cw_ne _ _ (by omega)]; exact g2, by rw [eL25, rd_cw_ne _ _ (by omega), rd_cw_ne _ _ (by omega)]; exact g3⟩
              · intro a ha; rw [eI24, pCopyI_ne _ _ (by omega)]; exact hI2 a ha
              · intro a ha; rw [eL25, cw_ne _ _ (by omega), cw_ne _ _ (by omega)]; exact hL2 a ha
        refine x_sub [(0, .ref S), (1, .ref O), (2, .int 0)] [1, 2, 0] rfl ?_
        exact loop58 10 0 I22 L (by omega) (by omega) (fun i hi => absurd hi (Nat.not_lt_zero i)) (fun _ _ => rfl) (fun _ _ => rfl)
      · skip
        have c21n : ¬ (8 ≤ k) := fun h => c21 ((nI_leI (a := 8) (b := k) (by omega) (by omega)).mpr h)
        have c21o := Int32.not_le.mp c21
        refine x_aload_n 30 C dX9_copy_30 rfl 0 rfl ?_
        refine x_getr 31 C (b := S + 9) dX9_copy_31 ff_X9_19 rfl hS.1 rfl ?_
        refine x_iload_n 34 C dX9_copy_34 rfl 2 rfl ?_
        refine x_aload_n 35 C dX9_copy_35 rfl 1 rfl ?_
        refine x_getr 36 C (b := O + 9) dX9_copy_36 ff_X9_19 rfl hO.1 rfl ?_
        refine x_iload_n 39 C dX9_copy_39 rfl 2 rfl ?_
        refine x_iald 40 C (j := k) dX9_copy_40 hO.2.2.1 (xIx_nI (by omega) (by decide)) ?_
        refine x_iast 41 C (j := k) dX9_copy_41 hS.2.2.1 (by omega) (xIx_nI (by omega) (by decide)) (fun I30 eI30 => ?_)
        refine x_iinc 42 C [(2, .int (nI (k + 1))), (0, .ref S), (1, .ref O)] dX9_copy_42 2 rfl (nI_add k 1) (by decide) rfl ?_
        refine x_goto 45 C 24 dX9_copy_45 (by decide) ?_
        refine x_sub [(0, .ref S), (1, .ref O), (2, .int (nI (k + 1)))] [1, 2, 0] rfl ?_
        exact ih (k + 1) I30 (by omega) (by omega) (by rw [eI30, hI]; rw [show rowFill I11 (S + 9) k (I11 (O + 9)) (O + 9) k = I11 (O + 9) k by rw [rowFill_ne _ _ _ _ (by omega)]]; exact rowFill_succ _ _ _ _)
  refine x_sub [(0, .ref S), (1, .ref O), (2, .int 0)] [1, 2, 0] rfl ?_
  exact loop24 9 0 I11 (by omega) (by omega) (rowFill_0 _ _ _).symm
theorem dX9_beginPath_0 : decode cX9_beginPath 0 = .ok (.aload_n 0, 1) := by decide +kernel
theorem dX9_beginPath_1 : decode cX9_beginPath 1 = .ok (.getfield 10, 3) := by decide +kernel
theorem dX9_beginPath_4 : decode cX9_beginPath 4 = .ok (.invokevirtual 64, 3) := by decide +kernel
theorem dX9_beginPath_7 : decode cX9_beginPath 7 = .ok (.istore_n 3, 1) := by decide +kernel
theorem dX9_beginPath_8 : decode cX9_beginPath 8 = .ok (.aload_n 0, 1) := by decide +kernel
theorem dX9_beginPath_9 : decode cX9_beginPath 9 = .ok (.getfield 16, 3) := by decide +kernel
theorem dX9_beginPath_12 : decode cX9_beginPath 12 = .ok (.invokevirtual 64, 3) := by decide +kernel
theorem dX9_beginPath_15 : decode cX9_beginPath 15 = .ok (.istore 4, 2) := by decide +kernel
theorem dX9_beginPath_17 : decode cX9_beginPath 17 = .ok (.aload_n 0, 1) := by decide +kernel
theorem dX9_beginPath_18 : decode cX9_beginPath 18 = .ok (.iload_n 1, 1) := by decide +kernel
theorem dX9_beginPath_19 : decode cX9_beginPath 19 = .ok (.invokevirtual 78, 3) := by decide +kernel
theorem dX9_beginPath_22 : decode cX9_beginPath 22 = .ok (.ifCond .eq 8, 3) := by decide +kernel
theorem dX9_beginPath_25 : decode cX9_beginPath 25 = .ok (.iload 4, 2) := by decide +kernel
theorem dX9_beginPath_27 : decode cX9_beginPath 27 = .ok (.ifCond .ne 4, 3) := by decide +kernel
theorem dX9_beginPath_30 : decode cX9_beginPath 30 = .ok (.return_, 1) := by decide +kernel
theorem dX9_beginPath_31 : decode cX9_beginPath 31 = .ok (.aload_n 0, 1) := by decide +kernel
theorem dX9_beginPath_32 : decode cX9_beginPath 32 = .ok (.getfield 25, 3) := by decide +kernel
theorem dX9_beginPath_35 : decode cX9_beginPath 35 = .ok (.iload_n 1, 1) := by decide +kernel
theorem dX9_beginPath_36 : decode cX9_beginPath 36 = .ok (.aaload, 1) := by decide +kernel
theorem dX9_beginPath_37 : decode cX9_beginPath 37 = .ok (.aload_n 0, 1) := by decide +kernel
theorem dX9_beginPath_38 : decode cX9_beginPath 38 = .ok (.getfield 19, 3) := by decide +kernel
theorem dX9_beginPath_41 : decode cX9_beginPath 41 = .ok (.iconst 0, 1) := by decide +kernel
theorem dX9_beginPath_42 : decode cX9_beginPath 42 = .ok (.iaload, 1) := by decide +kernel
theorem dX9_beginPath_43 : decode cX9_beginPath 43 = .ok (.iload_n 2, 1) := by decide +kernel
theorem dX9_beginPath_44 : decode cX9_beginPath 44 = .ok (.invokevirtual 82, 3) := by decide +kernel
theorem dX9_beginPath_47 : decode cX9_beginPath 47 = .ok (.aload_n 0, 1) := by decide +kernel
theorem dX9_beginPath_48 : decode cX9_beginPath 48 = .ok (.getfield 25, 3) := by decide +kernel
theorem dX9_beginPath_51 : decode cX9_beginPath 51 = .ok (.iload_n 1, 1) := by decide +kernel
theorem dX9_beginPath_52 : decode cX9_beginPath 52 = .ok (.aaload, 1) := by decide +kernel
theorem dX9_beginPath_53 : decode cX9_beginPath 53 = .ok (.iload_n 3, 1) := by decide +kernel
theorem dX9_beginPath_54 : decode cX9_beginPath 54 = .ok (.iload_n 1, 1) := by decide +kernel
theorem dX9_beginPath_55 : decode cX9_beginPath 55 = .ok (.iload 4, 2) := by decide +kernel
theorem dX9_beginPath_57 : decode cX9_beginPath 57 = .ok (.idiv, 1) := by decide +kernel
theorem dX9_beginPath_58 : decode cX9_beginPath 58 = .ok (.iload 4, 2) := by decide +kernel
theorem dX9_beginPath_60 : decode cX9_beginPath 60 = .ok (.iload_n 1, 1) := by decide +kernel
theorem dX9_beginPath_61 : decode cX9_beginPath 61 = .ok (.iload 4, 2) := by decide +kernel
theorem dX9_beginPath_63 : decode cX9_beginPath 63 = .ok (.irem, 1) := by decide +kernel
theorem dX9_beginPath_64 : decode cX9_beginPath 64 = .ok (.invokevirtual 85, 3) := by decide +kernel
theorem dX9_beginPath_67 : decode cX9_beginPath 67 = .ok (.return_, 1) := by decide +kernel
set_option maxHeartbeats 1000000 in
set_option maxRecDepth 100000 in
theorem t_X9_beginPath (l : Launch) (D : xD) (z n : Nat) (G : xG) (I : xI) (L : xL) (S : Nat) (k : Nat) (g0 : Int32) (U : Nat) (hS : shS G S) (zS : z ≤ S) (hU : I S 4 = nI U) (hU9 : U ≤ 9) (hk : k < U) (hd1 : 1 ≤ sdg I S 1) : xM0 l D z yX9_beginPath cX9_beginPath 5 none 3 74 [.ref S, .int (nI k), .int g0] n G I L (xE none (pBegin I (S + 11 + 3 * k) (I (S + 9) 0) g0) (cw (cw L (S + 11 + 3 * k + 1) (hC (rootC (nI (sdg I S 0)) (nI (k / sdg I S 1)) 1024))) (S + 11 + 3 * k + 2) (hC (rootC (nI (sdg I S 1)) (nI (k % sdg I S 1)) 1024)))) := by
  refine xM.of (by decide) (Nat.le_of_ble_eq_true rfl) (fun p e s m args below meth c C hnm hsz => ?_)
  refine x_lv [(0, .ref S), (1, .int (nI k)), (2, .int g0)] rfl ?_
  have hd1b : sdg I S 1 ≤ 3 := dgN_le _ _ _
  refine x_aload_n 0 C dX9_beginPath_0 rfl 0 rfl ?_
  refine x_getr 1 C (b := S + 1 + 4 * 0) dX9_beginPath_1 ff_X9_10 rfl hS.1 rfl ?_
  refine x_callVe 4 C dX9_beginPath_4 (As := []) (rest := []) [.int (nI (dgN (I ((S + 1 + 4 * 0) + 1)) (I ((S + 1 + 4 * 0) + 2)) 10))] (t_X1_degree l D z n G I L (S + 1 + 4 * 0) (hS.2.1 0 (by decide))) mt_X1_degree km_X9_64 ki_X1_degree ks_X1_degree (hS.2.1 0 (by decide)).1 ⟨by decide, rfl⟩ rfl rfl (Nat.le_of_ble_eq_true rfl) ⟨⟨by decide, by decide⟩, by decide, by decide⟩ (fun I1 L2 eI1 eL2 => ?_)
  replace eI1 := eI1.symm; subst eI1
  replace eL2 := eL2.symm; subst eL2
  refine x_int (nI (sdg I S 0)) rfl ?_
  refine x_istore_n 7 C [(3, .int (nI (sdg I S 0))), (0, .ref S), (1, .int (nI k)), (2, .int g0)] dX9_beginPath_7 rfl (by decide) rfl ?_
  refine x_aload_n 8 C dX9_beginPath_8 rfl 1 rfl ?_
  refine x_getr 9 C (b := S + 1 + 4 * 1) dX9_beginPath_9 ff_X9_16 rfl hS.1 rfl ?_
  refine x_callVe 12 C dX9_beginPath_12 (As := []) (rest := []) [.int (nI (dgN (I ((S + 1 + 4 * 1) + 1)) (I ((S + 1 + 4 * 1) + 2)) 10))] (t_X1_degree l D z n G I L (S + 1 + 4 * 1) (hS.2.1 1 (by decide))) mt_X1_degree km_X9_64 ki_X1_degree ks_X1_degree (hS.2.1 1 (by decide)).1 ⟨by decide, rfl⟩ rfl rfl (Nat.le_of_ble_eq_true rfl) ⟨⟨by decide, by decide⟩, by decide, by decide⟩ (fun I3 L4 eI3 eL4 => ?_)
  replace eI3 := eI3.symm; subst eI3
  replace eL4 := eL4.symm; subst eL4
  refine x_int (nI (sdg I S 1)) rfl ?_
  refine x_istore 15 C [(4, .int (nI (sdg I S 1))), (3, .int (nI (sdg I S 0))), (0, .ref S), (1, .int (nI k)), (2, .int g0)] dX9_beginPath_15 (by decide) rfl ?_
  refine x_aload_n 17 C dX9_beginPath_17 rfl 2 rfl ?_
  refine x_iload_n 18 C dX9_beginPath_18 rfl 3 rfl ?_
  refine x_callVe 19 C dX9_beginPath_19 (As := [.int (nI k)]) (rest := []) [.int 1] (t_X9_hasPath_k l D z n G I L S k U hS (by first | assumption | omega | decide) (by first | omega | assumption | decide) (by first | omega | assumption | decide)) mt_X9_hasPath km_X9_78 ki_X9_hasPath ks_X9_hasPath hS.1 ⟨by decide, rfl⟩ rfl rfl (Nat.le_of_ble_eq_true rfl) ⟨⟨by decide, by decide⟩, by decide, by decide⟩ (fun I5 L6 eI5 eL6 => ?_)
  replace eI5 := eI5.symm; subst eI5
  replace eL6 := eL6.symm; subst eL6
  refine x_if_eq 22 C 30 dX9_beginPath_22 (by decide) (fun c7 => absurd c7 (by decide)) (fun _ => ?_)
  refine x_iload 25 C dX9_beginPath_25 0 rfl ?_
  refine x_if_ne 27 C 31 dX9_beginPath_27 (by decide) (fun _ => ?_) (fun c8 => absurd c8 (fun h => absurd ((nI_eq (a := (sdg I S 1)) (b := 0) (by omega) (by omega)).mp h) (by omega)))
  refine x_aload_n 31 C dX9_beginPath_31 rfl 2 rfl ?_
  refine x_getr 32 C (b := S + 10) dX9_beginPath_32 ff_X9_25 rfl hS.1 rfl ?_
  refine x_iload_n 35 C dX9_beginPath_35 rfl 3 rfl ?_
  refine x_aald 36 C (b := S + 11 + 3 * k) (j := k) dX9_beginPath_36 (by decide) hS.2.2.2.1 (xIx_nI (by omega) (by decide)) (if_pos (by omega)) ?_
  refine x_aload_n 37 C dX9_beginPath_37 rfl 2 rfl ?_
  refine x_getr 38 C (b := S + 9) dX9_beginPath_38 ff_X9_19 rfl hS.1 rfl ?_
  refine x_iconst 41 C (v := 0) dX9_beginPath_41 rfl ?_
  refine x_iald 42 C (j := 0) dX9_beginPath_42 hS.2.2.1 ⟨by decide, by decide, by decide⟩ ?_
  refine x_iload_n 43 C dX9_beginPath_43 rfl 4 rfl ?_
  refine x_callVe 44 C dX9_beginPath_44 (As := [.int (I (S + 9) 0), .int g0]) (rest := []) [] (t_X6_begin l D z n G I L (S + 11 + 3 * k) (I (S + 9) 0) g0 (hS.2.2.2.2 k (by omega)) (by omega)) mt_X6_begin km_X9_82 ki_X6_begin ks_X6_begin (hS.2.2.2.2 k (by omega)).1 ⟨by decide, rfl⟩ rfl rfl (Nat.le_of_ble_eq_true rfl) ⟨⟨by decide, by decide⟩, by decide, by decide⟩ (fun I9 L10 eI9 eL10 => ?_)
  replace eL10 := eL10.symm; subst eL10
  refine x_aload_n 47 C dX9_beginPath_47 rfl 2 rfl ?_
  refine x_getr 48 C (b := S + 10) dX9_beginPath_48 ff_X9_25 rfl hS.1 rfl ?_
  refine x_iload_n 51 C dX9_beginPath_51 rfl 3 rfl ?_
  refine x_aald 52 C (b := S + 11 + 3 * k) (j := k) dX9_beginPath_52 (by decide) hS.2.2.2.1 (xIx_nI (by omega) (by decide)) (if_pos (by omega)) ?_
  refine x_iload_n 53 C dX9_beginPath_53 rfl 1 rfl ?_
  refine x_iload_n 54 C dX9_beginPath_54 rfl 3 rfl ?_
  refine x_iload 55 C dX9_beginPath_55 0 rfl ?_
  refine x_idiv 57 C dX9_beginPath_57 (nI_ne0 (by omega) (by omega)) ?_
  refine x_int (nI (k / sdg I S 1)) (nI_div (by omega) (by omega)) ?_
  refine x_iload 58 C dX9_beginPath_58 0 rfl ?_
  refine x_iload_n 60 C dX9_beginPath_60 rfl 3 rfl ?_
  refine x_iload 61 C dX9_beginPath_61 0 rfl ?_
  refine x_irem 63 C dX9_beginPath_63 (nI_ne0 (by omega) (by omega)) ?_
  refine x_int (nI (k % sdg I S 1)) (nI_mod (by omega) (by omega)) ?_
  refine x_callVe 64 C dX9_beginPath_64 (As := [.int (nI (sdg I S 0)), .int (nI (k / sdg I S 1)), .int (nI (sdg I S 1)), .int (nI (k % sdg I S 1))]) (rest := []) [] (t_X6_putOnRoots_c l D z n G I9 L (S + 11 + 3 * k) (nI (sdg I S 0)) (nI (k / sdg I S 1)) (nI (sdg I S 1)) (nI (k % sdg I S 1)) (hS.2.2.2.2 k (by omega)) (by omega)) mt_X6_putOnRoots km_X9_85 ki_X6_putOnRoots ks_X6_putOnRoots (hS.2.2.2.2 k (by omega)).1 ⟨by decide, rfl⟩ rfl rfl (Nat.le_of_ble_eq_true rfl) ⟨⟨by decide, by decide⟩, by decide, by decide⟩ (fun I11 L12 eI11 eL12 => ?_)
  replace eI11 := eI11.symm; subst eI11
  refine x_vret 67 C dX9_beginPath_67 rfl (Nat.le_refl _) (xN.intro ?_)
  have hu : punit (I9 (S + 11 + 3 * k) 6) = 1024 := by rw [eI9]; rw [pBegin_row _ _ _ _ (by decide) (by decide)]; rfl
  rw [hu] at eL12
  exact ⟨rfl, eI9, eL12⟩
theorem dX9_beginPaths_0 : decode cX9_beginPaths 0 = .ok (.aload_n 0, 1) := by decide +kernel
theorem dX9_beginPaths_1 : decode cX9_beginPaths 1 = .ok (.aload_n 0, 1) := by decide +kernel
theorem dX9_beginPaths_2 : decode cX9_beginPaths 2 = .ok (.getfield 10, 3) := by decide +kernel
theorem dX9_beginPaths_5 : decode cX9_beginPaths 5 = .ok (.invokevirtual 64, 3) := by decide +kernel
theorem dX9_beginPaths_8 : decode cX9_beginPaths 8 = .ok (.aload_n 0, 1) := by decide +kernel
theorem dX9_beginPaths_9 : decode cX9_beginPaths 9 = .ok (.getfield 16, 3) := by decide +kernel
theorem dX9_beginPaths_12 : decode cX9_beginPaths 12 = .ok (.invokevirtual 64, 3) := by decide +kernel
theorem dX9_beginPaths_15 : decode cX9_beginPaths 15 = .ok (.imul, 1) := by decide +kernel
theorem dX9_beginPaths_16 : decode cX9_beginPaths 16 = .ok (.bipush 9, 2) := by decide +kernel
theorem dX9_beginPaths_18 : decode cX9_beginPaths 18 = .ok (.invokestatic 68, 3) := by decide +kernel
theorem dX9_beginPaths_21 : decode cX9_beginPaths 21 = .ok (.putfield 47, 3) := by decide +kernel
theorem dX9_beginPaths_24 : decode cX9_beginPaths 24 = .ok (.iconst 0, 1) := by decide +kernel
theorem dX9_beginPaths_25 : decode cX9_beginPaths 25 = .ok (.istore_n 1, 1) := by decide +kernel
theorem dX9_beginPaths_26 : decode cX9_beginPaths 26 = .ok (.iload_n 1, 1) := by decide +kernel
theorem dX9_beginPaths_27 : decode cX9_beginPaths 27 = .ok (.aload_n 0, 1) := by decide +kernel
theorem dX9_beginPaths_28 : decode cX9_beginPaths 28 = .ok (.getfield 47, 3) := by decide +kernel
theorem dX9_beginPaths_31 : decode cX9_beginPaths 31 = .ok (.if_icmp .ge 20, 3) := by decide +kernel
theorem dX9_beginPaths_34 : decode cX9_beginPaths 34 = .ok (.aload_n 0, 1) := by decide +kernel
theorem dX9_beginPaths_35 : decode cX9_beginPaths 35 = .ok (.iload_n 1, 1) := by decide +kernel
theorem dX9_beginPaths_36 : decode cX9_beginPaths 36 = .ok (.aload_n 0, 1) := by decide +kernel
theorem dX9_beginPaths_37 : decode cX9_beginPaths 37 = .ok (.getfield 19, 3) := by decide +kernel
theorem dX9_beginPaths_40 : decode cX9_beginPaths 40 = .ok (.iconst 1, 1) := by decide +kernel
theorem dX9_beginPaths_41 : decode cX9_beginPaths 41 = .ok (.iaload, 1) := by decide +kernel
theorem dX9_beginPaths_42 : decode cX9_beginPaths 42 = .ok (.invokevirtual 74, 3) := by decide +kernel
theorem dX9_beginPaths_45 : decode cX9_beginPaths 45 = .ok (.iinc 1 1, 3) := by decide +kernel
theorem dX9_beginPaths_48 : decode cX9_beginPaths 48 = .ok (.goto (-22), 3) := by decide +kernel
theorem dX9_beginPaths_51 : decode cX9_beginPaths 51 = .ok (.return_, 1) := by decide +kernel
set_option maxHeartbeats 1000000 in
set_option maxRecDepth 100000 in
theorem t_X9_beginPaths (l : Launch) (D : xD) (z n : Nat) (G : xG) (I : xI) (L : xL) (S : Nat) (hS : shS G S) (zS : z ≤ S) (hd0 : 1 ≤ sdg I S 0) (hd1 : 1 ≤ sdg I S 1) : xM0 l D z yX9_beginPaths cX9_beginPaths 2 none 4 98 [.ref S] n G I L (fun v' I' L' => v' = none ∧ (I' S 4 = nI (sdg I S 0 * sdg I S 1)) ∧ (begun I' L' S (sdg I S 0) (sdg I S 1) (I (S + 9) 0) (I (S + 9) 1) (sdg I S 0 * sdg I S 1)) ∧ (∀ a, a ≠ S → (a < S + 11 ∨ S + 38 ≤ a) → I' a = I a) ∧ (∀ a, (a < S + 11 ∨ S + 38 ≤ a) → L' a = L a)) := by
  refine xM.of (by decide) (Nat.le_of_ble_eq_true rfl) (fun p e s m args below meth c C hnm hsz => ?_)
  refine x_lv [(0, .ref S)] rfl ?_
  have hd0b : sdg I S 0 ≤ 3 := dgN_le _ _ _
  have hd1b : sdg I S 1 ≤ 3 := dgN_le _ _ _
  have hdd : sdg I S 0 * sdg I S 1 ≤ 9 := Nat.mul_le_mul hd0b hd1b
  obtain ⟨DD, hDD⟩ : ∃ DD : Nat, DD = sdg I S 0 * sdg I S 1 := ⟨_, rfl⟩
  rw [← hDD] at hdd
  refine x_aload_n 0 C dX9_beginPaths_0 rfl 0 rfl ?_
  refine x_aload_n 1 C dX9_beginPaths_1 rfl 0 rfl ?_
  refine x_getr 2 C (b := S + 1 + 4 * 0) dX9_beginPaths_2 ff_X9_10 rfl hS.1 rfl ?_
  refine x_callVe 5 C dX9_beginPaths_5 (As := []) (rest := [.ref S]) [.int (nI (dgN (I ((S + 1 + 4 * 0) + 1)) (I ((S + 1 + 4 * 0) + 2)) 10)), .ref S] (t_X1_degree l D z n G I L (S + 1 + 4 * 0) (hS.2.1 0 (by decide))) mt_X1_degree km_X9_64 ki_X1_degree ks_X1_degree (hS.2.1 0 (by decide)).1 ⟨by decide, rfl⟩ rfl rfl (Nat.le_of_ble_eq_true rfl) ⟨⟨by decide, by decide⟩, by decide, by decide⟩ (fun I1 L2 eI1 eL2 => ?_)
  replace eI1 := eI1.symm; subst eI1
  replace eL2 := eL2.symm; subst eL2
  refine x_int (nI (sdg I S 0)) rfl ?_
  refine x_aload_n 8 C dX9_beginPaths_8 rfl 0 rfl ?_
  refine x_getr 9 C (b := S + 1 + 4 * 1) dX9_beginPaths_9 ff_X9_16 rfl hS.1 rfl ?_
  refine x_callVe 12 C dX9_beginPaths_12 (As := []) (rest := [.int (nI (sdg I S 0)), .ref S]) [.int (nI (dgN (I ((S + 1 + 4 * 1) + 1)) (I ((S + 1 + 4 * 1) + 2)) 10)), .int (nI (sdg I S 0)), .ref S] (t_X1_degree l D z n G I L (S + 1 + 4 * 1) (hS.2.1 1 (by decide))) mt_X1_degree km_X9_64 ki_X1_degree ks_X1_degree (hS.2.1 1 (by decide)).1 ⟨by decide, rfl⟩ rfl rfl (Nat.le_of_ble_eq_true rfl) ⟨⟨by decide, by decide⟩, by decide, by decide⟩ (fun I3 L4 eI3 eL4 => ?_)
  replace eI3 := eI3.symm; subst eI3
  replace eL4 := eL4.symm; subst eL4
  refine x_int (nI (sdg I S 1)) rfl ?_
  refine x_imul 15 C dX9_beginPaths_15 ?_
  refine x_int (nI DD) ((nI_mul _ _).trans (congrArg nI hDD.symm)) ?_
  refine x_bipush 16 C (v := 9) dX9_beginPaths_16 rfl ?_
  refine x_mmin 18 C dX9_beginPaths_18 km_X9_68 kt_J9_min_7cf53 kn_J9 kc_J9_min_7cf53 ⟨by decide, Nat.le_of_ble_eq_true rfl, by decide, by decide⟩ ?_
  refine x_int (nI DD) ((imin_nI (a := DD) (b := 9) (by omega) (by omega)).trans (congrArg nI (Nat.min_eq_left hdd))) ?_
  refine x_puti 21 C dX9_beginPaths_21 ff_X9_47 rfl hS.1 (by omega) (fun I5 eI5 => ?_)
  refine x_iconst 24 C (v := 0) dX9_beginPaths_24 rfl ?_
  refine x_istore_n 25 C [(1, .int 0), (0, .ref S)] dX9_beginPaths_25 rfl (by decide) rfl ?_
  have loop26 : ∀ (fuel : Nat) (k : Nat) (Ik : xI) (Lk : xL), (k ≤ DD) → (DD + 1 ≤ k + fuel) → (begun Ik Lk S (sdg I S 0) (sdg I S 1) (I (S + 9) 0) (I (S + 9) 1) k) → (Ik S 4 = nI DD) → (∀ a, a ≠ S → (a < S + 11 ∨ S + 38 ≤ a) → Ik a = I a) → (∀ a, (a < S + 11 ∨ S + 38 ≤ a) → Lk a = L a) → X p l e (xRm 4 98 0 0) s m args below meth c D z 2 (MQ below (xQc D z n (xN n G (fun v' I' L' => v' = none ∧ (I' S 4 = nI (sdg I S 0 * sdg I S 1)) ∧ (begun I' L' S (sdg I S 0) (sdg I S 1) (I (S + 9) 0) (I (S + 9) 1) (sdg I S 0 * sdg I S 1)) ∧ (∀ a, a ≠ S → (a < S + 11 ∨ S + 38 ≤ a) → I' a = I a) ∧ (∀ a, (a < S + 11 ∨ S + 38 ≤ a) → L' a = L a)))) args s 0 0 (fun a => z ≤ a)) 0 0 n G Ik Lk 26 [(0, .ref S), (1, .int (nI k))] [] := by
    intro fuel
    induction fuel with
    | zero =>
      intro k Ik Lk hk hf hb hU0 hfrk hfrL
      exact absurd hf (by omega)
    | succ fuel ih =>
      intro k Ik Lk hk hf hb hU0 hfrk hfrL
      have e0 : sdg Ik S 0 = sdg I S 0 := by unfold sdg; rw [hfrk _ (by omega) (by omega), hfrk _ (by omega) (by omega)]
      have e1 : sdg Ik S 1 = sdg I S 1 := by unfold sdg; rw [hfrk _ (by omega) (by omega), hfrk _ (by omega) (by omega)]
      have e9 : Ik (S + 9) = I (S + 9) := hfrk _ (by omega) (by omega)
      refine x_iload_n 26 C dX9_beginPaths_26 rfl 1 rfl ?_
      refine x_aload_n 27 C dX9_beginPaths_27 rfl 0 rfl ?_
      refine x_geti 28 C dX9_beginPaths_28 ff_X9_47 hS.1 ?_
      refine x_int (nI DD) hU0 ?_
      refine x_icmp_ge 31 C 51 dX9_beginPaths_31 (by decide) (fun c6 => ?_) (fun c6 => ?_)
      · skip
        have c6n : DD ≤ k := (nI_leI (a := DD) (b := k) (by omega) (by omega)).mp c6
        have c6o := Int32.not_lt.mpr c6
        refine x_vret 51 C dX9_beginPaths_51 rfl (Nat.le_refl _) (xN.intro ?_)
        have hkD : k = DD := by omega
        subst hkD
        rw [hDD] at hU0 hb
        exact ⟨rfl, hU0, hb, hfrk, hfrL⟩
      · skip
        have c6n : ¬ (DD ≤ k) := fun h => c6 ((nI_leI (a := DD) (b := k) (by omega) (by omega)).mpr h)
        have c6o := Int32.not_le.mp c6
        refine x_aload_n 34 C dX9_beginPaths_34 rfl 0 rfl ?_
        refine x_iload_n 35 C dX9_beginPaths_35 rfl 1 rfl ?_
        refine x_aload_n 36 C dX9_beginPaths_36 rfl 0 rfl ?_
        refine x_getr 37 C (b := S + 9) dX9_beginPaths_37 ff_X9_19 rfl hS.1 rfl ?_
        refine x_iconst 40 C (v := 1) dX9_beginPaths_40 rfl ?_
        refine x_iald 41 C (j := 1) dX9_beginPaths_41 hS.2.2.1 ⟨by decide, by decide, by decide⟩ ?_
        refine x_int (I (S + 9) 1) (by rw [e9]) ?_
        refine x_callVe 42 C dX9_beginPaths_42 (As := [.int (nI k), .int (I (S + 9) 1)]) (rest := []) [] (t_X9_beginPath l D z n G Ik Lk S k (I (S + 9) 1) DD hS (by omega) hU0 hdd (by first | omega | assumption | decide) (by rw [e1]; exact hd1)) mt_X9_beginPath km_X9_74 ki_X9_beginPath ks_X9_beginPath hS.1 ⟨by decide, rfl⟩ rfl rfl (Nat.le_of_ble_eq_true rfl) ⟨⟨by decide, by decide⟩, by decide, by decide⟩ (fun I7 L8 eI7 eL8 => ?_)
        have k9 : rd L8 (S + 11 + 3 * k + 1) = hC (rootC (nI (sdg Ik S 0)) (nI (k / sdg Ik S 1)) 1024) := by rw [eL8, rd_cw_ne _ _ (by omega), rd_cw]
        have k10 : rd L8 (S + 11 + 3 * k + 2) = hC (rootC (nI (sdg Ik S 1)) (nI (k % sdg Ik S 1)) 1024) := by rw [eL8, rd_cw]
        refine x_iinc 45 C [(1, .int (nI (k + 1))), (0, .ref S)] dX9_beginPaths_45 1 rfl (nI_add k 1) (by decide) rfl ?_
        refine x_goto 48 C 26 dX9_beginPaths_48 (by decide) ?_
        refine x_sub [(0, .ref S), (1, .int (nI (k + 1)))] [1, 0] rfl ?_
        refine ih (k + 1) I7 L8 (by omega) (by omega) ?_ ?_ ?_ ?_
        · intro i hi
          by_cases hik : i = k
          · subst hik; exact ⟨fun j j1 j2 => by rw [eI7, pBegin_row _ _ _ _ j1 j2, e9], by rw [k9, e0, e1], by rw [k10, e1]⟩
          · obtain ⟨g1, g2, g3⟩ := hb i (by omega); exact ⟨fun j j1 j2 => by rw [eI7, pBegin_ne _ _ _ (by omega)]; exact g1 j j1 j2, by rw [eL8, rd_cw_ne _ _ (by omega), rd_cw_ne _ _ (by omega)]; exact g2, by rw [eL8, rd_cw_ne _ _ (by omega), rd_cw_ne _ _ (by omega)]; exact g3⟩
        · rw [eI7, pBegin_ne _ _ _ (by omega)]; exact hU0
        · intro a h1 h2; rw [eI7, pBegin_ne _ _ _ (by omega)]; exact hfrk a h1 h2
        · intro a ha; rw [eL8, cw_ne _ _ (by omega), cw_ne _ _ (by omega)]; exact hfrL a ha
  refine x_sub [(0, .ref S), (1, .int 0)] [1, 0] rfl ?_
  refine loop26 (DD + 1) 0 I5 L (by omega) (by omega) (fun i hi => absurd hi (Nat.not_lt_zero i)) ?_ ?_ (fun _ _ => rfl)
  · rw [eI5, xup_self]
  · intro a h1 h2; rw [eI5, xup_row _ _ h1]
end
