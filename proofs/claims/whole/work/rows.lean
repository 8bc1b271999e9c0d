section
-- ===== PART A: goes FIRST, ahead of the names: the tables' words, and 'selects' of the private methods out of them =====
/-- a private method of a class that the tables say can be made, by its rows of tables_1 -/
def lw_okq (q : MethodName × Nat) : Prop := (q.1.cls ≠ "java/lang/invoke/MethodHandle" ∧ q.1.cls ≠ "java/lang/invoke/VarHandle") ∧ Cond.instantiable q.1.cls q.2 ∈ tables_1 ∧ Cond.privateMethod q.1 ∈ tables_1 ∧ Cond.instanceMethod q.1 ∈ tables_1
theorem lw_p0 : lw_okq (⟨"PathTracker$State", "beginPaths", "()V"⟩, 5) := ⟨⟨by decide +kernel, by decide +kernel⟩, List.mem_of_getElem? (i := 210) (by decide +kernel), List.mem_of_getElem? (i := 317) (by decide +kernel), List.mem_of_getElem? (i := 318) (by decide +kernel)⟩
theorem lw_p1 : lw_okq (⟨"PathTracker$EquationText", "signHere", "()I"⟩, 4) := ⟨⟨by decide +kernel, by decide +kernel⟩, List.mem_of_getElem? (i := 25) (by decide +kernel), List.mem_of_getElem? (i := 435) (by decide +kernel), List.mem_of_getElem? (i := 436) (by decide +kernel)⟩
theorem lw_p2 : lw_okq (⟨"PathTracker$EquationText", "readTerm", "(Z)Z"⟩, 4) := ⟨⟨by decide +kernel, by decide +kernel⟩, List.mem_of_getElem? (i := 25) (by decide +kernel), List.mem_of_getElem? (i := 439) (by decide +kernel), List.mem_of_getElem? (i := 440) (by decide +kernel)⟩
theorem lw_p3 : lw_okq (⟨"PathTracker$EquationText", "readNumber", "()I"⟩, 4) := ⟨⟨by decide +kernel, by decide +kernel⟩, List.mem_of_getElem? (i := 25) (by decide +kernel), List.mem_of_getElem? (i := 446) (by decide +kernel), List.mem_of_getElem? (i := 447) (by decide +kernel)⟩
theorem lw_p4 : lw_okq (⟨"PathTracker$EquationText", "readFactor", "(I)I"⟩, 4) := ⟨⟨by decide +kernel, by decide +kernel⟩, List.mem_of_getElem? (i := 25) (by decide +kernel), List.mem_of_getElem? (i := 453) (by decide +kernel), List.mem_of_getElem? (i := 454) (by decide +kernel)⟩
theorem lw_p5 : lw_okq (⟨"PathTracker$Follower", "predict", "(IIJ)Z"⟩, 8) := ⟨⟨by decide +kernel, by decide +kernel⟩, List.mem_of_getElem? (i := 76) (by decide +kernel), List.mem_of_getElem? (i := 555) (by decide +kernel), List.mem_of_getElem? (i := 556) (by decide +kernel)⟩
theorem lw_p6 : lw_okq (⟨"PathTracker$Solver", "cross", "(LPathTracker$Complex;LPathTracker$Complex;LPathTracker$Complex;LPathTracker$Complex;LPathTracker$Complex;J)V"⟩, 6) := ⟨⟨by decide +kernel, by decide +kernel⟩, List.mem_of_getElem? (i := 154) (by decide +kernel), List.mem_of_getElem? (i := 633) (by decide +kernel), List.mem_of_getElem? (i := 634) (by decide +kernel)⟩
theorem lw_p7 : lw_okq (⟨"PathTracker$Follower", "correct", "(IJ)Z"⟩, 8) := ⟨⟨by decide +kernel, by decide +kernel⟩, List.mem_of_getElem? (i := 76) (by decide +kernel), List.mem_of_getElem? (i := 644) (by decide +kernel), List.mem_of_getElem? (i := 645) (by decide +kernel)⟩
theorem lw_p8 : lw_okq (⟨"PathTracker$State", "endsBefore", "(I)I"⟩, 5) := ⟨⟨by decide +kernel, by decide +kernel⟩, List.mem_of_getElem? (i := 210) (by decide +kernel), List.mem_of_getElem? (i := 754) (by decide +kernel), List.mem_of_getElem? (i := 755) (by decide +kernel)⟩
theorem lw_p9 : lw_okq (⟨"PathTrackerModel", "beginAll", "()V"⟩, 24) := ⟨⟨by decide +kernel, by decide +kernel⟩, List.mem_of_getElem? (i := 826) (by decide +kernel), List.mem_of_getElem? (i := 836) (by decide +kernel), List.mem_of_getElem? (i := 837) (by decide +kernel)⟩
theorem lw_p10 : lw_okq (⟨"PathTrackerModel", "paths", "()I"⟩, 24) := ⟨⟨by decide +kernel, by decide +kernel⟩, List.mem_of_getElem? (i := 826) (by decide +kernel), List.mem_of_getElem? (i := 840) (by decide +kernel), List.mem_of_getElem? (i := 841) (by decide +kernel)⟩
theorem lw_p11 : lw_okq (⟨"PathTrackerModel", "setting", "(I)I"⟩, 24) := ⟨⟨by decide +kernel, by decide +kernel⟩, List.mem_of_getElem? (i := 826) (by decide +kernel), List.mem_of_getElem? (i := 844) (by decide +kernel), List.mem_of_getElem? (i := 845) (by decide +kernel)⟩
theorem lw_p12 : lw_okq (⟨"PathTrackerModel", "begins", "(II)V"⟩, 24) := ⟨⟨by decide +kernel, by decide +kernel⟩, List.mem_of_getElem? (i := 826) (by decide +kernel), List.mem_of_getElem? (i := 848) (by decide +kernel), List.mem_of_getElem? (i := 849) (by decide +kernel)⟩
theorem lw_p13 : lw_okq (⟨"PathTrackerModel", "root", "(II)V"⟩, 24) := ⟨⟨by decide +kernel, by decide +kernel⟩, List.mem_of_getElem? (i := 826) (by decide +kernel), List.mem_of_getElem? (i := 855) (by decide +kernel), List.mem_of_getElem? (i := 856) (by decide +kernel)⟩
theorem lw_p14 : lw_okq (⟨"PathTrackerModel", "hold", "(JJ)V"⟩, 24) := ⟨⟨by decide +kernel, by decide +kernel⟩, List.mem_of_getElem? (i := 826) (by decide +kernel), List.mem_of_getElem? (i := 861) (by decide +kernel), List.mem_of_getElem? (i := 862) (by decide +kernel)⟩
theorem lw_p15 : lw_okq (⟨"PathTrackerModel", "isPath", "(I)Z"⟩, 24) := ⟨⟨by decide +kernel, by decide +kernel⟩, List.mem_of_getElem? (i := 826) (by decide +kernel), List.mem_of_getElem? (i := 949) (by decide +kernel), List.mem_of_getElem? (i := 950) (by decide +kernel)⟩
def lw_privs_1 : List (MethodName × Nat) := [(⟨"PathTracker$State", "beginPaths", "()V"⟩, 5), (⟨"PathTracker$EquationText", "signHere", "()I"⟩, 4), (⟨"PathTracker$EquationText", "readTerm", "(Z)Z"⟩, 4), (⟨"PathTracker$EquationText", "readNumber", "()I"⟩, 4), (⟨"PathTracker$EquationText", "readFactor", "(I)I"⟩, 4), (⟨"PathTracker$Follower", "predict", "(IIJ)Z"⟩, 8), (⟨"PathTracker$Solver", "cross", "(LPathTracker$Complex;LPathTracker$Complex;LPathTracker$Complex;LPathTracker$Complex;LPathTracker$Complex;J)V"⟩, 6), (⟨"PathTracker$Follower", "correct", "(IJ)Z"⟩, 8), (⟨"PathTracker$State", "endsBefore", "(I)I"⟩, 5), (⟨"PathTrackerModel", "beginAll", "()V"⟩, 24), (⟨"PathTrackerModel", "paths", "()I"⟩, 24), (⟨"PathTrackerModel", "setting", "(I)I"⟩, 24), (⟨"PathTrackerModel", "begins", "(II)V"⟩, 24), (⟨"PathTrackerModel", "root", "(II)V"⟩, 24), (⟨"PathTrackerModel", "hold", "(JJ)V"⟩, 24), (⟨"PathTrackerModel", "isPath", "(I)Z"⟩, 24)]
theorem lw_r1 : ∀ q ∈ lw_privs_1, lw_okq q := List.forall_mem_cons.mpr ⟨lw_p0, List.forall_mem_cons.mpr ⟨lw_p1, List.forall_mem_cons.mpr ⟨lw_p2, List.forall_mem_cons.mpr ⟨lw_p3, List.forall_mem_cons.mpr ⟨lw_p4, List.forall_mem_cons.mpr ⟨lw_p5, List.forall_mem_cons.mpr ⟨lw_p6, List.forall_mem_cons.mpr ⟨lw_p7, List.forall_mem_cons.mpr ⟨lw_p8, List.forall_mem_cons.mpr ⟨lw_p9, List.forall_mem_cons.mpr ⟨lw_p10, List.forall_mem_cons.mpr ⟨lw_p11, List.forall_mem_cons.mpr ⟨lw_p12, List.forall_mem_cons.mpr ⟨lw_p13, List.forall_mem_cons.mpr ⟨lw_p14, List.forall_mem_cons.mpr ⟨lw_p15, fun _ h => absurd h List.not_mem_nil⟩⟩⟩⟩⟩⟩⟩⟩⟩⟩⟩⟩⟩⟩⟩⟩
theorem lw_p16 : lw_okq (⟨"PathTrackerModel", "isOnWay", "(I)Z"⟩, 24) := ⟨⟨by decide +kernel, by decide +kernel⟩, List.mem_of_getElem? (i := 826) (by decide +kernel), List.mem_of_getElem? (i := 957) (by decide +kernel), List.mem_of_getElem? (i := 958) (by decide +kernel)⟩
theorem lw_p17 : lw_okq (⟨"PathTrackerModel", "save0", "()V"⟩, 24) := ⟨⟨by decide +kernel, by decide +kernel⟩, List.mem_of_getElem? (i := 826) (by decide +kernel), List.mem_of_getElem? (i := 962) (by decide +kernel), List.mem_of_getElem? (i := 963) (by decide +kernel)⟩
theorem lw_p18 : lw_okq (⟨"PathTrackerModel", "follows", "(II)I"⟩, 24) := ⟨⟨by decide +kernel, by decide +kernel⟩, List.mem_of_getElem? (i := 826) (by decide +kernel), List.mem_of_getElem? (i := 966) (by decide +kernel), List.mem_of_getElem? (i := 967) (by decide +kernel)⟩
theorem lw_p19 : lw_okq (⟨"PathTrackerModel", "tries", "(I)V"⟩, 24) := ⟨⟨by decide +kernel, by decide +kernel⟩, List.mem_of_getElem? (i := 826) (by decide +kernel), List.mem_of_getElem? (i := 970) (by decide +kernel), List.mem_of_getElem? (i := 971) (by decide +kernel)⟩
theorem lw_p20 : lw_okq (⟨"PathTrackerModel", "takes", "(I)V"⟩, 24) := ⟨⟨by decide +kernel, by decide +kernel⟩, List.mem_of_getElem? (i := 826) (by decide +kernel), List.mem_of_getElem? (i := 974) (by decide +kernel), List.mem_of_getElem? (i := 975) (by decide +kernel)⟩
theorem lw_p21 : lw_okq (⟨"PathTrackerModel", "predicts", "(II)Z"⟩, 24) := ⟨⟨by decide +kernel, by decide +kernel⟩, List.mem_of_getElem? (i := 826) (by decide +kernel), List.mem_of_getElem? (i := 978) (by decide +kernel), List.mem_of_getElem? (i := 979) (by decide +kernel)⟩
theorem lw_p22 : lw_okq (⟨"PathTrackerModel", "laySystem", "(I)V"⟩, 24) := ⟨⟨by decide +kernel, by decide +kernel⟩, List.mem_of_getElem? (i := 826) (by decide +kernel), List.mem_of_getElem? (i := 982) (by decide +kernel), List.mem_of_getElem? (i := 983) (by decide +kernel)⟩
theorem lw_p23 : lw_okq (⟨"PathTrackerModel", "layPoint", "()V"⟩, 24) := ⟨⟨by decide +kernel, by decide +kernel⟩, List.mem_of_getElem? (i := 826) (by decide +kernel), List.mem_of_getElem? (i := 986) (by decide +kernel), List.mem_of_getElem? (i := 987) (by decide +kernel)⟩
theorem lw_p24 : lw_okq (⟨"PathTrackerModel", "layPowers", "(IJJ)V"⟩, 24) := ⟨⟨by decide +kernel, by decide +kernel⟩, List.mem_of_getElem? (i := 826) (by decide +kernel), List.mem_of_getElem? (i := 990) (by decide +kernel), List.mem_of_getElem? (i := 991) (by decide +kernel)⟩
theorem lw_p25 : lw_okq (⟨"PathTrackerModel", "times", "(JJJJ)V"⟩, 24) := ⟨⟨by decide +kernel, by decide +kernel⟩, List.mem_of_getElem? (i := 826) (by decide +kernel), List.mem_of_getElem? (i := 994) (by decide +kernel), List.mem_of_getElem? (i := 995) (by decide +kernel)⟩
theorem lw_p26 : lw_okq (⟨"PathTrackerModel", "worth", "(II)V"⟩, 24) := ⟨⟨by decide +kernel, by decide +kernel⟩, List.mem_of_getElem? (i := 826) (by decide +kernel), List.mem_of_getElem? (i := 998) (by decide +kernel), List.mem_of_getElem? (i := 999) (by decide +kernel)⟩
theorem lw_p27 : lw_okq (⟨"PathTrackerModel", "coefficientOf", "(IIII)I"⟩, 24) := ⟨⟨by decide +kernel, by decide +kernel⟩, List.mem_of_getElem? (i := 826) (by decide +kernel), List.mem_of_getElem? (i := 1002) (by decide +kernel), List.mem_of_getElem? (i := 1003) (by decide +kernel)⟩
theorem lw_p28 : lw_okq (⟨"PathTrackerModel", "product", "(II)V"⟩, 24) := ⟨⟨by decide +kernel, by decide +kernel⟩, List.mem_of_getElem? (i := 826) (by decide +kernel), List.mem_of_getElem? (i := 1006) (by decide +kernel), List.mem_of_getElem? (i := 1007) (by decide +kernel)⟩
theorem lw_p29 : lw_okq (⟨"PathTrackerModel", "worthWithGamma", "(II)V"⟩, 24) := ⟨⟨by decide +kernel, by decide +kernel⟩, List.mem_of_getElem? (i := 826) (by decide +kernel), List.mem_of_getElem? (i := 1010) (by decide +kernel), List.mem_of_getElem? (i := 1011) (by decide +kernel)⟩
theorem lw_p30 : lw_okq (⟨"PathTrackerModel", "solves", "()Z"⟩, 24) := ⟨⟨by decide +kernel, by decide +kernel⟩, List.mem_of_getElem? (i := 826) (by decide +kernel), List.mem_of_getElem? (i := 1014) (by decide +kernel), List.mem_of_getElem? (i := 1015) (by decide +kernel)⟩
theorem lw_p31 : lw_okq (⟨"PathTrackerModel", "cross", "(IIII)V"⟩, 24) := ⟨⟨by decide +kernel, by decide +kernel⟩, List.mem_of_getElem? (i := 826) (by decide +kernel), List.mem_of_getElem? (i := 1018) (by decide +kernel), List.mem_of_getElem? (i := 1019) (by decide +kernel)⟩
def lw_privs_2 : List (MethodName × Nat) := [(⟨"PathTrackerModel", "isOnWay", "(I)Z"⟩, 24), (⟨"PathTrackerModel", "save0", "()V"⟩, 24), (⟨"PathTrackerModel", "follows", "(II)I"⟩, 24), (⟨"PathTrackerModel", "tries", "(I)V"⟩, 24), (⟨"PathTrackerModel", "takes", "(I)V"⟩, 24), (⟨"PathTrackerModel", "predicts", "(II)Z"⟩, 24), (⟨"PathTrackerModel", "laySystem", "(I)V"⟩, 24), (⟨"PathTrackerModel", "layPoint", "()V"⟩, 24), (⟨"PathTrackerModel", "layPowers", "(IJJ)V"⟩, 24), (⟨"PathTrackerModel", "times", "(JJJJ)V"⟩, 24), (⟨"PathTrackerModel", "worth", "(II)V"⟩, 24), (⟨"PathTrackerModel", "coefficientOf", "(IIII)I"⟩, 24), (⟨"PathTrackerModel", "product", "(II)V"⟩, 24), (⟨"PathTrackerModel", "worthWithGamma", "(II)V"⟩, 24), (⟨"PathTrackerModel", "solves", "()Z"⟩, 24), (⟨"PathTrackerModel", "cross", "(IIII)V"⟩, 24)]
theorem lw_r2 : ∀ q ∈ lw_privs_2, lw_okq q := List.forall_mem_cons.mpr ⟨lw_p16, List.forall_mem_cons.mpr ⟨lw_p17, List.forall_mem_cons.mpr ⟨lw_p18, List.forall_mem_cons.mpr ⟨lw_p19, List.forall_mem_cons.mpr ⟨lw_p20, List.forall_mem_cons.mpr ⟨lw_p21, List.forall_mem_cons.mpr ⟨lw_p22, List.forall_mem_cons.mpr ⟨lw_p23, List.forall_mem_cons.mpr ⟨lw_p24, List.forall_mem_cons.mpr ⟨lw_p25, List.forall_mem_cons.mpr ⟨lw_p26, List.forall_mem_cons.mpr ⟨lw_p27, List.forall_mem_cons.mpr ⟨lw_p28, List.forall_mem_cons.mpr ⟨lw_p29, List.forall_mem_cons.mpr ⟨lw_p30, List.forall_mem_cons.mpr ⟨lw_p31, fun _ h => absurd h List.not_mem_nil⟩⟩⟩⟩⟩⟩⟩⟩⟩⟩⟩⟩⟩⟩⟩⟩
theorem lw_p32 : lw_okq (⟨"PathTrackerModel", "crossRight", "(IIII)V"⟩, 24) := ⟨⟨by decide +kernel, by decide +kernel⟩, List.mem_of_getElem? (i := 826) (by decide +kernel), List.mem_of_getElem? (i := 1022) (by decide +kernel), List.mem_of_getElem? (i := 1023) (by decide +kernel)⟩
theorem lw_p33 : lw_okq (⟨"PathTrackerModel", "divides", "(JJJJ)Z"⟩, 24) := ⟨⟨by decide +kernel, by decide +kernel⟩, List.mem_of_getElem? (i := 826) (by decide +kernel), List.mem_of_getElem? (i := 1026) (by decide +kernel), List.mem_of_getElem? (i := 1027) (by decide +kernel)⟩
theorem lw_p34 : lw_okq (⟨"PathTrackerModel", "goes", "()V"⟩, 24) := ⟨⟨by decide +kernel, by decide +kernel⟩, List.mem_of_getElem? (i := 826) (by decide +kernel), List.mem_of_getElem? (i := 1030) (by decide +kernel), List.mem_of_getElem? (i := 1031) (by decide +kernel)⟩
theorem lw_p35 : lw_okq (⟨"PathTrackerModel", "corrects", "(I)Z"⟩, 24) := ⟨⟨by decide +kernel, by decide +kernel⟩, List.mem_of_getElem? (i := 826) (by decide +kernel), List.mem_of_getElem? (i := 1034) (by decide +kernel), List.mem_of_getElem? (i := 1035) (by decide +kernel)⟩
theorem lw_p36 : lw_okq (⟨"PathTrackerModel", "wasGood", "(II)V"⟩, 24) := ⟨⟨by decide +kernel, by decide +kernel⟩, List.mem_of_getElem? (i := 826) (by decide +kernel), List.mem_of_getElem? (i := 1044) (by decide +kernel), List.mem_of_getElem? (i := 1045) (by decide +kernel)⟩
theorem lw_p37 : lw_okq (⟨"PathTrackerModel", "hasFailed", "(I)V"⟩, 24) := ⟨⟨by decide +kernel, by decide +kernel⟩, List.mem_of_getElem? (i := 826) (by decide +kernel), List.mem_of_getElem? (i := 1048) (by decide +kernel), List.mem_of_getElem? (i := 1049) (by decide +kernel)⟩
theorem lw_p38 : lw_okq (⟨"PathTrackerModel", "many", "(I)I"⟩, 24) := ⟨⟨by decide +kernel, by decide +kernel⟩, List.mem_of_getElem? (i := 826) (by decide +kernel), List.mem_of_getElem? (i := 1057) (by decide +kernel), List.mem_of_getElem? (i := 1058) (by decide +kernel)⟩
theorem lw_p39 : lw_okq (⟨"PathTrackerModel", "residue", "(I)I"⟩, 24) := ⟨⟨by decide +kernel, by decide +kernel⟩, List.mem_of_getElem? (i := 826) (by decide +kernel), List.mem_of_getElem? (i := 1069) (by decide +kernel), List.mem_of_getElem? (i := 1070) (by decide +kernel)⟩
theorem lw_p40 : lw_okq (⟨"PathTrackerModel", "thousandths", "(II)I"⟩, 24) := ⟨⟨by decide +kernel, by decide +kernel⟩, List.mem_of_getElem? (i := 826) (by decide +kernel), List.mem_of_getElem? (i := 1074) (by decide +kernel), List.mem_of_getElem? (i := 1075) (by decide +kernel)⟩
theorem lw_p41 : lw_okq (⟨"PathTrackerModel", "isAtEnd", "(I)Z"⟩, 24) := ⟨⟨by decide +kernel, by decide +kernel⟩, List.mem_of_getElem? (i := 826) (by decide +kernel), List.mem_of_getElem? (i := 1082) (by decide +kernel), List.mem_of_getElem? (i := 1083) (by decide +kernel)⟩
theorem lw_p42 : lw_okq (⟨"PathTrackerModel", "firstMet", "(I)I"⟩, 24) := ⟨⟨by decide +kernel, by decide +kernel⟩, List.mem_of_getElem? (i := 826) (by decide +kernel), List.mem_of_getElem? (i := 1086) (by decide +kernel), List.mem_of_getElem? (i := 1087) (by decide +kernel)⟩
theorem lw_p43 : lw_okq (⟨"PathTrackerModel", "areMet", "(II)Z"⟩, 24) := ⟨⟨by decide +kernel, by decide +kernel⟩, List.mem_of_getElem? (i := 826) (by decide +kernel), List.mem_of_getElem? (i := 1090) (by decide +kernel), List.mem_of_getElem? (i := 1091) (by decide +kernel)⟩
theorem lw_p44 : lw_okq (⟨"PathTrackerModel", "isAhead", "(II)Z"⟩, 24) := ⟨⟨by decide +kernel, by decide +kernel⟩, List.mem_of_getElem? (i := 826) (by decide +kernel), List.mem_of_getElem? (i := 1103) (by decide +kernel), List.mem_of_getElem? (i := 1104) (by decide +kernel)⟩
theorem lw_p45 : lw_okq (⟨"PathTrackerModel", "distinct", "()I"⟩, 24) := ⟨⟨by decide +kernel, by decide +kernel⟩, List.mem_of_getElem? (i := 826) (by decide +kernel), List.mem_of_getElem? (i := 1121) (by decide +kernel), List.mem_of_getElem? (i := 1122) (by decide +kernel)⟩
theorem lw_p46 : lw_okq (⟨"PathTrackerModel", "reals", "()I"⟩, 24) := ⟨⟨by decide +kernel, by decide +kernel⟩, List.mem_of_getElem? (i := 826) (by decide +kernel), List.mem_of_getElem? (i := 1125) (by decide +kernel), List.mem_of_getElem? (i := 1126) (by decide +kernel)⟩
theorem lw_p47 : lw_okq (⟨"PathTrackerModel", "faultOf", "()I"⟩, 24) := ⟨⟨by decide +kernel, by decide +kernel⟩, List.mem_of_getElem? (i := 826) (by decide +kernel), List.mem_of_getElem? (i := 1142) (by decide +kernel), List.mem_of_getElem? (i := 1143) (by decide +kernel)⟩
def lw_privs_3 : List (MethodName × Nat) := [(⟨"PathTrackerModel", "crossRight", "(IIII)V"⟩, 24), (⟨"PathTrackerModel", "divides", "(JJJJ)Z"⟩, 24), (⟨"PathTrackerModel", "goes", "()V"⟩, 24), (⟨"PathTrackerModel", "corrects", "(I)Z"⟩, 24), (⟨"PathTrackerModel", "wasGood", "(II)V"⟩, 24), (⟨"PathTrackerModel", "hasFailed", "(I)V"⟩, 24), (⟨"PathTrackerModel", "many", "(I)I"⟩, 24), (⟨"PathTrackerModel", "residue", "(I)I"⟩, 24), (⟨"PathTrackerModel", "thousandths", "(II)I"⟩, 24), (⟨"PathTrackerModel", "isAtEnd", "(I)Z"⟩, 24), (⟨"PathTrackerModel", "firstMet", "(I)I"⟩, 24), (⟨"PathTrackerModel", "areMet", "(II)Z"⟩, 24), (⟨"PathTrackerModel", "isAhead", "(II)Z"⟩, 24), (⟨"PathTrackerModel", "distinct", "()I"⟩, 24), (⟨"PathTrackerModel", "reals", "()I"⟩, 24), (⟨"PathTrackerModel", "faultOf", "()I"⟩, 24)]
theorem lw_r3 : ∀ q ∈ lw_privs_3, lw_okq q := List.forall_mem_cons.mpr ⟨lw_p32, List.forall_mem_cons.mpr ⟨lw_p33, List.forall_mem_cons.mpr ⟨lw_p34, List.forall_mem_cons.mpr ⟨lw_p35, List.forall_mem_cons.mpr ⟨lw_p36, List.forall_mem_cons.mpr ⟨lw_p37, List.forall_mem_cons.mpr ⟨lw_p38, List.forall_mem_cons.mpr ⟨lw_p39, List.forall_mem_cons.mpr ⟨lw_p40, List.forall_mem_cons.mpr ⟨lw_p41, List.forall_mem_cons.mpr ⟨lw_p42, List.forall_mem_cons.mpr ⟨lw_p43, List.forall_mem_cons.mpr ⟨lw_p44, List.forall_mem_cons.mpr ⟨lw_p45, List.forall_mem_cons.mpr ⟨lw_p46, List.forall_mem_cons.mpr ⟨lw_p47, fun _ h => absurd h List.not_mem_nil⟩⟩⟩⟩⟩⟩⟩⟩⟩⟩⟩⟩⟩⟩⟩⟩
theorem lw_p48 : lw_okq (⟨"PathTrackerModel", "here", "()I"⟩, 24) := ⟨⟨by decide +kernel, by decide +kernel⟩, List.mem_of_getElem? (i := 826) (by decide +kernel), List.mem_of_getElem? (i := 1146) (by decide +kernel), List.mem_of_getElem? (i := 1147) (by decide +kernel)⟩
theorem lw_p49 : lw_okq (⟨"PathTrackerModel", "readTerm", "()Z"⟩, 24) := ⟨⟨by decide +kernel, by decide +kernel⟩, List.mem_of_getElem? (i := 826) (by decide +kernel), List.mem_of_getElem? (i := 1150) (by decide +kernel), List.mem_of_getElem? (i := 1151) (by decide +kernel)⟩
theorem lw_p50 : lw_okq (⟨"PathTrackerModel", "isDigit", "()Z"⟩, 24) := ⟨⟨by decide +kernel, by decide +kernel⟩, List.mem_of_getElem? (i := 826) (by decide +kernel), List.mem_of_getElem? (i := 1154) (by decide +kernel), List.mem_of_getElem? (i := 1155) (by decide +kernel)⟩
theorem lw_p51 : lw_okq (⟨"PathTrackerModel", "readNumber", "()V"⟩, 24) := ⟨⟨by decide +kernel, by decide +kernel⟩, List.mem_of_getElem? (i := 826) (by decide +kernel), List.mem_of_getElem? (i := 1158) (by decide +kernel), List.mem_of_getElem? (i := 1159) (by decide +kernel)⟩
theorem lw_p52 : lw_okq (⟨"PathTrackerModel", "isFactor", "()Z"⟩, 24) := ⟨⟨by decide +kernel, by decide +kernel⟩, List.mem_of_getElem? (i := 826) (by decide +kernel), List.mem_of_getElem? (i := 1162) (by decide +kernel), List.mem_of_getElem? (i := 1163) (by decide +kernel)⟩
theorem lw_p53 : lw_okq (⟨"PathTrackerModel", "readFactor", "()Z"⟩, 24) := ⟨⟨by decide +kernel, by decide +kernel⟩, List.mem_of_getElem? (i := 826) (by decide +kernel), List.mem_of_getElem? (i := 1166) (by decide +kernel), List.mem_of_getElem? (i := 1167) (by decide +kernel)⟩
theorem lw_p54 : lw_okq (⟨"PathTrackerModel", "adds", "(Z)V"⟩, 24) := ⟨⟨by decide +kernel, by decide +kernel⟩, List.mem_of_getElem? (i := 826) (by decide +kernel), List.mem_of_getElem? (i := 1170) (by decide +kernel), List.mem_of_getElem? (i := 1171) (by decide +kernel)⟩
theorem lw_p55 : lw_okq (⟨"PathTrackerModel", "degreeTold", "()I"⟩, 24) := ⟨⟨by decide +kernel, by decide +kernel⟩, List.mem_of_getElem? (i := 826) (by decide +kernel), List.mem_of_getElem? (i := 1181) (by decide +kernel), List.mem_of_getElem? (i := 1182) (by decide +kernel)⟩
def lw_privs_4 : List (MethodName × Nat) := [(⟨"PathTrackerModel", "here", "()I"⟩, 24), (⟨"PathTrackerModel", "readTerm", "()Z"⟩, 24), (⟨"PathTrackerModel", "isDigit", "()Z"⟩, 24), (⟨"PathTrackerModel", "readNumber", "()V"⟩, 24), (⟨"PathTrackerModel", "isFactor", "()Z"⟩, 24), (⟨"PathTrackerModel", "readFactor", "()Z"⟩, 24), (⟨"PathTrackerModel", "adds", "(Z)V"⟩, 24), (⟨"PathTrackerModel", "degreeTold", "()I"⟩, 24)]
theorem lw_r4 : ∀ q ∈ lw_privs_4, lw_okq q := List.forall_mem_cons.mpr ⟨lw_p48, List.forall_mem_cons.mpr ⟨lw_p49, List.forall_mem_cons.mpr ⟨lw_p50, List.forall_mem_cons.mpr ⟨lw_p51, List.forall_mem_cons.mpr ⟨lw_p52, List.forall_mem_cons.mpr ⟨lw_p53, List.forall_mem_cons.mpr ⟨lw_p54, List.forall_mem_cons.mpr ⟨lw_p55, fun _ h => absurd h List.not_mem_nil⟩⟩⟩⟩⟩⟩⟩⟩
def lw_privs : List (MethodName × Nat) := lw_privs_1 ++ (lw_privs_2 ++ (lw_privs_3 ++ (lw_privs_4)))
def lw_tbl : List Cond := k2_sels lw_privs ++ tables_1
theorem lw_privs_ok : ∀ q ∈ lw_privs, lw_okq q := by
  show ∀ q ∈ lw_privs_1 ++ (lw_privs_2 ++ (lw_privs_3 ++ (lw_privs_4))), lw_okq q
  exact List.forall_mem_append.mpr ⟨lw_r1, List.forall_mem_append.mpr ⟨lw_r2, List.forall_mem_append.mpr ⟨lw_r3, lw_r4⟩⟩⟩
def RX0 : String := "PathTracker$Complex"
def TX0 : u_T := fun k => match k with
  | 0 => ("PathTracker$Complex", "re", "J", false)
  | _ => ("PathTracker$Complex", "im", "J", false)
def tyX0 : Nat → FieldType := fun k => match k with
  | 0 => .long
  | _ => .long
theorem nmX0 : ∀ a, a < 2 → ∀ b, b < 2 → a ≠ b → (TX0 a).2.1 ≠ (TX0 b).2.1 := by decide +kernel
theorem tyX0_ok : ∀ k, k < 2 → parseFieldDescriptor (TX0 k).2.2.1 = some (tyX0 k) := by decide +kernel
abbrev cX0_init : ByteArray := prog_2_method_1_code
def yX0_init : MethodName := ⟨RX0, "<init>", "()V"⟩
abbrev cX0_put : ByteArray := prog_2_method_2_code
def yX0_put : MethodName := ⟨RX0, "put", "(JJ)V"⟩
abbrev cX0_copy : ByteArray := prog_2_method_3_code
def yX0_copy : MethodName := ⟨RX0, "copy", "(LPathTracker$Complex;)V"⟩
abbrev cX0_add : ByteArray := prog_2_method_4_code
def yX0_add : MethodName := ⟨RX0, "add", "(LPathTracker$Complex;)V"⟩
abbrev cX0_putDifference : ByteArray := prog_2_method_5_code
def yX0_putDifference : MethodName := ⟨RX0, "putDifference", "(LPathTracker$Complex;LPathTracker$Complex;)V"⟩
abbrev cX0_putNegative : ByteArray := prog_2_method_6_code
def yX0_putNegative : MethodName := ⟨RX0, "putNegative", "(LPathTracker$Complex;)V"⟩
abbrev cX0_scale : ByteArray := prog_2_method_7_code
def yX0_scale : MethodName := ⟨RX0, "scale", "(J)V"⟩
abbrev cX0_takeShare : ByteArray := prog_2_method_8_code
def yX0_takeShare : MethodName := ⟨RX0, "takeShare", "(JJ)V"⟩
abbrev cX0_putMix : ByteArray := prog_2_method_9_code
def yX0_putMix : MethodName := ⟨RX0, "putMix", "(LPathTracker$Complex;JLPathTracker$Complex;J)V"⟩
abbrev cX0_putTimesGaussian : ByteArray := prog_2_method_10_code
def yX0_putTimesGaussian : MethodName := ⟨RX0, "putTimesGaussian", "(LPathTracker$Complex;JJ)V"⟩
abbrev cX0_putProduct : ByteArray := prog_2_method_11_code
def yX0_putProduct : MethodName := ⟨RX0, "putProduct", "(LPathTracker$Complex;LPathTracker$Complex;J)V"⟩
abbrev cX0_divideBy : ByteArray := prog_2_method_12_code
def yX0_divideBy : MethodName := ⟨RX0, "divideBy", "(LPathTracker$Complex;J)Z"⟩
abbrev cX0_size : ByteArray := prog_2_method_13_code
def yX0_size : MethodName := ⟨RX0, "size", "()J"⟩
abbrev cX0_thousandths : ByteArray := prog_2_method_14_code
def yX0_thousandths : MethodName := ⟨RX0, "thousandths", "(JJ)I"⟩
def RX1 : String := "PathTracker$Equation"
def TX1 : u_T := fun k => match k with
  | 0 => ("PathTracker$Equation", "re", "[I", true)
  | 1 => ("PathTracker$Equation", "im", "[I", true)
  | _ => ("PathTracker$Equation", "product", "LPathTracker$Complex;", true)
def tyX1 : Nat → FieldType := fun k => match k with
  | 0 => .array .int
  | 1 => .array .int
  | _ => .object "PathTracker$Complex"
theorem nmX1 : ∀ a, a < 3 → ∀ b, b < 3 → a ≠ b → (TX1 a).2.1 ≠ (TX1 b).2.1 := by decide +kernel
theorem tyX1_ok : ∀ k, k < 3 → parseFieldDescriptor (TX1 k).2.2.1 = some (tyX1 k) := by decide +kernel
abbrev cX1_init : ByteArray := prog_3_method_1_code
def yX1_init : MethodName := ⟨RX1, "<init>", "()V"⟩
abbrev cX1_termOf : ByteArray := prog_3_method_2_code
def yX1_termOf : MethodName := ⟨RX1, "termOf", "(II)I"⟩
abbrev cX1_heldCoefficient : ByteArray := prog_3_method_3_code
def yX1_heldCoefficient : MethodName := ⟨RX1, "heldCoefficient", "(I)I"⟩
abbrev cX1_clear : ByteArray := prog_3_method_4_code
def yX1_clear : MethodName := ⟨RX1, "clear", "()V"⟩
abbrev cX1_copy : ByteArray := prog_3_method_5_code
def yX1_copy : MethodName := ⟨RX1, "copy", "(LPathTracker$Equation;)V"⟩
abbrev cX1_addTerm : ByteArray := prog_3_method_6_code
def yX1_addTerm : MethodName := ⟨RX1, "addTerm", "(IIII)V"⟩
abbrev cX1_putStart : ByteArray := prog_3_method_7_code
def yX1_putStart : MethodName := ⟨RX1, "putStart", "(IZ)V"⟩
abbrev cX1_realPart : ByteArray := prog_3_method_8_code
def yX1_realPart : MethodName := ⟨RX1, "realPart", "(II)I"⟩
abbrev cX1_imaginaryPart : ByteArray := prog_3_method_9_code
def yX1_imaginaryPart : MethodName := ⟨RX1, "imaginaryPart", "(II)I"⟩
abbrev cX1_degree : ByteArray := prog_3_method_10_code
def yX1_degree : MethodName := ⟨RX1, "degree", "()I"⟩
abbrev cX1_evaluate : ByteArray := prog_3_method_11_code
def yX1_evaluate : MethodName := ⟨RX1, "evaluate", "(LPathTracker$Powers;LPathTracker$Tangent;)V"⟩
def RX2 : String := "PathTracker$EquationText"
def TX2 : u_T := fun k => match k with
  | 0 => ("PathTracker$EquationText", "signs", "[I", true)
  | 1 => ("PathTracker$EquationText", "equation", "LPathTracker$Equation;", true)
  | 2 => ("PathTracker$EquationText", "length", "I", false)
  | _ => ("PathTracker$EquationText", "reading", "I", false)
def tyX2 : Nat → FieldType := fun k => match k with
  | 0 => .array .int
  | 1 => .object "PathTracker$Equation"
  | 2 => .int
  | _ => .int
theorem nmX2 : ∀ a, a < 4 → ∀ b, b < 4 → a ≠ b → (TX2 a).2.1 ≠ (TX2 b).2.1 := by decide +kernel
theorem tyX2_ok : ∀ k, k < 4 → parseFieldDescriptor (TX2 k).2.2.1 = some (tyX2 k) := by decide +kernel
abbrev cX2_init : ByteArray := prog_4_method_1_code
def yX2_init : MethodName := ⟨RX2, "<init>", "()V"⟩
abbrev cX2_length : ByteArray := prog_4_method_2_code
def yX2_length : MethodName := ⟨RX2, "length", "()I"⟩
abbrev cX2_append : ByteArray := prog_4_method_3_code
def yX2_append : MethodName := ⟨RX2, "append", "(I)Z"⟩
abbrev cX2_empty : ByteArray := prog_4_method_4_code
def yX2_empty : MethodName := ⟨RX2, "empty", "()V"⟩
abbrev cX2_readingPlace : ByteArray := prog_4_method_5_code
def yX2_readingPlace : MethodName := ⟨RX2, "readingPlace", "()I"⟩
abbrev cX2_readEquation : ByteArray := prog_4_method_6_code
def yX2_readEquation : MethodName := ⟨RX2, "readEquation", "()LPathTracker$Equation;"⟩
abbrev cX2_read : ByteArray := prog_4_method_7_code
def yX2_read : MethodName := ⟨RX2, "read", "()Z"⟩
abbrev cX2_readTerm : ByteArray := prog_4_method_8_code
def yX2_readTerm : MethodName := ⟨RX2, "readTerm", "(Z)Z"⟩
abbrev cX2_readNumber : ByteArray := prog_4_method_9_code
def yX2_readNumber : MethodName := ⟨RX2, "readNumber", "()I"⟩
abbrev cX2_readFactor : ByteArray := prog_4_method_10_code
def yX2_readFactor : MethodName := ⟨RX2, "readFactor", "(I)I"⟩
abbrev cX2_signHere : ByteArray := prog_4_method_11_code
def yX2_signHere : MethodName := ⟨RX2, "signHere", "()I"⟩
abbrev cX2_isDigit : ByteArray := prog_4_method_12_code
def yX2_isDigit : MethodName := ⟨RX2, "isDigit", "(I)Z"⟩
abbrev cX2_isUnknown : ByteArray := prog_4_method_13_code
def yX2_isUnknown : MethodName := ⟨RX2, "isUnknown", "(I)Z"⟩
def RX3 : String := "PathTracker$Follower"
def TX3 : u_T := fun k => match k with
  | 0 => ("PathTracker$Follower", "homotopy", "LPathTracker$Homotopy;", true)
  | 1 => ("PathTracker$Follower", "solver", "LPathTracker$Solver;", true)
  | 2 => ("PathTracker$Follower", "x", "LPathTracker$Complex;", true)
  | 3 => ("PathTracker$Follower", "y", "LPathTracker$Complex;", true)
  | 4 => ("PathTracker$Follower", "firstStep", "I", false)
  | 5 => ("PathTracker$Follower", "rounds", "I", false)
  | 6 => ("PathTracker$Follower", "tolerance", "I", false)
  | _ => ("PathTracker$Follower", "bound", "I", false)
def tyX3 : Nat → FieldType := fun k => match k with
  | 0 => .object "PathTracker$Homotopy"
  | 1 => .object "PathTracker$Solver"
  | 2 => .object "PathTracker$Complex"
  | 3 => .object "PathTracker$Complex"
  | 4 => .int
  | 5 => .int
  | 6 => .int
  | _ => .int
theorem nmX3 : ∀ a, a < 8 → ∀ b, b < 8 → a ≠ b → (TX3 a).2.1 ≠ (TX3 b).2.1 := by decide +kernel
theorem tyX3_ok : ∀ k, k < 8 → parseFieldDescriptor (TX3 k).2.2.1 = some (tyX3 k) := by decide +kernel
abbrev cX3_init : ByteArray := prog_5_method_1_code
def yX3_init : MethodName := ⟨RX3, "<init>", "()V"⟩
abbrev cX3_aim : ByteArray := prog_5_method_2_code
def yX3_aim : MethodName := ⟨RX3, "aim", "(LPathTracker$State;)V"⟩
abbrev cX3_follow : ByteArray := prog_5_method_3_code
def yX3_follow : MethodName := ⟨RX3, "follow", "(LPathTracker$Path;I)I"⟩
abbrev cX3_predict : ByteArray := prog_5_method_4_code
def yX3_predict : MethodName := ⟨RX3, "predict", "(IIJ)Z"⟩
abbrev cX3_correct : ByteArray := prog_5_method_5_code
def yX3_correct : MethodName := ⟨RX3, "correct", "(IJ)Z"⟩
abbrev cX3_residue : ByteArray := prog_5_method_6_code
def yX3_residue : MethodName := ⟨RX3, "residue", "(LPathTracker$Path;)I"⟩
def RX4 : String := "PathTracker$History"
def TX4 : u_T := fun k => match k with
  | 0 => ("PathTracker$History", "ring", "[LPathTracker$State;", true)
  | 1 => ("PathTracker$History", "first", "I", false)
  | _ => ("PathTracker$History", "size", "I", false)
def tyX4 : Nat → FieldType := fun k => match k with
  | 0 => .array (.object "PathTracker$State")
  | 1 => .int
  | _ => .int
theorem nmX4 : ∀ a, a < 3 → ∀ b, b < 3 → a ≠ b → (TX4 a).2.1 ≠ (TX4 b).2.1 := by decide +kernel
theorem tyX4_ok : ∀ k, k < 3 → parseFieldDescriptor (TX4 k).2.2.1 = some (tyX4 k) := by decide +kernel
abbrev cX4_init : ByteArray := prog_6_method_1_code
def yX4_init : MethodName := ⟨RX4, "<init>", "()V"⟩
abbrev cX4_size : ByteArray := prog_6_method_2_code
def yX4_size : MethodName := ⟨RX4, "size", "()I"⟩
abbrev cX4_record : ByteArray := prog_6_method_3_code
def yX4_record : MethodName := ⟨RX4, "record", "(LPathTracker$State;)V"⟩
abbrev cX4_takeBack : ByteArray := prog_6_method_4_code
def yX4_takeBack : MethodName := ⟨RX4, "takeBack", "(LPathTracker$State;)Z"⟩
def RX5 : String := "PathTracker$Homotopy"
def TX5 : u_T := fun k => match k with
  | 0 => ("PathTracker$Homotopy", "powers", "LPathTracker$Powers;", true)
  | 1 => ("PathTracker$Homotopy", "wanted", "[LPathTracker$Equation;", true)
  | 2 => ("PathTracker$Homotopy", "starts", "[LPathTracker$Equation;", true)
  | 3 => ("PathTracker$Homotopy", "ends", "[LPathTracker$Tangent;", true)
  | 4 => ("PathTracker$Homotopy", "begins", "[LPathTracker$Tangent;", true)
  | 5 => ("PathTracker$Homotopy", "mixes", "[LPathTracker$Tangent;", true)
  | 6 => ("PathTracker$Homotopy", "gammaRe", "I", false)
  | _ => ("PathTracker$Homotopy", "gammaIm", "I", false)
def tyX5 : Nat → FieldType := fun k => match k with
  | 0 => .object "PathTracker$Powers"
  | 1 => .array (.object "PathTracker$Equation")
  | 2 => .array (.object "PathTracker$Equation")
  | 3 => .array (.object "PathTracker$Tangent")
  | 4 => .array (.object "PathTracker$Tangent")
  | 5 => .array (.object "PathTracker$Tangent")
  | 6 => .int
  | _ => .int
theorem nmX5 : ∀ a, a < 8 → ∀ b, b < 8 → a ≠ b → (TX5 a).2.1 ≠ (TX5 b).2.1 := by decide +kernel
theorem tyX5_ok : ∀ k, k < 8 → parseFieldDescriptor (TX5 k).2.2.1 = some (tyX5 k) := by decide +kernel
abbrev cX5_init : ByteArray := prog_7_method_1_code
def yX5_init : MethodName := ⟨RX5, "<init>", "()V"⟩
abbrev cX5_aim : ByteArray := prog_7_method_2_code
def yX5_aim : MethodName := ⟨RX5, "aim", "(LPathTracker$State;)V"⟩
abbrev cX5_evaluate : ByteArray := prog_7_method_3_code
def yX5_evaluate : MethodName := ⟨RX5, "evaluate", "(LPathTracker$Complex;LPathTracker$Complex;IJ)V"⟩
abbrev cX5_end : ByteArray := prog_7_method_4_code
def yX5_end : MethodName := ⟨RX5, "end", "(I)LPathTracker$Tangent;"⟩
abbrev cX5_begin : ByteArray := prog_7_method_5_code
def yX5_begin : MethodName := ⟨RX5, "begin", "(I)LPathTracker$Tangent;"⟩
abbrev cX5_mix : ByteArray := prog_7_method_6_code
def yX5_mix : MethodName := ⟨RX5, "mix", "(I)LPathTracker$Tangent;"⟩
def RX6 : String := "PathTracker$Path"
def TX6 : u_T := fun k => match k with
  | 0 => ("PathTracker$Path", "x", "LPathTracker$Complex;", true)
  | 1 => ("PathTracker$Path", "y", "LPathTracker$Complex;", true)
  | 2 => ("PathTracker$Path", "status", "I", false)
  | 3 => ("PathTracker$Path", "place", "I", false)
  | 4 => ("PathTracker$Path", "step", "I", false)
  | 5 => ("PathTracker$Path", "greatestStep", "I", false)
  | 6 => ("PathTracker$Path", "precision", "I", false)
  | 7 => ("PathTracker$Path", "goodTries", "I", false)
  | 8 => ("PathTracker$Path", "failedTries", "I", false)
  | _ => ("PathTracker$Path", "row", "I", false)
def tyX6 : Nat → FieldType := fun k => match k with
  | 0 => .object "PathTracker$Complex"
  | 1 => .object "PathTracker$Complex"
  | 2 => .int
  | 3 => .int
  | 4 => .int
  | 5 => .int
  | 6 => .int
  | 7 => .int
  | 8 => .int
  | _ => .int
theorem nmX6 : ∀ a, a < 10 → ∀ b, b < 10 → a ≠ b → (TX6 a).2.1 ≠ (TX6 b).2.1 := by decide +kernel
theorem tyX6_ok : ∀ k, k < 10 → parseFieldDescriptor (TX6 k).2.2.1 = some (tyX6 k) := by decide +kernel
abbrev cX6_init : ByteArray := prog_8_method_1_code
def yX6_init : MethodName := ⟨RX6, "<init>", "()V"⟩
abbrev cX6_begin : ByteArray := prog_8_method_2_code
def yX6_begin : MethodName := ⟨RX6, "begin", "(II)V"⟩
abbrev cX6_putOnRoots : ByteArray := prog_8_method_3_code
def yX6_putOnRoots : MethodName := ⟨RX6, "putOnRoots", "(IIII)V"⟩
abbrev cX6_putRootOfOne : ByteArray := prog_8_method_4_code
def yX6_putRootOfOne : MethodName := ⟨RX6, "putRootOfOne", "(LPathTracker$Complex;IIJ)V"⟩
abbrev cX6_copy : ByteArray := prog_8_method_5_code
def yX6_copy : MethodName := ⟨RX6, "copy", "(LPathTracker$Path;)V"⟩
abbrev cX6_unit : ByteArray := prog_8_method_6_code
def yX6_unit : MethodName := ⟨RX6, "unit", "()J"⟩
abbrev cX6_moveOn : ByteArray := prog_8_method_7_code
def yX6_moveOn : MethodName := ⟨RX6, "moveOn", "(ILPathTracker$Complex;LPathTracker$Complex;I)V"⟩
abbrev cX6_shorten : ByteArray := prog_8_method_8_code
def yX6_shorten : MethodName := ⟨RX6, "shorten", "(I)V"⟩
abbrev cX6_part : ByteArray := prog_8_method_9_code
def yX6_part : MethodName := ⟨RX6, "part", "(I)I"⟩
abbrev cX6_isNear : ByteArray := prog_8_method_10_code
def yX6_isNear : MethodName := ⟨RX6, "isNear", "(LPathTracker$Path;I)Z"⟩
abbrev cX6_isReal : ByteArray := prog_8_method_11_code
def yX6_isReal : MethodName := ⟨RX6, "isReal", "(I)Z"⟩
abbrev cX6_compareParts : ByteArray := prog_8_method_12_code
def yX6_compareParts : MethodName := ⟨RX6, "compareParts", "(LPathTracker$Path;)I"⟩
def RX7 : String := "PathTracker$Powers"
def TX7 : u_T := fun k => match k with
  | _ => ("PathTracker$Powers", "products", "[LPathTracker$Complex;", true)
def tyX7 : Nat → FieldType := fun k => match k with
  | _ => .array (.object "PathTracker$Complex")
theorem nmX7 : ∀ a, a < 1 → ∀ b, b < 1 → a ≠ b → (TX7 a).2.1 ≠ (TX7 b).2.1 := by decide +kernel
theorem tyX7_ok : ∀ k, k < 1 → parseFieldDescriptor (TX7 k).2.2.1 = some (tyX7 k) := by decide +kernel
abbrev cX7_init : ByteArray := prog_9_method_1_code
def yX7_init : MethodName := ⟨RX7, "<init>", "()V"⟩
abbrev cX7_fill : ByteArray := prog_9_method_2_code
def yX7_fill : MethodName := ⟨RX7, "fill", "(LPathTracker$Complex;LPathTracker$Complex;J)V"⟩
abbrev cX7_at : ByteArray := prog_9_method_3_code
def yX7_at : MethodName := ⟨RX7, "at", "(I)LPathTracker$Complex;"⟩
def RX8 : String := "PathTracker$Solver"
def TX8 : u_T := fun k => match k with
  | 0 => ("PathTracker$Solver", "right0", "LPathTracker$Complex;", true)
  | 1 => ("PathTracker$Solver", "right1", "LPathTracker$Complex;", true)
  | 2 => ("PathTracker$Solver", "u", "LPathTracker$Complex;", true)
  | 3 => ("PathTracker$Solver", "v", "LPathTracker$Complex;", true)
  | 4 => ("PathTracker$Solver", "determinant", "LPathTracker$Complex;", true)
  | _ => ("PathTracker$Solver", "product", "LPathTracker$Complex;", true)
def tyX8 : Nat → FieldType := fun k => match k with
  | 0 => .object "PathTracker$Complex"
  | 1 => .object "PathTracker$Complex"
  | 2 => .object "PathTracker$Complex"
  | 3 => .object "PathTracker$Complex"
  | 4 => .object "PathTracker$Complex"
  | _ => .object "PathTracker$Complex"
theorem nmX8 : ∀ a, a < 6 → ∀ b, b < 6 → a ≠ b → (TX8 a).2.1 ≠ (TX8 b).2.1 := by decide +kernel
theorem tyX8_ok : ∀ k, k < 6 → parseFieldDescriptor (TX8 k).2.2.1 = some (tyX8 k) := by decide +kernel
abbrev cX8_init : ByteArray := prog_10_method_1_code
def yX8_init : MethodName := ⟨RX8, "<init>", "()V"⟩
abbrev cX8_cross : ByteArray := prog_10_method_2_code
def yX8_cross : MethodName := ⟨RX8, "cross", "(LPathTracker$Complex;LPathTracker$Complex;LPathTracker$Complex;LPathTracker$Complex;LPathTracker$Complex;J)V"⟩
abbrev cX8_moveBySolution : ByteArray := prog_10_method_3_code
def yX8_moveBySolution : MethodName := ⟨RX8, "moveBySolution", "(LPathTracker$Tangent;LPathTracker$Tangent;LPathTracker$Complex;LPathTracker$Complex;J)Z"⟩
abbrev cX8_solutionSize : ByteArray := prog_10_method_4_code
def yX8_solutionSize : MethodName := ⟨RX8, "solutionSize", "()J"⟩
def RX9 : String := "PathTracker$State"
def TX9 : u_T := fun k => match k with
  | 0 => ("PathTracker$State", "equation0", "LPathTracker$Equation;", true)
  | 1 => ("PathTracker$State", "equation1", "LPathTracker$Equation;", true)
  | 2 => ("PathTracker$State", "settings", "[I", true)
  | 3 => ("PathTracker$State", "paths", "[LPathTracker$Path;", true)
  | _ => ("PathTracker$State", "used", "I", false)
def tyX9 : Nat → FieldType := fun k => match k with
  | 0 => .object "PathTracker$Equation"
  | 1 => .object "PathTracker$Equation"
  | 2 => .array .int
  | 3 => .array (.object "PathTracker$Path")
  | _ => .int
theorem nmX9 : ∀ a, a < 5 → ∀ b, b < 5 → a ≠ b → (TX9 a).2.1 ≠ (TX9 b).2.1 := by decide +kernel
theorem tyX9_ok : ∀ k, k < 5 → parseFieldDescriptor (TX9 k).2.2.1 = some (tyX9 k) := by decide +kernel
abbrev cX9_init : ByteArray := prog_11_method_1_code
def yX9_init : MethodName := ⟨RX9, "<init>", "()V"⟩
abbrev cX9_putFirstState : ByteArray := prog_11_method_2_code
def yX9_putFirstState : MethodName := ⟨RX9, "putFirstState", "()V"⟩
abbrev cX9_copy : ByteArray := prog_11_method_3_code
def yX9_copy : MethodName := ⟨RX9, "copy", "(LPathTracker$State;)V"⟩
abbrev cX9_equationAt : ByteArray := prog_11_method_4_code
def yX9_equationAt : MethodName := ⟨RX9, "equationAt", "(I)LPathTracker$Equation;"⟩
abbrev cX9_putEquation : ByteArray := prog_11_method_5_code
def yX9_putEquation : MethodName := ⟨RX9, "putEquation", "(ILPathTracker$Equation;)V"⟩
abbrev cX9_inRange : ByteArray := prog_11_method_6_code
def yX9_inRange : MethodName := ⟨RX9, "inRange", "(II)Z"⟩
abbrev cX9_setting : ByteArray := prog_11_method_7_code
def yX9_setting : MethodName := ⟨RX9, "setting", "(I)I"⟩
abbrev cX9_putSetting : ByteArray := prog_11_method_8_code
def yX9_putSetting : MethodName := ⟨RX9, "putSetting", "(II)V"⟩
abbrev cX9_isOtherGammaPartZero : ByteArray := prog_11_method_9_code
def yX9_isOtherGammaPartZero : MethodName := ⟨RX9, "isOtherGammaPartZero", "(I)Z"⟩
abbrev cX9_beginPaths : ByteArray := prog_11_method_10_code
def yX9_beginPaths : MethodName := ⟨RX9, "beginPaths", "()V"⟩
abbrev cX9_beginPath : ByteArray := prog_11_method_11_code
def yX9_beginPath : MethodName := ⟨RX9, "beginPath", "(II)V"⟩
abbrev cX9_pathCount : ByteArray := prog_11_method_12_code
def yX9_pathCount : MethodName := ⟨RX9, "pathCount", "()I"⟩
abbrev cX9_hasPath : ByteArray := prog_11_method_13_code
def yX9_hasPath : MethodName := ⟨RX9, "hasPath", "(I)Z"⟩
abbrev cX9_pathAt : ByteArray := prog_11_method_14_code
def yX9_pathAt : MethodName := ⟨RX9, "pathAt", "(I)LPathTracker$Path;"⟩
abbrev cX9_pathsOfStatus : ByteArray := prog_11_method_15_code
def yX9_pathsOfStatus : MethodName := ⟨RX9, "pathsOfStatus", "(I)I"⟩
abbrev cX9_firstMetBelow : ByteArray := prog_11_method_16_code
def yX9_firstMetBelow : MethodName := ⟨RX9, "firstMetBelow", "(II)I"⟩
abbrev cX9_distinctEnds : ByteArray := prog_11_method_17_code
def yX9_distinctEnds : MethodName := ⟨RX9, "distinctEnds", "()I"⟩
abbrev cX9_realEnds : ByteArray := prog_11_method_18_code
def yX9_realEnds : MethodName := ⟨RX9, "realEnds", "()I"⟩
abbrev cX9_mostBehind : ByteArray := prog_11_method_19_code
def yX9_mostBehind : MethodName := ⟨RX9, "mostBehind", "()I"⟩
abbrev cX9_isBehind : ByteArray := prog_11_method_20_code
def yX9_isBehind : MethodName := ⟨RX9, "isBehind", "(LPathTracker$Path;LPathTracker$Path;)Z"⟩
abbrev cX9_endOfRank : ByteArray := prog_11_method_21_code
def yX9_endOfRank : MethodName := ⟨RX9, "endOfRank", "(I)I"⟩
abbrev cX9_endsBefore : ByteArray := prog_11_method_22_code
def yX9_endsBefore : MethodName := ⟨RX9, "endsBefore", "(I)I"⟩
def RX10 : String := "PathTracker$Tangent"
def TX10 : u_T := fun k => match k with
  | 0 => ("PathTracker$Tangent", "value", "LPathTracker$Complex;", true)
  | 1 => ("PathTracker$Tangent", "slopeX", "LPathTracker$Complex;", true)
  | _ => ("PathTracker$Tangent", "slopeY", "LPathTracker$Complex;", true)
def tyX10 : Nat → FieldType := fun k => match k with
  | 0 => .object "PathTracker$Complex"
  | 1 => .object "PathTracker$Complex"
  | _ => .object "PathTracker$Complex"
theorem nmX10 : ∀ a, a < 3 → ∀ b, b < 3 → a ≠ b → (TX10 a).2.1 ≠ (TX10 b).2.1 := by decide +kernel
theorem tyX10_ok : ∀ k, k < 3 → parseFieldDescriptor (TX10 k).2.2.1 = some (tyX10 k) := by decide +kernel
abbrev cX10_init : ByteArray := prog_12_method_1_code
def yX10_init : MethodName := ⟨RX10, "<init>", "()V"⟩
abbrev cX10_clear : ByteArray := prog_12_method_2_code
def yX10_clear : MethodName := ⟨RX10, "clear", "()V"⟩
abbrev cX10_timesGaussian : ByteArray := prog_12_method_3_code
def yX10_timesGaussian : MethodName := ⟨RX10, "timesGaussian", "(JJ)V"⟩
abbrev cX10_putMix : ByteArray := prog_12_method_4_code
def yX10_putMix : MethodName := ⟨RX10, "putMix", "(LPathTracker$Tangent;JLPathTracker$Tangent;J)V"⟩
def RX11 : String := "PathTracker"
def TX11 : u_T := fun k => match k with
  | 0 => ("PathTracker", "text", "LPathTracker$EquationText;", true)
  | 1 => ("PathTracker", "follower", "LPathTracker$Follower;", true)
  | 2 => ("PathTracker", "present", "LPathTracker$State;", true)
  | 3 => ("PathTracker", "history", "LPathTracker$History;", true)
  | 4 => ("PathTracker", "slots", "[LPathTracker$State;", true)
  | _ => ("PathTracker", "slotFilled", "[Z", true)
def tyX11 : Nat → FieldType := fun k => match k with
  | 0 => .object "PathTracker$EquationText"
  | 1 => .object "PathTracker$Follower"
  | 2 => .object "PathTracker$State"
  | 3 => .object "PathTracker$History"
  | 4 => .array (.object "PathTracker$State")
  | _ => .array .boolean
theorem nmX11 : ∀ a, a < 6 → ∀ b, b < 6 → a ≠ b → (TX11 a).2.1 ≠ (TX11 b).2.1 := by decide +kernel
theorem tyX11_ok : ∀ k, k < 6 → parseFieldDescriptor (TX11 k).2.2.1 = some (tyX11 k) := by decide +kernel
abbrev cX11_init : ByteArray := prog_1_method_1_code
def yX11_init : MethodName := ⟨RX11, "<init>", "()V"⟩
abbrev cX11_type : ByteArray := prog_1_method_2_code
def yX11_type : MethodName := ⟨RX11, "type", "(I)I"⟩
abbrev cX11_wipe : ByteArray := prog_1_method_3_code
def yX11_wipe : MethodName := ⟨RX11, "wipe", "()I"⟩
abbrev cX11_fault : ByteArray := prog_1_method_4_code
def yX11_fault : MethodName := ⟨RX11, "fault", "()I"⟩
abbrev cX11_equation : ByteArray := prog_1_method_5_code
def yX11_equation : MethodName := ⟨RX11, "equation", "(I)I"⟩
abbrev cX11_coefficient : ByteArray := prog_1_method_6_code
def yX11_coefficient : MethodName := ⟨RX11, "coefficient", "(IIII)I"⟩
abbrev cX11_track : ByteArray := prog_1_method_7_code
def yX11_track : MethodName := ⟨RX11, "track", "(II)I"⟩
abbrev cX11_trackAll : ByteArray := prog_1_method_8_code
def yX11_trackAll : MethodName := ⟨RX11, "trackAll", "(I)I"⟩
abbrev cX11_again : ByteArray := prog_1_method_9_code
def yX11_again : MethodName := ⟨RX11, "again", "(I)I"⟩
abbrev cX11_path : ByteArray := prog_1_method_10_code
def yX11_path : MethodName := ⟨RX11, "path", "(II)I"⟩
abbrev cX11_meets : ByteArray := prog_1_method_11_code
def yX11_meets : MethodName := ⟨RX11, "meets", "(I)I"⟩
abbrev cX11_next : ByteArray := prog_1_method_12_code
def yX11_next : MethodName := ⟨RX11, "next", "()I"⟩
abbrev cX11_endAt : ByteArray := prog_1_method_13_code
def yX11_endAt : MethodName := ⟨RX11, "endAt", "(I)I"⟩
abbrev cX11_set : ByteArray := prog_1_method_14_code
def yX11_set : MethodName := ⟨RX11, "set", "(II)I"⟩
abbrev cX11_count : ByteArray := prog_1_method_15_code
def yX11_count : MethodName := ⟨RX11, "count", "(I)I"⟩
abbrev cX11_undo : ByteArray := prog_1_method_16_code
def yX11_undo : MethodName := ⟨RX11, "undo", "()I"⟩
abbrev cX11_save : ByteArray := prog_1_method_17_code
def yX11_save : MethodName := ⟨RX11, "save", "(I)I"⟩
abbrev cX11_restore : ByteArray := prog_1_method_18_code
def yX11_restore : MethodName := ⟨RX11, "restore", "(I)I"⟩
def RX12 : String := "PathTrackerModel"
def TX12 : u_T := fun k => match k with
  | 0 => ("PathTrackerModel", "p", "[I", true)
  | 1 => ("PathTrackerModel", "saved", "[I", true)
  | 2 => ("PathTrackerModel", "states", "I", false)
  | 3 => ("PathTrackerModel", "slots", "[I", true)
  | 4 => ("PathTrackerModel", "isKept", "[Z", true)
  | 5 => ("PathTrackerModel", "text", "[I", true)
  | 6 => ("PathTrackerModel", "length", "I", false)
  | 7 => ("PathTrackerModel", "re", "J", false)
  | 8 => ("PathTrackerModel", "im", "J", false)
  | 9 => ("PathTrackerModel", "unit", "J", false)
  | 10 => ("PathTrackerModel", "power", "[J", true)
  | 11 => ("PathTrackerModel", "at4", "[J", true)
  | 12 => ("PathTrackerModel", "ends", "[J", true)
  | 13 => ("PathTrackerModel", "starts", "[J", true)
  | 14 => ("PathTrackerModel", "mixed", "[J", true)
  | 15 => ("PathTrackerModel", "right", "[J", true)
  | 16 => ("PathTrackerModel", "way", "[J", true)
  | 17 => ("PathTrackerModel", "held2", "[J", true)
  | 18 => ("PathTrackerModel", "at", "I", false)
  | 19 => ("PathTrackerModel", "powerX", "I", false)
  | 20 => ("PathTrackerModel", "powerY", "I", false)
  | 21 => ("PathTrackerModel", "number", "I", false)
  | 22 => ("PathTrackerModel", "isImaginary", "Z", false)
  | _ => ("PathTrackerModel", "told", "[I", true)
def tyX12 : Nat → FieldType := fun k => match k with
  | 0 => .array .int
  | 1 => .array .int
  | 2 => .int
  | 3 => .array .int
  | 4 => .array .boolean
  | 5 => .array .int
  | 6 => .int
  | 7 => .long
  | 8 => .long
  | 9 => .long
  | 10 => .array .long
  | 11 => .array .long
  | 12 => .array .long
  | 13 => .array .long
  | 14 => .array .long
  | 15 => .array .long
  | 16 => .array .long
  | 17 => .array .long
  | 18 => .int
  | 19 => .int
  | 20 => .int
  | 21 => .int
  | 22 => .boolean
  | _ => .array .int
theorem nmX12 : ∀ a, a < 24 → ∀ b, b < 24 → a ≠ b → (TX12 a).2.1 ≠ (TX12 b).2.1 := by decide +kernel
theorem tyX12_ok : ∀ k, k < 24 → parseFieldDescriptor (TX12 k).2.2.1 = some (tyX12 k) := by decide +kernel
abbrev cX12_init : ByteArray := prog_14_method_1_code
def yX12_init : MethodName := ⟨RX12, "<init>", "()V"⟩
abbrev cX12_in : ByteArray := prog_14_method_3_code
def yX12_in : MethodName := ⟨RX12, "in", "(III)Z"⟩
abbrev cX12_termOf : ByteArray := prog_14_method_4_code
def yX12_termOf : MethodName := ⟨RX12, "termOf", "(III)I"⟩
abbrev cX12_setting : ByteArray := prog_14_method_5_code
def yX12_setting : MethodName := ⟨RX12, "setting", "(I)I"⟩
abbrev cX12_paths : ByteArray := prog_14_method_6_code
def yX12_paths : MethodName := ⟨RX12, "paths", "()I"⟩
abbrev cX12_pathAt : ByteArray := prog_14_method_7_code
def yX12_pathAt : MethodName := ⟨RX12, "pathAt", "(I)I"⟩
abbrev cX12_isPath : ByteArray := prog_14_method_8_code
def yX12_isPath : MethodName := ⟨RX12, "isPath", "(I)Z"⟩
abbrev cX12_save0 : ByteArray := prog_14_method_9_code
def yX12_save0 : MethodName := ⟨RX12, "save0", "()V"⟩
abbrev cX12_held : ByteArray := prog_14_method_10_code
def yX12_held : MethodName := ⟨RX12, "held", "(J)J"⟩
abbrev cX12_hold : ByteArray := prog_14_method_11_code
def yX12_hold : MethodName := ⟨RX12, "hold", "(JJ)V"⟩
abbrev cX12_times : ByteArray := prog_14_method_12_code
def yX12_times : MethodName := ⟨RX12, "times", "(JJJJ)V"⟩
abbrev cX12_divides : ByteArray := prog_14_method_13_code
def yX12_divides : MethodName := ⟨RX12, "divides", "(JJJJ)Z"⟩
abbrev cX12_abs : ByteArray := prog_14_method_14_code
def yX12_abs : MethodName := ⟨RX12, "abs", "(J)J"⟩
abbrev cX12_size : ByteArray := prog_14_method_15_code
def yX12_size : MethodName := ⟨RX12, "size", "(JJ)J"⟩
abbrev cX12_layPowers : ByteArray := prog_14_method_16_code
def yX12_layPowers : MethodName := ⟨RX12, "layPowers", "(IJJ)V"⟩
abbrev cX12_layPoint : ByteArray := prog_14_method_17_code
def yX12_layPoint : MethodName := ⟨RX12, "layPoint", "()V"⟩
abbrev cX12_coefficientOf : ByteArray := prog_14_method_18_code
def yX12_coefficientOf : MethodName := ⟨RX12, "coefficientOf", "(IIII)I"⟩
abbrev cX12_product : ByteArray := prog_14_method_19_code
def yX12_product : MethodName := ⟨RX12, "product", "(II)V"⟩
abbrev cX12_worth : ByteArray := prog_14_method_20_code
def yX12_worth : MethodName := ⟨RX12, "worth", "(II)V"⟩
abbrev cX12_worthWithGamma : ByteArray := prog_14_method_21_code
def yX12_worthWithGamma : MethodName := ⟨RX12, "worthWithGamma", "(II)V"⟩
abbrev cX12_laySystem : ByteArray := prog_14_method_22_code
def yX12_laySystem : MethodName := ⟨RX12, "laySystem", "(I)V"⟩
abbrev cX12_cross : ByteArray := prog_14_method_23_code
def yX12_cross : MethodName := ⟨RX12, "cross", "(IIII)V"⟩
abbrev cX12_solves : ByteArray := prog_14_method_24_code
def yX12_solves : MethodName := ⟨RX12, "solves", "()Z"⟩
abbrev cX12_crossRight : ByteArray := prog_14_method_25_code
def yX12_crossRight : MethodName := ⟨RX12, "crossRight", "(IIII)V"⟩
abbrev cX12_goes : ByteArray := prog_14_method_26_code
def yX12_goes : MethodName := ⟨RX12, "goes", "()V"⟩
abbrev cX12_root : ByteArray := prog_14_method_27_code
def yX12_root : MethodName := ⟨RX12, "root", "(II)V"⟩
abbrev cX12_begins : ByteArray := prog_14_method_28_code
def yX12_begins : MethodName := ⟨RX12, "begins", "(II)V"⟩
abbrev cX12_beginAll : ByteArray := prog_14_method_29_code
def yX12_beginAll : MethodName := ⟨RX12, "beginAll", "()V"⟩
abbrev cX12_takes : ByteArray := prog_14_method_30_code
def yX12_takes : MethodName := ⟨RX12, "takes", "(I)V"⟩
abbrev cX12_predicts : ByteArray := prog_14_method_31_code
def yX12_predicts : MethodName := ⟨RX12, "predicts", "(II)Z"⟩
abbrev cX12_corrects : ByteArray := prog_14_method_32_code
def yX12_corrects : MethodName := ⟨RX12, "corrects", "(I)Z"⟩
abbrev cX12_wasGood : ByteArray := prog_14_method_33_code
def yX12_wasGood : MethodName := ⟨RX12, "wasGood", "(II)V"⟩
abbrev cX12_hasFailed : ByteArray := prog_14_method_34_code
def yX12_hasFailed : MethodName := ⟨RX12, "hasFailed", "(I)V"⟩
abbrev cX12_tries : ByteArray := prog_14_method_35_code
def yX12_tries : MethodName := ⟨RX12, "tries", "(I)V"⟩
abbrev cX12_isOnWay : ByteArray := prog_14_method_36_code
def yX12_isOnWay : MethodName := ⟨RX12, "isOnWay", "(I)Z"⟩
abbrev cX12_follows : ByteArray := prog_14_method_37_code
def yX12_follows : MethodName := ⟨RX12, "follows", "(II)I"⟩
abbrev cX12_many : ByteArray := prog_14_method_38_code
def yX12_many : MethodName := ⟨RX12, "many", "(I)I"⟩
abbrev cX12_track : ByteArray := prog_14_method_39_code
def yX12_track : MethodName := ⟨RX12, "track", "(II)I"⟩
abbrev cX12_trackAll : ByteArray := prog_14_method_40_code
def yX12_trackAll : MethodName := ⟨RX12, "trackAll", "(I)I"⟩
abbrev cX12_again : ByteArray := prog_14_method_41_code
def yX12_again : MethodName := ⟨RX12, "again", "(I)I"⟩
abbrev cX12_thousandths : ByteArray := prog_14_method_42_code
def yX12_thousandths : MethodName := ⟨RX12, "thousandths", "(II)I"⟩
abbrev cX12_residue : ByteArray := prog_14_method_43_code
def yX12_residue : MethodName := ⟨RX12, "residue", "(I)I"⟩
abbrev cX12_path : ByteArray := prog_14_method_44_code
def yX12_path : MethodName := ⟨RX12, "path", "(II)I"⟩
abbrev cX12_isAtEnd : ByteArray := prog_14_method_45_code
def yX12_isAtEnd : MethodName := ⟨RX12, "isAtEnd", "(I)Z"⟩
abbrev cX12_areMet : ByteArray := prog_14_method_46_code
def yX12_areMet : MethodName := ⟨RX12, "areMet", "(II)Z"⟩
abbrev cX12_firstMet : ByteArray := prog_14_method_47_code
def yX12_firstMet : MethodName := ⟨RX12, "firstMet", "(I)I"⟩
abbrev cX12_meets : ByteArray := prog_14_method_48_code
def yX12_meets : MethodName := ⟨RX12, "meets", "(I)I"⟩
abbrev cX12_next : ByteArray := prog_14_method_49_code
def yX12_next : MethodName := ⟨RX12, "next", "()I"⟩
abbrev cX12_isAhead : ByteArray := prog_14_method_50_code
def yX12_isAhead : MethodName := ⟨RX12, "isAhead", "(II)Z"⟩
abbrev cX12_endAt : ByteArray := prog_14_method_51_code
def yX12_endAt : MethodName := ⟨RX12, "endAt", "(I)I"⟩
abbrev cX12_least : ByteArray := prog_14_method_52_code
def yX12_least : MethodName := ⟨RX12, "least", "(I)I"⟩
abbrev cX12_most : ByteArray := prog_14_method_53_code
def yX12_most : MethodName := ⟨RX12, "most", "(I)I"⟩
abbrev cX12_set : ByteArray := prog_14_method_54_code
def yX12_set : MethodName := ⟨RX12, "set", "(II)I"⟩
abbrev cX12_distinct : ByteArray := prog_14_method_55_code
def yX12_distinct : MethodName := ⟨RX12, "distinct", "()I"⟩
abbrev cX12_reals : ByteArray := prog_14_method_56_code
def yX12_reals : MethodName := ⟨RX12, "reals", "()I"⟩
abbrev cX12_count : ByteArray := prog_14_method_57_code
def yX12_count : MethodName := ⟨RX12, "count", "(I)I"⟩
abbrev cX12_type : ByteArray := prog_14_method_58_code
def yX12_type : MethodName := ⟨RX12, "type", "(I)I"⟩
abbrev cX12_wipe : ByteArray := prog_14_method_59_code
def yX12_wipe : MethodName := ⟨RX12, "wipe", "()I"⟩
abbrev cX12_here : ByteArray := prog_14_method_60_code
def yX12_here : MethodName := ⟨RX12, "here", "()I"⟩
abbrev cX12_isDigit : ByteArray := prog_14_method_61_code
def yX12_isDigit : MethodName := ⟨RX12, "isDigit", "()Z"⟩
abbrev cX12_isFactor : ByteArray := prog_14_method_62_code
def yX12_isFactor : MethodName := ⟨RX12, "isFactor", "()Z"⟩
abbrev cX12_readFactor : ByteArray := prog_14_method_63_code
def yX12_readFactor : MethodName := ⟨RX12, "readFactor", "()Z"⟩
abbrev cX12_readNumber : ByteArray := prog_14_method_64_code
def yX12_readNumber : MethodName := ⟨RX12, "readNumber", "()V"⟩
abbrev cX12_readTerm : ByteArray := prog_14_method_65_code
def yX12_readTerm : MethodName := ⟨RX12, "readTerm", "()Z"⟩
abbrev cX12_bounded : ByteArray := prog_14_method_66_code
def yX12_bounded : MethodName := ⟨RX12, "bounded", "(I)I"⟩
abbrev cX12_adds : ByteArray := prog_14_method_67_code
def yX12_adds : MethodName := ⟨RX12, "adds", "(Z)V"⟩
abbrev cX12_faultOf : ByteArray := prog_14_method_68_code
def yX12_faultOf : MethodName := ⟨RX12, "faultOf", "()I"⟩
abbrev cX12_fault : ByteArray := prog_14_method_69_code
def yX12_fault : MethodName := ⟨RX12, "fault", "()I"⟩
abbrev cX12_degreeTold : ByteArray := prog_14_method_70_code
def yX12_degreeTold : MethodName := ⟨RX12, "degreeTold", "()I"⟩
abbrev cX12_equation : ByteArray := prog_14_method_71_code
def yX12_equation : MethodName := ⟨RX12, "equation", "(I)I"⟩
abbrev cX12_coefficient : ByteArray := prog_14_method_72_code
def yX12_coefficient : MethodName := ⟨RX12, "coefficient", "(IIII)I"⟩
abbrev cX12_undo : ByteArray := prog_14_method_73_code
def yX12_undo : MethodName := ⟨RX12, "undo", "()I"⟩
abbrev cX12_save : ByteArray := prog_14_method_74_code
def yX12_save : MethodName := ⟨RX12, "save", "(I)I"⟩
abbrev cX12_restore : ByteArray := prog_14_method_75_code
def yX12_restore : MethodName := ⟨RX12, "restore", "(I)I"⟩
def RJ6 : String := "java/lang/Integer"
def TJ6 : u_T := fun k => match k with
  | _ => ("", "", "", false)
def tyJ6 : Nat → FieldType := fun k => match k with
  | _ => .int
abbrev cJ6_compare_7cf53 : ByteArray := prog_15_method_40_code
def yJ6_compare_7cf53 : MethodName := ⟨RJ6, "compare", "(II)I"⟩
def RJ9 : String := "java/lang/Math"
def TJ9 : u_T := fun k => match k with
  | _ => ("", "", "", false)
def tyJ9 : Nat → FieldType := fun k => match k with
  | _ => .int
abbrev cJ9_floorMod_7cf53 : ByteArray := prog_16_method_50_code
def yJ9_floorMod_7cf53 : MethodName := ⟨RJ9, "floorMod", "(II)I"⟩
abbrev cJ9_abs_0f7a4 : ByteArray := prog_16_method_59_code
def yJ9_abs_0f7a4 : MethodName := ⟨RJ9, "abs", "(I)I"⟩
abbrev cJ9_abs_067f4 : ByteArray := prog_16_method_61_code
def yJ9_abs_067f4 : MethodName := ⟨RJ9, "abs", "(J)J"⟩
abbrev cJ9_max_7cf53 : ByteArray := prog_16_method_65_code
def yJ9_max_7cf53 : MethodName := ⟨RJ9, "max", "(II)I"⟩
abbrev cJ9_max_f86c9 : ByteArray := prog_16_method_66_code
def yJ9_max_f86c9 : MethodName := ⟨RJ9, "max", "(JJ)J"⟩
abbrev cJ9_min_7cf53 : ByteArray := prog_16_method_69_code
def yJ9_min_7cf53 : MethodName := ⟨RJ9, "min", "(II)I"⟩
def RL : String := "PathTrackerLaw"
abbrev cL_law : ByteArray := code
def yL_law : MethodName := ⟨RL, "law", "([I)Z"⟩
abbrev vwCl : List vw_C := [(RX0, TX0, 2), (RX1, TX1, 3), (RX2, TX2, 4), (RX3, TX3, 8), (RX4, TX4, 3), (RX5, TX5, 8), (RX6, TX6, 10), (RX7, TX7, 1), (RX8, TX8, 6), (RX9, TX9, 5), (RX10, TX10, 3), (RX11, TX11, 6), (RX12, TX12, 24)]
end
section
/-! THE x_ LAYER, 1: words, world, judgement. Every method's words are the whole table's good ones; the world is a map of shapes G (address to kind, length, references) and two maps of contents I (ints) and L (longs), by address and place. -/
def xtbl : List Cond := lw_tbl.filter goodWord
theorem xtbl_in {w : Cond} (h : w ∈ lw_tbl) (g : goodWord w = true) : w ∈ xtbl := List.mem_filter.mpr ⟨h, g⟩
theorem xtbl_sub {w : Cond} (h : w ∈ xtbl) : w ∈ lw_tbl := (List.mem_filter.mp h).1
theorem xtbl_good {w : Cond} (h : w ∈ xtbl) : (w.onTables && w.keeps) = true ∨ ∃ ty, w = .arrayClass ty := good_of_word (List.mem_filter.mp h).2
def xws (y : MethodName) (cc : ByteArray) (nL : Nat) (ret : Option FieldType) : List Cond := .code y cc nL ret :: xtbl
theorem xws_good {y : MethodName} {cc : ByteArray} {nL : Nat} {ret : Option FieldType} (h : Cond.code y cc nL ret ∈ xtbl) : GoodIn xtbl (xws y cc nL ret) := by
  intro w hw
  rcases List.mem_cons.mp hw with rfl | hw
  · exact ⟨h, xtbl_good h⟩
  · exact ⟨hw, xtbl_good hw⟩
theorem xin_1 {w : Cond} (i : Nat) (h : tables_1_1[i]? = some w) (g : goodWord w = true) : w ∈ xtbl := xtbl_in (List.mem_append_right _ (List.mem_append_left _ (List.mem_of_getElem? h))) g
theorem xin_2 {w : Cond} (i : Nat) (h : tables_1_2[i]? = some w) (g : goodWord w = true) : w ∈ xtbl := xtbl_in (List.mem_append_right _ (List.mem_append_right _ (List.mem_append_left _ (List.mem_of_getElem? h)))) g
theorem xin_3 {w : Cond} (i : Nat) (h : tables_1_3[i]? = some w) (g : goodWord w = true) : w ∈ xtbl := xtbl_in (List.mem_append_right _ (List.mem_append_right _ (List.mem_append_right _ (List.mem_append_left _ (List.mem_of_getElem? h))))) g
theorem xin_4 {w : Cond} (i : Nat) (h : tables_1_4[i]? = some w) (g : goodWord w = true) : w ∈ xtbl := xtbl_in (List.mem_append_right _ (List.mem_append_right _ (List.mem_append_right _ (List.mem_append_right _ (List.mem_append_left _ (List.mem_of_getElem? h)))))) g
theorem xin_5 {w : Cond} (i : Nat) (h : tables_1_5[i]? = some w) (g : goodWord w = true) : w ∈ xtbl := xtbl_in (List.mem_append_right _ (List.mem_append_right _ (List.mem_append_right _ (List.mem_append_right _ (List.mem_append_right _ (List.mem_of_getElem? h)))))) g
theorem xin_p {q : MethodName × Nat} (i : Nat) (h : lw_privs[i]? = some q) : Cond.selects q.1.cls q.1 q.1 ∈ xtbl := xtbl_in (List.mem_append_left _ (List.mem_map.mpr ⟨q, List.mem_of_getElem? h, rfl⟩)) rfl
-- shapes
abbrev xS : Type := Nat × Nat × (Nat → Option Nat)
abbrev xD : Type := va_G × (Nat → ClassId) × (Nat → Nat)
abbrev xI : Type := Nat → Nat → Int32
abbrev xL : Type := Nat → Nat → Int64
abbrev xG : Type := Nat → Option xS
def xCl (k : Nat) : vw_C := (vwCl[k]?).getD (RX0, TX0, 2)
theorem xCl_ok {k : Nat} (h : k < 13) : vwCl[k]? = some (xCl k) := by
  have h' : k < vwCl.length := h
  simp [xCl, List.getElem?_eq_getElem h']
def xTy (k : Nat) : Nat → FieldType := (([tyX0, tyX1, tyX2, tyX3, tyX4, tyX5, tyX6, tyX7, tyX8, tyX9, tyX10, tyX11, tyX12] : List (Nat → FieldType))[k]?).getD tyX0
def xV (ty : FieldType) (i : Int32) (l : Int64) (r : Option Nat) : Value := match ty with
  | .int => .int i
  | .boolean => .int i
  | .long => .long l
  | _ => va_rf r
def xAV (k : Nat) (i : Int32) (l : Int64) (r : Option Nat) : Value := if k = 21 then .long l else if k < 23 then .int i else va_rf r
def xAt (D : xD) (I : xI) (L : xL) (a : Nat) (sh : xS) (H : Heap) : Prop :=
  if sh.1 < 13 then t_OB a (D.1.1 sh.1) (xCl sh.1).2.2 (D.1.2 sh.1) H (fun j => xV (xTy sh.1 j) (I a j) (L a j) (sh.2.2 j))
  else H[a]? = some (arrV (D.2.1 (sh.1 - 20)) sh.2.1 (fun j => xAV sh.1 (I a j) (L a j) (sh.2.2 j)))
def xRep (D : xD) (G : xG) (I : xI) (L : xL) (H : Heap) : Prop := ∀ (a : Nat) (sh : xS), G a = some sh → xAt D I L a sh H
theorem xAt.lt {D : xD} {I : xI} {L : xL} {a : Nat} {sh : xS} {H : Heap} (h : xAt D I L a sh H) : a < H.size := by
  unfold xAt at h
  split at h
  · obtain ⟨cell, h2, -⟩ := h
    exact (Array.getElem?_eq_some_iff.mp h2).1
  · exact (Array.getElem?_eq_some_iff.mp h).1
theorem xAt.kept {D : xD} {I I' : xI} {L L' : xL} {a : Nat} {sh : xS} {H H1 : Heap} (h : xAt D I L a sh H) (hq : H1[a]? = H[a]?) (hI : I' a = I a) (hL : L' a = L a) : xAt D I' L' a sh H1 := by
  unfold xAt at h ⊢
  rw [hI, hL]
  split at h
  · rw [if_pos (by assumption)]
    exact h.kept hq
  · rw [if_neg (by assumption)]
    exact hq.trans h
-- what stands of the tables, and of the static arrays
def xTys (D : xD) : List (ClassId × FieldType) := [(D.2.1 0, .int), (D.2.1 1, .long), (D.2.1 2, .boolean), (D.2.1 3, .object RX0), (D.2.1 4, .object RX1), (D.2.1 5, .object RX6), (D.2.1 6, .object RX9), (D.2.1 7, .object RX10)]
def xNest : List (String × Nat) := [(RX1, 18), (RX7, 17), (RX10, 9), (RX8, 9), (RX3, 25), (RX6, 9)]
def xK (D : xD) (U : State) : Prop := va_K D.1 vwCl (xTys D) U ∧ (∀ C ∈ ([RX0, RX1, RX6, RX9, RX10] : List String), va_AO C U) ∧ ∀ q ∈ xNest, va_Nw (.methodLinkNest q.1 q.2 yX0_init "PathTracker") U
theorem xK.moved {D : xD} {s U : State} (hW : s.WarmedH U.vm) (h : xK D s) : xK D U := ⟨va_K.moved hW.alike h.1, fun C hC => va_AO.moved hW.alike (h.2.1 C hC), fun q hq => va_Nw.warmM hW (h.2.2 q hq)⟩
def xPx : Nat → Int32 := fun j => ([0, 0, 0, 0, 1, 1, 1, 2, 2, 3] : List Int32).getD j 0
def xPy : Nat → Int32 := fun j => ([0, 1, 2, 3, 0, 1, 2, 0, 1, 0] : List Int32).getD j 0
def xFt : Nat → Int32 := fun j => ([0, 4, 7, 9] : List Int32).getD j 0
def xFv : Nat → Int32 := fun j => ([64, 128, 3, 4, 100, 10, 3, 2] : List Int32).getD j 0
def xLv : Nat → Int32 := fun j => ([1, 1, 1, 1, 2, 0, -16, -16] : List Int32).getD j 0
def xGv : Nat → Int32 := fun j => ([256, 256, 6, 64, 500, 1000, 16, 16] : List Int32).getD j 0
def xStats : List (String × String × Nat × (Nat → Int32)) := [("PathTracker$Equation", "POWER_OF_X", 10, xPx), ("PathTracker$Equation", "POWER_OF_Y", 10, xPy), ("PathTracker$Equation", "FIRST_TERM", 4, xFt), ("PathTracker$State", "FIRST_VALUE", 8, xFv), ("PathTracker$State", "LEAST_VALUE", 8, xLv), ("PathTracker$State", "GREATEST_VALUE", 8, xGv)]
def xZ (D : xD) (z : Nat) (U : State) (H : Heap) : Prop := ∀ (k : Nat) (q : String × String × Nat × (Nat → Int32)), xStats[k]? = some q → va_Z q.1 q.2.1 "[I" (.ref (D.2.2 k)) (fun a => z ≤ a) U H ∧ va_T .int (D.2.2 k) q.2.2.1 (fun j => .int (q.2.2.2 j)) (fun a => z ≤ a) U H
theorem xZ.moved {D : xD} {z : Nat} {u U : State} {H : Heap} (hvm : u.vm.Alike U.vm) (h : xZ D z u H) : xZ D z U H := fun k q hq => ⟨va_Z.moved hvm (h k q hq).1, va_T.moved hvm (h k q hq).2⟩
theorem xZ.kept {D : xD} {z : Nat} {U : State} {H H1 : Heap} (h : xZ D z U H) (hk : ∀ a : Nat, a < H.size → ¬ z ≤ a → H1[a]? = H[a]?) : xZ D z U H1 := fun k q hq => ⟨va_Z.kept (h k q hq).1 hk, va_T.kept (h k q hq).2 hk⟩
-- contracts
def xB (D : xD) (z n : Nat) (G : xG) (I : xI) (L : xL) (U : State) : Prop := U.heap.size = n ∧ z ≤ n ∧ xRep D G I L U.heap ∧ xK D U ∧ xZ D z U U.heap
abbrev xPost : Type := Option Value → Nat → xG → xI → xL → Prop
def xQc (D : xD) (z n : Nat) (Post : xPost) : Array Value → State → Outcome → State → Prop := fun _ st oc t => (∃ (v : Option Value) (n' : Nat) (G' : xG) (I' : xI) (L' : xL), oc = .returned v ∧ Post v n' G' I' L' ∧ t.heap.size = n' ∧ n ≤ n' ∧ xRep D G' I' L' t.heap) ∧ va_F (fun a => z ≤ a) st t
def xRm (fr lo mc ms : Nat) : Room := { frames := fr, cells := mc, slots := ms, locals := lo }
def xM (l : Launch) (D : xD) (z : Nat) (y : MethodName) (cc : ByteArray) (nL : Nat) (ret : Option FieldType) (fr lo mc ms : Nat) (av : List Value) (n : Nat) (G : xG) (I : xI) (L : xL) (Post : xPost) : Prop :=
  Met l y (xws y cc nL ret) (xRm fr lo mc ms) (va_Pc av (xB D z n G I L)) (xQc D z n Post) mc ms (fun a => z ≤ a)
/-- of a method that makes no cell: the shapes stay -/
def xN (n : Nat) (G : xG) (P : Option Value → xI → xL → Prop) : xPost := fun v n' G' I' L' => n' = n ∧ G' = G ∧ P v I' L'
abbrev xM0 (l : Launch) (D : xD) (z : Nat) (y : MethodName) (cc : ByteArray) (nL : Nat) (ret : Option FieldType) (fr lo : Nat) (av : List Value) (n : Nat) (G : xG) (I : xI) (L : xL) (P : Option Value → xI → xL → Prop) : Prop := xM l D z y cc nL ret fr lo 0 0 av n G I L (xN n G P)
-- the judgement
def xOK (p : Program) (s : State) (m : MethodId) (args : Array Value) (meth : Method) (c : Code) (D : xD) (z : Nat) (own : String) (cc : ByteArray) (nL : Nat) (rt : Option FieldType) : Prop :=
  p.tables.exec = Jvm.exec ∧ c.code = cc ∧ c.maxLocals = nL ∧ s.vm.findClass own = some m.cls ∧ (∀ w ∈ xtbl, w.before args s = true) ∧ meth.sig.returnType = rt ∧ meth.locks = false ∧ xK D s ∧ xZ D z s s.heap ∧ z ≤ s.heap.size
def X (p : Program) (l : Launch) (e : Env) (R : Room) (s : State) (m : MethodId) (args : Array Value) (below : List Frame) (meth : Method) (c : Code) (D : xD) (z nL : Nat) (Q : State → Prop) (cells slots n : Nat) (G : xG) (I : xI) (L : xL) (pc : Nat) (lv : List (Nat × Value)) (st : List Value) : Prop :=
  ∀ (H : Heap) (locs : List Loc) (ls : Array Slot), H.size = n → xRep D G I L H → va_S (fun a => z ≤ a) s.heap H locs → lv_has ls nL lv → W p l e R s m args below meth c H locs cells slots Q (F0 m pc ls st)
def xup {α : Type} (f : Nat → Nat → α) (a k : Nat) (v : α) : Nat → Nat → α := fun a' k' => if a' = a ∧ k' = k then v else f a' k'
def xzero {α : Type} (f : Nat → Nat → α) (a : Nat) (v : α) : Nat → Nat → α := fun a' k' => if a' = a then v else f a' k'
theorem xup_self {α : Type} (f : Nat → Nat → α) (a k : Nat) (v : α) : xup f a k v a k = v := by simp [xup]
theorem xup_ne {α : Type} (f : Nat → Nat → α) {a k a' k' : Nat} (v : α) (h : ¬ (a' = a ∧ k' = k)) : xup f a k v a' k' = f a' k' := by simp only [xup, if_neg h]
def xIx (i : Int32) (len j : Nat) : Prop := ¬ i < 0 ∧ i.toNatClampNeg = j ∧ j < len
theorem xIx.in {i : Int32} {len j : Nat} (h : xIx i len j) : vp_in i len := fun q => q.elim h.1 (fun q => by have h1 := h.2.1; have h2 := h.2.2; omega)
/-- a method's contract out of its walk from the entry -/
theorem xM.of {l : Launch} {D : xD} {z : Nat} {y : MethodName} {cc : ByteArray} {nL : Nat} {ret : Option FieldType} {fr lo mc ms : Nat} {av : List Value} {n : Nat} {G : xG} {I : xI} {L : xL} {Post : xPost} (hy : plainName y.cls = true) (hlen : (lg_sl av).length ≤ nL)
    (body : ∀ (p : Program) (e : Env) (s : State) (m : MethodId) (args : Array Value) (below : List Frame) (meth : Method) (c : Code), xOK p s m args meth c D z y.cls cc nL ret → (y.name = meth.name) → s.heap.size = n →
      X p l e (xRm fr lo mc ms) s m args below meth c D z nL (MQ below (xQc D z n Post) args s mc ms (fun a => z ≤ a)) 0 0 n G I L 0 (lv_args 0 av) []) :
    xM l D z y cc nL ret fr lo mc ms av n G I L Post := by
  refine Met.ofW (cc := cc) (maxL := nL) (ret := ret) hy rfl ?_
  intro p e s m args below meth c s₁ B hml hv
  obtain ⟨rfl, hn, hz, hR, hK, hZ⟩ := hv
  have hts := atoms_spec (ws := xws y cc nL ret) B.pre
  have hl := lv_entry av (n := nL) hlen
  rw [lg_entry_eq]
  exact body p e s m _ below meth c ⟨B.exec, B.bytes, hml, findClass_of_methodNamed B.named, fun w hw => hts w (List.mem_cons_of_mem _ hw), B.returns, B.notSynchronized, hK, hZ, by rw [hn]; exact hz⟩ (name_of_methodNamed B.named B.method).1.symm hn s.heap [] _ hn hR va_S.rf hl
end
section
/-! THE x_ LAYER, 2: a row an instruction -/
section XR
variable {p : Program} {l : Launch} {e : Env} {R : Room} {s : State} {m : MethodId} {args : Array Value} {below : List Frame} {meth : Method} {c : Code} {D : xD} {z nL : Nat} {Q : State → Prop} {cells slots n : Nat} {G : xG} {I : xI} {L : xL} {own : String} {cc : ByteArray} {rt : Option FieldType} {lv : List (Nat × Value)} {st : List Value}

theorem x_iconst (pc : Nat) (C : xOK p s m args meth c D z own cc nL rt) {i : Int} {v : Int32} (d : decode cc pc = .ok (.iconst i, 1)) (hv : Int32.ofInt i = v) (k : X p l e R s m args below meth c D z nL Q cells slots n G I L (pc + 1) lv (.int v :: st)) : X p l e R s m args below meth c D z nL Q cells slots n G I L pc lv (st) := fun H locs ls h1 h2 h3 h4 => lv_iconst C.1 C.2.1 d hv (k H locs ls h1 h2 h3 h4)
theorem x_bipush (pc : Nat) (C : xOK p s m args meth c D z own cc nL rt) {i : Int} {v : Int32} (d : decode cc pc = .ok (.bipush i, 2)) (hv : (Int8.ofInt i).toInt32 = v) (k : X p l e R s m args below meth c D z nL Q cells slots n G I L (pc + 2) lv (.int v :: st)) : X p l e R s m args below meth c D z nL Q cells slots n G I L pc lv (st) := fun H locs ls h1 h2 h3 h4 => lv_bipush C.1 C.2.1 d hv (k H locs ls h1 h2 h3 h4)
theorem x_sipush (pc : Nat) (C : xOK p s m args meth c D z own cc nL rt) {i : Int} {v : Int32} (d : decode cc pc = .ok (.sipush i, 3)) (hv : (Int16.ofInt i).toInt32 = v) (k : X p l e R s m args below meth c D z nL Q cells slots n G I L (pc + 3) lv (.int v :: st)) : X p l e R s m args below meth c D z nL Q cells slots n G I L pc lv (st) := fun H locs ls h1 h2 h3 h4 => lv_sipush C.1 C.2.1 d hv (k H locs ls h1 h2 h3 h4)
theorem x_lconst (pc : Nat) (C : xOK p s m args meth c D z own cc nL rt) {i : Fin 2} {v : Int64} (d : decode cc pc = .ok (.lconst i, 1)) (hv : Int64.ofNat (i : Nat) = v) (k : X p l e R s m args below meth c D z nL Q cells slots n G I L (pc + 1) lv (.long v :: st)) : X p l e R s m args below meth c D z nL Q cells slots n G I L pc lv (st) := fun H locs ls h1 h2 h3 h4 => lv_lconst C.1 C.2.1 d hv (k H locs ls h1 h2 h3 h4)
theorem x_iload_n (pc : Nat) (C : xOK p s m args meth c D z own cc nL rt) {k : Fin 4} {i : Nat} {x : Int32} (d : decode cc pc = .ok (.iload_n k, 1)) (hi : (k : Nat) = i) (q : Nat) (hq : lv[q]? = some (i, .int x)) (k : X p l e R s m args below meth c D z nL Q cells slots n G I L (pc + 1) lv (.int x :: st)) : X p l e R s m args below meth c D z nL Q cells slots n G I L pc lv st := fun H locs ls h1 h2 h3 h4 => lv_iload_n C.1 C.2.1 d hi (lv_at h4 q hq) (k H locs ls h1 h2 h3 h4)
theorem x_iload (pc : Nat) (C : xOK p s m args meth c D z own cc nL rt) {i : Nat} {x : Int32} (d : decode cc pc = .ok (.iload i, 2)) (q : Nat) (hq : lv[q]? = some (i, .int x)) (k : X p l e R s m args below meth c D z nL Q cells slots n G I L (pc + 2) lv (.int x :: st)) : X p l e R s m args below meth c D z nL Q cells slots n G I L pc lv st := fun H locs ls h1 h2 h3 h4 => lv_iload C.1 C.2.1 d (lv_at h4 q hq) (k H locs ls h1 h2 h3 h4)
theorem x_istore_n (pc : Nat) (C : xOK p s m args meth c D z own cc nL rt) {k : Fin 4} {i : Nat} {x : Int32} (lv' : List (Nat × Value)) (d : decode cc pc = .ok (.istore_n k, 1)) (hi : (k : Nat) = i) (hn : i < nL) (hl : (i, Value.int x) :: lv.filter (fun q => !(q.1 == i) && !(q.1 + 1 == i && q.2.category == 2)) = lv') (k : X p l e R s m args below meth c D z nL Q cells slots n G I L (pc + 1) lv' st) : X p l e R s m args below meth c D z nL Q cells slots n G I L pc lv (.int x :: st) := fun H locs ls h1 h2 h3 h4 => lv_istore_n C.1 C.2.1 d hi h4 hn hl (fun ls' h => k H locs ls' h1 h2 h3 h)
theorem x_istore (pc : Nat) (C : xOK p s m args meth c D z own cc nL rt) {i : Nat} {x : Int32} (lv' : List (Nat × Value)) (d : decode cc pc = .ok (.istore i, 2)) (hn : i < nL) (hl : (i, Value.int x) :: lv.filter (fun q => !(q.1 == i) && !(q.1 + 1 == i && q.2.category == 2)) = lv') (k : X p l e R s m args below meth c D z nL Q cells slots n G I L (pc + 2) lv' st) : X p l e R s m args below meth c D z nL Q cells slots n G I L pc lv (.int x :: st) := fun H locs ls h1 h2 h3 h4 => lv_istore C.1 C.2.1 d h4 hn hl (fun ls' h => k H locs ls' h1 h2 h3 h)
theorem x_lload_n (pc : Nat) (C : xOK p s m args meth c D z own cc nL rt) {k : Fin 4} {i : Nat} {x : Int64} (d : decode cc pc = .ok (.lload_n k, 1)) (hi : (k : Nat) = i) (q : Nat) (hq : lv[q]? = some (i, .long x)) (k : X p l e R s m args below meth c D z nL Q cells slots n G I L (pc + 1) lv (.long x :: st)) : X p l e R s m args below meth c D z nL Q cells slots n G I L pc lv st := fun H locs ls h1 h2 h3 h4 => lv_lload_n C.1 C.2.1 d hi (lv_at h4 q hq) (k H locs ls h1 h2 h3 h4)
theorem x_lload (pc : Nat) (C : xOK p s m args meth c D z own cc nL rt) {i : Nat} {x : Int64} (d : decode cc pc = .ok (.lload i, 2)) (q : Nat) (hq : lv[q]? = some (i, .long x)) (k : X p l e R s m args below meth c D z nL Q cells slots n G I L (pc + 2) lv (.long x :: st)) : X p l e R s m args below meth c D z nL Q cells slots n G I L pc lv st := fun H locs ls h1 h2 h3 h4 => lv_lload C.1 C.2.1 d (lv_at h4 q hq) (k H locs ls h1 h2 h3 h4)
theorem x_lstore_n (pc : Nat) (C : xOK p s m args meth c D z own cc nL rt) {k : Fin 4} {i : Nat} {x : Int64} (lv' : List (Nat × Value)) (d : decode cc pc = .ok (.lstore_n k, 1)) (hi : (k : Nat) = i) (hn : i + 1 < nL) (hl : (i, Value.long x) :: lv.filter (fun q => !(q.1 == i) && (!(q.1 == i + 1) && !(q.1 + 1 == i && q.2.category == 2))) = lv') (k : X p l e R s m args below meth c D z nL Q cells slots n G I L (pc + 1) lv' st) : X p l e R s m args below meth c D z nL Q cells slots n G I L pc lv (.long x :: st) := fun H locs ls h1 h2 h3 h4 => lv_lstore_n C.1 C.2.1 d hi h4 hn hl (fun ls' h => k H locs ls' h1 h2 h3 h)
theorem x_lstore (pc : Nat) (C : xOK p s m args meth c D z own cc nL rt) {i : Nat} {x : Int64} (lv' : List (Nat × Value)) (d : decode cc pc = .ok (.lstore i, 2)) (hn : i + 1 < nL) (hl : (i, Value.long x) :: lv.filter (fun q => !(q.1 == i) && (!(q.1 == i + 1) && !(q.1 + 1 == i && q.2.category == 2))) = lv') (k : X p l e R s m args below meth c D z nL Q cells slots n G I L (pc + 2) lv' st) : X p l e R s m args below meth c D z nL Q cells slots n G I L pc lv (.long x :: st) := fun H locs ls h1 h2 h3 h4 => lv_lstore C.1 C.2.1 d h4 hn hl (fun ls' h => k H locs ls' h1 h2 h3 h)
theorem x_aload_n (pc : Nat) (C : xOK p s m args meth c D z own cc nL rt) {k : Fin 4} {i : Nat} {x : Nat} (d : decode cc pc = .ok (.aload_n k, 1)) (hi : (k : Nat) = i) (q : Nat) (hq : lv[q]? = some (i, .ref x)) (k : X p l e R s m args below meth c D z nL Q cells slots n G I L (pc + 1) lv (.ref x :: st)) : X p l e R s m args below meth c D z nL Q cells slots n G I L pc lv st := fun H locs ls h1 h2 h3 h4 => lv_aload_n C.1 C.2.1 d hi (lv_at h4 q hq) (k H locs ls h1 h2 h3 h4)
theorem x_aload (pc : Nat) (C : xOK p s m args meth c D z own cc nL rt) {i : Nat} {x : Nat} (d : decode cc pc = .ok (.aload i, 2)) (q : Nat) (hq : lv[q]? = some (i, .ref x)) (k : X p l e R s m args below meth c D z nL Q cells slots n G I L (pc + 2) lv (.ref x :: st)) : X p l e R s m args below meth c D z nL Q cells slots n G I L pc lv st := fun H locs ls h1 h2 h3 h4 => lv_aload C.1 C.2.1 d (lv_at h4 q hq) (k H locs ls h1 h2 h3 h4)
theorem x_astore_n (pc : Nat) (C : xOK p s m args meth c D z own cc nL rt) {k : Fin 4} {i : Nat} {x : Nat} (lv' : List (Nat × Value)) (d : decode cc pc = .ok (.astore_n k, 1)) (hi : (k : Nat) = i) (hn : i < nL) (hl : (i, Value.ref x) :: lv.filter (fun q => !(q.1 == i) && !(q.1 + 1 == i && q.2.category == 2)) = lv') (k : X p l e R s m args below meth c D z nL Q cells slots n G I L (pc + 1) lv' st) : X p l e R s m args below meth c D z nL Q cells slots n G I L pc lv (.ref x :: st) := fun H locs ls h1 h2 h3 h4 => lv_astore_n C.1 C.2.1 d hi h4 hn hl (fun ls' h => k H locs ls' h1 h2 h3 h)
theorem x_astore (pc : Nat) (C : xOK p s m args meth c D z own cc nL rt) {i : Nat} {x : Nat} (lv' : List (Nat × Value)) (d : decode cc pc = .ok (.astore i, 2)) (hn : i < nL) (hl : (i, Value.ref x) :: lv.filter (fun q => !(q.1 == i) && !(q.1 + 1 == i && q.2.category == 2)) = lv') (k : X p l e R s m args below meth c D z nL Q cells slots n G I L (pc + 2) lv' st) : X p l e R s m args below meth c D z nL Q cells slots n G I L pc lv (.ref x :: st) := fun H locs ls h1 h2 h3 h4 => lv_astore C.1 C.2.1 d h4 hn hl (fun ls' h => k H locs ls' h1 h2 h3 h)
theorem x_iinc (pc : Nat) (C : xOK p s m args meth c D z own cc nL rt) {i : Nat} {n' : Int} {x v : Int32} (lv' : List (Nat × Value)) (d : decode cc pc = .ok (.iinc i n', 3)) (q : Nat) (hq : lv[q]? = some (i, .int x)) (hv : x + Int32.ofInt n' = v) (hn : i < nL) (hl : (i, Value.int v) :: lv.filter (fun q => !(q.1 == i) && !(q.1 + 1 == i && q.2.category == 2)) = lv') (k : X p l e R s m args below meth c D z nL Q cells slots n G I L (pc + 3) lv' st) : X p l e R s m args below meth c D z nL Q cells slots n G I L pc lv st := fun H locs ls h1 h2 h3 h4 => lv_iinc C.1 C.2.1 d h4 hq hv hn hl (fun ls' h => k H locs ls' h1 h2 h3 h)
theorem x_iadd (pc : Nat) (C : xOK p s m args meth c D z own cc nL rt) {x y : Int32} (d : decode cc pc = .ok (.iadd, 1))  (k : X p l e R s m args below meth c D z nL Q cells slots n G I L (pc + 1) lv (.int (x + y) :: st)) : X p l e R s m args below meth c D z nL Q cells slots n G I L pc lv (.int y :: .int x :: st) := fun H locs ls h1 h2 h3 h4 => lv_iadd C.1 C.2.1 d  (k H locs ls h1 h2 h3 h4)
theorem x_isub (pc : Nat) (C : xOK p s m args meth c D z own cc nL rt) {x y : Int32} (d : decode cc pc = .ok (.isub, 1))  (k : X p l e R s m args below meth c D z nL Q cells slots n G I L (pc + 1) lv (.int (x - y) :: st)) : X p l e R s m args below meth c D z nL Q cells slots n G I L pc lv (.int y :: .int x :: st) := fun H locs ls h1 h2 h3 h4 => lv_isub C.1 C.2.1 d  (k H locs ls h1 h2 h3 h4)
theorem x_imul (pc : Nat) (C : xOK p s m args meth c D z own cc nL rt) {x y : Int32} (d : decode cc pc = .ok (.imul, 1))  (k : X p l e R s m args below meth c D z nL Q cells slots n G I L (pc + 1) lv (.int (x * y) :: st)) : X p l e R s m args below meth c D z nL Q cells slots n G I L pc lv (.int y :: .int x :: st) := fun H locs ls h1 h2 h3 h4 => lv_imul C.1 C.2.1 d  (k H locs ls h1 h2 h3 h4)
theorem x_ixor (pc : Nat) (C : xOK p s m args meth c D z own cc nL rt) {x y : Int32} (d : decode cc pc = .ok (.ixor, 1))  (k : X p l e R s m args below meth c D z nL Q cells slots n G I L (pc + 1) lv (.int (x ^^^ y) :: st)) : X p l e R s m args below meth c D z nL Q cells slots n G I L pc lv (.int y :: .int x :: st) := fun H locs ls h1 h2 h3 h4 => lv_ixor C.1 C.2.1 d  (k H locs ls h1 h2 h3 h4)
theorem x_iand (pc : Nat) (C : xOK p s m args meth c D z own cc nL rt) {x y : Int32} (d : decode cc pc = .ok (.iand, 1))  (k : X p l e R s m args below meth c D z nL Q cells slots n G I L (pc + 1) lv (.int (x &&& y) :: st)) : X p l e R s m args below meth c D z nL Q cells slots n G I L pc lv (.int y :: .int x :: st) := fun H locs ls h1 h2 h3 h4 => lv_iand C.1 C.2.1 d  (k H locs ls h1 h2 h3 h4)
theorem x_ishl (pc : Nat) (C : xOK p s m args meth c D z own cc nL rt) {x y : Int32} (d : decode cc pc = .ok (.ishl, 1))  (k : X p l e R s m args below meth c D z nL Q cells slots n G I L (pc + 1) lv (.int (x <<< (y &&& 31)) :: st)) : X p l e R s m args below meth c D z nL Q cells slots n G I L pc lv (.int y :: .int x :: st) := fun H locs ls h1 h2 h3 h4 => lv_ishl C.1 C.2.1 d  (k H locs ls h1 h2 h3 h4)
theorem x_ladd (pc : Nat) (C : xOK p s m args meth c D z own cc nL rt) {x y : Int64} (d : decode cc pc = .ok (.ladd, 1))  (k : X p l e R s m args below meth c D z nL Q cells slots n G I L (pc + 1) lv (.long (x + y) :: st)) : X p l e R s m args below meth c D z nL Q cells slots n G I L pc lv (.long y :: .long x :: st) := fun H locs ls h1 h2 h3 h4 => lv_ladd C.1 C.2.1 d  (k H locs ls h1 h2 h3 h4)
theorem x_lsub (pc : Nat) (C : xOK p s m args meth c D z own cc nL rt) {x y : Int64} (d : decode cc pc = .ok (.lsub, 1))  (k : X p l e R s m args below meth c D z nL Q cells slots n G I L (pc + 1) lv (.long (x - y) :: st)) : X p l e R s m args below meth c D z nL Q cells slots n G I L pc lv (.long y :: .long x :: st) := fun H locs ls h1 h2 h3 h4 => lv_lsub C.1 C.2.1 d  (k H locs ls h1 h2 h3 h4)
theorem x_lmul (pc : Nat) (C : xOK p s m args meth c D z own cc nL rt) {x y : Int64} (d : decode cc pc = .ok (.lmul, 1))  (k : X p l e R s m args below meth c D z nL Q cells slots n G I L (pc + 1) lv (.long (x * y) :: st)) : X p l e R s m args below meth c D z nL Q cells slots n G I L pc lv (.long y :: .long x :: st) := fun H locs ls h1 h2 h3 h4 => lv_lmul C.1 C.2.1 d  (k H locs ls h1 h2 h3 h4)
theorem x_idiv (pc : Nat) (C : xOK p s m args meth c D z own cc nL rt) {x y : Int32} (d : decode cc pc = .ok (.idiv, 1)) (hne : ¬ y = 0) (k : X p l e R s m args below meth c D z nL Q cells slots n G I L (pc + 1) lv (.int (x / y) :: st)) : X p l e R s m args below meth c D z nL Q cells slots n G I L pc lv (.int y :: .int x :: st) := fun H locs ls h1 h2 h3 h4 => lv_idiv C.1 C.2.1 d hne (k H locs ls h1 h2 h3 h4)
theorem x_irem (pc : Nat) (C : xOK p s m args meth c D z own cc nL rt) {x y : Int32} (d : decode cc pc = .ok (.irem, 1)) (hne : ¬ y = 0) (k : X p l e R s m args below meth c D z nL Q cells slots n G I L (pc + 1) lv (.int (x - x / y * y) :: st)) : X p l e R s m args below meth c D z nL Q cells slots n G I L pc lv (.int y :: .int x :: st) := fun H locs ls h1 h2 h3 h4 => lv_irem C.1 C.2.1 d hne (k H locs ls h1 h2 h3 h4)
theorem x_ldiv (pc : Nat) (C : xOK p s m args meth c D z own cc nL rt) {x y : Int64} (d : decode cc pc = .ok (.ldiv, 1)) (hne : ¬ y = 0) (k : X p l e R s m args below meth c D z nL Q cells slots n G I L (pc + 1) lv (.long (x / y) :: st)) : X p l e R s m args below meth c D z nL Q cells slots n G I L pc lv (.long y :: .long x :: st) := fun H locs ls h1 h2 h3 h4 => lv_ldiv C.1 C.2.1 d hne (k H locs ls h1 h2 h3 h4)
theorem x_ineg (pc : Nat) (C : xOK p s m args meth c D z own cc nL rt) {x : Int32} (d : decode cc pc = .ok (.ineg, 1))  (k : X p l e R s m args below meth c D z nL Q cells slots n G I L (pc + 1) lv (.int (-x) :: st)) : X p l e R s m args below meth c D z nL Q cells slots n G I L pc lv (.int x :: st) := fun H locs ls h1 h2 h3 h4 => lv_ineg C.1 C.2.1 d  (k H locs ls h1 h2 h3 h4)
theorem x_lneg (pc : Nat) (C : xOK p s m args meth c D z own cc nL rt) {x : Int64} (d : decode cc pc = .ok (.lneg, 1))  (k : X p l e R s m args below meth c D z nL Q cells slots n G I L (pc + 1) lv (.long (-x) :: st)) : X p l e R s m args below meth c D z nL Q cells slots n G I L pc lv (.long x :: st) := fun H locs ls h1 h2 h3 h4 => lv_lneg C.1 C.2.1 d  (k H locs ls h1 h2 h3 h4)
theorem x_i2l (pc : Nat) (C : xOK p s m args meth c D z own cc nL rt) {x : Int32} (d : decode cc pc = .ok (.i2l, 1))  (k : X p l e R s m args below meth c D z nL Q cells slots n G I L (pc + 1) lv (.long x.toInt64 :: st)) : X p l e R s m args below meth c D z nL Q cells slots n G I L pc lv (.int x :: st) := fun H locs ls h1 h2 h3 h4 => lv_i2l C.1 C.2.1 d rfl (k H locs ls h1 h2 h3 h4)
theorem x_l2i (pc : Nat) (C : xOK p s m args meth c D z own cc nL rt) {x : Int64} (d : decode cc pc = .ok (.l2i, 1))  (k : X p l e R s m args below meth c D z nL Q cells slots n G I L (pc + 1) lv (.int x.toInt32 :: st)) : X p l e R s m args below meth c D z nL Q cells slots n G I L pc lv (.long x :: st) := fun H locs ls h1 h2 h3 h4 => lv_l2i C.1 C.2.1 d rfl (k H locs ls h1 h2 h3 h4)
theorem x_lcmp (pc : Nat) (C : xOK p s m args meth c D z own cc nL rt) {x y : Int64} (d : decode cc pc = .ok (.lcmp, 1))  (k : X p l e R s m args below meth c D z nL Q cells slots n G I L (pc + 1) lv (.int (lg_cmp x y) :: st)) : X p l e R s m args below meth c D z nL Q cells slots n G I L pc lv (.long y :: .long x :: st) := fun H locs ls h1 h2 h3 h4 => W.lcmp C.1 C.2.1 d  (k H locs ls h1 h2 h3 h4)
theorem x_lshl (pc : Nat) (C : xOK p s m args meth c D z own cc nL rt) {x : Int64} {y : Int32} (d : decode cc pc = .ok (.lshl, 1))  (k : X p l e R s m args below meth c D z nL Q cells slots n G I L (pc + 1) lv (.long (x <<< (Int32.toInt64 y &&& 63)) :: st)) : X p l e R s m args below meth c D z nL Q cells slots n G I L pc lv (.int y :: .long x :: st) := fun H locs ls h1 h2 h3 h4 => lv_lshl C.1 C.2.1 d rfl (k H locs ls h1 h2 h3 h4)
theorem x_dup (pc : Nat) (C : xOK p s m args meth c D z own cc nL rt) {v : Value} (d : decode cc pc = .ok (.dup, 1)) (hc : v.category = 1) (k : X p l e R s m args below meth c D z nL Q cells slots n G I L (pc + 1) lv (v :: v :: st)) : X p l e R s m args below meth c D z nL Q cells slots n G I L pc lv (v :: st) := fun H locs ls h1 h2 h3 h4 => lv_dup C.1 C.2.1 d hc (k H locs ls h1 h2 h3 h4)
theorem x_pop (pc : Nat) (C : xOK p s m args meth c D z own cc nL rt) {v : Value} (d : decode cc pc = .ok (.pop, 1)) (hc : v.category = 1) (k : X p l e R s m args below meth c D z nL Q cells slots n G I L (pc + 1) lv (st)) : X p l e R s m args below meth c D z nL Q cells slots n G I L pc lv (v :: st) := fun H locs ls h1 h2 h3 h4 => lv_pop C.1 C.2.1 d hc (k H locs ls h1 h2 h3 h4)
theorem x_dup_x1 (pc : Nat) (C : xOK p s m args meth c D z own cc nL rt) {v w : Value} (d : decode cc pc = .ok (.dup_x1, 1)) (hc : v.category = 1) (hd : w.category = 1) (k : X p l e R s m args below meth c D z nL Q cells slots n G I L (pc + 1) lv (v :: w :: v :: st)) : X p l e R s m args below meth c D z nL Q cells slots n G I L pc lv (v :: w :: st) := fun H locs ls h1 h2 h3 h4 => lv_dup_x1 C.1 C.2.1 d hc hd (k H locs ls h1 h2 h3 h4)
theorem x_dup2 (pc : Nat) (C : xOK p s m args meth c D z own cc nL rt) {v w : Value} (d : decode cc pc = .ok (.dup2, 1)) (hc : v.category = 1) (hd : w.category = 1) (k : X p l e R s m args below meth c D z nL Q cells slots n G I L (pc + 1) lv (v :: w :: v :: w :: st)) : X p l e R s m args below meth c D z nL Q cells slots n G I L pc lv (v :: w :: st) := fun H locs ls h1 h2 h3 h4 => lv_dup2_11 C.1 C.2.1 d hc hd (k H locs ls h1 h2 h3 h4)
theorem x_if_eq (pc : Nat) (C : xOK p s m args meth c D z own cc nL rt) {x : Int32} {off : Int} (tgt : Nat) (d : decode cc pc = .ok (.ifCond .eq off, 3)) (ht : (pc : Int) + off = (tgt : Int)) (kt : x = 0 → X p l e R s m args below meth c D z nL Q cells slots n G I L tgt lv st) (kf : ¬ x = 0 → X p l e R s m args below meth c D z nL Q cells slots n G I L (pc + 3) lv st) : X p l e R s m args below meth c D z nL Q cells slots n G I L pc lv (.int x :: st) := fun H locs ls h1 h2 h3 h4 => lv_if_eq C.1 C.2.1 d ht (fun q => kt q H locs ls h1 h2 h3 h4) (fun q => kf q H locs ls h1 h2 h3 h4)
theorem x_icmp_eq (pc : Nat) (C : xOK p s m args meth c D z own cc nL rt) {x y : Int32} {off : Int} (tgt : Nat) (d : decode cc pc = .ok (.if_icmp .eq off, 3)) (ht : (pc : Int) + off = (tgt : Int)) (kt : x = y → X p l e R s m args below meth c D z nL Q cells slots n G I L tgt lv st) (kf : ¬ x = y → X p l e R s m args below meth c D z nL Q cells slots n G I L (pc + 3) lv st) : X p l e R s m args below meth c D z nL Q cells slots n G I L pc lv (.int y :: .int x :: st) := fun H locs ls h1 h2 h3 h4 => lv_icmp_eq C.1 C.2.1 d ht (fun q => kt q H locs ls h1 h2 h3 h4) (fun q => kf q H locs ls h1 h2 h3 h4)
theorem x_if_ne (pc : Nat) (C : xOK p s m args meth c D z own cc nL rt) {x : Int32} {off : Int} (tgt : Nat) (d : decode cc pc = .ok (.ifCond .ne off, 3)) (ht : (pc : Int) + off = (tgt : Int)) (kt : ¬ x = 0 → X p l e R s m args below meth c D z nL Q cells slots n G I L tgt lv st) (kf : x = 0 → X p l e R s m args below meth c D z nL Q cells slots n G I L (pc + 3) lv st) : X p l e R s m args below meth c D z nL Q cells slots n G I L pc lv (.int x :: st) := fun H locs ls h1 h2 h3 h4 => lv_if_ne C.1 C.2.1 d ht (fun q => kt q H locs ls h1 h2 h3 h4) (fun q => kf q H locs ls h1 h2 h3 h4)
theorem x_icmp_ne (pc : Nat) (C : xOK p s m args meth c D z own cc nL rt) {x y : Int32} {off : Int} (tgt : Nat) (d : decode cc pc = .ok (.if_icmp .ne off, 3)) (ht : (pc : Int) + off = (tgt : Int)) (kt : ¬ x = y → X p l e R s m args below meth c D z nL Q cells slots n G I L tgt lv st) (kf : x = y → X p l e R s m args below meth c D z nL Q cells slots n G I L (pc + 3) lv st) : X p l e R s m args below meth c D z nL Q cells slots n G I L pc lv (.int y :: .int x :: st) := fun H locs ls h1 h2 h3 h4 => lv_icmp_ne C.1 C.2.1 d ht (fun q => kt q H locs ls h1 h2 h3 h4) (fun q => kf q H locs ls h1 h2 h3 h4)
theorem x_if_lt (pc : Nat) (C : xOK p s m args meth c D z own cc nL rt) {x : Int32} {off : Int} (tgt : Nat) (d : decode cc pc = .ok (.ifCond .lt off, 3)) (ht : (pc : Int) + off = (tgt : Int)) (kt : x < 0 → X p l e R s m args below meth c D z nL Q cells slots n G I L tgt lv st) (kf : ¬ x < 0 → X p l e R s m args below meth c D z nL Q cells slots n G I L (pc + 3) lv st) : X p l e R s m args below meth c D z nL Q cells slots n G I L pc lv (.int x :: st) := fun H locs ls h1 h2 h3 h4 => lv_if_lt C.1 C.2.1 d ht (fun q => kt q H locs ls h1 h2 h3 h4) (fun q => kf q H locs ls h1 h2 h3 h4)
theorem x_icmp_lt (pc : Nat) (C : xOK p s m args meth c D z own cc nL rt) {x y : Int32} {off : Int} (tgt : Nat) (d : decode cc pc = .ok (.if_icmp .lt off, 3)) (ht : (pc : Int) + off = (tgt : Int)) (kt : x < y → X p l e R s m args below meth c D z nL Q cells slots n G I L tgt lv st) (kf : ¬ x < y → X p l e R s m args below meth c D z nL Q cells slots n G I L (pc + 3) lv st) : X p l e R s m args below meth c D z nL Q cells slots n G I L pc lv (.int y :: .int x :: st) := fun H locs ls h1 h2 h3 h4 => lv_icmp_lt C.1 C.2.1 d ht (fun q => kt q H locs ls h1 h2 h3 h4) (fun q => kf q H locs ls h1 h2 h3 h4)
theorem x_if_ge (pc : Nat) (C : xOK p s m args meth c D z own cc nL rt) {x : Int32} {off : Int} (tgt : Nat) (d : decode cc pc = .ok (.ifCond .ge off, 3)) (ht : (pc : Int) + off = (tgt : Int)) (kt : 0 ≤ x → X p l e R s m args below meth c D z nL Q cells slots n G I L tgt lv st) (kf : ¬ 0 ≤ x → X p l e R s m args below meth c D z nL Q cells slots n G I L (pc + 3) lv st) : X p l e R s m args below meth c D z nL Q cells slots n G I L pc lv (.int x :: st) := fun H locs ls h1 h2 h3 h4 => lv_if_ge C.1 C.2.1 d ht (fun q => kt q H locs ls h1 h2 h3 h4) (fun q => kf q H locs ls h1 h2 h3 h4)
theorem x_icmp_ge (pc : Nat) (C : xOK p s m args meth c D z own cc nL rt) {x y : Int32} {off : Int} (tgt : Nat) (d : decode cc pc = .ok (.if_icmp .ge off, 3)) (ht : (pc : Int) + off = (tgt : Int)) (kt : y ≤ x → X p l e R s m args below meth c D z nL Q cells slots n G I L tgt lv st) (kf : ¬ y ≤ x → X p l e R s m args below meth c D z nL Q cells slots n G I L (pc + 3) lv st) : X p l e R s m args below meth c D z nL Q cells slots n G I L pc lv (.int y :: .int x :: st) := fun H locs ls h1 h2 h3 h4 => lv_icmp_ge C.1 C.2.1 d ht (fun q => kt q H locs ls h1 h2 h3 h4) (fun q => kf q H locs ls h1 h2 h3 h4)
theorem x_if_gt (pc : Nat) (C : xOK p s m args meth c D z own cc nL rt) {x : Int32} {off : Int} (tgt : Nat) (d : decode cc pc = .ok (.ifCond .gt off, 3)) (ht : (pc : Int) + off = (tgt : Int)) (kt : 0 < x → X p l e R s m args below meth c D z nL Q cells slots n G I L tgt lv st) (kf : ¬ 0 < x → X p l e R s m args below meth c D z nL Q cells slots n G I L (pc + 3) lv st) : X p l e R s m args below meth c D z nL Q cells slots n G I L pc lv (.int x :: st) := fun H locs ls h1 h2 h3 h4 => lv_if_gt C.1 C.2.1 d ht (fun q => kt q H locs ls h1 h2 h3 h4) (fun q => kf q H locs ls h1 h2 h3 h4)
theorem x_icmp_gt (pc : Nat) (C : xOK p s m args meth c D z own cc nL rt) {x y : Int32} {off : Int} (tgt : Nat) (d : decode cc pc = .ok (.if_icmp .gt off, 3)) (ht : (pc : Int) + off = (tgt : Int)) (kt : y < x → X p l e R s m args below meth c D z nL Q cells slots n G I L tgt lv st) (kf : ¬ y < x → X p l e R s m args below meth c D z nL Q cells slots n G I L (pc + 3) lv st) : X p l e R s m args below meth c D z nL Q cells slots n G I L pc lv (.int y :: .int x :: st) := fun H locs ls h1 h2 h3 h4 => lv_icmp_gt C.1 C.2.1 d ht (fun q => kt q H locs ls h1 h2 h3 h4) (fun q => kf q H locs ls h1 h2 h3 h4)
theorem x_if_le (pc : Nat) (C : xOK p s m args meth c D z own cc nL rt) {x : Int32} {off : Int} (tgt : Nat) (d : decode cc pc = .ok (.ifCond .le off, 3)) (ht : (pc : Int) + off = (tgt : Int)) (kt : x ≤ 0 → X p l e R s m args below meth c D z nL Q cells slots n G I L tgt lv st) (kf : ¬ x ≤ 0 → X p l e R s m args below meth c D z nL Q cells slots n G I L (pc + 3) lv st) : X p l e R s m args below meth c D z nL Q cells slots n G I L pc lv (.int x :: st) := fun H locs ls h1 h2 h3 h4 => lv_if_le C.1 C.2.1 d ht (fun q => kt q H locs ls h1 h2 h3 h4) (fun q => kf q H locs ls h1 h2 h3 h4)
theorem x_icmp_le (pc : Nat) (C : xOK p s m args meth c D z own cc nL rt) {x y : Int32} {off : Int} (tgt : Nat) (d : decode cc pc = .ok (.if_icmp .le off, 3)) (ht : (pc : Int) + off = (tgt : Int)) (kt : x ≤ y → X p l e R s m args below meth c D z nL Q cells slots n G I L tgt lv st) (kf : ¬ x ≤ y → X p l e R s m args below meth c D z nL Q cells slots n G I L (pc + 3) lv st) : X p l e R s m args below meth c D z nL Q cells slots n G I L pc lv (.int y :: .int x :: st) := fun H locs ls h1 h2 h3 h4 => lv_icmp_le C.1 C.2.1 d ht (fun q => kt q H locs ls h1 h2 h3 h4) (fun q => kf q H locs ls h1 h2 h3 h4)
theorem x_goto (pc : Nat) (C : xOK p s m args meth c D z own cc nL rt) {off : Int} (tgt : Nat) (d : decode cc pc = .ok (.goto off, 3)) (ht : (pc : Int) + off = (tgt : Int)) (k : X p l e R s m args below meth c D z nL Q cells slots n G I L tgt lv st) : X p l e R s m args below meth c D z nL Q cells slots n G I L pc lv st := fun H locs ls h1 h2 h3 h4 => lv_goto C.1 C.2.1 d ht (k H locs ls h1 h2 h3 h4)
theorem x_ldc (pc : Nat) (C : xOK p s m args meth c D z own cc nL rt) {i : Nat} (v : Int32) (d : decode cc pc = .ok (.ldc i, 2)) (w : Cond.constant own i v ∈ xtbl) (k : X p l e R s m args below meth c D z nL Q cells slots n G I L (pc + 2) lv (.int v :: st)) : X p l e R s m args below meth c D z nL Q cells slots n G I L pc lv st := fun H locs ls h1 h2 h3 h4 => lv_ldc C.1 C.2.1 C.2.2.2.1 (C.2.2.2.2.1 _ w) d (k H locs ls h1 h2 h3 h4)
theorem x_ldc2 (pc : Nat) (C : xOK p s m args meth c D z own cc nL rt) {i : Nat} (v : Int64) (d : decode cc pc = .ok (.ldc2_w i, 3)) (w : Cond.constantLong own i v ∈ xtbl) (k : X p l e R s m args below meth c D z nL Q cells slots n G I L (pc + 3) lv (.long v :: st)) : X p l e R s m args below meth c D z nL Q cells slots n G I L pc lv st := fun H locs ls h1 h2 h3 h4 => lv_ldc2 C.1 C.2.1 C.2.2.2.1 (C.2.2.2.2.1 _ w) d (k H locs ls h1 h2 h3 h4)
theorem x_sub {pc : Nat} (lv' : List (Nat × Value)) (ks : List Nat) (h : lv_pick lv ks = lv') (k : X p l e R s m args below meth c D z nL Q cells slots n G I L pc lv' st) : X p l e R s m args below meth c D z nL Q cells slots n G I L pc lv st := fun H locs ls h1 h2 h3 h4 => k H locs ls h1 h2 h3 (lv_sub h4 ks h)
theorem x_wid {pc k' n' : Nat} (h1 : cells ≤ k') (h2 : slots ≤ n') (k : X p l e R s m args below meth c D z nL Q k' n' n G I L pc lv st) : X p l e R s m args below meth c D z nL Q cells slots n G I L pc lv st := fun H locs ls g1 g2 g3 g4 => W.widen h1 h2 (k H locs ls g1 g2 g3 g4)
/-- the same with equal values -/
theorem x_eq {pc : Nat} {G' : xG} {I' : xI} {L' : xL} {lv' : List (Nat × Value)} {st' : List Value} (k : X p l e R s m args below meth c D z nL Q cells slots n G' I' L' pc lv' st') (hG : G = G') (hI : I = I') (hL : L = L') (hlv : lv = lv') (hst : st = st') : X p l e R s m args below meth c D z nL Q cells slots n G I L pc lv st := by
  subst hG; subst hI; subst hL; subst hlv; subst hst; exact k
theorem x_top {pc : Nat} {x : Int32} (k : ∀ y : Int32, y = x → X p l e R s m args below meth c D z nL Q cells slots n G I L pc lv (.int y :: st)) : X p l e R s m args below meth c D z nL Q cells slots n G I L pc lv (.int x :: st) := k x rfl
theorem x_topl {pc : Nat} {x : Int64} (k : ∀ y : Int64, y = x → X p l e R s m args below meth c D z nL Q cells slots n G I L pc lv (.long y :: st)) : X p l e R s m args below meth c D z nL Q cells slots n G I L pc lv (.long x :: st) := k x rfl
end XR
end
section
/-! THE x_ LAYER, 3: fields, arrays, new cells -/
def xHin (k : Nat) : Prop := (∀ w ∈ u_ws (xCl k).1 (xCl k).2.1 (xCl k).2.2, w ∈ xtbl) ∧ (∀ j, j < (xCl k).2.2 → parseFieldDescriptor ((xCl k).2.1 j).2.2.1 = some (xTy k j)) ∧ (∀ a, a < (xCl k).2.2 → ∀ b, b < (xCl k).2.2 → a ≠ b → ((xCl k).2.1 a).2.1 ≠ ((xCl k).2.1 b).2.1)
/-- field j of class ci, by its place idx in the pool of class own -/
def xFld (own : String) (idx ci j : Nat) (ty : FieldType) : Prop := ci < 13 ∧ j < (xCl ci).2.2 ∧ Cond.fieldLink own idx (xCl ci).1 ((xCl ci).2.1 j).2.1 ((xCl ci).2.1 j).2.2.1 ∈ xtbl ∧ xTy ci j = ty ∧ ((xCl ci).2.1 j).1 = (xCl ci).1 ∧ xHin ci
theorem xRep_obj {D : xD} {G : xG} {I : xI} {L : xL} {H : Heap} (h : xRep D G I L H) {a ci : Nat} {r : Nat → Option Nat} (g : G a = some (ci, 0, r)) (hc : ci < 13) : t_OB a (D.1.1 ci) (xCl ci).2.2 (D.1.2 ci) H (fun j => xV (xTy ci j) (I a j) (L a j) (r j)) := by
  have h1 := h a _ g
  unfold xAt at h1
  rw [if_pos hc] at h1
  exact h1
theorem xRep_arr {D : xD} {G : xG} {I : xI} {L : xL} {H : Heap} (h : xRep D G I L H) {a k len : Nat} {r : Nat → Option Nat} (g : G a = some (k, len, r)) (hc : ¬ k < 13) : H[a]? = some (arrV (D.2.1 (k - 20)) len (fun j => xAV k (I a j) (L a j) (r j))) := by
  have h1 := h a _ g
  unfold xAt at h1
  rw [if_neg hc] at h1
  exact h1
theorem xRep.lt {D : xD} {G : xG} {I : xI} {L : xL} {H : Heap} (h : xRep D G I L H) {a : Nat} {sh : xS} (g : G a = some sh) : a < H.size := (h a sh g).lt
theorem xRep_set {D : xD} {G G' : xG} {I I' : xI} {L L' : xL} {H H' : Heap} (h : xRep D G I L H) {a : Nat} (hself : ∀ sh, G' a = some sh → xAt D I' L' a sh H') (hG : ∀ q, q ≠ a → G' q = G q) (hI : ∀ q, q ≠ a → I' q = I q) (hL : ∀ q, q ≠ a → L' q = L q) (hH : ∀ q, q ≠ a → H'[q]? = H[q]?) : xRep D G' I' L' H' := by
  intro q sh hq
  by_cases hqa : q = a
  · subst hqa; exact hself sh hq
  · rw [hG q hqa] at hq
    exact (h q sh hq).kept (hH q hqa) (hI q hqa) (hL q hqa)
theorem xup_row {α : Type} (f : Nat → Nat → α) {a k q : Nat} (v : α) (h : q ≠ a) : xup f a k v q = f q := by funext k'; simp [xup, h]
theorem xup_at {α : Type} (f : Nat → Nat → α) (a k : Nat) (v : α) (j : Nat) : xup f a k v a j = if j = k then v else f a j := by simp [xup]
section XH
variable {p : Program} {l : Launch} {e : Env} {R : Room} {s : State} {m : MethodId} {args : Array Value} {below : List Frame} {meth : Method} {c : Code} {D : xD} {z nL : Nat} {Q : State → Prop} {cells slots n : Nat} {G : xG} {I : xI} {L : xL} {own : String} {cc : ByteArray} {rt : Option FieldType} {lv : List (Nat × Value)} {st : List Value}
theorem xOK.exec (C : xOK p s m args meth c D z own cc nL rt) : p.tables.exec = Jvm.exec := C.1
theorem xOK.code (C : xOK p s m args meth c D z own cc nL rt) : c.code = cc := C.2.1
theorem xOK.maxL (C : xOK p s m args meth c D z own cc nL rt) : c.maxLocals = nL := C.2.2.1
theorem xOK.cls (C : xOK p s m args meth c D z own cc nL rt) : s.vm.findClass own = some m.cls := C.2.2.2.1
theorem xOK.ts (C : xOK p s m args meth c D z own cc nL rt) : ∀ w ∈ xtbl, w.before args s = true := C.2.2.2.2.1
theorem xOK.ret (C : xOK p s m args meth c D z own cc nL rt) : meth.sig.returnType = rt := C.2.2.2.2.2.1
theorem xOK.locks (C : xOK p s m args meth c D z own cc nL rt) : meth.locks = false := C.2.2.2.2.2.2.1
theorem xOK.K (C : xOK p s m args meth c D z own cc nL rt) : xK D s := C.2.2.2.2.2.2.2.1
theorem xOK.Z (C : xOK p s m args meth c D z own cc nL rt) : xZ D z s s.heap := C.2.2.2.2.2.2.2.2.1
theorem xOK.zle (C : xOK p s m args meth c D z own cc nL rt) : z ≤ s.heap.size := C.2.2.2.2.2.2.2.2.2
theorem xOK.tys (C : xOK p s m args meth c D z own cc nL rt) {k : Nat} {q : ClassId × FieldType} (h : (xTys D)[k]? = some q) : ArrOfT s q.1 q.2 := (C.K.1.2 k q h).1
theorem x_getv (pc : Nat) (C : xOK p s m args meth c D z own cc nL rt) {idx ci j : Nat} {ty : FieldType} {a : Nat} {r : Nat → Option Nat} {v : Value} (d : decode cc pc = .ok (.getfield idx, 3)) (f : xFld own idx ci j ty) (g : G a = some (ci, 0, r)) (hv : xV ty (I a j) (L a j) (r j) = v)
    (k : X p l e R s m args below meth c D z nL Q cells slots n G I L (pc + 3) lv (v :: st)) : X p l e R s m args below meth c D z nL Q cells slots n G I L pc lv (.ref a :: st) := by
  intro H locs ls h1 h2 h3 h4
  obtain ⟨hc, hj, hl, hty, hown, hin, htys, hnm⟩ := f
  obtain ⟨cell, q1, q2, q3, q4⟩ := xRep_obj h2 g hc
  obtain ⟨hS, hfc, kC, hkC, hkind⟩ := C.K.1.1 ci _ (xCl_ok hc)
  obtain ⟨cf, kf, fi, f, hi, hsl⟩ := hS j hj
  refine W.getf C.exec C.code C.cls (C.ts _ hl) (by rw [← hown]; exact hi) (u_facts hfc hkC (u_lays C.ts hin hj) hi).1 q1 (by rw [q3]; exact fun h => by cases h) (v := v) ?_ rfl rfl d (k H locs ls h1 h2 h3 h4)
  rw [hsl, q4 j hj]
  show some (xV (xTy ci j) (I a j) (L a j) (r j)) = some v
  rw [hty, hv]
theorem x_geti (pc : Nat) (C : xOK p s m args meth c D z own cc nL rt) {idx ci j : Nat} {a : Nat} {r : Nat → Option Nat} (d : decode cc pc = .ok (.getfield idx, 3)) (f : xFld own idx ci j .int) (g : G a = some (ci, 0, r)) (k : X p l e R s m args below meth c D z nL Q cells slots n G I L (pc + 3) lv (.int (I a j) :: st)) : X p l e R s m args below meth c D z nL Q cells slots n G I L pc lv (.ref a :: st) := x_getv pc C d f g rfl k
theorem x_getz (pc : Nat) (C : xOK p s m args meth c D z own cc nL rt) {idx ci j : Nat} {a : Nat} {r : Nat → Option Nat} (d : decode cc pc = .ok (.getfield idx, 3)) (f : xFld own idx ci j .boolean) (g : G a = some (ci, 0, r)) (k : X p l e R s m args below meth c D z nL Q cells slots n G I L (pc + 3) lv (.int (I a j) :: st)) : X p l e R s m args below meth c D z nL Q cells slots n G I L pc lv (.ref a :: st) := x_getv pc C d f g rfl k
theorem x_getl (pc : Nat) (C : xOK p s m args meth c D z own cc nL rt) {idx ci j : Nat} {a : Nat} {r : Nat → Option Nat} (d : decode cc pc = .ok (.getfield idx, 3)) (f : xFld own idx ci j .long) (g : G a = some (ci, 0, r)) (k : X p l e R s m args below meth c D z nL Q cells slots n G I L (pc + 3) lv (.long (L a j) :: st)) : X p l e R s m args below meth c D z nL Q cells slots n G I L pc lv (.ref a :: st) := x_getv pc C d f g rfl k
def xIsRef (ty : FieldType) : Bool := match ty with
  | .object _ => true
  | .array _ => true
  | _ => false
theorem xV_ref {ty : FieldType} (h : xIsRef ty = true) (i : Int32) (l : Int64) (r : Option Nat) : xV ty i l r = va_rf r := by
  cases ty <;> first | rfl | cases h
theorem x_getr (pc : Nat) (C : xOK p s m args meth c D z own cc nL rt) {idx ci j : Nat} {ty : FieldType} {a b : Nat} {r : Nat → Option Nat} (d : decode cc pc = .ok (.getfield idx, 3)) (f : xFld own idx ci j ty) (ht : xIsRef ty = true) (g : G a = some (ci, 0, r)) (hr : r j = some b) (k : X p l e R s m args below meth c D z nL Q cells slots n G I L (pc + 3) lv (.ref b :: st)) : X p l e R s m args below meth c D z nL Q cells slots n G I L pc lv (.ref a :: st) := x_getv pc C d f g (by rw [xV_ref ht, hr]; rfl) k
/-- a store into a field, final or not -/
theorem x_putv (pc : Nat) (C : xOK p s m args meth c D z own cc nL rt) {idx ci j : Nat} {ty : FieldType} {a : Nat} {r r' : Nat → Option Nat} {v : Value} {G' : xG} {I' : xI} {L' : xL} (d : decode cc pc = .ok (.putfield idx, 3)) (f : xFld own idx ci j ty) (g : G a = some (ci, 0, r)) (hz : z ≤ a)
    (hfin : ((xCl ci).2.1 j).2.2.2 = false ∨ (((xCl ci).2.1 j).2.2.2 = true ∧ meth.name = "<init>" ∧ (xCl ci).1 = own)) (hn : narrow ty v = v) (hfit : fits ty v = true)
    (hG : G' a = some (ci, 0, r')) (hGo : ∀ q, q ≠ a → G' q = G q) (hIo : ∀ q, q ≠ a → I' q = I q) (hLo : ∀ q, q ≠ a → L' q = L q) (hval : ∀ i, xV (xTy ci i) (I' a i) (L' a i) (r' i) = if i = j then v else xV (xTy ci i) (I a i) (L a i) (r i))
    (k : X p l e R s m args below meth c D z nL Q cells slots n G' I' L' (pc + 3) lv st) : X p l e R s m args below meth c D z nL Q cells slots n G I L pc lv (v :: .ref a :: st) := by
  intro H locs ls h1 h2 h3 h4
  obtain ⟨hc, hj, hl, hty, hown, hin, htys, hnm⟩ := f
  have hK := C.K.1
  have hap := va_apart (own := own) C.ts hin (xTy ci) htys hnm hK (xCl_ok hc)
  obtain ⟨cell, q1, q2, q3, q4⟩ := xRep_obj h2 g hc
  obtain ⟨hS, hfc, kC, hkC, hkind⟩ := hK.1 ci _ (xCl_ok hc)
  obtain ⟨cf, kf, fi, f, hi, hsl⟩ := hS j hj
  have hd : parseFieldDescriptor ((xCl ci).2.1 j).2.2.1 = some ty := by rw [← hty]; exact htys j hj
  have hst := (u_facts hfc hkC (u_lays C.ts hin hj) hi).1
  have done : ∀ (H' : Heap) (locs' : List Loc), H'[a]? = some (cell.setSlot f.slot v) → H'.size = H.size → (∀ q, q ≠ a → H'[q]? = H[q]?) → va_S (fun a => z ≤ a) s.heap H' locs' → W p l e R s m args below meth c H' locs' cells slots Q (F0 m (pc + 3) ls st) := by
    intro H' locs' e1 e2 e3 hS'
    refine k H' locs' ls (by rw [e2]; exact h1) (xRep_set h2 (a := a) (fun sh hsh => ?_) hGo hIo hLo e3) hS' h4
    rw [hG] at hsh
    cases hsh
    unfold xAt
    rw [if_pos hc]
    refine t_OB.to (V := updV (fun i => xV (xTy ci i) (I a i) (L a i) (r i)) j v) ⟨_, e1, q2, q3, ?_⟩ (fun i _ => ?_)
    · rw [hsl]; exact t_set q4 hap hj v
    · rw [hval i]; rfl
  have hlay := C.ts _ (hin _ (u_in_lay hj))
  unfold u_lay at hlay
  have hi' : s.fieldFound? (xCl ci).1 ((xCl ci).2.1 j).2.1 ((xCl ci).2.1 j).2.2.1 = some (cf, kf, fi, f) := by rw [← hown]; exact hi
  rcases hfin with hf | ⟨hf, hinit, hcl⟩
  · rw [if_neg (by rw [hf]; decide)] at hlay
    have h6 := u_store hfc hkC hkind hlay hi hd hn hfit
    exact W.putK C.exec C.code (f := f) ⟨C.cls, C.ts _ hl, ⟨_, _, _, hi'⟩, hst⟩ (by rw [q2]; exact h6) q1 q3 (by rw [hsl]; exact k2_hasslot (q4 j hj)) rfl rfl d fun H' e1 e2 e3 => done H' _ e1 e2 e3 (h3.put e2 e3 hz)
  · rw [if_pos hf] at hlay
    have hcf : m.cls = cf := by
      obtain ⟨_, _, c', _, _, _, -, -, hf', -, -, -, hown2, -⟩ := Cond.laysFinal_spec hlay
      have e1 : c' = cf := by have := hi.symm.trans hf'; simp at this; exact this.1.symm
      rw [hown, hcl] at hown2
      rw [← e1]; exact Option.some.inj (C.cls.symm.trans hown2)
    have h6 := u_fits hfc hkC hkind (Or.inr hlay) hi hd hn hfit
    exact W.putFinK C.exec C.code C.cls (C.ts _ hl) hi' hst hcf hinit (by rw [q2]; exact h6) q1 q3 (by rw [hsl]; exact k2_hasslot (q4 j hj)) rfl rfl d fun H' e1 e2 e3 => done H' _ e1 e2 e3 (h3.put e2 e3 hz)
theorem x_puti (pc : Nat) (C : xOK p s m args meth c D z own cc nL rt) {idx ci j : Nat} {a : Nat} {r : Nat → Option Nat} {v : Int32} (d : decode cc pc = .ok (.putfield idx, 3)) (f : xFld own idx ci j .int) (hfin : ((xCl ci).2.1 j).2.2.2 = false) (g : G a = some (ci, 0, r)) (hz : z ≤ a)
    (k : ∀ I' : xI, I' = xup I a j v → X p l e R s m args below meth c D z nL Q cells slots n G I' L (pc + 3) lv st) : X p l e R s m args below meth c D z nL Q cells slots n G I L pc lv (.int v :: .ref a :: st) := by
  refine x_putv pc C d f g hz (Or.inl hfin) rfl rfl g (fun _ _ => rfl) (fun q hq => xup_row I v hq) (fun _ _ => rfl) (fun i => ?_) (k _ rfl)
  rw [xup_at]
  by_cases hi : i = j
  · subst hi; rw [if_pos rfl, if_pos rfl, f.2.2.2.1]; rfl
  · rw [if_neg hi, if_neg hi]
theorem x_putz (pc : Nat) (C : xOK p s m args meth c D z own cc nL rt) {idx ci j : Nat} {a : Nat} {r : Nat → Option Nat} {v : Int32} (d : decode cc pc = .ok (.putfield idx, 3)) (f : xFld own idx ci j .boolean) (hfin : ((xCl ci).2.1 j).2.2.2 = false) (hv : narrow .boolean (.int v) = .int v) (hf : fits .boolean (.int v) = true) (g : G a = some (ci, 0, r)) (hz : z ≤ a)
    (k : ∀ I' : xI, I' = xup I a j v → X p l e R s m args below meth c D z nL Q cells slots n G I' L (pc + 3) lv st) : X p l e R s m args below meth c D z nL Q cells slots n G I L pc lv (.int v :: .ref a :: st) := by
  refine x_putv pc C d f g hz (Or.inl hfin) hv hf g (fun _ _ => rfl) (fun q hq => xup_row I v hq) (fun _ _ => rfl) (fun i => ?_) (k _ rfl)
  rw [xup_at]
  by_cases hi : i = j
  · subst hi; rw [if_pos rfl, if_pos rfl, f.2.2.2.1]; rfl
  · rw [if_neg hi, if_neg hi]
theorem x_putl (pc : Nat) (C : xOK p s m args meth c D z own cc nL rt) {idx ci j : Nat} {a : Nat} {r : Nat → Option Nat} {v : Int64} (d : decode cc pc = .ok (.putfield idx, 3)) (f : xFld own idx ci j .long) (hfin : ((xCl ci).2.1 j).2.2.2 = false) (g : G a = some (ci, 0, r)) (hz : z ≤ a)
    (k : ∀ L' : xL, L' = xup L a j v → X p l e R s m args below meth c D z nL Q cells slots n G I L' (pc + 3) lv st) : X p l e R s m args below meth c D z nL Q cells slots n G I L pc lv (.long v :: .ref a :: st) := by
  refine x_putv pc C d f g hz (Or.inl hfin) rfl rfl g (fun _ _ => rfl) (fun _ _ => rfl) (fun q hq => xup_row L v hq) (fun i => ?_) (k _ rfl)
  rw [xup_at]
  by_cases hi : i = j
  · subst hi; rw [if_pos rfl, if_pos rfl, f.2.2.2.1]; rfl
  · rw [if_neg hi, if_neg hi]
theorem x_putr (pc : Nat) (C : xOK p s m args meth c D z own cc nL rt) {idx ci j : Nat} {ty : FieldType} {a b : Nat} {r : Nat → Option Nat} (d : decode cc pc = .ok (.putfield idx, 3)) (f : xFld own idx ci j ty) (ht : xIsRef ty = true) (hfin : ((xCl ci).2.1 j).2.2.2 = true) (hm : meth.name = "<init>") (hcl : (xCl ci).1 = own) (g : G a = some (ci, 0, r)) (hz : z ≤ a)
    (k : ∀ G' : xG, G' = va_up G a (some (ci, 0, va_up r j (some b))) → X p l e R s m args below meth c D z nL Q cells slots n G' I L (pc + 3) lv st) : X p l e R s m args below meth c D z nL Q cells slots n G I L pc lv (.ref b :: .ref a :: st) := by
  refine x_putv pc C d f g hz (Or.inr ⟨hfin, hm, hcl⟩) ?_ ?_ (va_up_self G a _) (fun q hq => va_up_ne G _ hq) (fun _ _ => rfl) (fun _ _ => rfl) (fun i => ?_) (k _ rfl)
  · cases ty <;> first | rfl | cases ht
  · cases ty <;> first | rfl | cases ht
  · by_cases hi : i = j
    · subst hi
      rw [if_pos rfl, va_up_self, f.2.2.2.1, xV_ref ht]; rfl
    · rw [if_neg hi, va_up_ne _ _ hi]
/-! arrays: kinds 20 int, 21 long, 22 boolean, 23.. of references -/
theorem xAV_i {k : Nat} (h1 : k ≠ 21) (h2 : k < 23) (i : Int32) (l : Int64) (r : Option Nat) : xAV k i l r = .int i := by simp [xAV, h1, h2]
theorem xAV_r {k : Nat} (h : 23 ≤ k) (i : Int32) (l : Int64) (r : Option Nat) : xAV k i l r = va_rf r := by
  have h1 : k ≠ 21 := by omega
  have h2 : ¬ k < 23 := by omega
  simp [xAV, h1, h2]
theorem x_iald (pc : Nat) (C : xOK p s m args meth c D z own cc nL rt) {a len j : Nat} {r : Nat → Option Nat} {i : Int32} (d : decode cc pc = .ok (.iaload, 1)) (g : G a = some (20, len, r)) (hi : xIx i len j) (k : X p l e R s m args below meth c D z nL Q cells slots n G I L (pc + 1) lv (.int (I a j) :: st)) : X p l e R s m args below meth c D z nL Q cells slots n G I L pc lv (.int i :: .ref a :: st) := by
  intro H locs ls h1 h2 h3 h4
  obtain ⟨hn, hj, hlt⟩ := id hi
  refine W.iald (v := .int (I a j)) C.exec C.code (xRep_arr h2 g (by decide)) (C.tys (k := 0) rfl len _) (fun q => by cases q) (by rw [arrV_size]; exact hi.in) ?_ rfl rfl d (k H locs ls h1 h2 h3 h4)
  rw [hj, arrV_read _ _ hlt]; rfl
theorem x_zald (pc : Nat) (C : xOK p s m args meth c D z own cc nL rt) {a len j : Nat} {r : Nat → Option Nat} {i : Int32} (d : decode cc pc = .ok (.baload, 1)) (g : G a = some (22, len, r)) (hi : xIx i len j) (k : X p l e R s m args below meth c D z nL Q cells slots n G I L (pc + 1) lv (.int (I a j) :: st)) : X p l e R s m args below meth c D z nL Q cells slots n G I L pc lv (.int i :: .ref a :: st) := by
  intro H locs ls h1 h2 h3 h4
  obtain ⟨hn, hj, hlt⟩ := id hi
  refine W.zald (v := .int (I a j)) C.exec C.code (xRep_arr h2 g (by decide)) (C.tys (k := 2) rfl len _) (fun q => by cases q) (by rw [arrV_size]; exact hi.in) ?_ rfl rfl d (k H locs ls h1 h2 h3 h4)
  rw [hj, arrV_read _ _ hlt]; rfl
theorem x_lald (pc : Nat) (C : xOK p s m args meth c D z own cc nL rt) {a len j : Nat} {r : Nat → Option Nat} {i : Int32} (d : decode cc pc = .ok (.laload, 1)) (g : G a = some (21, len, r)) (hi : xIx i len j) (k : X p l e R s m args below meth c D z nL Q cells slots n G I L (pc + 1) lv (.long (L a j) :: st)) : X p l e R s m args below meth c D z nL Q cells slots n G I L pc lv (.int i :: .ref a :: st) := by
  intro H locs ls h1 h2 h3 h4
  obtain ⟨hn, hj, hlt⟩ := id hi
  refine W.lald (v := .long (L a j)) C.exec C.code (xRep_arr h2 g (by decide)) (C.tys (k := 1) rfl len _) (fun q => by cases q) (by rw [arrV_size]; exact hi.in) ?_ rfl rfl d (k H locs ls h1 h2 h3 h4)
  rw [hj, arrV_read _ _ hlt]; rfl
def xAC (k : Nat) : Nat := (([0, 1, 6, 9, 10] : List Nat)[k - 23]?).getD 0
theorem x_aald (pc : Nat) (C : xOK p s m args meth c D z own cc nL rt) {k0 a b len j : Nat} {r : Nat → Option Nat} {i : Int32} (d : decode cc pc = .ok (.aaload, 1)) (hk : 23 ≤ k0 ∧ k0 < 28) (g : G a = some (k0, len, r)) (hi : xIx i len j) (hr : r j = some b) (k : X p l e R s m args below meth c D z nL Q cells slots n G I L (pc + 1) lv (.ref b :: st)) : X p l e R s m args below meth c D z nL Q cells slots n G I L pc lv (.int i :: .ref a :: st) := by
  intro H locs ls h1 h2 h3 h4
  obtain ⟨hn, hj, hlt⟩ := id hi
  have hty : ∃ C0 : String, (xTys D)[k0 - 20]? = some (D.2.1 (k0 - 20), .object C0) := by
    rcases (show k0 = 23 ∨ k0 = 24 ∨ k0 = 25 ∨ k0 = 26 ∨ k0 = 27 by omega) with rfl | rfl | rfl | rfl | rfl <;> exact ⟨_, rfl⟩
  obtain ⟨C0, hty⟩ := hty
  refine W.aald (v := .ref b) (ty := .object C0) C.exec C.code (xRep_arr h2 g (by omega)) (C.tys hty len _) rfl (fun q => by cases q) (by rw [arrV_size]; exact hi.in) ?_ rfl rfl d (k H locs ls h1 h2 h3 h4)
  rw [hj, arrV_read _ _ hlt, xAV_r hk.1, hr]; rfl
theorem xRep_arr_set {H H' : Heap} (h : xRep D G I L H) {G' : xG} {I' : xI} {L' : xL} {a k0 len j : Nat} {r r' : Nat → Option Nat} {v : Value} (g : G a = some (k0, len, r)) (hk : ¬ k0 < 13) (hG : G' a = some (k0, len, r')) (hGo : ∀ q, q ≠ a → G' q = G q) (hIo : ∀ q, q ≠ a → I' q = I q) (hLo : ∀ q, q ≠ a → L' q = L q) (hval : ∀ i, xAV k0 (I' a i) (L' a i) (r' i) = if i = j then v else xAV k0 (I a i) (L a i) (r i))
    (e : H'[a]? = some ((arrV (D.2.1 (k0 - 20)) len (fun j => xAV k0 (I a j) (L a j) (r j))).setSlot j v)) (oq : ∀ q, q ≠ a → H'[q]? = H[q]?) : xRep D G' I' L' H' := by
  refine xRep_set h (a := a) (fun sh hsh => ?_) hGo hIo hLo oq
  rw [hG] at hsh
  cases hsh
  unfold xAt
  rw [if_neg hk, e, arrV_store]
  congr 2
  funext i
  show updV _ j v i = xAV k0 (I' a i) (L' a i) (r' i)
  rw [hval i]
  rfl
theorem x_iast (pc : Nat) (C : xOK p s m args meth c D z own cc nL rt) {a len j : Nat} {r : Nat → Option Nat} {i v : Int32} (d : decode cc pc = .ok (.iastore, 1)) (g : G a = some (20, len, r)) (hz : z ≤ a) (hi : xIx i len j) (k : ∀ I' : xI, I' = xup I a j v → X p l e R s m args below meth c D z nL Q cells slots n G I' L (pc + 1) lv st) : X p l e R s m args below meth c D z nL Q cells slots n G I L pc lv (.int v :: .int i :: .ref a :: st) := by
  intro H locs ls h1 h2 h3 h4
  obtain ⟨hn, hj, hlt⟩ := id hi
  refine W.iast C.exec C.code (xRep_arr h2 g (by decide)) (C.tys (k := 0) rfl len _) (fun q => by cases q) (by rw [arrV_size]; exact hi.in) rfl rfl d fun H1 e1 e2 oq => ?_
  refine k _ rfl H1 _ ls (by rw [e2]; exact h1) (xRep_arr_set (j := j) (v := .int v) h2 g (by decide) g (fun _ _ => rfl) (fun q hq => xup_row I v hq) (fun _ _ => rfl) (fun i => ?_) (by rw [← hj]; exact e1) oq) (h3.put e2 oq hz) h4
  rw [xup_at, xAV_i (by decide) (by decide), xAV_i (by decide) (by decide)]
  by_cases h : i = j <;> simp [h]
theorem x_zast (pc : Nat) (C : xOK p s m args meth c D z own cc nL rt) {a len j : Nat} {r : Nat → Option Nat} {i v : Int32} (d : decode cc pc = .ok (.bastore, 1)) (hv : narrow .boolean (.int v) = .int v) (g : G a = some (22, len, r)) (hz : z ≤ a) (hi : xIx i len j) (k : ∀ I' : xI, I' = xup I a j v → X p l e R s m args below meth c D z nL Q cells slots n G I' L (pc + 1) lv st) : X p l e R s m args below meth c D z nL Q cells slots n G I L pc lv (.int v :: .int i :: .ref a :: st) := by
  intro H locs ls h1 h2 h3 h4
  obtain ⟨hn, hj, hlt⟩ := id hi
  refine W.zast C.exec C.code (xRep_arr h2 g (by decide)) (C.tys (k := 2) rfl len _) (fun q => by cases q) (by rw [arrV_size]; exact hi.in) rfl rfl d fun H1 e1 e2 oq => ?_
  refine k _ rfl H1 _ ls (by rw [e2]; exact h1) (xRep_arr_set (j := j) (v := .int v) h2 g (by decide) g (fun _ _ => rfl) (fun q hq => xup_row I v hq) (fun _ _ => rfl) (fun i => ?_) (by rw [← hj]; rw [hv] at e1; exact e1) oq) (h3.put e2 oq hz) h4
  rw [xup_at, xAV_i (by decide) (by decide), xAV_i (by decide) (by decide)]
  by_cases h : i = j <;> simp [h]
theorem x_last (pc : Nat) (C : xOK p s m args meth c D z own cc nL rt) {a len j : Nat} {r : Nat → Option Nat} {i : Int32} {v : Int64} (d : decode cc pc = .ok (.lastore, 1)) (g : G a = some (21, len, r)) (hz : z ≤ a) (hi : xIx i len j) (k : ∀ L' : xL, L' = xup L a j v → X p l e R s m args below meth c D z nL Q cells slots n G I L' (pc + 1) lv st) : X p l e R s m args below meth c D z nL Q cells slots n G I L pc lv (.long v :: .int i :: .ref a :: st) := by
  intro H locs ls h1 h2 h3 h4
  obtain ⟨hn, hj, hlt⟩ := id hi
  refine W.last C.exec C.code (xRep_arr h2 g (by decide)) (C.tys (k := 1) rfl len _) (fun q => by cases q) (by rw [arrV_size]; exact hi.in) rfl rfl d fun H1 e1 e2 oq => ?_
  refine k _ rfl H1 _ ls (by rw [e2]; exact h1) (xRep_arr_set (j := j) (v := .long v) h2 g (by decide) g (fun _ _ => rfl) (fun _ _ => rfl) (fun q hq => xup_row L v hq) (fun i => ?_) (by rw [← hj]; exact e1) oq) (h3.put e2 oq hz) h4
  rw [xup_at]
  by_cases h : i = j <;> simp [h, xAV]
theorem x_aast (pc : Nat) (C : xOK p s m args meth c D z own cc nL rt) {k0 a b len j : Nat} {r rb : Nat → Option Nat} {i : Int32} (d : decode cc pc = .ok (.aastore, 1)) (hk : 23 ≤ k0 ∧ k0 < 28) (g : G a = some (k0, len, r)) (gb : G b = some (xAC k0, 0, rb)) (hz : z ≤ a) (hi : xIx i len j) (k : ∀ G' : xG, G' = va_up G a (some (k0, len, va_up r j (some b))) → X p l e R s m args below meth c D z nL Q cells slots n G' I L (pc + 1) lv st) : X p l e R s m args below meth c D z nL Q cells slots n G I L pc lv (.ref b :: .int i :: .ref a :: st) := by
  intro H locs ls h1 h2 h3 h4
  obtain ⟨hn, hj, hlt⟩ := id hi
  have hty : (xTys D)[k0 - 20]? = some (D.2.1 (k0 - 20), .object (xCl (xAC k0)).1) ∧ xAC k0 < 13 := by
    rcases (show k0 = 23 ∨ k0 = 24 ∨ k0 = 25 ∨ k0 = 26 ∨ k0 = 27 by omega) with rfl | rfl | rfl | rfl | rfl <;> exact ⟨rfl, by decide⟩
  obtain ⟨hty, hac⟩ := hty
  obtain ⟨cellV, g1, g2, g3, -⟩ := xRep_obj h2 gb hac
  have hcls := (C.K.1.1 (xAC k0) _ (xCl_ok hac)).2
  obtain ⟨kA, comp, k1, k2, k3, -⟩ := (C.K.1.2 _ _ hty).2
  have hcomp : comp = D.1.1 (xAC k0) := Option.some.inj (k3.symm.trans hcls.1)
  subst hcomp
  obtain ⟨kC, hkC, -⟩ := hcls.2
  refine W.aast C.exec C.code (xRep_arr h2 g (by omega)) (fun q h => by cases h) (fun h => by cases h) k1 k2 rfl hkC ⟨hn, by rw [arrV_size, hj]; exact hlt⟩ g1 (fun q h => by rw [g3] at h; cases h) (by rw [g2]; exact hkC) (by rw [g2]; exact va_assign hcls) rfl rfl d fun H1 e1 e2 oq => ?_
  refine k _ rfl H1 _ ls (by rw [e2]; exact h1) (xRep_arr_set (j := j) (v := .ref b) h2 g (by omega) (va_up_self G a _) (fun q hq => va_up_ne G _ hq) (fun _ _ => rfl) (fun _ _ => rfl) (fun i => ?_) (by rw [← hj]; exact e1) oq) (h3.put e2 oq hz) h4
  rw [xAV_r hk.1, xAV_r hk.1]
  by_cases h : i = j
  · subst h; rw [if_pos rfl, va_up_self]; rfl
  · rw [if_neg h, va_up_ne _ _ h]
theorem x_alen (pc : Nat) (C : xOK p s m args meth c D z own cc nL rt) {k0 a len : Nat} {r : Nat → Option Nat} (d : decode cc pc = .ok (.arraylength, 1)) (hk : 20 ≤ k0 ∧ k0 < 28) (g : G a = some (k0, len, r)) (k : X p l e R s m args below meth c D z nL Q cells slots n G I L (pc + 1) lv (.int (Int32.ofNat len) :: st)) : X p l e R s m args below meth c D z nL Q cells slots n G I L pc lv (.ref a :: st) := by
  intro H locs ls h1 h2 h3 h4
  have hty : ∃ ty, (xTys D)[k0 - 20]? = some (D.2.1 (k0 - 20), ty) := by
    rcases (show k0 = 20 ∨ k0 = 21 ∨ k0 = 22 ∨ k0 = 23 ∨ k0 = 24 ∨ k0 = 25 ∨ k0 = 26 ∨ k0 = 27 by omega) with rfl | rfl | rfl | rfl | rfl | rfl | rfl | rfl <;> exact ⟨_, rfl⟩
  obtain ⟨ty, hty⟩ := hty
  exact W.alen (n := Int32.ofNat len) C.exec C.code (xRep_arr h2 g (by omega)) (C.tys hty len _) (by rw [arrV_size] <;> rfl) rfl rfl d (k H locs ls h1 h2 h3 h4)
/-- the static arrays -/
theorem x_gets (pc : Nat) (C : xOK p s m args meth c D z own cc nL rt) {idx k0 : Nat} {q : String × String × Nat × (Nat → Int32)} (d : decode cc pc = .ok (.getstatic idx, 3)) (hq : xStats[k0]? = some q) (hl : Cond.fieldLink own idx q.1 q.2.1 "[I" ∈ xtbl) (k : X p l e R s m args below meth c D z nL Q cells slots n G I L (pc + 3) lv (.ref (D.2.2 k0) :: st)) : X p l e R s m args below meth c D z nL Q cells slots n G I L pc lv st :=
  fun H locs ls h1 h2 h3 h4 => va_gets C.exec C.code (C.Z k0 q hq).1 h3 C.cls (C.ts _ hl) (fun _ h => h) d (k H locs ls h1 h2 h3 h4)
theorem x_stald (pc : Nat) (C : xOK p s m args meth c D z own cc nL rt) {k0 j : Nat} {i : Int32} {q : String × String × Nat × (Nat → Int32)} (d : decode cc pc = .ok (.iaload, 1)) (hq : xStats[k0]? = some q) (hi : xIx i q.2.2.1 j) (k : X p l e R s m args below meth c D z nL Q cells slots n G I L (pc + 1) lv (.int (q.2.2.2 j) :: st)) : X p l e R s m args below meth c D z nL Q cells slots n G I L pc lv (.int i :: .ref (D.2.2 k0) :: st) :=
  fun H locs ls h1 h2 h3 h4 => va_ti C.exec C.code (C.Z k0 q hq).2 h3 hi.in (by rw [hi.2.1]) d (k H locs ls h1 h2 h3 h4)
/-! new cells: at the heap's end -/
theorem xRep_new {H H' : Heap} (h : xRep D G I L H) {sh : xS} (hn : H.size = n) (hself : xAt D (xzero I n 0) (xzero L n 0) n sh H') (oq : ∀ q, q < n → H'[q]? = H[q]?) : xRep D (va_up G n (some sh)) (xzero I n 0) (xzero L n 0) H' := by
  intro q sh' hq
  by_cases hqn : q = n
  · subst hqn
    rw [va_up_self] at hq
    cases hq
    exact hself
  · rw [va_up_ne _ _ hqn] at hq
    have hlt : q < n := by rw [← hn]; exact h.lt hq
    exact (h q sh' hq).kept (oq q hlt) (by funext k; simp [xzero, hqn]) (by funext k; simp [xzero, hqn])
theorem va_S.new {A : Nat → Prop} {H0 H H1 : Heap} {locs : List Loc} (h : va_S A H0 H locs) (z1 : H.size ≤ H1.size) (oq : ∀ q, q < H.size → H1[q]? = H[q]?) : va_S A H0 H1 locs := ⟨Nat.le_trans h.1 z1, fun x h1 h2 => (oq x (Nat.lt_of_lt_of_le h1 h.1)).trans (h.2.1 x h1 h2), h.2.2⟩
theorem x_new (pc : Nat) (C : xOK p s m args meth c D z own cc nL rt) {idx ci : Nat} (d : decode cc pc = .ok (.new idx, 3)) (hc : ci < 13) (hh : xHin ci) (hcl : Cond.classLink own idx (xCl ci).1 ∈ xtbl) (hinst : Cond.instantiable (xCl ci).1 (xCl ci).2.2 ∈ xtbl) (hini : Cond.initialized (xCl ci).1 ∈ xtbl) (hdef : ∀ j, j < (xCl ci).2.2 → defaultValue (xTy ci j) = xV (xTy ci j) 0 0 none) (hcells : cells + 1 ≤ R.cells) (hslots : slots + (xCl ci).2.2 ≤ R.slots)
    (k : ∀ (G' : xG) (I' : xI) (L' : xL), G' = va_up G n (some (ci, 0, fun _ => none)) → I' = xzero I n 0 → L' = xzero L n 0 → X p l e R s m args below meth c D z nL Q (cells + 1) (slots + (xCl ci).2.2) (n + 1) G' I' L' (pc + 3) lv (.ref n :: st)) : X p l e R s m args below meth c D z nL Q cells slots n G I L pc lv st := by
  intro H locs ls h1 h2 h3 h4
  have hKn := C.K.1.1 ci _ (xCl_ok hc)
  refine W.newcK C.exec C.code C.cls (C.ts _ hcl) (C.ts _ hinst) (C.ts _ hini) rfl d hcells hslots hKn.2.1 h1 fun H1 kC hkC e1 z1 o1 => ?_
  refine k _ _ _ rfl rfl rfl H1 locs ls z1 (xRep_new h2 h1 ?_ o1) (h3.new (by rw [z1]; omega) (fun q hq => o1 q (by rw [← h1]; exact hq))) h4
  unfold xAt
  rw [if_pos hc]
  exact (u_born (xTy ci) C.ts hh.1 hKn hkC e1 hh.2.1).to (fun j hj => by rw [hdef j hj]; simp [xzero])
theorem x_newa (pc : Nat) (C : xOK p s m args meth c D z own cc nL rt) {atype : ArrayType} (k0 : Nat) {N : Nat} {i : Int32} (d : decode cc pc = .ok (.newarray atype, 2)) (hk : k0 < 3 ∧ (xTys D)[k0]? = some (D.2.1 k0, newarray.typeOf atype)) (harr : Cond.arrayClass (newarray.typeOf atype) ∈ xtbl) (hfc : ∀ cA, va_RA s cA (newarray.typeOf atype) → s.vm.findClass ("[" ++ (newarray.typeOf atype).toString) = some cA) (hdef : defaultValue (newarray.typeOf atype) = xAV (20 + k0) 0 0 none) (hn : ¬ i < 0) (hN : i.toNatClampNeg = N) (hbytes : N * componentBytes (newarray.typeOf atype) ≤ 536870912) (hcells : cells + 1 ≤ R.cells) (hslots : slots + N ≤ R.slots)
    (k : ∀ (G' : xG) (I' : xI) (L' : xL), G' = va_up G n (some (20 + k0, N, fun _ => none)) → I' = xzero I n 0 → L' = xzero L n 0 → X p l e R s m args below meth c D z nL Q (cells + 1) (slots + N) (n + 1) G' I' L' (pc + 2) lv (.ref n :: st)) : X p l e R s m args below meth c D z nL Q cells slots n G I L pc lv (.int i :: st) := by
  intro H locs ls h1 h2 h3 h4
  refine va_newaK C.exec C.code (C.ts _ harr) rfl d rfl hn hN hbytes hcells hslots h1 fun H1 cA e1 z1 o1 hAr hNm => ?_
  have hcA : cA = D.2.1 k0 := Option.some.inj (hNm.symm.trans (hfc _ (C.K.1.2 _ _ hk.2).2))
  subst hcA
  refine k _ _ _ rfl rfl rfl H1 locs ls z1 (xRep_new h2 h1 ?_ o1) (h3.new (by rw [z1]; omega) (fun q hq => o1 q (by rw [← h1]; exact hq))) h4
  unfold xAt
  rw [if_neg (by show ¬ 20 + k0 < 13; omega), e1, hdef]
  have e : 20 + k0 - 20 = k0 := by omega
  show some (arrV (D.2.1 k0) N _) = some (arrV (D.2.1 (20 + k0 - 20)) N _)
  rw [e]
  congr 2
  funext j
  simp [xzero]
theorem x_anew (pc : Nat) (C : xOK p s m args meth c D z own cc nL rt) {idx : Nat} (k0 : Nat) {N : Nat} {i : Int32} (d : decode cc pc = .ok (.anewarray idx, 3)) (hk : 23 ≤ k0 ∧ k0 < 28) (hcl : Cond.classLink own idx (xCl (xAC k0)).1 ∈ xtbl) (hn : ¬ i < 0) (hN : i.toNatClampNeg = N) (hbytes : N * 4 ≤ 536870912) (hcells : cells + 1 ≤ R.cells) (hslots : slots + N ≤ R.slots)
    (k : ∀ (G' : xG) (I' : xI) (L' : xL), G' = va_up G n (some (k0, N, fun _ => none)) → I' = xzero I n 0 → L' = xzero L n 0 → X p l e R s m args below meth c D z nL Q (cells + 1) (slots + N) (n + 1) G' I' L' (pc + 3) lv (.ref n :: st)) : X p l e R s m args below meth c D z nL Q cells slots n G I L pc lv (.int i :: st) := by
  intro H locs ls h1 h2 h3 h4
  subst hN
  have hty : (xTys D)[k0 - 20]? = some (D.2.1 (k0 - 20), .object (xCl (xAC k0)).1) ∧ (xCl (xAC k0)).1 ∈ ([RX0, RX1, RX6, RX9, RX10] : List String) := by
    rcases (show k0 = 23 ∨ k0 = 24 ∨ k0 = 25 ∨ k0 = 26 ∨ k0 = 27 by omega) with rfl | rfl | rfl | rfl | rfl <;> exact ⟨rfl, by simp [xCl, xAC]⟩
  obtain ⟨hty, hmem⟩ := hty
  refine W.anew C.exec C.code C.cls (C.ts _ hcl) (va_AO.use (C.K.2.1 _ hmem)) rfl d rfl hn hbytes hcells hslots fun cA kA comp f1 f2 f3 f4 => ?_
  obtain ⟨_, _, _, _, _, f5⟩ := (C.K.1.2 _ _ hty).2
  have hcA : cA = D.2.1 (k0 - 20) := Option.some.inj (f1.symm.trans f5)
  subst hcA
  generalize hH1 : H.push ({ cls := D.2.1 (k0 - 20), slots := Array.replicate i.toNatClampNeg .null, vm := .none } : Cell) = H1
  have z1 : H1.size = H.size + 1 := by rw [← hH1, Array.size_push]
  have e1 : H1[n]? = some (arrV (D.2.1 (k0 - 20)) i.toNatClampNeg (fun _ => .null)) := by rw [← hH1, ← h1, Array.getElem?_push_size, ← arrV_new]
  have o1 : ∀ q : Nat, q < H.size → H1[q]? = H[q]? := fun q hq => by rw [← hH1, Array.getElem?_push, if_neg (Nat.ne_of_lt hq)]
  rw [h1]
  refine k _ _ _ rfl rfl rfl H1 locs ls (by rw [z1, h1]) (xRep_new h2 h1 ?_ (fun q hq => o1 q (by rw [h1]; exact hq))) (h3.new (by rw [z1]; omega) o1) h4
  unfold xAt
  rw [if_neg (by show ¬ k0 < 13; omega), e1]
  congr 2
  funext j
  rw [xAV_r hk.1]; rfl
end XH
end
section
/-! THE x_ LAYER, 4: answers and calls -/
theorem xN.intro {n : Nat} {G : xG} {P : Option Value → xI → xL → Prop} {v : Option Value} {I : xI} {L : xL} (h : P v I L) : xN n G P v n G I L := ⟨rfl, rfl, h⟩
section XC
variable {p : Program} {l : Launch} {e : Env} {R : Room} {s : State} {m : MethodId} {args : Array Value} {below : List Frame} {meth : Method} {c : Code} {D : xD} {z nL : Nat} {Q : State → Prop} {cells slots n n0 : Nat} {G : xG} {I : xI} {L : xL} {own : String} {cc : ByteArray} {rt : Option FieldType} {lv : List (Nat × Value)} {st : List Value} {Post : xPost}
theorem x_iret (pc : Nat) (C : xOK p s m args meth c D z own cc nL rt) {v : Int32} {ty : FieldType} (d : decode cc pc = .ok (.ireturn, 1)) (hr : rt = some ty) (hn : narrow ty (.int v) = .int v) (hn0 : n0 ≤ n) (hp : Post (some (.int v)) n G I L) : X p l e R s m args below meth c D z nL (MQ below (xQc D z n0 Post) args s cells slots (fun a => z ≤ a)) cells slots n G I L pc lv [.int v] :=
  fun H locs ls h1 h2 h3 h4 => W.zret (ty := ty) C.exec C.code (C.ret.trans hr) hn (fun t ht hW => ⟨⟨_, n, G, I, L, rfl, hp, by rw [ht, h1], hn0, by rw [ht]; exact h2⟩, h3.F ht⟩) h3.2.2 d C.locks
theorem x_lret (pc : Nat) (C : xOK p s m args meth c D z own cc nL rt) {v : Int64} (d : decode cc pc = .ok (.lreturn, 1)) (hr : rt = some .long) (hn0 : n0 ≤ n) (hp : Post (some (.long v)) n G I L) : X p l e R s m args below meth c D z nL (MQ below (xQc D z n0 Post) args s cells slots (fun a => z ≤ a)) cells slots n G I L pc lv [.long v] :=
  fun H locs ls h1 h2 h3 h4 => W.lret C.exec C.code (C.ret.trans hr) (fun t ht hW => ⟨⟨_, n, G, I, L, rfl, hp, by rw [ht, h1], hn0, by rw [ht]; exact h2⟩, h3.F ht⟩) h3.2.2 d C.locks
theorem x_vret (pc : Nat) (C : xOK p s m args meth c D z own cc nL rt) (d : decode cc pc = .ok (.return_, 1)) (hr : rt = none) (hn0 : n0 ≤ n) (hp : Post none n G I L) : X p l e R s m args below meth c D z nL (MQ below (xQc D z n0 Post) args s cells slots (fun a => z ≤ a)) cells slots n G I L pc lv [] :=
  fun H locs ls h1 h2 h3 h4 => W.vret C.exec C.code (C.ret.trans hr) (fun t ht hW => ⟨⟨_, n, G, I, L, rfl, hp, by rw [ht, h1], hn0, by rw [ht]; exact h2⟩, h3.F ht⟩) h3.2.2 d C.locks
theorem x_aret (pc : Nat) (C : xOK p s m args meth c D z own cc nL rt) {b : Nat} {ty : FieldType} (d : decode cc pc = .ok (.areturn, 1)) (hr : rt = some ty) (ht : (∃ n, ty = .object n) ∨ ∃ t, ty = .array t) (hn0 : n0 ≤ n) (hp : Post (some (.ref b)) n G I L) : X p l e R s m args below meth c D z nL (MQ below (xQc D z n0 Post) args s cells slots (fun a => z ≤ a)) cells slots n G I L pc lv [.ref b] :=
  fun H locs ls h1 h2 h3 h4 => W.aret C.exec C.code (C.ret.trans hr) ht (Or.inr ⟨_, rfl⟩) (fun t ht hW => ⟨⟨_, n, G, I, L, rfl, hp, by rw [ht, h1], hn0, by rw [ht]; exact h2⟩, h3.F ht⟩) h3.2.2 d C.locks
/-- what the tables hold of a method of ours -/
def xMt (y : MethodName) (cc : ByteArray) (nL : Nat) (ret : Option FieldType) (na : Nat) : Prop := Cond.code y cc nL ret ∈ xtbl ∧ Cond.initialized y.cls ∈ xtbl ∧ (y.cls ≠ "java/lang/invoke/MethodHandle" ∧ y.cls ≠ "java/lang/invoke/VarHandle" ∧ (parseMethodDescriptor y.desc).map (fun d => d.parameters.length) = some na)
theorem xB_blind {av : List Value} : FrameBlind (va_Pc av (xB D z n G I L)) := by
  intro a U g mk q
  obtain ⟨q0, h1, h2, h3, h4, h5⟩ := q
  exact ⟨q0, h1, h2, h3, ⟨va_K.moved (u := U) (U := U.calling g mk a) (Vm.Alike.refl U.vm) h4.1, fun C hC => va_AO.moved (u := U) (U := U.calling g mk a) (Vm.Alike.refl U.vm) (h4.2.1 C hC), fun q hq => va_Nw.same (u := U) (U := U.calling g mk a) rfl rfl (h4.2.2 q hq)⟩, xZ.moved (u := U) (U := U.calling g mk a) (Vm.Alike.refl U.vm) h5⟩
theorem xB_at (C : xOK p s m args meth c D z own cc nL rt) {H : Heap} {locs : List Loc} (h1 : H.size = n) (h2 : xRep D G I L H) (h3 : va_S (fun a => z ≤ a) s.heap H locs) {av : List Value} : ∀ U : State, U.heap = H → s.WarmedH U.vm → va_Pc av (xB D z n G I L) av.toArray U := fun U hU hW =>
  ⟨rfl, by rw [hU, h1], by rw [← h1]; exact Nat.le_trans C.zle h3.1, by rw [hU]; exact h2, xK.moved hW C.K, by rw [hU]; exact (C.Z.moved hW.alike).kept h3.2.1⟩
theorem x_run {mc ms : Nat} {pc : Nat} {ls : Array Slot} {H : Heap} {locs : List Loc} {a : Array Value} {rest st0 : List Value} (hr : va_Run p l e R s m args below meth c H locs cells slots mc ms (F0 m pc ls st0) rest (xQc D z n Post a) (fun a => z ≤ a)) (h1 : H.size = n) (h3 : va_S (fun a => z ≤ a) s.heap H locs) (h4 : lv_has ls nL lv)
    (k : ∀ (v : Option Value) (n' : Nat) (G' : xG) (I' : xI) (L' : xL), Post v n' G' I' L' → n ≤ n' → X p l e R s m args below meth c D z nL Q (cells + mc) (slots + ms) n' G' I' L' (pc + 3) lv (v.toList ++ rest)) : W p l e R s m args below meth c H locs cells slots Q (F0 m pc ls st0) := by
  intro T hT X0
  obtain ⟨v, st₀, t, T', LL, h0, X', hL, e1, e2, ⟨⟨v', n', G', I', L', hv, hp, hs', hn', hR'⟩, hz, hk⟩, stp⟩ := hr T hT X0
  cases hv
  rw [h0] at hz hk
  obtain ⟨t2, a1, b1⟩ := k v n' G' I' L' hp hn' T'.heap (locs ++ LL) ls (by rw [e1, hs']) (by rw [e1]; exact hR') ⟨Nat.le_trans h3.1 (by rw [e1]; exact hz), fun q g1 g2 => by rw [e1, hk q (Nat.lt_of_lt_of_le g1 h3.1) g2]; exact h3.2.1 q g1 g2, fun q hq => by
      rcases List.mem_append.mp hq with h | h
      · exact h3.2.2 q h
      · exact hL q h⟩ h4 T' rfl X'
  exact ⟨t2, stp t2 a1, b1⟩
theorem xCB (C : xOK p s m args meth c D z own cc nL rt) {y : MethodName} {cc' : ByteArray} {nL' fr lo mc ms na idx : Nat} {ret' : Option FieldType} (mt : xMt y cc' nL' ret' na) (lk : Cond.methodLink own idx y ∈ xtbl) (hR : fr + 1 ≤ R.frames ∧ 8 + (nL' + 11) + lo ≤ R.locals) : CallB R s args own idx y cc' nL' ret' (xws y cc' nL' ret') (xRm fr lo mc ms) mc ms na :=
  callB_of na C.ts (xws_good mt.1) rfl rfl rfl (C.ts _ mt.2.1) (C.ts _ lk) mt.2.2 hR
theorem x_callV (pc : Nat) (C : xOK p s m args meth c D z own cc nL rt) {idx : Nat} (d : decode cc pc = .ok (.invokevirtual idx, 3)) {y : MethodName} {cc' : ByteArray} {nL' fr lo mc ms ci b : Nat} {ret' : Option FieldType} {As rest : List Value} {r : Nat → Option Nat}
    (hM : xM l D z y cc' nL' ret' fr lo mc ms (.ref b :: As) n G I L Post) (mt : xMt y cc' nL' ret' As.length) (lk : Cond.methodLink own idx y ∈ xtbl) (hin : Cond.instanceMethod y ∈ xtbl) (hse : Cond.selects y.cls y y ∈ xtbl) (g : G b = some (ci, 0, r)) (hc : ci < 13 ∧ (xCl ci).1 = y.cls) (hst : st = As.reverse ++ .ref b :: rest) (hcat : (rest.map fun v => v.category).sum ≤ 8) (hR : (fr + 1 ≤ R.frames ∧ 8 + (nL' + 11) + lo ≤ R.locals) ∧ cells + mc ≤ R.cells ∧ slots + ms ≤ R.slots)
    (k : ∀ (v : Option Value) (n' : Nat) (G' : xG) (I' : xI) (L' : xL), Post v n' G' I' L' → n ≤ n' → X p l e R s m args below meth c D z nL Q (cells + mc) (slots + ms) n' G' I' L' (pc + 3) lv (v.toList ++ rest)) : X p l e R s m args below meth c D z nL Q cells slots n G I L pc lv st := by
  intro H locs ls h1 h2 h3 h4
  subst hst
  obtain ⟨cell, q1, q2, q3, -⟩ := xRep_obj h2 g hc.1
  refine x_run (va_runV (C := y.cls) (b := b) (As := As) (rest := rest) ⟨C.exec, C.code, C.maxL, C.cls, C.ts⟩ hM ⟨xCB C mt lk hR.1, C.ts _ hin, C.ts _ hse⟩ ⟨xB_blind, ⟨cell, q1, by rw [q3]; rfl, by rw [q2, ← hc.2]; exact (C.K.1.1 ci _ (xCl_ok hc.1)).2.1⟩, xB_at C h1 h2 h3⟩ rfl rfl h4.1 rfl (lv_room hcat) d hR.2) h1 h3 h4 k
theorem x_callS (pc : Nat) (C : xOK p s m args meth c D z own cc nL rt) {idx : Nat} (d : decode cc pc = .ok (.invokestatic idx, 3)) {y : MethodName} {cc' : ByteArray} {nL' fr lo mc ms : Nat} {ret' : Option FieldType} {As rest : List Value}
    (hM : xM l D z y cc' nL' ret' fr lo mc ms As n G I L Post) (mt : xMt y cc' nL' ret' As.length) (lk : Cond.methodLink own idx y ∈ xtbl) (hs : Cond.static y ∈ xtbl) (hst : st = As.reverse ++ rest) (hcat : (rest.map fun v => v.category).sum ≤ 8) (hR : (fr + 1 ≤ R.frames ∧ 8 + (nL' + 11) + lo ≤ R.locals) ∧ cells + mc ≤ R.cells ∧ slots + ms ≤ R.slots)
    (k : ∀ (v : Option Value) (n' : Nat) (G' : xG) (I' : xI) (L' : xL), Post v n' G' I' L' → n ≤ n' → X p l e R s m args below meth c D z nL Q (cells + mc) (slots + ms) n' G' I' L' (pc + 3) lv (v.toList ++ rest)) : X p l e R s m args below meth c D z nL Q cells slots n G I L pc lv st := by
  intro H locs ls h1 h2 h3 h4
  subst hst
  exact x_run (va_runS (As := As) (rest := rest) ⟨C.exec, C.code, C.maxL, C.cls, C.ts⟩ hM ⟨xCB C mt lk hR.1, C.ts _ hs⟩ ⟨xB_blind, xB_at C h1 h2 h3⟩ rfl rfl h4.1 rfl (lv_room hcat) d hR.2) h1 h3 h4 k
theorem x_callI (pc : Nat) (C : xOK p s m args meth c D z own cc nL rt) {idx : Nat} (d : decode cc pc = .ok (.invokespecial idx, 3)) {y : MethodName} {cc' : ByteArray} {nL' fr lo mc ms b : Nat} {As rest : List Value}
    (hM : xM l D z y cc' nL' none fr lo mc ms (.ref b :: As) n G I L Post) (mt : xMt y cc' nL' none As.length) (hy : y.name = "<init>") (lk : Cond.methodLink own idx y ∈ xtbl) (hin : Cond.instanceMethod y ∈ xtbl) (hst : st = As.reverse ++ .ref b :: rest) (hcat : (rest.map fun v => v.category).sum ≤ 8) (hR : (fr + 1 ≤ R.frames ∧ 8 + (nL' + 11) + lo ≤ R.locals) ∧ cells + mc ≤ R.cells ∧ slots + ms ≤ R.slots)
    (k : ∀ (v : Option Value) (n' : Nat) (G' : xG) (I' : xI) (L' : xL), Post v n' G' I' L' → n ≤ n' → X p l e R s m args below meth c D z nL Q (cells + mc) (slots + ms) n' G' I' L' (pc + 3) lv (v.toList ++ rest)) : X p l e R s m args below meth c D z nL Q cells slots n G I L pc lv st := by
  intro H locs ls h1 h2 h3 h4
  subst hst
  exact x_run (va_runI (b := b) (As := As) (rest := rest) ⟨C.exec, C.code, C.maxL, C.cls, C.ts⟩ hM ⟨xCB C mt lk hR.1, hy, C.ts _ hin⟩ ⟨xB_blind, xB_at C h1 h2 h3⟩ rfl rfl h4.1 rfl (lv_room hcat) d hR.2) h1 h3 h4 k
/-- the constructor of Complex, out of its nest mates -/
theorem x_callIN (pc : Nat) (C : xOK p s m args meth c D z own cc nL rt) {idx : Nat} (d : decode cc pc = .ok (.invokespecial idx, 3)) {cc' : ByteArray} {nL' fr lo mc ms b : Nat} {rest : List Value}
    (hM : xM l D z yX0_init cc' nL' none fr lo mc ms [.ref b] n G I L Post) (mt : xMt yX0_init cc' nL' none 0) (lk : (own, idx) ∈ xNest) (hin : Cond.instanceMethod yX0_init ∈ xtbl) (hst : st = .ref b :: rest) (hcat : (rest.map fun v => v.category).sum ≤ 8) (hR : (fr + 1 ≤ R.frames ∧ 8 + (nL' + 11) + lo ≤ R.locals) ∧ cells + mc ≤ R.cells ∧ slots + ms ≤ R.slots)
    (k : ∀ (v : Option Value) (n' : Nat) (G' : xG) (I' : xI) (L' : xL), Post v n' G' I' L' → n ≤ n' → X p l e R s m args below meth c D z nL Q (cells + mc) (slots + ms) n' G' I' L' (pc + 3) lv (v.toList ++ rest)) : X p l e R s m args below meth c D z nL Q cells slots n G I L pc lv st := by
  intro H locs ls h1 h2 h3 h4
  subst hst
  exact x_run (va_runIN (b := b) (As := []) (rest := rest) ⟨C.exec, C.code, C.maxL, C.cls, C.ts⟩ hM ⟨va_cnB 0 C.ts (xws_good mt.1) rfl rfl rfl (C.K.2.2 _ lk) (C.ts _ mt.2.1) mt.2.2 hR.1, rfl, C.ts _ hin⟩ ⟨xB_blind, xB_at C h1 h2 h3⟩ rfl rfl h4.1 rfl (lv_room hcat) d hR.2) h1 h3 h4 k
/-- Object's constructor -/
theorem x_obj (pc : Nat) (C : xOK p s m args meth c D z own cc nL rt) {idx b : Nat} (d : decode cc pc = .ok (.invokespecial idx, 3)) (lk : Cond.methodLink own idx objectInit ∈ xtbl) (hin : Cond.instanceMethod objectInit ∈ xtbl) (hco : Cond.code objectInit ⟨#[0xb1]⟩ 1 none ∈ xtbl) (hcat : (st.map fun v => v.category).sum + 12 ≤ R.locals) (hf : 1 ≤ R.frames)
    (k : X p l e R s m args below meth c D z nL Q cells slots n G I L (pc + 3) lv st) : X p l e R s m args below meth c D z nL Q cells slots n G I L pc lv (.ref b :: st) :=
  fun H locs ls h1 h2 h3 h4 => W.objInit C.exec C.code C.cls (C.ts _ lk) (C.ts _ hin) (C.ts _ hco) rfl (h4.1.trans C.maxL.symm) rfl d hf (by show 2 * 0 + _ + 12 ≤ _; omega) (k H locs ls h1 h2 h3 h4)
-- Math
theorem x_mmax (pc : Nat) (C : xOK p s m args meth c D z own cc nL rt) {idx : Nat} {x y : Int32} (d : decode cc pc = .ok (.invokestatic idx, 3)) (lk : Cond.methodLink own idx Lib.Math.max.name ∈ xtbl) (hs : Cond.static Lib.Math.max.name ∈ xtbl) (hi : Cond.initialized "java/lang/Math" ∈ xtbl) (hco : Cond.code Lib.Math.max.name Lib.Math.max.code 2 (some .int) ∈ xtbl) (hR : 1 ≤ R.frames ∧ (st.map fun v => v.category).sum + 13 ≤ R.locals ∧ cells ≤ R.cells ∧ slots ≤ R.slots)
    (k : X p l e R s m args below meth c D z nL Q cells slots n G I L (pc + 3) lv (.int (if x < y then y else x) :: st)) : X p l e R s m args below meth c D z nL Q cells slots n G I L pc lv (.int y :: .int x :: st) :=
  fun H locs ls h1 h2 h3 h4 => va_mmax C.exec C.code (C.maxL.trans h4.1.symm) C.cls (C.ts _ lk) (C.ts _ hs) (C.ts _ hi) (C.ts _ hco) hR.1 hR.2.1 hR.2.2.1 hR.2.2.2 d (k H locs ls h1 h2 h3 h4)
theorem x_mmin (pc : Nat) (C : xOK p s m args meth c D z own cc nL rt) {idx : Nat} {x y : Int32} (d : decode cc pc = .ok (.invokestatic idx, 3)) (lk : Cond.methodLink own idx Lib.Math.min.name ∈ xtbl) (hs : Cond.static Lib.Math.min.name ∈ xtbl) (hi : Cond.initialized "java/lang/Math" ∈ xtbl) (hco : Cond.code Lib.Math.min.name Lib.Math.min.code 2 (some .int) ∈ xtbl) (hR : 1 ≤ R.frames ∧ (st.map fun v => v.category).sum + 13 ≤ R.locals ∧ cells ≤ R.cells ∧ slots ≤ R.slots)
    (k : X p l e R s m args below meth c D z nL Q cells slots n G I L (pc + 3) lv (.int (if y < x then y else x) :: st)) : X p l e R s m args below meth c D z nL Q cells slots n G I L pc lv (.int y :: .int x :: st) :=
  fun H locs ls h1 h2 h3 h4 => va_mmin C.exec C.code (C.maxL.trans h4.1.symm) C.cls (C.ts _ lk) (C.ts _ hs) (C.ts _ hi) (C.ts _ hco) hR.1 hR.2.1 hR.2.2.1 hR.2.2.2 d (k H locs ls h1 h2 h3 h4)
theorem x_mabs (pc : Nat) (C : xOK p s m args meth c D z own cc nL rt) {idx : Nat} {x : Int32} (d : decode cc pc = .ok (.invokestatic idx, 3)) (lk : Cond.methodLink own idx Lib.Math.abs.name ∈ xtbl) (hs : Cond.static Lib.Math.abs.name ∈ xtbl) (hi : Cond.initialized "java/lang/Math" ∈ xtbl) (hco : Cond.code Lib.Math.abs.name Lib.Math.abs.code 1 (some .int) ∈ xtbl) (hR : 1 ≤ R.frames ∧ (st.map fun v => v.category).sum + 13 ≤ R.locals ∧ cells ≤ R.cells ∧ slots ≤ R.slots)
    (k : X p l e R s m args below meth c D z nL Q cells slots n G I L (pc + 3) lv (.int (if 0 ≤ x then x else 0 - x) :: st)) : X p l e R s m args below meth c D z nL Q cells slots n G I L pc lv (.int x :: st) :=
  fun H locs ls h1 h2 h3 h4 => va_mabs C.exec C.code (C.maxL.trans h4.1.symm) C.cls (C.ts _ lk) (C.ts _ hs) (C.ts _ hi) (C.ts _ hco) hR.1 hR.2.1 hR.2.2.1 hR.2.2.2 d (k H locs ls h1 h2 h3 h4)
theorem x_mmaxl (pc : Nat) (C : xOK p s m args meth c D z own cc nL rt) {idx : Nat} {x y : Int64} (d : decode cc pc = .ok (.invokestatic idx, 3)) (lk : Cond.methodLink own idx Lib.MathLoose.max_long.x ∈ xtbl) (hs : Cond.static Lib.MathLoose.max_long.x ∈ xtbl) (hi : Cond.initialized "java/lang/Math" ∈ xtbl) (hco : Cond.code Lib.MathLoose.max_long.x Lib.MathLoose.max_long.code 4 (some .long) ∈ xtbl) (hR : 1 ≤ R.frames ∧ (st.map fun v => v.category).sum + 15 ≤ R.locals ∧ cells ≤ R.cells ∧ slots ≤ R.slots)
    (k : X p l e R s m args below meth c D z nL Q cells slots n G I L (pc + 3) lv (.long (if y < x then x else y) :: st)) : X p l e R s m args below meth c D z nL Q cells slots n G I L pc lv (.long y :: .long x :: st) :=
  fun H locs ls h1 h2 h3 h4 => va_mmax_long C.exec C.code (C.maxL.trans h4.1.symm) C.cls (C.ts _ lk) (C.ts _ hs) (C.ts _ hi) (C.ts _ hco) hR.1 hR.2.1 hR.2.2.1 hR.2.2.2 d (k H locs ls h1 h2 h3 h4)
theorem x_mabsl (pc : Nat) (C : xOK p s m args meth c D z own cc nL rt) {idx : Nat} {x : Int64} (d : decode cc pc = .ok (.invokestatic idx, 3)) (lk : Cond.methodLink own idx Lib.MathLoose.abs_long.x ∈ xtbl) (hs : Cond.static Lib.MathLoose.abs_long.x ∈ xtbl) (hi : Cond.initialized "java/lang/Math" ∈ xtbl) (hco : Cond.code Lib.MathLoose.abs_long.x Lib.MathLoose.abs_long.code 2 (some .long) ∈ xtbl) (hR : 1 ≤ R.frames ∧ (st.map fun v => v.category).sum + 13 ≤ R.locals ∧ cells ≤ R.cells ∧ slots ≤ R.slots)
    (k : X p l e R s m args below meth c D z nL Q cells slots n G I L (pc + 3) lv (.long (if 0 < x then x else -x) :: st)) : X p l e R s m args below meth c D z nL Q cells slots n G I L pc lv (.long x :: st) :=
  fun H locs ls h1 h2 h3 h4 => va_mabs_long C.exec C.code (C.maxL.trans h4.1.symm) C.cls (C.ts _ lk) (C.ts _ hs) (C.ts _ hi) (C.ts _ hco) hR.1 hR.2.1 hR.2.2.1 hR.2.2.2 d (k H locs ls h1 h2 h3 h4)
end XC
end
