section
-- ===== PART A: goes FIRST, ahead of the names: the tables' words, and 'selects' of the private methods out of them =====
/-- a private method of a class that the tables say can be made, by its rows of tables_1 -/
def lw_okq (q : MethodName × Nat) : Prop := (q.1.cls ≠ "java/lang/invoke/MethodHandle" ∧ q.1.cls ≠ "java/lang/invoke/VarHandle") ∧ Cond.instantiable q.1.cls q.2 ∈ tables_1 ∧ Cond.privateMethod q.1 ∈ tables_1 ∧ Cond.instanceMethod q.1 ∈ tables_1
theorem lw_p0 : lw_okq (⟨"MatrixKin", "place", "(LMatrixKin$Square;)I"⟩, 10) := ⟨⟨by decide +kernel, by decide +kernel⟩, List.mem_of_getElem? (i := 22) (by decide +kernel), List.mem_of_getElem? (i := 327) (by decide +kernel), List.mem_of_getElem? (i := 328) (by decide +kernel)⟩
theorem lw_p1 : lw_okq (⟨"MatrixKin$Kin", "markOf", "(LMatrixKin$Square;)I"⟩, 4) := ⟨⟨by decide +kernel, by decide +kernel⟩, List.mem_of_getElem? (i := 106) (by decide +kernel), List.mem_of_getElem? (i := 419) (by decide +kernel), List.mem_of_getElem? (i := 420) (by decide +kernel)⟩
theorem lw_p2 : lw_okq (⟨"MatrixKin$Square", "hasLikeSides", "()Z"⟩, 4) := ⟨⟨by decide +kernel, by decide +kernel⟩, List.mem_of_getElem? (i := 112) (by decide +kernel), List.mem_of_getElem? (i := 446) (by decide +kernel), List.mem_of_getElem? (i := 447) (by decide +kernel)⟩
theorem lw_p3 : lw_okq (⟨"MatrixKin$Square", "stepsToEvenOut", "()J"⟩, 4) := ⟨⟨by decide +kernel, by decide +kernel⟩, List.mem_of_getElem? (i := 112) (by decide +kernel), List.mem_of_getElem? (i := 450) (by decide +kernel), List.mem_of_getElem? (i := 451) (by decide +kernel)⟩
theorem lw_p4 : lw_okq (⟨"MatrixKin$Word", "firstRun", "(Z)J"⟩, 1) := ⟨⟨by decide +kernel, by decide +kernel⟩, List.mem_of_getElem? (i := 149) (by decide +kernel), List.mem_of_getElem? (i := 480) (by decide +kernel), List.mem_of_getElem? (i := 481) (by decide +kernel)⟩
theorem lw_p5 : lw_okq (⟨"MatrixKin$Wheel", "findLeastStart", "()V"⟩, 5) := ⟨⟨by decide +kernel, by decide +kernel⟩, List.mem_of_getElem? (i := 141) (by decide +kernel), List.mem_of_getElem? (i := 510) (by decide +kernel), List.mem_of_getElem? (i := 511) (by decide +kernel)⟩
theorem lw_p6 : lw_okq (⟨"MatrixKin$Wheel", "isLessFrom", "(II)Z"⟩, 5) := ⟨⟨by decide +kernel, by decide +kernel⟩, List.mem_of_getElem? (i := 141) (by decide +kernel), List.mem_of_getElem? (i := 514) (by decide +kernel), List.mem_of_getElem? (i := 515) (by decide +kernel)⟩
theorem lw_p7 : lw_okq (⟨"MatrixKin", "firstWrong", "()I"⟩, 10) := ⟨⟨by decide +kernel, by decide +kernel⟩, List.mem_of_getElem? (i := 22) (by decide +kernel), List.mem_of_getElem? (i := 577) (by decide +kernel), List.mem_of_getElem? (i := 578) (by decide +kernel)⟩
theorem lw_p8 : lw_okq (⟨"MatrixKin$Wheel", "comesAgainAfter", "(I)Z"⟩, 5) := ⟨⟨by decide +kernel, by decide +kernel⟩, List.mem_of_getElem? (i := 141) (by decide +kernel), List.mem_of_getElem? (i := 648) (by decide +kernel), List.mem_of_getElem? (i := 649) (by decide +kernel)⟩
theorem lw_p9 : lw_okq (⟨"MatrixKin", "exchange", "(ILMatrixKin$Square;)I"⟩, 10) := ⟨⟨by decide +kernel, by decide +kernel⟩, List.mem_of_getElem? (i := 22) (by decide +kernel), List.mem_of_getElem? (i := 685) (by decide +kernel), List.mem_of_getElem? (i := 686) (by decide +kernel)⟩
theorem lw_p10 : lw_okq (⟨"MatrixKin", "drawSquare", "(LMatrixKin$Square;)V"⟩, 10) := ⟨⟨by decide +kernel, by decide +kernel⟩, List.mem_of_getElem? (i := 22) (by decide +kernel), List.mem_of_getElem? (i := 711) (by decide +kernel), List.mem_of_getElem? (i := 712) (by decide +kernel)⟩
theorem lw_p11 : lw_okq (⟨"MatrixKin", "draw", "(I)I"⟩, 10) := ⟨⟨by decide +kernel, by decide +kernel⟩, List.mem_of_getElem? (i := 22) (by decide +kernel), List.mem_of_getElem? (i := 715) (by decide +kernel), List.mem_of_getElem? (i := 716) (by decide +kernel)⟩
theorem lw_p12 : lw_okq (⟨"MatrixKinModel", "takes", "(JJJJ)V"⟩, 34) := ⟨⟨by decide +kernel, by decide +kernel⟩, List.mem_of_getElem? (i := 863) (by decide +kernel), List.mem_of_getElem? (i := 987) (by decide +kernel), List.mem_of_getElem? (i := 988) (by decide +kernel)⟩
theorem lw_p13 : lw_okq (⟨"MatrixKinModel", "comes", "(I)V"⟩, 34) := ⟨⟨by decide +kernel, by decide +kernel⟩, List.mem_of_getElem? (i := 863) (by decide +kernel), List.mem_of_getElem? (i := 994) (by decide +kernel), List.mem_of_getElem? (i := 995) (by decide +kernel)⟩
theorem lw_p14 : lw_okq (⟨"MatrixKinModel", "multiplies", "(JJJJ)V"⟩, 34) := ⟨⟨by decide +kernel, by decide +kernel⟩, List.mem_of_getElem? (i := 863) (by decide +kernel), List.mem_of_getElem? (i := 998) (by decide +kernel), List.mem_of_getElem? (i := 999) (by decide +kernel)⟩
theorem lw_p15 : lw_okq (⟨"MatrixKinModel", "isWell", "()Z"⟩, 34) := ⟨⟨by decide +kernel, by decide +kernel⟩, List.mem_of_getElem? (i := 863) (by decide +kernel), List.mem_of_getElem? (i := 1003) (by decide +kernel), List.mem_of_getElem? (i := 1004) (by decide +kernel)⟩
def lw_privs_1 : List (MethodName × Nat) := [(⟨"MatrixKin", "place", "(LMatrixKin$Square;)I"⟩, 10), (⟨"MatrixKin$Kin", "markOf", "(LMatrixKin$Square;)I"⟩, 4), (⟨"MatrixKin$Square", "hasLikeSides", "()Z"⟩, 4), (⟨"MatrixKin$Square", "stepsToEvenOut", "()J"⟩, 4), (⟨"MatrixKin$Word", "firstRun", "(Z)J"⟩, 1), (⟨"MatrixKin$Wheel", "findLeastStart", "()V"⟩, 5), (⟨"MatrixKin$Wheel", "isLessFrom", "(II)Z"⟩, 5), (⟨"MatrixKin", "firstWrong", "()I"⟩, 10), (⟨"MatrixKin$Wheel", "comesAgainAfter", "(I)Z"⟩, 5), (⟨"MatrixKin", "exchange", "(ILMatrixKin$Square;)I"⟩, 10), (⟨"MatrixKin", "drawSquare", "(LMatrixKin$Square;)V"⟩, 10), (⟨"MatrixKin", "draw", "(I)I"⟩, 10), (⟨"MatrixKinModel", "takes", "(JJJJ)V"⟩, 34), (⟨"MatrixKinModel", "comes", "(I)V"⟩, 34), (⟨"MatrixKinModel", "multiplies", "(JJJJ)V"⟩, 34), (⟨"MatrixKinModel", "isWell", "()Z"⟩, 34)]
theorem lw_r1 : ∀ q ∈ lw_privs_1, lw_okq q := List.forall_mem_cons.mpr ⟨lw_p0, List.forall_mem_cons.mpr ⟨lw_p1, List.forall_mem_cons.mpr ⟨lw_p2, List.forall_mem_cons.mpr ⟨lw_p3, List.forall_mem_cons.mpr ⟨lw_p4, List.forall_mem_cons.mpr ⟨lw_p5, List.forall_mem_cons.mpr ⟨lw_p6, List.forall_mem_cons.mpr ⟨lw_p7, List.forall_mem_cons.mpr ⟨lw_p8, List.forall_mem_cons.mpr ⟨lw_p9, List.forall_mem_cons.mpr ⟨lw_p10, List.forall_mem_cons.mpr ⟨lw_p11, List.forall_mem_cons.mpr ⟨lw_p12, List.forall_mem_cons.mpr ⟨lw_p13, List.forall_mem_cons.mpr ⟨lw_p14, List.forall_mem_cons.mpr ⟨lw_p15, fun _ h => absurd h List.not_mem_nil⟩⟩⟩⟩⟩⟩⟩⟩⟩⟩⟩⟩⟩⟩⟩⟩
theorem lw_p16 : lw_okq (⟨"MatrixKinModel", "puts", "()I"⟩, 34) := ⟨⟨by decide +kernel, by decide +kernel⟩, List.mem_of_getElem? (i := 863) (by decide +kernel), List.mem_of_getElem? (i := 1012) (by decide +kernel), List.mem_of_getElem? (i := 1013) (by decide +kernel)⟩
theorem lw_p17 : lw_okq (⟨"MatrixKinModel", "notes", "()V"⟩, 34) := ⟨⟨by decide +kernel, by decide +kernel⟩, List.mem_of_getElem? (i := 863) (by decide +kernel), List.mem_of_getElem? (i := 1016) (by decide +kernel), List.mem_of_getElem? (i := 1017) (by decide +kernel)⟩
theorem lw_p18 : lw_okq (⟨"MatrixKinModel", "laysAt", "(I)V"⟩, 34) := ⟨⟨by decide +kernel, by decide +kernel⟩, List.mem_of_getElem? (i := 863) (by decide +kernel), List.mem_of_getElem? (i := 1020) (by decide +kernel), List.mem_of_getElem? (i := 1021) (by decide +kernel)⟩
theorem lw_p19 : lw_okq (⟨"MatrixKinModel", "families", "(I)I"⟩, 34) := ⟨⟨by decide +kernel, by decide +kernel⟩, List.mem_of_getElem? (i := 863) (by decide +kernel), List.mem_of_getElem? (i := 1037) (by decide +kernel), List.mem_of_getElem? (i := 1038) (by decide +kernel)⟩
theorem lw_p20 : lw_okq (⟨"MatrixKinModel", "family", "(I)I"⟩, 34) := ⟨⟨by decide +kernel, by decide +kernel⟩, List.mem_of_getElem? (i := 863) (by decide +kernel), List.mem_of_getElem? (i := 1041) (by decide +kernel), List.mem_of_getElem? (i := 1042) (by decide +kernel)⟩
theorem lw_p21 : lw_okq (⟨"MatrixKinModel", "asides", "(I)V"⟩, 34) := ⟨⟨by decide +kernel, by decide +kernel⟩, List.mem_of_getElem? (i := 863) (by decide +kernel), List.mem_of_getElem? (i := 1045) (by decide +kernel), List.mem_of_getElem? (i := 1046) (by decide +kernel)⟩
theorem lw_p22 : lw_okq (⟨"MatrixKinModel", "takesFrom", "(I)V"⟩, 34) := ⟨⟨by decide +kernel, by decide +kernel⟩, List.mem_of_getElem? (i := 863) (by decide +kernel), List.mem_of_getElem? (i := 1049) (by decide +kernel), List.mem_of_getElem? (i := 1050) (by decide +kernel)⟩
theorem lw_p23 : lw_okq (⟨"MatrixKinModel", "knows", "()V"⟩, 34) := ⟨⟨by decide +kernel, by decide +kernel⟩, List.mem_of_getElem? (i := 863) (by decide +kernel), List.mem_of_getElem? (i := 1053) (by decide +kernel), List.mem_of_getElem? (i := 1054) (by decide +kernel)⟩
theorem lw_p24 : lw_okq (⟨"MatrixKinModel", "isOne", "()Z"⟩, 34) := ⟨⟨by decide +kernel, by decide +kernel⟩, List.mem_of_getElem? (i := 863) (by decide +kernel), List.mem_of_getElem? (i := 1057) (by decide +kernel), List.mem_of_getElem? (i := 1058) (by decide +kernel)⟩
theorem lw_p25 : lw_okq (⟨"MatrixKinModel", "changes", "()V"⟩, 34) := ⟨⟨by decide +kernel, by decide +kernel⟩, List.mem_of_getElem? (i := 863) (by decide +kernel), List.mem_of_getElem? (i := 1063) (by decide +kernel), List.mem_of_getElem? (i := 1064) (by decide +kernel)⟩
theorem lw_p26 : lw_okq (⟨"MatrixKinModel", "carries", "()V"⟩, 34) := ⟨⟨by decide +kernel, by decide +kernel⟩, List.mem_of_getElem? (i := 863) (by decide +kernel), List.mem_of_getElem? (i := 1073) (by decide +kernel), List.mem_of_getElem? (i := 1074) (by decide +kernel)⟩
theorem lw_p27 : lw_okq (⟨"MatrixKinModel", "spells", "()V"⟩, 34) := ⟨⟨by decide +kernel, by decide +kernel⟩, List.mem_of_getElem? (i := 863) (by decide +kernel), List.mem_of_getElem? (i := 1088) (by decide +kernel), List.mem_of_getElem? (i := 1089) (by decide +kernel)⟩
theorem lw_p28 : lw_okq (⟨"MatrixKinModel", "turns", "()V"⟩, 34) := ⟨⟨by decide +kernel, by decide +kernel⟩, List.mem_of_getElem? (i := 863) (by decide +kernel), List.mem_of_getElem? (i := 1092) (by decide +kernel), List.mem_of_getElem? (i := 1093) (by decide +kernel)⟩
theorem lw_p29 : lw_okq (⟨"MatrixKinModel", "isLess", "(II)Z"⟩, 34) := ⟨⟨by decide +kernel, by decide +kernel⟩, List.mem_of_getElem? (i := 863) (by decide +kernel), List.mem_of_getElem? (i := 1096) (by decide +kernel), List.mem_of_getElem? (i := 1097) (by decide +kernel)⟩
theorem lw_p30 : lw_okq (⟨"MatrixKinModel", "isLike", "(I)Z"⟩, 34) := ⟨⟨by decide +kernel, by decide +kernel⟩, List.mem_of_getElem? (i := 863) (by decide +kernel), List.mem_of_getElem? (i := 1100) (by decide +kernel), List.mem_of_getElem? (i := 1101) (by decide +kernel)⟩
theorem lw_p31 : lw_okq (⟨"MatrixKinModel", "putsAside", "()V"⟩, 34) := ⟨⟨by decide +kernel, by decide +kernel⟩, List.mem_of_getElem? (i := 863) (by decide +kernel), List.mem_of_getElem? (i := 1104) (by decide +kernel), List.mem_of_getElem? (i := 1105) (by decide +kernel)⟩
def lw_privs_2 : List (MethodName × Nat) := [(⟨"MatrixKinModel", "puts", "()I"⟩, 34), (⟨"MatrixKinModel", "notes", "()V"⟩, 34), (⟨"MatrixKinModel", "laysAt", "(I)V"⟩, 34), (⟨"MatrixKinModel", "families", "(I)I"⟩, 34), (⟨"MatrixKinModel", "family", "(I)I"⟩, 34), (⟨"MatrixKinModel", "asides", "(I)V"⟩, 34), (⟨"MatrixKinModel", "takesFrom", "(I)V"⟩, 34), (⟨"MatrixKinModel", "knows", "()V"⟩, 34), (⟨"MatrixKinModel", "isOne", "()Z"⟩, 34), (⟨"MatrixKinModel", "changes", "()V"⟩, 34), (⟨"MatrixKinModel", "carries", "()V"⟩, 34), (⟨"MatrixKinModel", "spells", "()V"⟩, 34), (⟨"MatrixKinModel", "turns", "()V"⟩, 34), (⟨"MatrixKinModel", "isLess", "(II)Z"⟩, 34), (⟨"MatrixKinModel", "isLike", "(I)Z"⟩, 34), (⟨"MatrixKinModel", "putsAside", "()V"⟩, 34)]
theorem lw_r2 : ∀ q ∈ lw_privs_2, lw_okq q := List.forall_mem_cons.mpr ⟨lw_p16, List.forall_mem_cons.mpr ⟨lw_p17, List.forall_mem_cons.mpr ⟨lw_p18, List.forall_mem_cons.mpr ⟨lw_p19, List.forall_mem_cons.mpr ⟨lw_p20, List.forall_mem_cons.mpr ⟨lw_p21, List.forall_mem_cons.mpr ⟨lw_p22, List.forall_mem_cons.mpr ⟨lw_p23, List.forall_mem_cons.mpr ⟨lw_p24, List.forall_mem_cons.mpr ⟨lw_p25, List.forall_mem_cons.mpr ⟨lw_p26, List.forall_mem_cons.mpr ⟨lw_p27, List.forall_mem_cons.mpr ⟨lw_p28, List.forall_mem_cons.mpr ⟨lw_p29, List.forall_mem_cons.mpr ⟨lw_p30, List.forall_mem_cons.mpr ⟨lw_p31, fun _ h => absurd h List.not_mem_nil⟩⟩⟩⟩⟩⟩⟩⟩⟩⟩⟩⟩⟩⟩⟩⟩
theorem lw_p32 : lw_okq (⟨"MatrixKinModel", "isAlike", "()Z"⟩, 34) := ⟨⟨by decide +kernel, by decide +kernel⟩, List.mem_of_getElem? (i := 863) (by decide +kernel), List.mem_of_getElem? (i := 1108) (by decide +kernel), List.mem_of_getElem? (i := 1109) (by decide +kernel)⟩
theorem lw_p33 : lw_okq (⟨"MatrixKinModel", "twins", "()I"⟩, 34) := ⟨⟨by decide +kernel, by decide +kernel⟩, List.mem_of_getElem? (i := 863) (by decide +kernel), List.mem_of_getElem? (i := 1115) (by decide +kernel), List.mem_of_getElem? (i := 1116) (by decide +kernel)⟩
theorem lw_p34 : lw_okq (⟨"MatrixKinModel", "isTwin", "(I)Z"⟩, 34) := ⟨⟨by decide +kernel, by decide +kernel⟩, List.mem_of_getElem? (i := 863) (by decide +kernel), List.mem_of_getElem? (i := 1119) (by decide +kernel), List.mem_of_getElem? (i := 1120) (by decide +kernel)⟩
theorem lw_p35 : lw_okq (⟨"MatrixKinModel", "wrong", "()I"⟩, 34) := ⟨⟨by decide +kernel, by decide +kernel⟩, List.mem_of_getElem? (i := 863) (by decide +kernel), List.mem_of_getElem? (i := 1123) (by decide +kernel), List.mem_of_getElem? (i := 1124) (by decide +kernel)⟩
theorem lw_p36 : lw_okq (⟨"MatrixKinModel", "isSquare", "(I)Z"⟩, 34) := ⟨⟨by decide +kernel, by decide +kernel⟩, List.mem_of_getElem? (i := 863) (by decide +kernel), List.mem_of_getElem? (i := 1127) (by decide +kernel), List.mem_of_getElem? (i := 1128) (by decide +kernel)⟩
theorem lw_p37 : lw_okq (⟨"MatrixKinModel", "areAlike", "(II)Z"⟩, 34) := ⟨⟨by decide +kernel, by decide +kernel⟩, List.mem_of_getElem? (i := 863) (by decide +kernel), List.mem_of_getElem? (i := 1131) (by decide +kernel), List.mem_of_getElem? (i := 1132) (by decide +kernel)⟩
theorem lw_p38 : lw_okq (⟨"MatrixKinModel", "isMirrored", "(I)Z"⟩, 34) := ⟨⟨by decide +kernel, by decide +kernel⟩, List.mem_of_getElem? (i := 863) (by decide +kernel), List.mem_of_getElem? (i := 1147) (by decide +kernel), List.mem_of_getElem? (i := 1148) (by decide +kernel)⟩
theorem lw_p39 : lw_okq (⟨"MatrixKinModel", "ofSquare", "(II)I"⟩, 34) := ⟨⟨by decide +kernel, by decide +kernel⟩, List.mem_of_getElem? (i := 863) (by decide +kernel), List.mem_of_getElem? (i := 1151) (by decide +kernel), List.mem_of_getElem? (i := 1152) (by decide +kernel)⟩
theorem lw_p40 : lw_okq (⟨"MatrixKinModel", "order", "()I"⟩, 34) := ⟨⟨by decide +kernel, by decide +kernel⟩, List.mem_of_getElem? (i := 863) (by decide +kernel), List.mem_of_getElem? (i := 1156) (by decide +kernel), List.mem_of_getElem? (i := 1157) (by decide +kernel)⟩
theorem lw_p41 : lw_okq (⟨"MatrixKinModel", "becomes", "(I)I"⟩, 34) := ⟨⟨by decide +kernel, by decide +kernel⟩, List.mem_of_getElem? (i := 863) (by decide +kernel), List.mem_of_getElem? (i := 1173) (by decide +kernel), List.mem_of_getElem? (i := 1174) (by decide +kernel)⟩
theorem lw_p42 : lw_okq (⟨"MatrixKinModel", "isAt", "(I)Z"⟩, 34) := ⟨⟨by decide +kernel, by decide +kernel⟩, List.mem_of_getElem? (i := 863) (by decide +kernel), List.mem_of_getElem? (i := 1177) (by decide +kernel), List.mem_of_getElem? (i := 1178) (by decide +kernel)⟩
theorem lw_p43 : lw_okq (⟨"MatrixKinModel", "draw", "(I)I"⟩, 34) := ⟨⟨by decide +kernel, by decide +kernel⟩, List.mem_of_getElem? (i := 863) (by decide +kernel), List.mem_of_getElem? (i := 1199) (by decide +kernel), List.mem_of_getElem? (i := 1200) (by decide +kernel)⟩
theorem lw_p44 : lw_okq (⟨"MatrixKinModel", "beginsOf", "(II)I"⟩, 34) := ⟨⟨by decide +kernel, by decide +kernel⟩, List.mem_of_getElem? (i := 863) (by decide +kernel), List.mem_of_getElem? (i := 1215) (by decide +kernel), List.mem_of_getElem? (i := 1216) (by decide +kernel)⟩
theorem lw_p45 : lw_okq (⟨"MatrixKinModel", "isProduct", "(I)Z"⟩, 34) := ⟨⟨by decide +kernel, by decide +kernel⟩, List.mem_of_getElem? (i := 863) (by decide +kernel), List.mem_of_getElem? (i := 1219) (by decide +kernel), List.mem_of_getElem? (i := 1220) (by decide +kernel)⟩
theorem lw_p46 : lw_okq (⟨"MatrixKinModel", "goTogether", "(II)Z"⟩, 34) := ⟨⟨by decide +kernel, by decide +kernel⟩, List.mem_of_getElem? (i := 863) (by decide +kernel), List.mem_of_getElem? (i := 1223) (by decide +kernel), List.mem_of_getElem? (i := 1224) (by decide +kernel)⟩
def lw_privs_3 : List (MethodName × Nat) := [(⟨"MatrixKinModel", "isAlike", "()Z"⟩, 34), (⟨"MatrixKinModel", "twins", "()I"⟩, 34), (⟨"MatrixKinModel", "isTwin", "(I)Z"⟩, 34), (⟨"MatrixKinModel", "wrong", "()I"⟩, 34), (⟨"MatrixKinModel", "isSquare", "(I)Z"⟩, 34), (⟨"MatrixKinModel", "areAlike", "(II)Z"⟩, 34), (⟨"MatrixKinModel", "isMirrored", "(I)Z"⟩, 34), (⟨"MatrixKinModel", "ofSquare", "(II)I"⟩, 34), (⟨"MatrixKinModel", "order", "()I"⟩, 34), (⟨"MatrixKinModel", "becomes", "(I)I"⟩, 34), (⟨"MatrixKinModel", "isAt", "(I)Z"⟩, 34), (⟨"MatrixKinModel", "draw", "(I)I"⟩, 34), (⟨"MatrixKinModel", "beginsOf", "(II)I"⟩, 34), (⟨"MatrixKinModel", "isProduct", "(I)Z"⟩, 34), (⟨"MatrixKinModel", "goTogether", "(II)Z"⟩, 34)]
theorem lw_r3 : ∀ q ∈ lw_privs_3, lw_okq q := List.forall_mem_cons.mpr ⟨lw_p32, List.forall_mem_cons.mpr ⟨lw_p33, List.forall_mem_cons.mpr ⟨lw_p34, List.forall_mem_cons.mpr ⟨lw_p35, List.forall_mem_cons.mpr ⟨lw_p36, List.forall_mem_cons.mpr ⟨lw_p37, List.forall_mem_cons.mpr ⟨lw_p38, List.forall_mem_cons.mpr ⟨lw_p39, List.forall_mem_cons.mpr ⟨lw_p40, List.forall_mem_cons.mpr ⟨lw_p41, List.forall_mem_cons.mpr ⟨lw_p42, List.forall_mem_cons.mpr ⟨lw_p43, List.forall_mem_cons.mpr ⟨lw_p44, List.forall_mem_cons.mpr ⟨lw_p45, List.forall_mem_cons.mpr ⟨lw_p46, fun _ h => absurd h List.not_mem_nil⟩⟩⟩⟩⟩⟩⟩⟩⟩⟩⟩⟩⟩⟩⟩
def lw_privs : List (MethodName × Nat) := lw_privs_1 ++ (lw_privs_2 ++ (lw_privs_3))
def lw_tbl : List Cond := k2_sels lw_privs ++ tables_1
theorem lw_privs_ok : ∀ q ∈ lw_privs, lw_okq q := by
  show ∀ q ∈ lw_privs_1 ++ (lw_privs_2 ++ (lw_privs_3)), lw_okq q
  exact List.forall_mem_append.mpr ⟨lw_r1, List.forall_mem_append.mpr ⟨lw_r2, lw_r3⟩⟩
def RX0 : String := "MatrixKin$Book"
def TX0 : u_T := fun k => match k with
  | 0 => ("MatrixKin$Book", "ones", "[I", true)
  | 1 => ("MatrixKin$Book", "others", "[I", true)
  | 2 => ("MatrixKin$Book", "saidAlike", "[Z", true)
  | _ => ("MatrixKin$Book", "length", "I", false)
def tyX0 : Nat → FieldType := fun k => match k with
  | 0 => .array .int
  | 1 => .array .int
  | 2 => .array .boolean
  | _ => .int
abbrev wsX00 : List Cond := u_ws RX0 TX0 4
theorem nmX0 : ∀ a, a < 4 → ∀ b, b < 4 → a ≠ b → (TX0 a).2.1 ≠ (TX0 b).2.1 := by decide +kernel
theorem tyX0_ok : ∀ k, k < 4 → parseFieldDescriptor (TX0 k).2.2.1 = some (tyX0 k) := by decide +kernel
abbrev cX0_init : ByteArray := prog_2_method_1_code
def yX0_init : MethodName := ⟨RX0, "<init>", "()V"⟩
abbrev cX0_length : ByteArray := prog_2_method_2_code
def yX0_length : MethodName := ⟨RX0, "length", "()I"⟩
abbrev cX0_isFull : ByteArray := prog_2_method_3_code
def yX0_isFull : MethodName := ⟨RX0, "isFull", "()Z"⟩
abbrev cX0_append : ByteArray := prog_2_method_4_code
def yX0_append : MethodName := ⟨RX0, "append", "(IIZ)V"⟩
abbrev cX0_clear : ByteArray := prog_2_method_5_code
def yX0_clear : MethodName := ⟨RX0, "clear", "()V"⟩
abbrev cX0_one : ByteArray := prog_2_method_6_code
def yX0_one : MethodName := ⟨RX0, "one", "(I)I"⟩
abbrev cX0_other : ByteArray := prog_2_method_7_code
def yX0_other : MethodName := ⟨RX0, "other", "(I)I"⟩
abbrev cX0_saidAlike : ByteArray := prog_2_method_8_code
def yX0_saidAlike : MethodName := ⟨RX0, "saidAlike", "(I)Z"⟩
def RX1 : String := "MatrixKin$Image"
def TX1 : u_T := fun k => match k with
  | 0 => ("MatrixKin$Image", "shelf", "LMatrixKin$Shelf;", true)
  | 1 => ("MatrixKin$Image", "seedThen", "I", false)
  | _ => ("MatrixKin$Image", "isKept", "Z", false)
def tyX1 : Nat → FieldType := fun k => match k with
  | 0 => .object "MatrixKin$Shelf"
  | 1 => .int
  | _ => .boolean
abbrev wsX10 : List Cond := u_ws RX1 TX1 3
theorem nmX1 : ∀ a, a < 3 → ∀ b, b < 3 → a ≠ b → (TX1 a).2.1 ≠ (TX1 b).2.1 := by decide +kernel
theorem tyX1_ok : ∀ k, k < 3 → parseFieldDescriptor (TX1 k).2.2.1 = some (tyX1 k) := by decide +kernel
abbrev cX1_init : ByteArray := prog_3_method_1_code
def yX1_init : MethodName := ⟨RX1, "<init>", "()V"⟩
abbrev cX1_fill : ByteArray := prog_3_method_2_code
def yX1_fill : MethodName := ⟨RX1, "fill", "(LMatrixKin$Shelf;I)V"⟩
abbrev cX1_isKept : ByteArray := prog_3_method_3_code
def yX1_isKept : MethodName := ⟨RX1, "isKept", "()Z"⟩
abbrev cX1_shelf : ByteArray := prog_3_method_4_code
def yX1_shelf : MethodName := ⟨RX1, "shelf", "()LMatrixKin$Shelf;"⟩
abbrev cX1_seedThen : ByteArray := prog_3_method_5_code
def yX1_seedThen : MethodName := ⟨RX1, "seedThen", "()I"⟩
def RX2 : String := "MatrixKin$Judge"
def TX2 : u_T := fun k => match k with
  | 0 => ("MatrixKin$Judge", "shelf", "LMatrixKin$Shelf;", true)
  | 1 => ("MatrixKin$Judge", "kins", "[LMatrixKin$Kin;", true)
  | 2 => ("MatrixKin$Judge", "strangeKin", "LMatrixKin$Kin;", true)
  | 3 => ("MatrixKin$Judge", "one", "LMatrixKin$Square;", true)
  | 4 => ("MatrixKin$Judge", "other", "LMatrixKin$Square;", true)
  | 5 => ("MatrixKin$Judge", "oneByOther", "LMatrixKin$Square;", true)
  | 6 => ("MatrixKin$Judge", "otherByOne", "LMatrixKin$Square;", true)
  | _ => ("MatrixKin$Judge", "word", "LMatrixKin$Word;", true)
def tyX2 : Nat → FieldType := fun k => match k with
  | 0 => .object "MatrixKin$Shelf"
  | 1 => .array (.object "MatrixKin$Kin")
  | 2 => .object "MatrixKin$Kin"
  | 3 => .object "MatrixKin$Square"
  | 4 => .object "MatrixKin$Square"
  | 5 => .object "MatrixKin$Square"
  | 6 => .object "MatrixKin$Square"
  | _ => .object "MatrixKin$Word"
abbrev wsX20 : List Cond := u_ws RX2 TX2 8
theorem nmX2 : ∀ a, a < 8 → ∀ b, b < 8 → a ≠ b → (TX2 a).2.1 ≠ (TX2 b).2.1 := by decide +kernel
theorem tyX2_ok : ∀ k, k < 8 → parseFieldDescriptor (TX2 k).2.2.1 = some (tyX2 k) := by decide +kernel
abbrev cX2_init : ByteArray := prog_4_method_1_code
def yX2_init : MethodName := ⟨RX2, "<init>", "(LMatrixKin$Shelf;)V"⟩
abbrev cX2_lookAround : ByteArray := prog_4_method_2_code
def yX2_lookAround : MethodName := ⟨RX2, "lookAround", "()V"⟩
abbrev cX2_kinOf : ByteArray := prog_4_method_3_code
def yX2_kinOf : MethodName := ⟨RX2, "kinOf", "(I)LMatrixKin$Kin;"⟩
abbrev cX2_areAlike : ByteArray := prog_4_method_4_code
def yX2_areAlike : MethodName := ⟨RX2, "areAlike", "(II)Z"⟩
abbrev cX2_isTwin : ByteArray := prog_4_method_5_code
def yX2_isTwin : MethodName := ⟨RX2, "isTwin", "(I)Z"⟩
abbrev cX2_isLikeMirrored : ByteArray := prog_4_method_6_code
def yX2_isLikeMirrored : MethodName := ⟨RX2, "isLikeMirrored", "(I)Z"⟩
abbrev cX2_countTwins : ByteArray := prog_4_method_7_code
def yX2_countTwins : MethodName := ⟨RX2, "countTwins", "()I"⟩
abbrev cX2_familyOf : ByteArray := prog_4_method_8_code
def yX2_familyOf : MethodName := ⟨RX2, "familyOf", "(I)I"⟩
abbrev cX2_countFamilies : ByteArray := prog_4_method_9_code
def yX2_countFamilies : MethodName := ⟨RX2, "countFamilies", "()I"⟩
abbrev cX2_greatestFamily : ByteArray := prog_4_method_10_code
def yX2_greatestFamily : MethodName := ⟨RX2, "greatestFamily", "()I"⟩
abbrev cX2_goTogether : ByteArray := prog_4_method_11_code
def yX2_goTogether : MethodName := ⟨RX2, "goTogether", "(II)Z"⟩
abbrev cX2_begins : ByteArray := prog_4_method_12_code
def yX2_begins : MethodName := ⟨RX2, "begins", "(II)I"⟩
def RX3 : String := "MatrixKin$Kin"
def TX3 : u_T := fun k => match k with
  | 0 => ("MatrixKin$Kin", "seen", "LMatrixKin$Square;", true)
  | 1 => ("MatrixKin$Kin", "wheel", "LMatrixKin$Wheel;", true)
  | 2 => ("MatrixKin$Kin", "kind", "I", false)
  | _ => ("MatrixKin$Kin", "mark", "I", false)
def tyX3 : Nat → FieldType := fun k => match k with
  | 0 => .object "MatrixKin$Square"
  | 1 => .object "MatrixKin$Wheel"
  | 2 => .int
  | _ => .int
abbrev wsX30 : List Cond := u_ws RX3 TX3 4
theorem nmX3 : ∀ a, a < 4 → ∀ b, b < 4 → a ≠ b → (TX3 a).2.1 ≠ (TX3 b).2.1 := by decide +kernel
theorem tyX3_ok : ∀ k, k < 4 → parseFieldDescriptor (TX3 k).2.2.1 = some (tyX3 k) := by decide +kernel
abbrev cX3_init : ByteArray := prog_5_method_1_code
def yX3_init : MethodName := ⟨RX3, "<init>", "()V"⟩
abbrev cX3_lookAt : ByteArray := prog_5_method_2_code
def yX3_lookAt : MethodName := ⟨RX3, "lookAt", "(LMatrixKin$Square;)V"⟩
abbrev cX3_kindOf : ByteArray := prog_5_method_3_code
def yX3_kindOf : MethodName := ⟨RX3, "kindOf", "(LMatrixKin$Square;)I"⟩
abbrev cX3_markOf : ByteArray := prog_5_method_4_code
def yX3_markOf : MethodName := ⟨RX3, "markOf", "(LMatrixKin$Square;)I"⟩
abbrev cX3_measureShift : ByteArray := prog_5_method_5_code
def yX3_measureShift : MethodName := ⟨RX3, "measureShift", "(LMatrixKin$Square;)I"⟩
abbrev cX3_commonPart : ByteArray := prog_5_method_6_code
def yX3_commonPart : MethodName := ⟨RX3, "commonPart", "(JJ)J"⟩
abbrev cX3_isLike : ByteArray := prog_5_method_7_code
def yX3_isLike : MethodName := ⟨RX3, "isLike", "(LMatrixKin$Kin;)Z"⟩
abbrev cX3_kind : ByteArray := prog_5_method_8_code
def yX3_kind : MethodName := ⟨RX3, "kind", "()I"⟩
abbrev cX3_trace : ByteArray := prog_5_method_9_code
def yX3_trace : MethodName := ⟨RX3, "trace", "()I"⟩
abbrev cX3_sign : ByteArray := prog_5_method_10_code
def yX3_sign : MethodName := ⟨RX3, "sign", "()I"⟩
abbrev cX3_order : ByteArray := prog_5_method_11_code
def yX3_order : MethodName := ⟨RX3, "order", "()I"⟩
abbrev cX3_mark : ByteArray := prog_5_method_12_code
def yX3_mark : MethodName := ⟨RX3, "mark", "()I"⟩
abbrev cX3_wheel : ByteArray := prog_5_method_13_code
def yX3_wheel : MethodName := ⟨RX3, "wheel", "()LMatrixKin$Wheel;"⟩
def RX4 : String := "MatrixKin$Past"
def TX4 : u_T := fun k => match k with
  | 0 => ("MatrixKin$Past", "shelves", "[LMatrixKin$Shelf;", true)
  | 1 => ("MatrixKin$Past", "next", "I", false)
  | _ => ("MatrixKin$Past", "length", "I", false)
def tyX4 : Nat → FieldType := fun k => match k with
  | 0 => .array (.object "MatrixKin$Shelf")
  | 1 => .int
  | _ => .int
abbrev wsX40 : List Cond := u_ws RX4 TX4 3
theorem nmX4 : ∀ a, a < 3 → ∀ b, b < 3 → a ≠ b → (TX4 a).2.1 ≠ (TX4 b).2.1 := by decide +kernel
theorem tyX4_ok : ∀ k, k < 3 → parseFieldDescriptor (TX4 k).2.2.1 = some (tyX4 k) := by decide +kernel
abbrev cX4_init : ByteArray := prog_6_method_1_code
def yX4_init : MethodName := ⟨RX4, "<init>", "()V"⟩
abbrev cX4_length : ByteArray := prog_6_method_2_code
def yX4_length : MethodName := ⟨RX4, "length", "()I"⟩
abbrev cX4_remember : ByteArray := prog_6_method_3_code
def yX4_remember : MethodName := ⟨RX4, "remember", "(LMatrixKin$Shelf;)V"⟩
abbrev cX4_restore : ByteArray := prog_6_method_4_code
def yX4_restore : MethodName := ⟨RX4, "restore", "(ILMatrixKin$Shelf;)V"⟩
abbrev cX4_forget : ByteArray := prog_6_method_5_code
def yX4_forget : MethodName := ⟨RX4, "forget", "()V"⟩
def RX5 : String := "MatrixKin$Shelf"
def TX5 : u_T := fun k => match k with
  | 0 => ("MatrixKin$Shelf", "cells", "[I", true)
  | _ => ("MatrixKin$Shelf", "size", "I", false)
def tyX5 : Nat → FieldType := fun k => match k with
  | 0 => .array .int
  | _ => .int
abbrev wsX50 : List Cond := u_ws RX5 TX5 2
theorem nmX5 : ∀ a, a < 2 → ∀ b, b < 2 → a ≠ b → (TX5 a).2.1 ≠ (TX5 b).2.1 := by decide +kernel
theorem tyX5_ok : ∀ k, k < 2 → parseFieldDescriptor (TX5 k).2.2.1 = some (tyX5 k) := by decide +kernel
abbrev cX5_init : ByteArray := prog_7_method_1_code
def yX5_init : MethodName := ⟨RX5, "<init>", "()V"⟩
abbrev cX5_size : ByteArray := prog_7_method_2_code
def yX5_size : MethodName := ⟨RX5, "size", "()I"⟩
abbrev cX5_isFull : ByteArray := prog_7_method_3_code
def yX5_isFull : MethodName := ⟨RX5, "isFull", "()Z"⟩
abbrev cX5_has : ByteArray := prog_7_method_4_code
def yX5_has : MethodName := ⟨RX5, "has", "(I)Z"⟩
abbrev cX5_cell : ByteArray := prog_7_method_5_code
def yX5_cell : MethodName := ⟨RX5, "cell", "(II)I"⟩
abbrev cX5_load : ByteArray := prog_7_method_6_code
def yX5_load : MethodName := ⟨RX5, "load", "(ILMatrixKin$Square;)V"⟩
abbrev cX5_store : ByteArray := prog_7_method_7_code
def yX5_store : MethodName := ⟨RX5, "store", "(ILMatrixKin$Square;)Z"⟩
abbrev cX5_add : ByteArray := prog_7_method_8_code
def yX5_add : MethodName := ⟨RX5, "add", "(LMatrixKin$Square;)I"⟩
abbrev cX5_remove : ByteArray := prog_7_method_9_code
def yX5_remove : MethodName := ⟨RX5, "remove", "(I)V"⟩
abbrev cX5_copyFrom : ByteArray := prog_7_method_10_code
def yX5_copyFrom : MethodName := ⟨RX5, "copyFrom", "(LMatrixKin$Shelf;)V"⟩
def RX6 : String := "MatrixKin$Square"
def TX6 : u_T := fun k => match k with
  | 0 => ("MatrixKin$Square", "a", "J", false)
  | 1 => ("MatrixKin$Square", "b", "J", false)
  | 2 => ("MatrixKin$Square", "c", "J", false)
  | _ => ("MatrixKin$Square", "d", "J", false)
def tyX6 : Nat → FieldType := fun k => match k with
  | 0 => .long
  | 1 => .long
  | 2 => .long
  | _ => .long
abbrev wsX60 : List Cond := u_ws RX6 TX6 4
theorem nmX6 : ∀ a, a < 4 → ∀ b, b < 4 → a ≠ b → (TX6 a).2.1 ≠ (TX6 b).2.1 := by decide +kernel
theorem tyX6_ok : ∀ k, k < 4 → parseFieldDescriptor (TX6 k).2.2.1 = some (tyX6 k) := by decide +kernel
abbrev cX6_init : ByteArray := prog_8_method_1_code
def yX6_init : MethodName := ⟨RX6, "<init>", "()V"⟩
abbrev cX6_set : ByteArray := prog_8_method_2_code
def yX6_set : MethodName := ⟨RX6, "set", "(JJJJ)V"⟩
abbrev cX6_setOne : ByteArray := prog_8_method_3_code
def yX6_setOne : MethodName := ⟨RX6, "setOne", "()V"⟩
abbrev cX6_copyFrom : ByteArray := prog_8_method_4_code
def yX6_copyFrom : MethodName := ⟨RX6, "copyFrom", "(LMatrixKin$Square;)V"⟩
abbrev cX6_setProduct : ByteArray := prog_8_method_5_code
def yX6_setProduct : MethodName := ⟨RX6, "setProduct", "(LMatrixKin$Square;LMatrixKin$Square;)V"⟩
abbrev cX6_turnBack : ByteArray := prog_8_method_6_code
def yX6_turnBack : MethodName := ⟨RX6, "turnBack", "()V"⟩
abbrev cX6_changeSigns : ByteArray := prog_8_method_7_code
def yX6_changeSigns : MethodName := ⟨RX6, "changeSigns", "()V"⟩
abbrev cX6_mirror : ByteArray := prog_8_method_8_code
def yX6_mirror : MethodName := ⟨RX6, "mirror", "()V"⟩
abbrev cX6_multiplyByLetter : ByteArray := prog_8_method_9_code
def yX6_multiplyByLetter : MethodName := ⟨RX6, "multiplyByLetter", "(I)Z"⟩
abbrev cX6_carryByR : ByteArray := prog_8_method_10_code
def yX6_carryByR : MethodName := ⟨RX6, "carryByR", "(J)V"⟩
abbrev cX6_carryByL : ByteArray := prog_8_method_11_code
def yX6_carryByL : MethodName := ⟨RX6, "carryByL", "(J)V"⟩
abbrev cX6_carryByS : ByteArray := prog_8_method_12_code
def yX6_carryByS : MethodName := ⟨RX6, "carryByS", "()V"⟩
abbrev cX6_carryToProduct : ByteArray := prog_8_method_13_code
def yX6_carryToProduct : MethodName := ⟨RX6, "carryToProduct", "()V"⟩
abbrev cX6_stepsToEvenOut : ByteArray := prog_8_method_14_code
def yX6_stepsToEvenOut : MethodName := ⟨RX6, "stepsToEvenOut", "()J"⟩
abbrev cX6_hasLikeSides : ByteArray := prog_8_method_15_code
def yX6_hasLikeSides : MethodName := ⟨RX6, "hasLikeSides", "()Z"⟩
abbrev cX6_trace : ByteArray := prog_8_method_16_code
def yX6_trace : MethodName := ⟨RX6, "trace", "()J"⟩
abbrev cX6_hasAreaOne : ByteArray := prog_8_method_17_code
def yX6_hasAreaOne : MethodName := ⟨RX6, "hasAreaOne", "()Z"⟩
abbrev cX6_isWithinBounds : ByteArray := prog_8_method_18_code
def yX6_isWithinBounds : MethodName := ⟨RX6, "isWithinBounds", "()Z"⟩
abbrev cX6_isNumber : ByteArray := prog_8_method_19_code
def yX6_isNumber : MethodName := ⟨RX6, "isNumber", "(J)Z"⟩
abbrev cX6_isOne : ByteArray := prog_8_method_20_code
def yX6_isOne : MethodName := ⟨RX6, "isOne", "()Z"⟩
abbrev cX6_hasNoneBelowZero : ByteArray := prog_8_method_21_code
def yX6_hasNoneBelowZero : MethodName := ⟨RX6, "hasNoneBelowZero", "()Z"⟩
abbrev cX6_isSameAs : ByteArray := prog_8_method_22_code
def yX6_isSameAs : MethodName := ⟨RX6, "isSameAs", "(LMatrixKin$Square;)Z"⟩
def RX7 : String := "MatrixKin$Text"
def TX7 : u_T := fun k => match k with
  | 0 => ("MatrixKin$Text", "letters", "[I", true)
  | 1 => ("MatrixKin$Text", "length", "I", false)
  | _ => ("MatrixKin$Text", "faultPlace", "I", false)
def tyX7 : Nat → FieldType := fun k => match k with
  | 0 => .array .int
  | 1 => .int
  | _ => .int
abbrev wsX70 : List Cond := u_ws RX7 TX7 3
theorem nmX7 : ∀ a, a < 3 → ∀ b, b < 3 → a ≠ b → (TX7 a).2.1 ≠ (TX7 b).2.1 := by decide +kernel
theorem tyX7_ok : ∀ k, k < 3 → parseFieldDescriptor (TX7 k).2.2.1 = some (tyX7 k) := by decide +kernel
abbrev cX7_init : ByteArray := prog_9_method_1_code
def yX7_init : MethodName := ⟨RX7, "<init>", "()V"⟩
abbrev cX7_length : ByteArray := prog_9_method_2_code
def yX7_length : MethodName := ⟨RX7, "length", "()I"⟩
abbrev cX7_isFull : ByteArray := prog_9_method_3_code
def yX7_isFull : MethodName := ⟨RX7, "isFull", "()Z"⟩
abbrev cX7_append : ByteArray := prog_9_method_4_code
def yX7_append : MethodName := ⟨RX7, "append", "(I)V"⟩
abbrev cX7_clear : ByteArray := prog_9_method_5_code
def yX7_clear : MethodName := ⟨RX7, "clear", "()V"⟩
abbrev cX7_faultPlace : ByteArray := prog_9_method_6_code
def yX7_faultPlace : MethodName := ⟨RX7, "faultPlace", "()I"⟩
abbrev cX7_spell : ByteArray := prog_9_method_7_code
def yX7_spell : MethodName := ⟨RX7, "spell", "(LMatrixKin$Square;)I"⟩
def RX8 : String := "MatrixKin$Wheel"
def TX8 : u_T := fun k => match k with
  | 0 => ("MatrixKin$Wheel", "runs", "[I", true)
  | 1 => ("MatrixKin$Wheel", "seenElsewhere", "LMatrixKin$Square;", true)
  | 2 => ("MatrixKin$Wheel", "word", "LMatrixKin$Word;", true)
  | 3 => ("MatrixKin$Wheel", "count", "I", false)
  | _ => ("MatrixKin$Wheel", "start", "I", false)
def tyX8 : Nat → FieldType := fun k => match k with
  | 0 => .array .int
  | 1 => .object "MatrixKin$Square"
  | 2 => .object "MatrixKin$Word"
  | 3 => .int
  | _ => .int
abbrev wsX80 : List Cond := u_ws RX8 TX8 5
theorem nmX8 : ∀ a, a < 5 → ∀ b, b < 5 → a ≠ b → (TX8 a).2.1 ≠ (TX8 b).2.1 := by decide +kernel
theorem tyX8_ok : ∀ k, k < 5 → parseFieldDescriptor (TX8 k).2.2.1 = some (tyX8 k) := by decide +kernel
abbrev cX8_init : ByteArray := prog_10_method_1_code
def yX8_init : MethodName := ⟨RX8, "<init>", "()V"⟩
abbrev cX8_clear : ByteArray := prog_10_method_2_code
def yX8_clear : MethodName := ⟨RX8, "clear", "()V"⟩
abbrev cX8_read : ByteArray := prog_10_method_3_code
def yX8_read : MethodName := ⟨RX8, "read", "(LMatrixKin$Square;)V"⟩
abbrev cX8_findLeastStart : ByteArray := prog_10_method_4_code
def yX8_findLeastStart : MethodName := ⟨RX8, "findLeastStart", "()V"⟩
abbrev cX8_isLessFrom : ByteArray := prog_10_method_5_code
def yX8_isLessFrom : MethodName := ⟨RX8, "isLessFrom", "(II)Z"⟩
abbrev cX8_count : ByteArray := prog_10_method_6_code
def yX8_count : MethodName := ⟨RX8, "count", "()I"⟩
abbrev cX8_runAt : ByteArray := prog_10_method_7_code
def yX8_runAt : MethodName := ⟨RX8, "runAt", "(I)I"⟩
abbrev cX8_letters : ByteArray := prog_10_method_8_code
def yX8_letters : MethodName := ⟨RX8, "letters", "()I"⟩
abbrev cX8_times : ByteArray := prog_10_method_9_code
def yX8_times : MethodName := ⟨RX8, "times", "()I"⟩
abbrev cX8_comesAgainAfter : ByteArray := prog_10_method_10_code
def yX8_comesAgainAfter : MethodName := ⟨RX8, "comesAgainAfter", "(I)Z"⟩
abbrev cX8_isSameAs : ByteArray := prog_10_method_11_code
def yX8_isSameAs : MethodName := ⟨RX8, "isSameAs", "(LMatrixKin$Wheel;)Z"⟩
def RX9 : String := "MatrixKin$Word"
def TX9 : u_T := fun k => match k with
  | _ => ("MatrixKin$Word", "whole", "LMatrixKin$Square;", true)
def tyX9 : Nat → FieldType := fun k => match k with
  | _ => .object "MatrixKin$Square"
abbrev wsX90 : List Cond := u_ws RX9 TX9 1
theorem nmX9 : ∀ a, a < 1 → ∀ b, b < 1 → a ≠ b → (TX9 a).2.1 ≠ (TX9 b).2.1 := by decide +kernel
theorem tyX9_ok : ∀ k, k < 1 → parseFieldDescriptor (TX9 k).2.2.1 = some (tyX9 k) := by decide +kernel
abbrev cX9_init : ByteArray := prog_11_method_1_code
def yX9_init : MethodName := ⟨RX9, "<init>", "()V"⟩
abbrev cX9_copyFrom : ByteArray := prog_11_method_2_code
def yX9_copyFrom : MethodName := ⟨RX9, "copyFrom", "(LMatrixKin$Square;)V"⟩
abbrev cX9_isEmpty : ByteArray := prog_11_method_3_code
def yX9_isEmpty : MethodName := ⟨RX9, "isEmpty", "()Z"⟩
abbrev cX9_beginsWithR : ByteArray := prog_11_method_4_code
def yX9_beginsWithR : MethodName := ⟨RX9, "beginsWithR", "()Z"⟩
abbrev cX9_firstRun : ByteArray := prog_11_method_5_code
def yX9_firstRun : MethodName := ⟨RX9, "firstRun", "(Z)J"⟩
abbrev cX9_dropFirstRun : ByteArray := prog_11_method_6_code
def yX9_dropFirstRun : MethodName := ⟨RX9, "dropFirstRun", "()J"⟩
abbrev cX9_turnFirstRun : ByteArray := prog_11_method_7_code
def yX9_turnFirstRun : MethodName := ⟨RX9, "turnFirstRun", "()J"⟩
abbrev cX9_turnsInFirstRun : ByteArray := prog_11_method_8_code
def yX9_turnsInFirstRun : MethodName := ⟨RX9, "turnsInFirstRun", "(LMatrixKin$Square;)J"⟩
abbrev cX9_stepsUpTo : ByteArray := prog_11_method_9_code
def yX9_stepsUpTo : MethodName := ⟨RX9, "stepsUpTo", "(JJJ)J"⟩
def RX10 : String := "MatrixKin"
def TX10 : u_T := fun k => match k with
  | 0 => ("MatrixKin", "shelf", "LMatrixKin$Shelf;", true)
  | 1 => ("MatrixKin", "past", "LMatrixKin$Past;", true)
  | 2 => ("MatrixKin", "text", "LMatrixKin$Text;", true)
  | 3 => ("MatrixKin", "book", "LMatrixKin$Book;", true)
  | 4 => ("MatrixKin", "judge", "LMatrixKin$Judge;", true)
  | 5 => ("MatrixKin", "images", "[LMatrixKin$Image;", true)
  | 6 => ("MatrixKin", "first", "LMatrixKin$Square;", true)
  | 7 => ("MatrixKin", "second", "LMatrixKin$Square;", true)
  | 8 => ("MatrixKin", "result", "LMatrixKin$Square;", true)
  | _ => ("MatrixKin", "seedNow", "I", false)
def tyX10 : Nat → FieldType := fun k => match k with
  | 0 => .object "MatrixKin$Shelf"
  | 1 => .object "MatrixKin$Past"
  | 2 => .object "MatrixKin$Text"
  | 3 => .object "MatrixKin$Book"
  | 4 => .object "MatrixKin$Judge"
  | 5 => .array (.object "MatrixKin$Image")
  | 6 => .object "MatrixKin$Square"
  | 7 => .object "MatrixKin$Square"
  | 8 => .object "MatrixKin$Square"
  | _ => .int
abbrev wsX100 : List Cond := u_ws RX10 TX10 10
theorem nmX10 : ∀ a, a < 10 → ∀ b, b < 10 → a ≠ b → (TX10 a).2.1 ≠ (TX10 b).2.1 := by decide +kernel
theorem tyX10_ok : ∀ k, k < 10 → parseFieldDescriptor (TX10 k).2.2.1 = some (tyX10 k) := by decide +kernel
abbrev cX10_init : ByteArray := prog_1_method_1_code
def yX10_init : MethodName := ⟨RX10, "<init>", "()V"⟩
abbrev cX10_feed : ByteArray := prog_1_method_2_code
def yX10_feed : MethodName := ⟨RX10, "feed", "(I)I"⟩
abbrev cX10_write : ByteArray := prog_1_method_3_code
def yX10_write : MethodName := ⟨RX10, "write", "()I"⟩
abbrev cX10_fault : ByteArray := prog_1_method_4_code
def yX10_fault : MethodName := ⟨RX10, "fault", "()I"⟩
abbrev cX10_put : ByteArray := prog_1_method_5_code
def yX10_put : MethodName := ⟨RX10, "put", "(IIII)I"⟩
abbrev cX10_told : ByteArray := prog_1_method_6_code
def yX10_told : MethodName := ⟨RX10, "told", "(I)I"⟩
abbrev cX10_firstWrong : ByteArray := prog_1_method_7_code
def yX10_firstWrong : MethodName := ⟨RX10, "firstWrong", "()I"⟩
abbrev cX10_number : ByteArray := prog_1_method_8_code
def yX10_number : MethodName := ⟨RX10, "number", "(II)I"⟩
abbrev cX10_square : ByteArray := prog_1_method_9_code
def yX10_square : MethodName := ⟨RX10, "square", "(II)I"⟩
abbrev cX10_run : ByteArray := prog_1_method_10_code
def yX10_run : MethodName := ⟨RX10, "run", "(II)I"⟩
abbrev cX10_multiply : ByteArray := prog_1_method_11_code
def yX10_multiply : MethodName := ⟨RX10, "multiply", "(II)I"⟩
abbrev cX10_back : ByteArray := prog_1_method_12_code
def yX10_back : MethodName := ⟨RX10, "back", "(I)I"⟩
abbrev cX10_carry : ByteArray := prog_1_method_13_code
def yX10_carry : MethodName := ⟨RX10, "carry", "(II)I"⟩
abbrev cX10_raise : ByteArray := prog_1_method_14_code
def yX10_raise : MethodName := ⟨RX10, "raise", "(II)I"⟩
abbrev cX10_take : ByteArray := prog_1_method_15_code
def yX10_take : MethodName := ⟨RX10, "take", "(I)I"⟩
abbrev cX10_drift : ByteArray := prog_1_method_16_code
def yX10_drift : MethodName := ⟨RX10, "drift", "(I)I"⟩
abbrev cX10_undo : ByteArray := prog_1_method_17_code
def yX10_undo : MethodName := ⟨RX10, "undo", "(I)I"⟩
abbrev cX10_place : ByteArray := prog_1_method_18_code
def yX10_place : MethodName := ⟨RX10, "place", "(LMatrixKin$Square;)I"⟩
abbrev cX10_exchange : ByteArray := prog_1_method_19_code
def yX10_exchange : MethodName := ⟨RX10, "exchange", "(ILMatrixKin$Square;)I"⟩
abbrev cX10_drawSquare : ByteArray := prog_1_method_20_code
def yX10_drawSquare : MethodName := ⟨RX10, "drawSquare", "(LMatrixKin$Square;)V"⟩
abbrev cX10_draw : ByteArray := prog_1_method_21_code
def yX10_draw : MethodName := ⟨RX10, "draw", "(I)I"⟩
abbrev cX10_pair : ByteArray := prog_1_method_22_code
def yX10_pair : MethodName := ⟨RX10, "pair", "(III)I"⟩
abbrev cX10_note : ByteArray := prog_1_method_23_code
def yX10_note : MethodName := ⟨RX10, "note", "(IIZ)I"⟩
abbrev cX10_tear : ByteArray := prog_1_method_24_code
def yX10_tear : MethodName := ⟨RX10, "tear", "()I"⟩
abbrev cX10_seed : ByteArray := prog_1_method_25_code
def yX10_seed : MethodName := ⟨RX10, "seed", "(I)I"⟩
abbrev cX10_keep : ByteArray := prog_1_method_26_code
def yX10_keep : MethodName := ⟨RX10, "keep", "(I)I"⟩
abbrev cX10_goBack : ByteArray := prog_1_method_27_code
def yX10_goBack : MethodName := ⟨RX10, "goBack", "(I)I"⟩
def RX11 : String := "MatrixKinModel"
def TX11 : u_T := fun k => match k with
  | 0 => ("MatrixKinModel", "now", "[I", true)
  | 1 => ("MatrixKinModel", "past", "[I", true)
  | 2 => ("MatrixKinModel", "undos", "I", false)
  | 3 => ("MatrixKinModel", "images", "[I", true)
  | 4 => ("MatrixKinModel", "isKept", "[Z", true)
  | 5 => ("MatrixKinModel", "seed", "I", false)
  | 6 => ("MatrixKinModel", "text", "[I", true)
  | 7 => ("MatrixKinModel", "length", "I", false)
  | 8 => ("MatrixKinModel", "faultAt", "I", false)
  | 9 => ("MatrixKinModel", "book", "[I", true)
  | 10 => ("MatrixKinModel", "entries", "I", false)
  | 11 => ("MatrixKinModel", "a", "J", false)
  | 12 => ("MatrixKinModel", "b", "J", false)
  | 13 => ("MatrixKinModel", "c", "J", false)
  | 14 => ("MatrixKinModel", "d", "J", false)
  | 15 => ("MatrixKinModel", "kind", "I", false)
  | 16 => ("MatrixKinModel", "trace", "J", false)
  | 17 => ("MatrixKinModel", "by", "J", false)
  | 18 => ("MatrixKinModel", "runs", "[I", true)
  | 19 => ("MatrixKinModel", "runMany", "I", false)
  | 20 => ("MatrixKinModel", "times", "I", false)
  | 21 => ("MatrixKinModel", "letters", "J", false)
  | 22 => ("MatrixKinModel", "begins", "J", false)
  | 23 => ("MatrixKinModel", "lettersOf", "[I", true)
  | 24 => ("MatrixKinModel", "turned", "[I", true)
  | 25 => ("MatrixKinModel", "sideways", "I", false)
  | 26 => ("MatrixKinModel", "kindThen", "I", false)
  | 27 => ("MatrixKinModel", "traceThen", "J", false)
  | 28 => ("MatrixKinModel", "byThen", "J", false)
  | 29 => ("MatrixKinModel", "sidewaysThen", "I", false)
  | 30 => ("MatrixKinModel", "runsThen", "I", false)
  | 31 => ("MatrixKinModel", "beginsThen", "J", false)
  | 32 => ("MatrixKinModel", "wheelThen", "[I", true)
  | _ => ("MatrixKinModel", "squareThen", "[J", true)
def tyX11 : Nat → FieldType := fun k => match k with
  | 0 => .array .int
  | 1 => .array .int
  | 2 => .int
  | 3 => .array .int
  | 4 => .array .boolean
  | 5 => .int
  | 6 => .array .int
  | 7 => .int
  | 8 => .int
  | 9 => .array .int
  | 10 => .int
  | 11 => .long
  | 12 => .long
  | 13 => .long
  | 14 => .long
  | 15 => .int
  | 16 => .long
  | 17 => .long
  | 18 => .array .int
  | 19 => .int
  | 20 => .int
  | 21 => .long
  | 22 => .long
  | 23 => .array .int
  | 24 => .array .int
  | 25 => .int
  | 26 => .int
  | 27 => .long
  | 28 => .long
  | 29 => .int
  | 30 => .int
  | 31 => .long
  | 32 => .array .int
  | _ => .array .long
abbrev wsX110 : List Cond := u_ws RX11 TX11 34
theorem nmX11 : ∀ a, a < 34 → ∀ b, b < 34 → a ≠ b → (TX11 a).2.1 ≠ (TX11 b).2.1 := by decide +kernel
theorem tyX11_ok : ∀ k, k < 34 → parseFieldDescriptor (TX11 k).2.2.1 = some (tyX11 k) := by decide +kernel
abbrev cX11_init : ByteArray := prog_13_method_1_code
def yX11_init : MethodName := ⟨RX11, "<init>", "()V"⟩
abbrev cX11_in : ByteArray := prog_13_method_3_code
def yX11_in : MethodName := ⟨RX11, "in", "(JJJ)Z"⟩
abbrev cX11_isBound : ByteArray := prog_13_method_4_code
def yX11_isBound : MethodName := ⟨RX11, "isBound", "(J)Z"⟩
abbrev cX11_bits : ByteArray := prog_13_method_5_code
def yX11_bits : MethodName := ⟨RX11, "bits", "(I)I"⟩
abbrev cX11_takes : ByteArray := prog_13_method_6_code
def yX11_takes : MethodName := ⟨RX11, "takes", "(JJJJ)V"⟩
abbrev cX11_takesFrom : ByteArray := prog_13_method_7_code
def yX11_takesFrom : MethodName := ⟨RX11, "takesFrom", "(I)V"⟩
abbrev cX11_multiplies : ByteArray := prog_13_method_8_code
def yX11_multiplies : MethodName := ⟨RX11, "multiplies", "(JJJJ)V"⟩
abbrev cX11_isWell : ByteArray := prog_13_method_9_code
def yX11_isWell : MethodName := ⟨RX11, "isWell", "()Z"⟩
abbrev cX11_isAt : ByteArray := prog_13_method_10_code
def yX11_isAt : MethodName := ⟨RX11, "isAt", "(I)Z"⟩
abbrev cX11_laysAt : ByteArray := prog_13_method_11_code
def yX11_laysAt : MethodName := ⟨RX11, "laysAt", "(I)V"⟩
abbrev cX11_comes : ByteArray := prog_13_method_12_code
def yX11_comes : MethodName := ⟨RX11, "comes", "(I)V"⟩
abbrev cX11_letterOf : ByteArray := prog_13_method_13_code
def yX11_letterOf : MethodName := ⟨RX11, "letterOf", "(I)I"⟩
abbrev cX11_feed : ByteArray := prog_13_method_14_code
def yX11_feed : MethodName := ⟨RX11, "feed", "(I)I"⟩
abbrev cX11_notes : ByteArray := prog_13_method_15_code
def yX11_notes : MethodName := ⟨RX11, "notes", "()V"⟩
abbrev cX11_puts : ByteArray := prog_13_method_16_code
def yX11_puts : MethodName := ⟨RX11, "puts", "()I"⟩
abbrev cX11_write : ByteArray := prog_13_method_17_code
def yX11_write : MethodName := ⟨RX11, "write", "()I"⟩
abbrev cX11_fault : ByteArray := prog_13_method_18_code
def yX11_fault : MethodName := ⟨RX11, "fault", "()I"⟩
abbrev cX11_put : ByteArray := prog_13_method_19_code
def yX11_put : MethodName := ⟨RX11, "put", "(IIII)I"⟩
abbrev cX11_isSquare : ByteArray := prog_13_method_20_code
def yX11_isSquare : MethodName := ⟨RX11, "isSquare", "(I)Z"⟩
abbrev cX11_far : ByteArray := prog_13_method_21_code
def yX11_far : MethodName := ⟨RX11, "far", "(J)J"⟩
abbrev cX11_divisor : ByteArray := prog_13_method_22_code
def yX11_divisor : MethodName := ⟨RX11, "divisor", "(JJ)J"⟩
abbrev cX11_root : ByteArray := prog_13_method_23_code
def yX11_root : MethodName := ⟨RX11, "root", "(J)J"⟩
abbrev cX11_floor : ByteArray := prog_13_method_24_code
def yX11_floor : MethodName := ⟨RX11, "floor", "(JJ)J"⟩
abbrev cX11_part : ByteArray := prog_13_method_25_code
def yX11_part : MethodName := ⟨RX11, "part", "(JJJ)J"⟩
abbrev cX11_carries : ByteArray := prog_13_method_26_code
def yX11_carries : MethodName := ⟨RX11, "carries", "()V"⟩
abbrev cX11_spells : ByteArray := prog_13_method_27_code
def yX11_spells : MethodName := ⟨RX11, "spells", "()V"⟩
abbrev cX11_isLess : ByteArray := prog_13_method_28_code
def yX11_isLess : MethodName := ⟨RX11, "isLess", "(II)Z"⟩
abbrev cX11_isLike : ByteArray := prog_13_method_29_code
def yX11_isLike : MethodName := ⟨RX11, "isLike", "(I)Z"⟩
abbrev cX11_turns : ByteArray := prog_13_method_30_code
def yX11_turns : MethodName := ⟨RX11, "turns", "()V"⟩
abbrev cX11_isOne : ByteArray := prog_13_method_31_code
def yX11_isOne : MethodName := ⟨RX11, "isOne", "()Z"⟩
abbrev cX11_changes : ByteArray := prog_13_method_32_code
def yX11_changes : MethodName := ⟨RX11, "changes", "()V"⟩
abbrev cX11_knows : ByteArray := prog_13_method_33_code
def yX11_knows : MethodName := ⟨RX11, "knows", "()V"⟩
abbrev cX11_putsAside : ByteArray := prog_13_method_34_code
def yX11_putsAside : MethodName := ⟨RX11, "putsAside", "()V"⟩
abbrev cX11_isAlike : ByteArray := prog_13_method_35_code
def yX11_isAlike : MethodName := ⟨RX11, "isAlike", "()Z"⟩
abbrev cX11_asides : ByteArray := prog_13_method_36_code
def yX11_asides : MethodName := ⟨RX11, "asides", "(I)V"⟩
abbrev cX11_areAlike : ByteArray := prog_13_method_37_code
def yX11_areAlike : MethodName := ⟨RX11, "areAlike", "(II)Z"⟩
abbrev cX11_isTwin : ByteArray := prog_13_method_38_code
def yX11_isTwin : MethodName := ⟨RX11, "isTwin", "(I)Z"⟩
abbrev cX11_isMirrored : ByteArray := prog_13_method_39_code
def yX11_isMirrored : MethodName := ⟨RX11, "isMirrored", "(I)Z"⟩
abbrev cX11_family : ByteArray := prog_13_method_40_code
def yX11_family : MethodName := ⟨RX11, "family", "(I)I"⟩
abbrev cX11_families : ByteArray := prog_13_method_41_code
def yX11_families : MethodName := ⟨RX11, "families", "(I)I"⟩
abbrev cX11_twins : ByteArray := prog_13_method_42_code
def yX11_twins : MethodName := ⟨RX11, "twins", "()I"⟩
abbrev cX11_wrong : ByteArray := prog_13_method_43_code
def yX11_wrong : MethodName := ⟨RX11, "wrong", "()I"⟩
abbrev cX11_told : ByteArray := prog_13_method_44_code
def yX11_told : MethodName := ⟨RX11, "told", "(I)I"⟩
abbrev cX11_number : ByteArray := prog_13_method_45_code
def yX11_number : MethodName := ⟨RX11, "number", "(II)I"⟩
abbrev cX11_order : ByteArray := prog_13_method_46_code
def yX11_order : MethodName := ⟨RX11, "order", "()I"⟩
abbrev cX11_ofSquare : ByteArray := prog_13_method_47_code
def yX11_ofSquare : MethodName := ⟨RX11, "ofSquare", "(II)I"⟩
abbrev cX11_square : ByteArray := prog_13_method_48_code
def yX11_square : MethodName := ⟨RX11, "square", "(II)I"⟩
abbrev cX11_run : ByteArray := prog_13_method_49_code
def yX11_run : MethodName := ⟨RX11, "run", "(II)I"⟩
abbrev cX11_multiply : ByteArray := prog_13_method_50_code
def yX11_multiply : MethodName := ⟨RX11, "multiply", "(II)I"⟩
abbrev cX11_becomes : ByteArray := prog_13_method_51_code
def yX11_becomes : MethodName := ⟨RX11, "becomes", "(I)I"⟩
abbrev cX11_back : ByteArray := prog_13_method_52_code
def yX11_back : MethodName := ⟨RX11, "back", "(I)I"⟩
abbrev cX11_carry : ByteArray := prog_13_method_53_code
def yX11_carry : MethodName := ⟨RX11, "carry", "(II)I"⟩
abbrev cX11_raise : ByteArray := prog_13_method_54_code
def yX11_raise : MethodName := ⟨RX11, "raise", "(II)I"⟩
abbrev cX11_take : ByteArray := prog_13_method_55_code
def yX11_take : MethodName := ⟨RX11, "take", "(I)I"⟩
abbrev cX11_draw : ByteArray := prog_13_method_56_code
def yX11_draw : MethodName := ⟨RX11, "draw", "(I)I"⟩
abbrev cX11_drift : ByteArray := prog_13_method_57_code
def yX11_drift : MethodName := ⟨RX11, "drift", "(I)I"⟩
abbrev cX11_undo : ByteArray := prog_13_method_58_code
def yX11_undo : MethodName := ⟨RX11, "undo", "(I)I"⟩
abbrev cX11_isProduct : ByteArray := prog_13_method_59_code
def yX11_isProduct : MethodName := ⟨RX11, "isProduct", "(I)Z"⟩
abbrev cX11_goTogether : ByteArray := prog_13_method_60_code
def yX11_goTogether : MethodName := ⟨RX11, "goTogether", "(II)Z"⟩
abbrev cX11_beginsOf : ByteArray := prog_13_method_61_code
def yX11_beginsOf : MethodName := ⟨RX11, "beginsOf", "(II)I"⟩
abbrev cX11_pair : ByteArray := prog_13_method_62_code
def yX11_pair : MethodName := ⟨RX11, "pair", "(III)I"⟩
abbrev cX11_note : ByteArray := prog_13_method_63_code
def yX11_note : MethodName := ⟨RX11, "note", "(IIZ)I"⟩
abbrev cX11_tear : ByteArray := prog_13_method_64_code
def yX11_tear : MethodName := ⟨RX11, "tear", "()I"⟩
abbrev cX11_seed : ByteArray := prog_13_method_65_code
def yX11_seed : MethodName := ⟨RX11, "seed", "(I)I"⟩
abbrev cX11_keep : ByteArray := prog_13_method_66_code
def yX11_keep : MethodName := ⟨RX11, "keep", "(I)I"⟩
abbrev cX11_goBack : ByteArray := prog_13_method_67_code
def yX11_goBack : MethodName := ⟨RX11, "goBack", "(I)I"⟩
def RJ6 : String := "java/lang/Integer"
abbrev cJ6_numberOfTrailingZeros_0f7a4 : ByteArray := prog_14_method_48_code
def yJ6_numberOfTrailingZeros_0f7a4 : MethodName := ⟨RJ6, "numberOfTrailingZeros", "(I)I"⟩
abbrev cJ6_bitCount_0f7a4 : ByteArray := prog_14_method_49_code
def yJ6_bitCount_0f7a4 : MethodName := ⟨RJ6, "bitCount", "(I)I"⟩
def RJ13 : String := "java/lang/Long"
abbrev cJ13_signum_95d88 : ByteArray := prog_15_method_57_code
def yJ13_signum_95d88 : MethodName := ⟨RJ13, "signum", "(J)I"⟩
def RJ9 : String := "java/lang/Math"
abbrev cJ9_floorDiv_f86c9 : ByteArray := prog_16_method_49_code
def yJ9_floorDiv_f86c9 : MethodName := ⟨RJ9, "floorDiv", "(JJ)J"⟩
abbrev cJ9_floorMod_7cf53 : ByteArray := prog_16_method_50_code
def yJ9_floorMod_7cf53 : MethodName := ⟨RJ9, "floorMod", "(II)I"⟩
abbrev cJ9_abs_067f4 : ByteArray := prog_16_method_61_code
def yJ9_abs_067f4 : MethodName := ⟨RJ9, "abs", "(J)J"⟩
abbrev cJ9_min_7cf53 : ByteArray := prog_16_method_69_code
def yJ9_min_7cf53 : MethodName := ⟨RJ9, "min", "(II)I"⟩
abbrev cJ9_min_f86c9 : ByteArray := prog_16_method_70_code
def yJ9_min_f86c9 : MethodName := ⟨RJ9, "min", "(JJ)J"⟩
def RJ0 : String := "java/lang/String"
abbrev cJ0_charAt_5068e : ByteArray := prog_17_method_56_code
def yJ0_charAt_5068e : MethodName := ⟨RJ0, "charAt", "(I)C"⟩
abbrev cJ0_isLatin1_aae02 : ByteArray := prog_17_method_154_code
def yJ0_isLatin1_aae02 : MethodName := ⟨RJ0, "isLatin1", "()Z"⟩
abbrev cJ0_checkIndex_df160 : ByteArray := prog_17_method_155_code
def yJ0_checkIndex_df160 : MethodName := ⟨RJ0, "checkIndex", "(II)V"⟩
def RJ1 : String := "java/lang/StringLatin1"
abbrev cJ1_charAt_3b067 : ByteArray := prog_18_method_2_code
def yJ1_charAt_3b067 : MethodName := ⟨RJ1, "charAt", "([BI)C"⟩
def RJ2 : String := "java/lang/StringUTF16"
abbrev cJ2_getChar_3b067 : ByteArray := prog_19_method_5_code
def yJ2_getChar_3b067 : MethodName := ⟨RJ2, "getChar", "([BI)C"⟩
abbrev cJ2_length_9d52b : ByteArray := prog_19_method_6_code
def yJ2_length_9d52b : MethodName := ⟨RJ2, "length", "([B)I"⟩
abbrev cJ2_charAt_3b067 : ByteArray := prog_19_method_83_code
def yJ2_charAt_3b067 : MethodName := ⟨RJ2, "charAt", "([BI)C"⟩
abbrev cJ2_checkIndex_2214a : ByteArray := prog_19_method_91_code
def yJ2_checkIndex_2214a : MethodName := ⟨RJ2, "checkIndex", "(I[B)V"⟩
def RJ10 : String := "java/lang/System"
def RJ3 : String := "jdk/internal/util/Preconditions"
abbrev cJ3_checkIndex_8e157 : ByteArray := prog_21_method_11_code
def yJ3_checkIndex_8e157 : MethodName := ⟨RJ3, "checkIndex", "(IILjava/util/function/BiFunction;)I"⟩
def RL : String := "MatrixKinLaw"
abbrev cL_law : ByteArray := code
abbrev vwCl : List vw_C := [(RX0, TX0, 4), (RX1, TX1, 3), (RX2, TX2, 8), (RX3, TX3, 4), (RX4, TX4, 3), (RX5, TX5, 2), (RX6, TX6, 4), (RX7, TX7, 3), (RX8, TX8, 5), (RX9, TX9, 1), (RX10, TX10, 10), (RX11, TX11, 34)]
end
section
theorem dX0_init_0 : decode cX0_init 0 = .ok (.aload_n 0, 1) := by decide +kernel
theorem dX0_init_1 : decode cX0_init 1 = .ok (.invokespecial 3, 3) := by decide +kernel
theorem dX0_init_4 : decode cX0_init 4 = .ok (.aload_n 0, 1) := by decide +kernel
theorem dX0_init_5 : decode cX0_init 5 = .ok (.bipush 20, 2) := by decide +kernel
theorem dX0_init_7 : decode cX0_init 7 = .ok (.newarray .int, 2) := by decide +kernel
theorem dX0_init_9 : decode cX0_init 9 = .ok (.putfield 9, 3) := by decide +kernel
theorem dX0_init_12 : decode cX0_init 12 = .ok (.aload_n 0, 1) := by decide +kernel
theorem dX0_init_13 : decode cX0_init 13 = .ok (.bipush 20, 2) := by decide +kernel
theorem dX0_init_15 : decode cX0_init 15 = .ok (.newarray .int, 2) := by decide +kernel
theorem dX0_init_17 : decode cX0_init 17 = .ok (.putfield 15, 3) := by decide +kernel
theorem dX0_init_20 : decode cX0_init 20 = .ok (.aload_n 0, 1) := by decide +kernel
theorem dX0_init_21 : decode cX0_init 21 = .ok (.bipush 20, 2) := by decide +kernel
theorem dX0_init_23 : decode cX0_init 23 = .ok (.newarray .boolean, 2) := by decide +kernel
theorem dX0_init_25 : decode cX0_init 25 = .ok (.putfield 18, 3) := by decide +kernel
theorem dX0_init_28 : decode cX0_init 28 = .ok (.aload_n 0, 1) := by decide +kernel
theorem dX0_init_29 : decode cX0_init 29 = .ok (.iconst 0, 1) := by decide +kernel
theorem dX0_init_30 : decode cX0_init 30 = .ok (.putfield 22, 3) := by decide +kernel
theorem dX0_init_33 : decode cX0_init 33 = .ok (.return_, 1) := by decide +kernel
theorem dX0_length_0 : decode cX0_length 0 = .ok (.aload_n 0, 1) := by decide +kernel
theorem dX0_length_1 : decode cX0_length 1 = .ok (.getfield 22, 3) := by decide +kernel
theorem dX0_length_4 : decode cX0_length 4 = .ok (.ireturn, 1) := by decide +kernel
theorem dX0_isFull_0 : decode cX0_isFull 0 = .ok (.aload_n 0, 1) := by decide +kernel
theorem dX0_isFull_1 : decode cX0_isFull 1 = .ok (.getfield 22, 3) := by decide +kernel
theorem dX0_isFull_4 : decode cX0_isFull 4 = .ok (.bipush 20, 2) := by decide +kernel
theorem dX0_isFull_6 : decode cX0_isFull 6 = .ok (.if_icmp .lt 7, 3) := by decide +kernel
theorem dX0_isFull_9 : decode cX0_isFull 9 = .ok (.iconst 1, 1) := by decide +kernel
theorem dX0_isFull_10 : decode cX0_isFull 10 = .ok (.goto 4, 3) := by decide +kernel
theorem dX0_isFull_13 : decode cX0_isFull 13 = .ok (.iconst 0, 1) := by decide +kernel
theorem dX0_isFull_14 : decode cX0_isFull 14 = .ok (.ireturn, 1) := by decide +kernel
theorem dX0_append_0 : decode cX0_append 0 = .ok (.aload_n 0, 1) := by decide +kernel
theorem dX0_append_1 : decode cX0_append 1 = .ok (.invokevirtual 26, 3) := by decide +kernel
theorem dX0_append_4 : decode cX0_append 4 = .ok (.ifCond .ne 43, 3) := by decide +kernel
theorem dX0_append_7 : decode cX0_append 7 = .ok (.aload_n 0, 1) := by decide +kernel
theorem dX0_append_8 : decode cX0_append 8 = .ok (.getfield 9, 3) := by decide +kernel
theorem dX0_append_11 : decode cX0_append 11 = .ok (.aload_n 0, 1) := by decide +kernel
theorem dX0_append_12 : decode cX0_append 12 = .ok (.getfield 22, 3) := by decide +kernel
theorem dX0_append_15 : decode cX0_append 15 = .ok (.iload_n 1, 1) := by decide +kernel
theorem dX0_append_16 : decode cX0_append 16 = .ok (.iastore, 1) := by decide +kernel
theorem dX0_append_17 : decode cX0_append 17 = .ok (.aload_n 0, 1) := by decide +kernel
theorem dX0_append_18 : decode cX0_append 18 = .ok (.getfield 15, 3) := by decide +kernel
theorem dX0_append_21 : decode cX0_append 21 = .ok (.aload_n 0, 1) := by decide +kernel
theorem dX0_append_22 : decode cX0_append 22 = .ok (.getfield 22, 3) := by decide +kernel
theorem dX0_append_25 : decode cX0_append 25 = .ok (.iload_n 2, 1) := by decide +kernel
theorem dX0_append_26 : decode cX0_append 26 = .ok (.iastore, 1) := by decide +kernel
theorem dX0_append_27 : decode cX0_append 27 = .ok (.aload_n 0, 1) := by decide +kernel
theorem dX0_append_28 : decode cX0_append 28 = .ok (.getfield 18, 3) := by decide +kernel
theorem dX0_append_31 : decode cX0_append 31 = .ok (.aload_n 0, 1) := by decide +kernel
theorem dX0_append_32 : decode cX0_append 32 = .ok (.getfield 22, 3) := by decide +kernel
theorem dX0_append_35 : decode cX0_append 35 = .ok (.iload_n 3, 1) := by decide +kernel
theorem dX0_append_36 : decode cX0_append 36 = .ok (.bastore, 1) := by decide +kernel
theorem dX0_append_37 : decode cX0_append 37 = .ok (.aload_n 0, 1) := by decide +kernel
theorem dX0_append_38 : decode cX0_append 38 = .ok (.dup, 1) := by decide +kernel
theorem dX0_append_39 : decode cX0_append 39 = .ok (.getfield 22, 3) := by decide +kernel
theorem dX0_append_42 : decode cX0_append 42 = .ok (.iconst 1, 1) := by decide +kernel
theorem dX0_append_43 : decode cX0_append 43 = .ok (.iadd, 1) := by decide +kernel
theorem dX0_append_44 : decode cX0_append 44 = .ok (.putfield 22, 3) := by decide +kernel
theorem dX0_append_47 : decode cX0_append 47 = .ok (.return_, 1) := by decide +kernel
theorem dX0_clear_0 : decode cX0_clear 0 = .ok (.aload_n 0, 1) := by decide +kernel
theorem dX0_clear_1 : decode cX0_clear 1 = .ok (.iconst 0, 1) := by decide +kernel
theorem dX0_clear_2 : decode cX0_clear 2 = .ok (.putfield 22, 3) := by decide +kernel
theorem dX0_clear_5 : decode cX0_clear 5 = .ok (.return_, 1) := by decide +kernel
theorem dX0_one_0 : decode cX0_one 0 = .ok (.iload_n 1, 1) := by decide +kernel
theorem dX0_one_1 : decode cX0_one 1 = .ok (.ifCond .lt 20, 3) := by decide +kernel
theorem dX0_one_4 : decode cX0_one 4 = .ok (.iload_n 1, 1) := by decide +kernel
theorem dX0_one_5 : decode cX0_one 5 = .ok (.aload_n 0, 1) := by decide +kernel
theorem dX0_one_6 : decode cX0_one 6 = .ok (.getfield 22, 3) := by decide +kernel
theorem dX0_one_9 : decode cX0_one 9 = .ok (.if_icmp .ge 12, 3) := by decide +kernel
theorem dX0_one_12 : decode cX0_one 12 = .ok (.aload_n 0, 1) := by decide +kernel
theorem dX0_one_13 : decode cX0_one 13 = .ok (.getfield 9, 3) := by decide +kernel
theorem dX0_one_16 : decode cX0_one 16 = .ok (.iload_n 1, 1) := by decide +kernel
theorem dX0_one_17 : decode cX0_one 17 = .ok (.iaload, 1) := by decide +kernel
theorem dX0_one_18 : decode cX0_one 18 = .ok (.goto 4, 3) := by decide +kernel
theorem dX0_one_21 : decode cX0_one 21 = .ok (.iconst (-1), 1) := by decide +kernel
theorem dX0_one_22 : decode cX0_one 22 = .ok (.ireturn, 1) := by decide +kernel
theorem dX0_other_0 : decode cX0_other 0 = .ok (.iload_n 1, 1) := by decide +kernel
theorem dX0_other_1 : decode cX0_other 1 = .ok (.ifCond .lt 20, 3) := by decide +kernel
theorem dX0_other_4 : decode cX0_other 4 = .ok (.iload_n 1, 1) := by decide +kernel
theorem dX0_other_5 : decode cX0_other 5 = .ok (.aload_n 0, 1) := by decide +kernel
theorem dX0_other_6 : decode cX0_other 6 = .ok (.getfield 22, 3) := by decide +kernel
theorem dX0_other_9 : decode cX0_other 9 = .ok (.if_icmp .ge 12, 3) := by decide +kernel
theorem dX0_other_12 : decode cX0_other 12 = .ok (.aload_n 0, 1) := by decide +kernel
theorem dX0_other_13 : decode cX0_other 13 = .ok (.getfield 15, 3) := by decide +kernel
theorem dX0_other_16 : decode cX0_other 16 = .ok (.iload_n 1, 1) := by decide +kernel
theorem dX0_other_17 : decode cX0_other 17 = .ok (.iaload, 1) := by decide +kernel
theorem dX0_other_18 : decode cX0_other 18 = .ok (.goto 4, 3) := by decide +kernel
theorem dX0_other_21 : decode cX0_other 21 = .ok (.iconst (-1), 1) := by decide +kernel
theorem dX0_other_22 : decode cX0_other 22 = .ok (.ireturn, 1) := by decide +kernel
theorem dX0_saidAlike_0 : decode cX0_saidAlike 0 = .ok (.iload_n 1, 1) := by decide +kernel
theorem dX0_saidAlike_1 : decode cX0_saidAlike 1 = .ok (.ifCond .lt 24, 3) := by decide +kernel
theorem dX0_saidAlike_4 : decode cX0_saidAlike 4 = .ok (.iload_n 1, 1) := by decide +kernel
theorem dX0_saidAlike_5 : decode cX0_saidAlike 5 = .ok (.aload_n 0, 1) := by decide +kernel
theorem dX0_saidAlike_6 : decode cX0_saidAlike 6 = .ok (.getfield 22, 3) := by decide +kernel
theorem dX0_saidAlike_9 : decode cX0_saidAlike 9 = .ok (.if_icmp .ge 16, 3) := by decide +kernel
theorem dX0_saidAlike_12 : decode cX0_saidAlike 12 = .ok (.aload_n 0, 1) := by decide +kernel
theorem dX0_saidAlike_13 : decode cX0_saidAlike 13 = .ok (.getfield 18, 3) := by decide +kernel
theorem dX0_saidAlike_16 : decode cX0_saidAlike 16 = .ok (.iload_n 1, 1) := by decide +kernel
theorem dX0_saidAlike_17 : decode cX0_saidAlike 17 = .ok (.baload, 1) := by decide +kernel
theorem dX0_saidAlike_18 : decode cX0_saidAlike 18 = .ok (.ifCond .eq 7, 3) := by decide +kernel
theorem dX0_saidAlike_21 : decode cX0_saidAlike 21 = .ok (.iconst 1, 1) := by decide +kernel
theorem dX0_saidAlike_22 : decode cX0_saidAlike 22 = .ok (.goto 4, 3) := by decide +kernel
theorem dX0_saidAlike_25 : decode cX0_saidAlike 25 = .ok (.iconst 0, 1) := by decide +kernel
theorem dX0_saidAlike_26 : decode cX0_saidAlike 26 = .ok (.ireturn, 1) := by decide +kernel
theorem dX1_init_0 : decode cX1_init 0 = .ok (.aload_n 0, 1) := by decide +kernel
theorem dX1_init_1 : decode cX1_init 1 = .ok (.invokespecial 1, 3) := by decide +kernel
theorem dX1_init_4 : decode cX1_init 4 = .ok (.aload_n 0, 1) := by decide +kernel
theorem dX1_init_5 : decode cX1_init 5 = .ok (.new 7, 3) := by decide +kernel
theorem dX1_init_8 : decode cX1_init 8 = .ok (.dup, 1) := by decide +kernel
theorem dX1_init_9 : decode cX1_init 9 = .ok (.invokespecial 9, 3) := by decide +kernel
theorem dX1_init_12 : decode cX1_init 12 = .ok (.putfield 10, 3) := by decide +kernel
theorem dX1_init_15 : decode cX1_init 15 = .ok (.aload_n 0, 1) := by decide +kernel
theorem dX1_init_16 : decode cX1_init 16 = .ok (.iconst 0, 1) := by decide +kernel
theorem dX1_init_17 : decode cX1_init 17 = .ok (.putfield 16, 3) := by decide +kernel
theorem dX1_init_20 : decode cX1_init 20 = .ok (.aload_n 0, 1) := by decide +kernel
theorem dX1_init_21 : decode cX1_init 21 = .ok (.iconst 0, 1) := by decide +kernel
theorem dX1_init_22 : decode cX1_init 22 = .ok (.putfield 20, 3) := by decide +kernel
theorem dX1_init_25 : decode cX1_init 25 = .ok (.return_, 1) := by decide +kernel
theorem dX1_fill_0 : decode cX1_fill 0 = .ok (.aload_n 0, 1) := by decide +kernel
theorem dX1_fill_1 : decode cX1_fill 1 = .ok (.getfield 10, 3) := by decide +kernel
theorem dX1_fill_4 : decode cX1_fill 4 = .ok (.aload_n 1, 1) := by decide +kernel
theorem dX1_fill_5 : decode cX1_fill 5 = .ok (.invokevirtual 24, 3) := by decide +kernel
theorem dX1_fill_8 : decode cX1_fill 8 = .ok (.aload_n 0, 1) := by decide +kernel
theorem dX1_fill_9 : decode cX1_fill 9 = .ok (.iload_n 2, 1) := by decide +kernel
theorem dX1_fill_10 : decode cX1_fill 10 = .ok (.putfield 16, 3) := by decide +kernel
theorem dX1_fill_13 : decode cX1_fill 13 = .ok (.aload_n 0, 1) := by decide +kernel
theorem dX1_fill_14 : decode cX1_fill 14 = .ok (.iconst 1, 1) := by decide +kernel
theorem dX1_fill_15 : decode cX1_fill 15 = .ok (.putfield 20, 3) := by decide +kernel
theorem dX1_fill_18 : decode cX1_fill 18 = .ok (.return_, 1) := by decide +kernel
theorem dX1_isKept_0 : decode cX1_isKept 0 = .ok (.aload_n 0, 1) := by decide +kernel
theorem dX1_isKept_1 : decode cX1_isKept 1 = .ok (.getfield 20, 3) := by decide +kernel
theorem dX1_isKept_4 : decode cX1_isKept 4 = .ok (.ireturn, 1) := by decide +kernel
theorem dX1_shelf_0 : decode cX1_shelf 0 = .ok (.aload_n 0, 1) := by decide +kernel
theorem dX1_shelf_1 : decode cX1_shelf 1 = .ok (.getfield 10, 3) := by decide +kernel
theorem dX1_shelf_4 : decode cX1_shelf 4 = .ok (.areturn, 1) := by decide +kernel
theorem dX1_seedThen_0 : decode cX1_seedThen 0 = .ok (.aload_n 0, 1) := by decide +kernel
theorem dX1_seedThen_1 : decode cX1_seedThen 1 = .ok (.getfield 16, 3) := by decide +kernel
theorem dX1_seedThen_4 : decode cX1_seedThen 4 = .ok (.ireturn, 1) := by decide +kernel
theorem dX2_init_0 : decode cX2_init 0 = .ok (.aload_n 0, 1) := by decide +kernel
theorem dX2_init_1 : decode cX2_init 1 = .ok (.invokespecial 3, 3) := by decide +kernel
theorem dX2_init_4 : decode cX2_init 4 = .ok (.aload_n 0, 1) := by decide +kernel
theorem dX2_init_5 : decode cX2_init 5 = .ok (.bipush 12, 2) := by decide +kernel
theorem dX2_init_7 : decode cX2_init 7 = .ok (.anewarray 9, 3) := by decide +kernel
theorem dX2_init_10 : decode cX2_init 10 = .ok (.putfield 11, 3) := by decide +kernel
theorem dX2_init_13 : decode cX2_init 13 = .ok (.aload_n 0, 1) := by decide +kernel
theorem dX2_init_14 : decode cX2_init 14 = .ok (.new 9, 3) := by decide +kernel
theorem dX2_init_17 : decode cX2_init 17 = .ok (.dup, 1) := by decide +kernel
theorem dX2_init_18 : decode cX2_init 18 = .ok (.invokespecial 17, 3) := by decide +kernel
theorem dX2_init_21 : decode cX2_init 21 = .ok (.putfield 18, 3) := by decide +kernel
theorem dX2_init_24 : decode cX2_init 24 = .ok (.aload_n 0, 1) := by decide +kernel
theorem dX2_init_25 : decode cX2_init 25 = .ok (.new 22, 3) := by decide +kernel
theorem dX2_init_28 : decode cX2_init 28 = .ok (.dup, 1) := by decide +kernel
theorem dX2_init_29 : decode cX2_init 29 = .ok (.invokespecial 24, 3) := by decide +kernel
theorem dX2_init_32 : decode cX2_init 32 = .ok (.putfield 25, 3) := by decide +kernel
theorem dX2_init_35 : decode cX2_init 35 = .ok (.aload_n 0, 1) := by decide +kernel
theorem dX2_init_36 : decode cX2_init 36 = .ok (.new 22, 3) := by decide +kernel
theorem dX2_init_39 : decode cX2_init 39 = .ok (.dup, 1) := by decide +kernel
theorem dX2_init_40 : decode cX2_init 40 = .ok (.invokespecial 24, 3) := by decide +kernel
theorem dX2_init_43 : decode cX2_init 43 = .ok (.putfield 29, 3) := by decide +kernel
theorem dX2_init_46 : decode cX2_init 46 = .ok (.aload_n 0, 1) := by decide +kernel
theorem dX2_init_47 : decode cX2_init 47 = .ok (.new 22, 3) := by decide +kernel
theorem dX2_init_50 : decode cX2_init 50 = .ok (.dup, 1) := by decide +kernel
theorem dX2_init_51 : decode cX2_init 51 = .ok (.invokespecial 24, 3) := by decide +kernel
theorem dX2_init_54 : decode cX2_init 54 = .ok (.putfield 32, 3) := by decide +kernel
theorem dX2_init_57 : decode cX2_init 57 = .ok (.aload_n 0, 1) := by decide +kernel
theorem dX2_init_58 : decode cX2_init 58 = .ok (.new 22, 3) := by decide +kernel
theorem dX2_init_61 : decode cX2_init 61 = .ok (.dup, 1) := by decide +kernel
theorem dX2_init_62 : decode cX2_init 62 = .ok (.invokespecial 24, 3) := by decide +kernel
theorem dX2_init_65 : decode cX2_init 65 = .ok (.putfield 35, 3) := by decide +kernel
theorem dX2_init_68 : decode cX2_init 68 = .ok (.aload_n 0, 1) := by decide +kernel
theorem dX2_init_69 : decode cX2_init 69 = .ok (.new 38, 3) := by decide +kernel
theorem dX2_init_72 : decode cX2_init 72 = .ok (.dup, 1) := by decide +kernel
theorem dX2_init_73 : decode cX2_init 73 = .ok (.invokespecial 40, 3) := by decide +kernel
theorem dX2_init_76 : decode cX2_init 76 = .ok (.putfield 41, 3) := by decide +kernel
theorem dX2_init_79 : decode cX2_init 79 = .ok (.aload_n 0, 1) := by decide +kernel
theorem dX2_init_80 : decode cX2_init 80 = .ok (.aload_n 1, 1) := by decide +kernel
theorem dX2_init_81 : decode cX2_init 81 = .ok (.putfield 45, 3) := by decide +kernel
theorem dX2_init_84 : decode cX2_init 84 = .ok (.iconst 0, 1) := by decide +kernel
theorem dX2_init_85 : decode cX2_init 85 = .ok (.istore_n 2, 1) := by decide +kernel
theorem dX2_init_86 : decode cX2_init 86 = .ok (.iload_n 2, 1) := by decide +kernel
theorem dX2_init_87 : decode cX2_init 87 = .ok (.bipush 12, 2) := by decide +kernel
theorem dX2_init_89 : decode cX2_init 89 = .ok (.if_icmp .ge 22, 3) := by decide +kernel
theorem dX2_init_92 : decode cX2_init 92 = .ok (.aload_n 0, 1) := by decide +kernel
theorem dX2_init_93 : decode cX2_init 93 = .ok (.getfield 11, 3) := by decide +kernel
theorem dX2_init_96 : decode cX2_init 96 = .ok (.iload_n 2, 1) := by decide +kernel
theorem dX2_init_97 : decode cX2_init 97 = .ok (.new 9, 3) := by decide +kernel
theorem dX2_init_100 : decode cX2_init 100 = .ok (.dup, 1) := by decide +kernel
theorem dX2_init_101 : decode cX2_init 101 = .ok (.invokespecial 17, 3) := by decide +kernel
theorem dX2_init_104 : decode cX2_init 104 = .ok (.aastore, 1) := by decide +kernel
theorem dX2_init_105 : decode cX2_init 105 = .ok (.iinc 2 1, 3) := by decide +kernel
theorem dX2_init_108 : decode cX2_init 108 = .ok (.goto (-22), 3) := by decide +kernel
theorem dX2_init_111 : decode cX2_init 111 = .ok (.return_, 1) := by decide +kernel
theorem dX2_lookAround_0 : decode cX2_lookAround 0 = .ok (.iconst 0, 1) := by decide +kernel
theorem dX2_lookAround_1 : decode cX2_lookAround 1 = .ok (.istore_n 1, 1) := by decide +kernel
theorem dX2_lookAround_2 : decode cX2_lookAround 2 = .ok (.iload_n 1, 1) := by decide +kernel
theorem dX2_lookAround_3 : decode cX2_lookAround 3 = .ok (.aload_n 0, 1) := by decide +kernel
theorem dX2_lookAround_4 : decode cX2_lookAround 4 = .ok (.getfield 45, 3) := by decide +kernel
theorem dX2_lookAround_7 : decode cX2_lookAround 7 = .ok (.invokevirtual 49, 3) := by decide +kernel
theorem dX2_lookAround_10 : decode cX2_lookAround 10 = .ok (.if_icmp .ge 34, 3) := by decide +kernel
theorem dX2_lookAround_13 : decode cX2_lookAround 13 = .ok (.aload_n 0, 1) := by decide +kernel
theorem dX2_lookAround_14 : decode cX2_lookAround 14 = .ok (.getfield 45, 3) := by decide +kernel
theorem dX2_lookAround_17 : decode cX2_lookAround 17 = .ok (.iload_n 1, 1) := by decide +kernel
theorem dX2_lookAround_18 : decode cX2_lookAround 18 = .ok (.aload_n 0, 1) := by decide +kernel
theorem dX2_lookAround_19 : decode cX2_lookAround 19 = .ok (.getfield 25, 3) := by decide +kernel
theorem dX2_lookAround_22 : decode cX2_lookAround 22 = .ok (.invokevirtual 55, 3) := by decide +kernel
theorem dX2_lookAround_25 : decode cX2_lookAround 25 = .ok (.aload_n 0, 1) := by decide +kernel
theorem dX2_lookAround_26 : decode cX2_lookAround 26 = .ok (.getfield 11, 3) := by decide +kernel
theorem dX2_lookAround_29 : decode cX2_lookAround 29 = .ok (.iload_n 1, 1) := by decide +kernel
theorem dX2_lookAround_30 : decode cX2_lookAround 30 = .ok (.aaload, 1) := by decide +kernel
theorem dX2_lookAround_31 : decode cX2_lookAround 31 = .ok (.aload_n 0, 1) := by decide +kernel
theorem dX2_lookAround_32 : decode cX2_lookAround 32 = .ok (.getfield 25, 3) := by decide +kernel
theorem dX2_lookAround_35 : decode cX2_lookAround 35 = .ok (.invokevirtual 59, 3) := by decide +kernel
theorem dX2_lookAround_38 : decode cX2_lookAround 38 = .ok (.iinc 1 1, 3) := by decide +kernel
theorem dX2_lookAround_41 : decode cX2_lookAround 41 = .ok (.goto (-39), 3) := by decide +kernel
theorem dX2_lookAround_44 : decode cX2_lookAround 44 = .ok (.return_, 1) := by decide +kernel
theorem dX2_kinOf_0 : decode cX2_kinOf 0 = .ok (.aload_n 0, 1) := by decide +kernel
theorem dX2_kinOf_1 : decode cX2_kinOf 1 = .ok (.getfield 11, 3) := by decide +kernel
theorem dX2_kinOf_4 : decode cX2_kinOf 4 = .ok (.iload_n 1, 1) := by decide +kernel
theorem dX2_kinOf_5 : decode cX2_kinOf 5 = .ok (.aaload, 1) := by decide +kernel
theorem dX2_kinOf_6 : decode cX2_kinOf 6 = .ok (.areturn, 1) := by decide +kernel
theorem dX2_areAlike_0 : decode cX2_areAlike 0 = .ok (.aload_n 0, 1) := by decide +kernel
theorem dX2_areAlike_1 : decode cX2_areAlike 1 = .ok (.getfield 11, 3) := by decide +kernel
theorem dX2_areAlike_4 : decode cX2_areAlike 4 = .ok (.iload_n 1, 1) := by decide +kernel
theorem dX2_areAlike_5 : decode cX2_areAlike 5 = .ok (.aaload, 1) := by decide +kernel
theorem dX2_areAlike_6 : decode cX2_areAlike 6 = .ok (.aload_n 0, 1) := by decide +kernel
theorem dX2_areAlike_7 : decode cX2_areAlike 7 = .ok (.getfield 11, 3) := by decide +kernel
theorem dX2_areAlike_10 : decode cX2_areAlike 10 = .ok (.iload_n 2, 1) := by decide +kernel
theorem dX2_areAlike_11 : decode cX2_areAlike 11 = .ok (.aaload, 1) := by decide +kernel
theorem dX2_areAlike_12 : decode cX2_areAlike 12 = .ok (.invokevirtual 63, 3) := by decide +kernel
theorem dX2_areAlike_15 : decode cX2_areAlike 15 = .ok (.ireturn, 1) := by decide +kernel
theorem dX2_isTwin_0 : decode cX2_isTwin 0 = .ok (.aload_n 0, 1) := by decide +kernel
theorem dX2_isTwin_1 : decode cX2_isTwin 1 = .ok (.getfield 45, 3) := by decide +kernel
theorem dX2_isTwin_4 : decode cX2_isTwin 4 = .ok (.iload_n 1, 1) := by decide +kernel
theorem dX2_isTwin_5 : decode cX2_isTwin 5 = .ok (.aload_n 0, 1) := by decide +kernel
theorem dX2_isTwin_6 : decode cX2_isTwin 6 = .ok (.getfield 29, 3) := by decide +kernel
theorem dX2_isTwin_9 : decode cX2_isTwin 9 = .ok (.invokevirtual 55, 3) := by decide +kernel
theorem dX2_isTwin_12 : decode cX2_isTwin 12 = .ok (.aload_n 0, 1) := by decide +kernel
theorem dX2_isTwin_13 : decode cX2_isTwin 13 = .ok (.getfield 29, 3) := by decide +kernel
theorem dX2_isTwin_16 : decode cX2_isTwin 16 = .ok (.invokevirtual 67, 3) := by decide +kernel
theorem dX2_isTwin_19 : decode cX2_isTwin 19 = .ok (.aload_n 0, 1) := by decide +kernel
theorem dX2_isTwin_20 : decode cX2_isTwin 20 = .ok (.getfield 18, 3) := by decide +kernel
theorem dX2_isTwin_23 : decode cX2_isTwin 23 = .ok (.aload_n 0, 1) := by decide +kernel
theorem dX2_isTwin_24 : decode cX2_isTwin 24 = .ok (.getfield 29, 3) := by decide +kernel
theorem dX2_isTwin_27 : decode cX2_isTwin 27 = .ok (.invokevirtual 59, 3) := by decide +kernel
theorem dX2_isTwin_30 : decode cX2_isTwin 30 = .ok (.aload_n 0, 1) := by decide +kernel
theorem dX2_isTwin_31 : decode cX2_isTwin 31 = .ok (.getfield 11, 3) := by decide +kernel
theorem dX2_isTwin_34 : decode cX2_isTwin 34 = .ok (.iload_n 1, 1) := by decide +kernel
theorem dX2_isTwin_35 : decode cX2_isTwin 35 = .ok (.aaload, 1) := by decide +kernel
theorem dX2_isTwin_36 : decode cX2_isTwin 36 = .ok (.aload_n 0, 1) := by decide +kernel
theorem dX2_isTwin_37 : decode cX2_isTwin 37 = .ok (.getfield 18, 3) := by decide +kernel
theorem dX2_isTwin_40 : decode cX2_isTwin 40 = .ok (.invokevirtual 63, 3) := by decide +kernel
theorem dX2_isTwin_43 : decode cX2_isTwin 43 = .ok (.ireturn, 1) := by decide +kernel
theorem dX2_isLikeMirrored_0 : decode cX2_isLikeMirrored 0 = .ok (.aload_n 0, 1) := by decide +kernel
theorem dX2_isLikeMirrored_1 : decode cX2_isLikeMirrored 1 = .ok (.getfield 45, 3) := by decide +kernel
theorem dX2_isLikeMirrored_4 : decode cX2_isLikeMirrored 4 = .ok (.iload_n 1, 1) := by decide +kernel
theorem dX2_isLikeMirrored_5 : decode cX2_isLikeMirrored 5 = .ok (.aload_n 0, 1) := by decide +kernel
theorem dX2_isLikeMirrored_6 : decode cX2_isLikeMirrored 6 = .ok (.getfield 29, 3) := by decide +kernel
theorem dX2_isLikeMirrored_9 : decode cX2_isLikeMirrored 9 = .ok (.invokevirtual 55, 3) := by decide +kernel
theorem dX2_isLikeMirrored_12 : decode cX2_isLikeMirrored 12 = .ok (.aload_n 0, 1) := by decide +kernel
theorem dX2_isLikeMirrored_13 : decode cX2_isLikeMirrored 13 = .ok (.getfield 29, 3) := by decide +kernel
theorem dX2_isLikeMirrored_16 : decode cX2_isLikeMirrored 16 = .ok (.invokevirtual 70, 3) := by decide +kernel
theorem dX2_isLikeMirrored_19 : decode cX2_isLikeMirrored 19 = .ok (.aload_n 0, 1) := by decide +kernel
theorem dX2_isLikeMirrored_20 : decode cX2_isLikeMirrored 20 = .ok (.getfield 18, 3) := by decide +kernel
theorem dX2_isLikeMirrored_23 : decode cX2_isLikeMirrored 23 = .ok (.aload_n 0, 1) := by decide +kernel
theorem dX2_isLikeMirrored_24 : decode cX2_isLikeMirrored 24 = .ok (.getfield 29, 3) := by decide +kernel
theorem dX2_isLikeMirrored_27 : decode cX2_isLikeMirrored 27 = .ok (.invokevirtual 59, 3) := by decide +kernel
theorem dX2_isLikeMirrored_30 : decode cX2_isLikeMirrored 30 = .ok (.aload_n 0, 1) := by decide +kernel
theorem dX2_isLikeMirrored_31 : decode cX2_isLikeMirrored 31 = .ok (.getfield 11, 3) := by decide +kernel
theorem dX2_isLikeMirrored_34 : decode cX2_isLikeMirrored 34 = .ok (.iload_n 1, 1) := by decide +kernel
theorem dX2_isLikeMirrored_35 : decode cX2_isLikeMirrored 35 = .ok (.aaload, 1) := by decide +kernel
theorem dX2_isLikeMirrored_36 : decode cX2_isLikeMirrored 36 = .ok (.aload_n 0, 1) := by decide +kernel
theorem dX2_isLikeMirrored_37 : decode cX2_isLikeMirrored 37 = .ok (.getfield 18, 3) := by decide +kernel
theorem dX2_isLikeMirrored_40 : decode cX2_isLikeMirrored 40 = .ok (.invokevirtual 63, 3) := by decide +kernel
theorem dX2_isLikeMirrored_43 : decode cX2_isLikeMirrored 43 = .ok (.ireturn, 1) := by decide +kernel
theorem dX2_countTwins_0 : decode cX2_countTwins 0 = .ok (.iconst 0, 1) := by decide +kernel
theorem dX2_countTwins_1 : decode cX2_countTwins 1 = .ok (.istore_n 1, 1) := by decide +kernel
theorem dX2_countTwins_2 : decode cX2_countTwins 2 = .ok (.iconst 0, 1) := by decide +kernel
theorem dX2_countTwins_3 : decode cX2_countTwins 3 = .ok (.istore_n 2, 1) := by decide +kernel
theorem dX2_countTwins_4 : decode cX2_countTwins 4 = .ok (.iload_n 2, 1) := by decide +kernel
theorem dX2_countTwins_5 : decode cX2_countTwins 5 = .ok (.aload_n 0, 1) := by decide +kernel
theorem dX2_countTwins_6 : decode cX2_countTwins 6 = .ok (.getfield 45, 3) := by decide +kernel
theorem dX2_countTwins_9 : decode cX2_countTwins 9 = .ok (.invokevirtual 49, 3) := by decide +kernel
theorem dX2_countTwins_12 : decode cX2_countTwins 12 = .ok (.if_icmp .ge 20, 3) := by decide +kernel
theorem dX2_countTwins_15 : decode cX2_countTwins 15 = .ok (.aload_n 0, 1) := by decide +kernel
theorem dX2_countTwins_16 : decode cX2_countTwins 16 = .ok (.iload_n 2, 1) := by decide +kernel
theorem dX2_countTwins_17 : decode cX2_countTwins 17 = .ok (.invokevirtual 73, 3) := by decide +kernel
theorem dX2_countTwins_20 : decode cX2_countTwins 20 = .ok (.ifCond .eq 6, 3) := by decide +kernel
theorem dX2_countTwins_23 : decode cX2_countTwins 23 = .ok (.iinc 1 1, 3) := by decide +kernel
theorem dX2_countTwins_26 : decode cX2_countTwins 26 = .ok (.iinc 2 1, 3) := by decide +kernel
theorem dX2_countTwins_29 : decode cX2_countTwins 29 = .ok (.goto (-25), 3) := by decide +kernel
theorem dX2_countTwins_32 : decode cX2_countTwins 32 = .ok (.iload_n 1, 1) := by decide +kernel
theorem dX2_countTwins_33 : decode cX2_countTwins 33 = .ok (.ireturn, 1) := by decide +kernel
theorem dX2_familyOf_0 : decode cX2_familyOf 0 = .ok (.iconst 0, 1) := by decide +kernel
theorem dX2_familyOf_1 : decode cX2_familyOf 1 = .ok (.istore_n 2, 1) := by decide +kernel
theorem dX2_familyOf_2 : decode cX2_familyOf 2 = .ok (.iconst 0, 1) := by decide +kernel
theorem dX2_familyOf_3 : decode cX2_familyOf 3 = .ok (.istore_n 3, 1) := by decide +kernel
theorem dX2_familyOf_4 : decode cX2_familyOf 4 = .ok (.iload_n 3, 1) := by decide +kernel
theorem dX2_familyOf_5 : decode cX2_familyOf 5 = .ok (.aload_n 0, 1) := by decide +kernel
theorem dX2_familyOf_6 : decode cX2_familyOf 6 = .ok (.getfield 45, 3) := by decide +kernel
theorem dX2_familyOf_9 : decode cX2_familyOf 9 = .ok (.invokevirtual 49, 3) := by decide +kernel
theorem dX2_familyOf_12 : decode cX2_familyOf 12 = .ok (.if_icmp .ge 24, 3) := by decide +kernel
theorem dX2_familyOf_15 : decode cX2_familyOf 15 = .ok (.aload_n 0, 1) := by decide +kernel
theorem dX2_familyOf_16 : decode cX2_familyOf 16 = .ok (.iload_n 1, 1) := by decide +kernel
theorem dX2_familyOf_17 : decode cX2_familyOf 17 = .ok (.iload_n 3, 1) := by decide +kernel
theorem dX2_familyOf_18 : decode cX2_familyOf 18 = .ok (.invokevirtual 77, 3) := by decide +kernel
theorem dX2_familyOf_21 : decode cX2_familyOf 21 = .ok (.ifCond .eq 9, 3) := by decide +kernel
theorem dX2_familyOf_24 : decode cX2_familyOf 24 = .ok (.iload_n 2, 1) := by decide +kernel
theorem dX2_familyOf_25 : decode cX2_familyOf 25 = .ok (.iconst 1, 1) := by decide +kernel
theorem dX2_familyOf_26 : decode cX2_familyOf 26 = .ok (.iload_n 3, 1) := by decide +kernel
theorem dX2_familyOf_27 : decode cX2_familyOf 27 = .ok (.ishl, 1) := by decide +kernel
theorem dX2_familyOf_28 : decode cX2_familyOf 28 = .ok (.ior, 1) := by decide +kernel
theorem dX2_familyOf_29 : decode cX2_familyOf 29 = .ok (.istore_n 2, 1) := by decide +kernel
theorem dX2_familyOf_30 : decode cX2_familyOf 30 = .ok (.iinc 3 1, 3) := by decide +kernel
theorem dX2_familyOf_33 : decode cX2_familyOf 33 = .ok (.goto (-29), 3) := by decide +kernel
theorem dX2_familyOf_36 : decode cX2_familyOf 36 = .ok (.iload_n 2, 1) := by decide +kernel
theorem dX2_familyOf_37 : decode cX2_familyOf 37 = .ok (.ireturn, 1) := by decide +kernel
theorem dX2_countFamilies_0 : decode cX2_countFamilies 0 = .ok (.iconst 0, 1) := by decide +kernel
theorem dX2_countFamilies_1 : decode cX2_countFamilies 1 = .ok (.istore_n 1, 1) := by decide +kernel
theorem dX2_countFamilies_2 : decode cX2_countFamilies 2 = .ok (.iconst 0, 1) := by decide +kernel
theorem dX2_countFamilies_3 : decode cX2_countFamilies 3 = .ok (.istore_n 2, 1) := by decide +kernel
theorem dX2_countFamilies_4 : decode cX2_countFamilies 4 = .ok (.iload_n 2, 1) := by decide +kernel
theorem dX2_countFamilies_5 : decode cX2_countFamilies 5 = .ok (.aload_n 0, 1) := by decide +kernel
theorem dX2_countFamilies_6 : decode cX2_countFamilies 6 = .ok (.getfield 45, 3) := by decide +kernel
theorem dX2_countFamilies_9 : decode cX2_countFamilies 9 = .ok (.invokevirtual 49, 3) := by decide +kernel
theorem dX2_countFamilies_12 : decode cX2_countFamilies 12 = .ok (.if_icmp .ge 24, 3) := by decide +kernel
theorem dX2_countFamilies_15 : decode cX2_countFamilies 15 = .ok (.aload_n 0, 1) := by decide +kernel
theorem dX2_countFamilies_16 : decode cX2_countFamilies 16 = .ok (.iload_n 2, 1) := by decide +kernel
theorem dX2_countFamilies_17 : decode cX2_countFamilies 17 = .ok (.invokevirtual 81, 3) := by decide +kernel
theorem dX2_countFamilies_20 : decode cX2_countFamilies 20 = .ok (.invokestatic 85, 3) := by decide +kernel
theorem dX2_countFamilies_23 : decode cX2_countFamilies 23 = .ok (.iload_n 2, 1) := by decide +kernel
theorem dX2_countFamilies_24 : decode cX2_countFamilies 24 = .ok (.if_icmp .ne 6, 3) := by decide +kernel
theorem dX2_countFamilies_27 : decode cX2_countFamilies 27 = .ok (.iinc 1 1, 3) := by decide +kernel
theorem dX2_countFamilies_30 : decode cX2_countFamilies 30 = .ok (.iinc 2 1, 3) := by decide +kernel
theorem dX2_countFamilies_33 : decode cX2_countFamilies 33 = .ok (.goto (-29), 3) := by decide +kernel
theorem dX2_countFamilies_36 : decode cX2_countFamilies 36 = .ok (.iload_n 1, 1) := by decide +kernel
theorem dX2_countFamilies_37 : decode cX2_countFamilies 37 = .ok (.ireturn, 1) := by decide +kernel
theorem dX2_greatestFamily_0 : decode cX2_greatestFamily 0 = .ok (.iconst 0, 1) := by decide +kernel
theorem dX2_greatestFamily_1 : decode cX2_greatestFamily 1 = .ok (.istore_n 1, 1) := by decide +kernel
theorem dX2_greatestFamily_2 : decode cX2_greatestFamily 2 = .ok (.iconst 0, 1) := by decide +kernel
theorem dX2_greatestFamily_3 : decode cX2_greatestFamily 3 = .ok (.istore_n 2, 1) := by decide +kernel
theorem dX2_greatestFamily_4 : decode cX2_greatestFamily 4 = .ok (.iload_n 2, 1) := by decide +kernel
theorem dX2_greatestFamily_5 : decode cX2_greatestFamily 5 = .ok (.aload_n 0, 1) := by decide +kernel
theorem dX2_greatestFamily_6 : decode cX2_greatestFamily 6 = .ok (.getfield 45, 3) := by decide +kernel
theorem dX2_greatestFamily_9 : decode cX2_greatestFamily 9 = .ok (.invokevirtual 49, 3) := by decide +kernel
theorem dX2_greatestFamily_12 : decode cX2_greatestFamily 12 = .ok (.if_icmp .ge 28, 3) := by decide +kernel
theorem dX2_greatestFamily_15 : decode cX2_greatestFamily 15 = .ok (.aload_n 0, 1) := by decide +kernel
theorem dX2_greatestFamily_16 : decode cX2_greatestFamily 16 = .ok (.iload_n 2, 1) := by decide +kernel
theorem dX2_greatestFamily_17 : decode cX2_greatestFamily 17 = .ok (.invokevirtual 81, 3) := by decide +kernel
theorem dX2_greatestFamily_20 : decode cX2_greatestFamily 20 = .ok (.istore_n 3, 1) := by decide +kernel
theorem dX2_greatestFamily_21 : decode cX2_greatestFamily 21 = .ok (.iload_n 3, 1) := by decide +kernel
theorem dX2_greatestFamily_22 : decode cX2_greatestFamily 22 = .ok (.invokestatic 90, 3) := by decide +kernel
theorem dX2_greatestFamily_25 : decode cX2_greatestFamily 25 = .ok (.iload_n 1, 1) := by decide +kernel
theorem dX2_greatestFamily_26 : decode cX2_greatestFamily 26 = .ok (.invokestatic 90, 3) := by decide +kernel
theorem dX2_greatestFamily_29 : decode cX2_greatestFamily 29 = .ok (.if_icmp .le 5, 3) := by decide +kernel
theorem dX2_greatestFamily_32 : decode cX2_greatestFamily 32 = .ok (.iload_n 3, 1) := by decide +kernel
theorem dX2_greatestFamily_33 : decode cX2_greatestFamily 33 = .ok (.istore_n 1, 1) := by decide +kernel
theorem dX2_greatestFamily_34 : decode cX2_greatestFamily 34 = .ok (.iinc 2 1, 3) := by decide +kernel
theorem dX2_greatestFamily_37 : decode cX2_greatestFamily 37 = .ok (.goto (-33), 3) := by decide +kernel
theorem dX2_greatestFamily_40 : decode cX2_greatestFamily 40 = .ok (.iload_n 1, 1) := by decide +kernel
theorem dX2_greatestFamily_41 : decode cX2_greatestFamily 41 = .ok (.ireturn, 1) := by decide +kernel
theorem dX2_goTogether_0 : decode cX2_goTogether 0 = .ok (.aload_n 0, 1) := by decide +kernel
theorem dX2_goTogether_1 : decode cX2_goTogether 1 = .ok (.getfield 45, 3) := by decide +kernel
theorem dX2_goTogether_4 : decode cX2_goTogether 4 = .ok (.iload_n 1, 1) := by decide +kernel
theorem dX2_goTogether_5 : decode cX2_goTogether 5 = .ok (.aload_n 0, 1) := by decide +kernel
theorem dX2_goTogether_6 : decode cX2_goTogether 6 = .ok (.getfield 25, 3) := by decide +kernel
theorem dX2_goTogether_9 : decode cX2_goTogether 9 = .ok (.invokevirtual 55, 3) := by decide +kernel
theorem dX2_goTogether_12 : decode cX2_goTogether 12 = .ok (.aload_n 0, 1) := by decide +kernel
theorem dX2_goTogether_13 : decode cX2_goTogether 13 = .ok (.getfield 45, 3) := by decide +kernel
theorem dX2_goTogether_16 : decode cX2_goTogether 16 = .ok (.iload_n 2, 1) := by decide +kernel
theorem dX2_goTogether_17 : decode cX2_goTogether 17 = .ok (.aload_n 0, 1) := by decide +kernel
theorem dX2_goTogether_18 : decode cX2_goTogether 18 = .ok (.getfield 29, 3) := by decide +kernel
theorem dX2_goTogether_21 : decode cX2_goTogether 21 = .ok (.invokevirtual 55, 3) := by decide +kernel
theorem dX2_goTogether_24 : decode cX2_goTogether 24 = .ok (.aload_n 0, 1) := by decide +kernel
theorem dX2_goTogether_25 : decode cX2_goTogether 25 = .ok (.getfield 32, 3) := by decide +kernel
theorem dX2_goTogether_28 : decode cX2_goTogether 28 = .ok (.aload_n 0, 1) := by decide +kernel
theorem dX2_goTogether_29 : decode cX2_goTogether 29 = .ok (.getfield 25, 3) := by decide +kernel
theorem dX2_goTogether_32 : decode cX2_goTogether 32 = .ok (.aload_n 0, 1) := by decide +kernel
theorem dX2_goTogether_33 : decode cX2_goTogether 33 = .ok (.getfield 29, 3) := by decide +kernel
theorem dX2_goTogether_36 : decode cX2_goTogether 36 = .ok (.invokevirtual 93, 3) := by decide +kernel
theorem dX2_goTogether_39 : decode cX2_goTogether 39 = .ok (.aload_n 0, 1) := by decide +kernel
theorem dX2_goTogether_40 : decode cX2_goTogether 40 = .ok (.getfield 35, 3) := by decide +kernel
theorem dX2_goTogether_43 : decode cX2_goTogether 43 = .ok (.aload_n 0, 1) := by decide +kernel
theorem dX2_goTogether_44 : decode cX2_goTogether 44 = .ok (.getfield 29, 3) := by decide +kernel
theorem dX2_goTogether_47 : decode cX2_goTogether 47 = .ok (.aload_n 0, 1) := by decide +kernel
theorem dX2_goTogether_48 : decode cX2_goTogether 48 = .ok (.getfield 25, 3) := by decide +kernel
theorem dX2_goTogether_51 : decode cX2_goTogether 51 = .ok (.invokevirtual 93, 3) := by decide +kernel
theorem dX2_goTogether_54 : decode cX2_goTogether 54 = .ok (.aload_n 0, 1) := by decide +kernel
theorem dX2_goTogether_55 : decode cX2_goTogether 55 = .ok (.getfield 32, 3) := by decide +kernel
theorem dX2_goTogether_58 : decode cX2_goTogether 58 = .ok (.aload_n 0, 1) := by decide +kernel
theorem dX2_goTogether_59 : decode cX2_goTogether 59 = .ok (.getfield 35, 3) := by decide +kernel
theorem dX2_goTogether_62 : decode cX2_goTogether 62 = .ok (.invokevirtual 97, 3) := by decide +kernel
theorem dX2_goTogether_65 : decode cX2_goTogether 65 = .ok (.ireturn, 1) := by decide +kernel
theorem dX2_begins_0 : decode cX2_begins 0 = .ok (.aload_n 0, 1) := by decide +kernel
theorem dX2_begins_1 : decode cX2_begins 1 = .ok (.getfield 45, 3) := by decide +kernel
theorem dX2_begins_4 : decode cX2_begins 4 = .ok (.iload_n 1, 1) := by decide +kernel
theorem dX2_begins_5 : decode cX2_begins 5 = .ok (.aload_n 0, 1) := by decide +kernel
theorem dX2_begins_6 : decode cX2_begins 6 = .ok (.getfield 25, 3) := by decide +kernel
theorem dX2_begins_9 : decode cX2_begins 9 = .ok (.invokevirtual 55, 3) := by decide +kernel
theorem dX2_begins_12 : decode cX2_begins 12 = .ok (.aload_n 0, 1) := by decide +kernel
theorem dX2_begins_13 : decode cX2_begins 13 = .ok (.getfield 45, 3) := by decide +kernel
theorem dX2_begins_16 : decode cX2_begins 16 = .ok (.iload_n 2, 1) := by decide +kernel
theorem dX2_begins_17 : decode cX2_begins 17 = .ok (.aload_n 0, 1) := by decide +kernel
theorem dX2_begins_18 : decode cX2_begins 18 = .ok (.getfield 29, 3) := by decide +kernel
theorem dX2_begins_21 : decode cX2_begins 21 = .ok (.invokevirtual 55, 3) := by decide +kernel
theorem dX2_begins_24 : decode cX2_begins 24 = .ok (.aload_n 0, 1) := by decide +kernel
theorem dX2_begins_25 : decode cX2_begins 25 = .ok (.getfield 11, 3) := by decide +kernel
theorem dX2_begins_28 : decode cX2_begins 28 = .ok (.iload_n 1, 1) := by decide +kernel
theorem dX2_begins_29 : decode cX2_begins 29 = .ok (.aaload, 1) := by decide +kernel
theorem dX2_begins_30 : decode cX2_begins 30 = .ok (.invokevirtual 101, 3) := by decide +kernel
theorem dX2_begins_33 : decode cX2_begins 33 = .ok (.iconst 3, 1) := by decide +kernel
theorem dX2_begins_34 : decode cX2_begins 34 = .ok (.if_icmp .ne 20, 3) := by decide +kernel
theorem dX2_begins_37 : decode cX2_begins 37 = .ok (.aload_n 0, 1) := by decide +kernel
theorem dX2_begins_38 : decode cX2_begins 38 = .ok (.getfield 11, 3) := by decide +kernel
theorem dX2_begins_41 : decode cX2_begins 41 = .ok (.iload_n 2, 1) := by decide +kernel
theorem dX2_begins_42 : decode cX2_begins 42 = .ok (.aaload, 1) := by decide +kernel
theorem dX2_begins_43 : decode cX2_begins 43 = .ok (.invokevirtual 101, 3) := by decide +kernel
theorem dX2_begins_46 : decode cX2_begins 46 = .ok (.iconst 3, 1) := by decide +kernel
theorem dX2_begins_47 : decode cX2_begins 47 = .ok (.if_icmp .ne 7, 3) := by decide +kernel
theorem dX2_begins_50 : decode cX2_begins 50 = .ok (.iconst 1, 1) := by decide +kernel
theorem dX2_begins_51 : decode cX2_begins 51 = .ok (.goto 4, 3) := by decide +kernel
theorem dX2_begins_54 : decode cX2_begins 54 = .ok (.iconst 0, 1) := by decide +kernel
theorem dX2_begins_55 : decode cX2_begins 55 = .ok (.istore_n 3, 1) := by decide +kernel
theorem dX2_begins_56 : decode cX2_begins 56 = .ok (.iload_n 3, 1) := by decide +kernel
theorem dX2_begins_57 : decode cX2_begins 57 = .ok (.ifCond .eq 23, 3) := by decide +kernel
theorem dX2_begins_60 : decode cX2_begins 60 = .ok (.aload_n 0, 1) := by decide +kernel
theorem dX2_begins_61 : decode cX2_begins 61 = .ok (.getfield 25, 3) := by decide +kernel
theorem dX2_begins_64 : decode cX2_begins 64 = .ok (.invokevirtual 104, 3) := by decide +kernel
theorem dX2_begins_67 : decode cX2_begins 67 = .ok (.ifCond .eq 13, 3) := by decide +kernel
theorem dX2_begins_70 : decode cX2_begins 70 = .ok (.aload_n 0, 1) := by decide +kernel
theorem dX2_begins_71 : decode cX2_begins 71 = .ok (.getfield 29, 3) := by decide +kernel
theorem dX2_begins_74 : decode cX2_begins 74 = .ok (.invokevirtual 104, 3) := by decide +kernel
theorem dX2_begins_77 : decode cX2_begins 77 = .ok (.ifCond .ne 5, 3) := by decide +kernel
theorem dX2_begins_80 : decode cX2_begins 80 = .ok (.iconst (-1), 1) := by decide +kernel
theorem dX2_begins_81 : decode cX2_begins 81 = .ok (.ireturn, 1) := by decide +kernel
theorem dX2_begins_82 : decode cX2_begins 82 = .ok (.aload_n 0, 1) := by decide +kernel
theorem dX2_begins_83 : decode cX2_begins 83 = .ok (.getfield 41, 3) := by decide +kernel
theorem dX2_begins_86 : decode cX2_begins 86 = .ok (.aload_n 0, 1) := by decide +kernel
theorem dX2_begins_87 : decode cX2_begins 87 = .ok (.getfield 25, 3) := by decide +kernel
theorem dX2_begins_90 : decode cX2_begins 90 = .ok (.invokevirtual 108, 3) := by decide +kernel
theorem dX2_begins_93 : decode cX2_begins 93 = .ok (.lconst 0, 1) := by decide +kernel
theorem dX2_begins_94 : decode cX2_begins 94 = .ok (.lstore 4, 2) := by decide +kernel
theorem dX2_begins_96 : decode cX2_begins 96 = .ok (.iconst 0, 1) := by decide +kernel
theorem dX2_begins_97 : decode cX2_begins 97 = .ok (.istore 6, 2) := by decide +kernel
theorem dX2_begins_99 : decode cX2_begins 99 = .ok (.iload 6, 2) := by decide +kernel
theorem dX2_begins_101 : decode cX2_begins 101 = .ok (.bipush 40, 2) := by decide +kernel
theorem dX2_begins_103 : decode cX2_begins 103 = .ok (.if_icmp .gt 50, 3) := by decide +kernel
theorem dX2_begins_106 : decode cX2_begins 106 = .ok (.aload_n 0, 1) := by decide +kernel
theorem dX2_begins_107 : decode cX2_begins 107 = .ok (.getfield 41, 3) := by decide +kernel
theorem dX2_begins_110 : decode cX2_begins 110 = .ok (.aload_n 0, 1) := by decide +kernel
theorem dX2_begins_111 : decode cX2_begins 111 = .ok (.getfield 29, 3) := by decide +kernel
theorem dX2_begins_114 : decode cX2_begins 114 = .ok (.invokevirtual 111, 3) := by decide +kernel
theorem dX2_begins_117 : decode cX2_begins 117 = .ok (.lstore 7, 2) := by decide +kernel
theorem dX2_begins_119 : decode cX2_begins 119 = .ok (.lload 7, 2) := by decide +kernel
theorem dX2_begins_121 : decode cX2_begins 121 = .ok (.ldc2_w 115, 3) := by decide +kernel
theorem dX2_begins_124 : decode cX2_begins 124 = .ok (.lcmp, 1) := by decide +kernel
theorem dX2_begins_125 : decode cX2_begins 125 = .ok (.ifCond .eq 10, 3) := by decide +kernel
theorem dX2_begins_128 : decode cX2_begins 128 = .ok (.lload 4, 2) := by decide +kernel
theorem dX2_begins_130 : decode cX2_begins 130 = .ok (.lload 7, 2) := by decide +kernel
theorem dX2_begins_132 : decode cX2_begins 132 = .ok (.ladd, 1) := by decide +kernel
theorem dX2_begins_133 : decode cX2_begins 133 = .ok (.l2i, 1) := by decide +kernel
theorem dX2_begins_134 : decode cX2_begins 134 = .ok (.ireturn, 1) := by decide +kernel
theorem dX2_begins_135 : decode cX2_begins 135 = .ok (.lload 4, 2) := by decide +kernel
theorem dX2_begins_137 : decode cX2_begins 137 = .ok (.aload_n 0, 1) := by decide +kernel
theorem dX2_begins_138 : decode cX2_begins 138 = .ok (.getfield 41, 3) := by decide +kernel
theorem dX2_begins_141 : decode cX2_begins 141 = .ok (.invokevirtual 117, 3) := by decide +kernel
theorem dX2_begins_144 : decode cX2_begins 144 = .ok (.ladd, 1) := by decide +kernel
theorem dX2_begins_145 : decode cX2_begins 145 = .ok (.lstore 4, 2) := by decide +kernel
theorem dX2_begins_147 : decode cX2_begins 147 = .ok (.iinc 6 1, 3) := by decide +kernel
theorem dX2_begins_150 : decode cX2_begins 150 = .ok (.goto (-51), 3) := by decide +kernel
theorem dX2_begins_153 : decode cX2_begins 153 = .ok (.iconst (-1), 1) := by decide +kernel
theorem dX2_begins_154 : decode cX2_begins 154 = .ok (.ireturn, 1) := by decide +kernel
theorem dX3_init_0 : decode cX3_init 0 = .ok (.aload_n 0, 1) := by decide +kernel
theorem dX3_init_1 : decode cX3_init 1 = .ok (.invokespecial 3, 3) := by decide +kernel
theorem dX3_init_4 : decode cX3_init 4 = .ok (.aload_n 0, 1) := by decide +kernel
theorem dX3_init_5 : decode cX3_init 5 = .ok (.new 9, 3) := by decide +kernel
theorem dX3_init_8 : decode cX3_init 8 = .ok (.dup, 1) := by decide +kernel
theorem dX3_init_9 : decode cX3_init 9 = .ok (.invokespecial 11, 3) := by decide +kernel
theorem dX3_init_12 : decode cX3_init 12 = .ok (.putfield 12, 3) := by decide +kernel
theorem dX3_init_15 : decode cX3_init 15 = .ok (.aload_n 0, 1) := by decide +kernel
theorem dX3_init_16 : decode cX3_init 16 = .ok (.new 18, 3) := by decide +kernel
theorem dX3_init_19 : decode cX3_init 19 = .ok (.dup, 1) := by decide +kernel
theorem dX3_init_20 : decode cX3_init 20 = .ok (.invokespecial 20, 3) := by decide +kernel
theorem dX3_init_23 : decode cX3_init 23 = .ok (.putfield 21, 3) := by decide +kernel
theorem dX3_init_26 : decode cX3_init 26 = .ok (.aload_n 0, 1) := by decide +kernel
theorem dX3_init_27 : decode cX3_init 27 = .ok (.iconst 0, 1) := by decide +kernel
theorem dX3_init_28 : decode cX3_init 28 = .ok (.putfield 25, 3) := by decide +kernel
theorem dX3_init_31 : decode cX3_init 31 = .ok (.aload_n 0, 1) := by decide +kernel
theorem dX3_init_32 : decode cX3_init 32 = .ok (.iconst 0, 1) := by decide +kernel
theorem dX3_init_33 : decode cX3_init 33 = .ok (.putfield 29, 3) := by decide +kernel
theorem dX3_init_36 : decode cX3_init 36 = .ok (.return_, 1) := by decide +kernel
theorem dX3_lookAt_0 : decode cX3_lookAt 0 = .ok (.aload_n 0, 1) := by decide +kernel
theorem dX3_lookAt_1 : decode cX3_lookAt 1 = .ok (.getfield 12, 3) := by decide +kernel
theorem dX3_lookAt_4 : decode cX3_lookAt 4 = .ok (.aload_n 1, 1) := by decide +kernel
theorem dX3_lookAt_5 : decode cX3_lookAt 5 = .ok (.invokevirtual 32, 3) := by decide +kernel
theorem dX3_lookAt_8 : decode cX3_lookAt 8 = .ok (.ifCond .eq 4, 3) := by decide +kernel
theorem dX3_lookAt_11 : decode cX3_lookAt 11 = .ok (.return_, 1) := by decide +kernel
theorem dX3_lookAt_12 : decode cX3_lookAt 12 = .ok (.aload_n 0, 1) := by decide +kernel
theorem dX3_lookAt_13 : decode cX3_lookAt 13 = .ok (.getfield 12, 3) := by decide +kernel
theorem dX3_lookAt_16 : decode cX3_lookAt 16 = .ok (.aload_n 1, 1) := by decide +kernel
theorem dX3_lookAt_17 : decode cX3_lookAt 17 = .ok (.invokevirtual 36, 3) := by decide +kernel
theorem dX3_lookAt_20 : decode cX3_lookAt 20 = .ok (.aload_n 0, 1) := by decide +kernel
theorem dX3_lookAt_21 : decode cX3_lookAt 21 = .ok (.aload_n 1, 1) := by decide +kernel
theorem dX3_lookAt_22 : decode cX3_lookAt 22 = .ok (.invokestatic 40, 3) := by decide +kernel
theorem dX3_lookAt_25 : decode cX3_lookAt 25 = .ok (.putfield 25, 3) := by decide +kernel
theorem dX3_lookAt_28 : decode cX3_lookAt 28 = .ok (.aload_n 0, 1) := by decide +kernel
theorem dX3_lookAt_29 : decode cX3_lookAt 29 = .ok (.aload_n 0, 1) := by decide +kernel
theorem dX3_lookAt_30 : decode cX3_lookAt 30 = .ok (.aload_n 1, 1) := by decide +kernel
theorem dX3_lookAt_31 : decode cX3_lookAt 31 = .ok (.invokevirtual 44, 3) := by decide +kernel
theorem dX3_lookAt_34 : decode cX3_lookAt 34 = .ok (.putfield 29, 3) := by decide +kernel
theorem dX3_lookAt_37 : decode cX3_lookAt 37 = .ok (.aload_n 0, 1) := by decide +kernel
theorem dX3_lookAt_38 : decode cX3_lookAt 38 = .ok (.getfield 25, 3) := by decide +kernel
theorem dX3_lookAt_41 : decode cX3_lookAt 41 = .ok (.iconst 3, 1) := by decide +kernel
theorem dX3_lookAt_42 : decode cX3_lookAt 42 = .ok (.if_icmp .ne 14, 3) := by decide +kernel
theorem dX3_lookAt_45 : decode cX3_lookAt 45 = .ok (.aload_n 0, 1) := by decide +kernel
theorem dX3_lookAt_46 : decode cX3_lookAt 46 = .ok (.getfield 21, 3) := by decide +kernel
theorem dX3_lookAt_49 : decode cX3_lookAt 49 = .ok (.aload_n 1, 1) := by decide +kernel
theorem dX3_lookAt_50 : decode cX3_lookAt 50 = .ok (.invokevirtual 47, 3) := by decide +kernel
theorem dX3_lookAt_53 : decode cX3_lookAt 53 = .ok (.goto 10, 3) := by decide +kernel
theorem dX3_lookAt_56 : decode cX3_lookAt 56 = .ok (.aload_n 0, 1) := by decide +kernel
theorem dX3_lookAt_57 : decode cX3_lookAt 57 = .ok (.getfield 21, 3) := by decide +kernel
theorem dX3_lookAt_60 : decode cX3_lookAt 60 = .ok (.invokevirtual 50, 3) := by decide +kernel
theorem dX3_lookAt_63 : decode cX3_lookAt 63 = .ok (.return_, 1) := by decide +kernel
theorem dX3_kindOf_0 : decode cX3_kindOf 0 = .ok (.aload_n 0, 1) := by decide +kernel
theorem dX3_kindOf_1 : decode cX3_kindOf 1 = .ok (.invokevirtual 53, 3) := by decide +kernel
theorem dX3_kindOf_4 : decode cX3_kindOf 4 = .ok (.invokestatic 57, 3) := by decide +kernel
theorem dX3_kindOf_7 : decode cX3_kindOf 7 = .ok (.lstore_n 1, 1) := by decide +kernel
theorem dX3_kindOf_8 : decode cX3_kindOf 8 = .ok (.lload_n 1, 1) := by decide +kernel
theorem dX3_kindOf_9 : decode cX3_kindOf 9 = .ok (.ldc2_w 63, 3) := by decide +kernel
theorem dX3_kindOf_12 : decode cX3_kindOf 12 = .ok (.lcmp, 1) := by decide +kernel
theorem dX3_kindOf_13 : decode cX3_kindOf 13 = .ok (.ifCond .ge 5, 3) := by decide +kernel
theorem dX3_kindOf_16 : decode cX3_kindOf 16 = .ok (.iconst 1, 1) := by decide +kernel
theorem dX3_kindOf_17 : decode cX3_kindOf 17 = .ok (.ireturn, 1) := by decide +kernel
theorem dX3_kindOf_18 : decode cX3_kindOf 18 = .ok (.lload_n 1, 1) := by decide +kernel
theorem dX3_kindOf_19 : decode cX3_kindOf 19 = .ok (.ldc2_w 63, 3) := by decide +kernel
theorem dX3_kindOf_22 : decode cX3_kindOf 22 = .ok (.lcmp, 1) := by decide +kernel
theorem dX3_kindOf_23 : decode cX3_kindOf 23 = .ok (.ifCond .le 5, 3) := by decide +kernel
theorem dX3_kindOf_26 : decode cX3_kindOf 26 = .ok (.iconst 3, 1) := by decide +kernel
theorem dX3_kindOf_27 : decode cX3_kindOf 27 = .ok (.ireturn, 1) := by decide +kernel
theorem dX3_kindOf_28 : decode cX3_kindOf 28 = .ok (.aload_n 0, 1) := by decide +kernel
theorem dX3_kindOf_29 : decode cX3_kindOf 29 = .ok (.getfield 65, 3) := by decide +kernel
theorem dX3_kindOf_32 : decode cX3_kindOf 32 = .ok (.lconst 0, 1) := by decide +kernel
theorem dX3_kindOf_33 : decode cX3_kindOf 33 = .ok (.lcmp, 1) := by decide +kernel
theorem dX3_kindOf_34 : decode cX3_kindOf 34 = .ok (.ifCond .ne 16, 3) := by decide +kernel
theorem dX3_kindOf_37 : decode cX3_kindOf 37 = .ok (.aload_n 0, 1) := by decide +kernel
theorem dX3_kindOf_38 : decode cX3_kindOf 38 = .ok (.getfield 69, 3) := by decide +kernel
theorem dX3_kindOf_41 : decode cX3_kindOf 41 = .ok (.lconst 0, 1) := by decide +kernel
theorem dX3_kindOf_42 : decode cX3_kindOf 42 = .ok (.lcmp, 1) := by decide +kernel
theorem dX3_kindOf_43 : decode cX3_kindOf 43 = .ok (.ifCond .ne 7, 3) := by decide +kernel
theorem dX3_kindOf_46 : decode cX3_kindOf 46 = .ok (.iconst 0, 1) := by decide +kernel
theorem dX3_kindOf_47 : decode cX3_kindOf 47 = .ok (.goto 4, 3) := by decide +kernel
theorem dX3_kindOf_50 : decode cX3_kindOf 50 = .ok (.iconst 2, 1) := by decide +kernel
theorem dX3_kindOf_51 : decode cX3_kindOf 51 = .ok (.ireturn, 1) := by decide +kernel
theorem dX3_markOf_0 : decode cX3_markOf 0 = .ok (.aload_n 0, 1) := by decide +kernel
theorem dX3_markOf_1 : decode cX3_markOf 1 = .ok (.getfield 25, 3) := by decide +kernel
theorem dX3_markOf_4 : decode cX3_markOf 4 = .ok (.iconst 1, 1) := by decide +kernel
theorem dX3_markOf_5 : decode cX3_markOf 5 = .ok (.if_icmp .ne 11, 3) := by decide +kernel
theorem dX3_markOf_8 : decode cX3_markOf 8 = .ok (.aload_n 1, 1) := by decide +kernel
theorem dX3_markOf_9 : decode cX3_markOf 9 = .ok (.getfield 69, 3) := by decide +kernel
theorem dX3_markOf_12 : decode cX3_markOf 12 = .ok (.invokestatic 72, 3) := by decide +kernel
theorem dX3_markOf_15 : decode cX3_markOf 15 = .ok (.ireturn, 1) := by decide +kernel
theorem dX3_markOf_16 : decode cX3_markOf 16 = .ok (.aload_n 0, 1) := by decide +kernel
theorem dX3_markOf_17 : decode cX3_markOf 17 = .ok (.getfield 25, 3) := by decide +kernel
theorem dX3_markOf_20 : decode cX3_markOf 20 = .ok (.iconst 2, 1) := by decide +kernel
theorem dX3_markOf_21 : decode cX3_markOf 21 = .ok (.if_icmp .ne 10, 3) := by decide +kernel
theorem dX3_markOf_24 : decode cX3_markOf 24 = .ok (.aload_n 1, 1) := by decide +kernel
theorem dX3_markOf_25 : decode cX3_markOf 25 = .ok (.invokestatic 78, 3) := by decide +kernel
theorem dX3_markOf_28 : decode cX3_markOf 28 = .ok (.goto 4, 3) := by decide +kernel
theorem dX3_markOf_31 : decode cX3_markOf 31 = .ok (.iconst 0, 1) := by decide +kernel
theorem dX3_markOf_32 : decode cX3_markOf 32 = .ok (.ireturn, 1) := by decide +kernel
theorem dX3_measureShift_0 : decode cX3_measureShift 0 = .ok (.aload_n 0, 1) := by decide +kernel
theorem dX3_measureShift_1 : decode cX3_measureShift 1 = .ok (.getfield 65, 3) := by decide +kernel
theorem dX3_measureShift_4 : decode cX3_measureShift 4 = .ok (.invokestatic 57, 3) := by decide +kernel
theorem dX3_measureShift_7 : decode cX3_measureShift 7 = .ok (.aload_n 0, 1) := by decide +kernel
theorem dX3_measureShift_8 : decode cX3_measureShift 8 = .ok (.getfield 69, 3) := by decide +kernel
theorem dX3_measureShift_11 : decode cX3_measureShift 11 = .ok (.invokestatic 57, 3) := by decide +kernel
theorem dX3_measureShift_14 : decode cX3_measureShift 14 = .ok (.invokestatic 81, 3) := by decide +kernel
theorem dX3_measureShift_17 : decode cX3_measureShift 17 = .ok (.lstore_n 1, 1) := by decide +kernel
theorem dX3_measureShift_18 : decode cX3_measureShift 18 = .ok (.aload_n 0, 1) := by decide +kernel
theorem dX3_measureShift_19 : decode cX3_measureShift 19 = .ok (.getfield 65, 3) := by decide +kernel
theorem dX3_measureShift_22 : decode cX3_measureShift 22 = .ok (.lconst 0, 1) := by decide +kernel
theorem dX3_measureShift_23 : decode cX3_measureShift 23 = .ok (.lcmp, 1) := by decide +kernel
theorem dX3_measureShift_24 : decode cX3_measureShift 24 = .ok (.ifCond .gt 12, 3) := by decide +kernel
theorem dX3_measureShift_27 : decode cX3_measureShift 27 = .ok (.aload_n 0, 1) := by decide +kernel
theorem dX3_measureShift_28 : decode cX3_measureShift 28 = .ok (.getfield 69, 3) := by decide +kernel
theorem dX3_measureShift_31 : decode cX3_measureShift 31 = .ok (.lconst 0, 1) := by decide +kernel
theorem dX3_measureShift_32 : decode cX3_measureShift 32 = .ok (.lcmp, 1) := by decide +kernel
theorem dX3_measureShift_33 : decode cX3_measureShift 33 = .ok (.ifCond .ge 7, 3) := by decide +kernel
theorem dX3_measureShift_36 : decode cX3_measureShift 36 = .ok (.iconst 1, 1) := by decide +kernel
theorem dX3_measureShift_37 : decode cX3_measureShift 37 = .ok (.goto 4, 3) := by decide +kernel
theorem dX3_measureShift_40 : decode cX3_measureShift 40 = .ok (.iconst 0, 1) := by decide +kernel
theorem dX3_measureShift_41 : decode cX3_measureShift 41 = .ok (.istore_n 3, 1) := by decide +kernel
theorem dX3_measureShift_42 : decode cX3_measureShift 42 = .ok (.aload_n 0, 1) := by decide +kernel
theorem dX3_measureShift_43 : decode cX3_measureShift 43 = .ok (.invokevirtual 53, 3) := by decide +kernel
theorem dX3_measureShift_46 : decode cX3_measureShift 46 = .ok (.lconst 0, 1) := by decide +kernel
theorem dX3_measureShift_47 : decode cX3_measureShift 47 = .ok (.lcmp, 1) := by decide +kernel
theorem dX3_measureShift_48 : decode cX3_measureShift 48 = .ok (.ifCond .ge 7, 3) := by decide +kernel
theorem dX3_measureShift_51 : decode cX3_measureShift 51 = .ok (.iconst 1, 1) := by decide +kernel
theorem dX3_measureShift_52 : decode cX3_measureShift 52 = .ok (.goto 4, 3) := by decide +kernel
theorem dX3_measureShift_55 : decode cX3_measureShift 55 = .ok (.iconst 0, 1) := by decide +kernel
theorem dX3_measureShift_56 : decode cX3_measureShift 56 = .ok (.istore 4, 2) := by decide +kernel
theorem dX3_measureShift_58 : decode cX3_measureShift 58 = .ok (.iload_n 3, 1) := by decide +kernel
theorem dX3_measureShift_59 : decode cX3_measureShift 59 = .ok (.iload 4, 2) := by decide +kernel
theorem dX3_measureShift_61 : decode cX3_measureShift 61 = .ok (.if_icmp .ne 8, 3) := by decide +kernel
theorem dX3_measureShift_64 : decode cX3_measureShift 64 = .ok (.lload_n 1, 1) := by decide +kernel
theorem dX3_measureShift_65 : decode cX3_measureShift 65 = .ok (.lneg, 1) := by decide +kernel
theorem dX3_measureShift_66 : decode cX3_measureShift 66 = .ok (.goto 4, 3) := by decide +kernel
theorem dX3_measureShift_69 : decode cX3_measureShift 69 = .ok (.lload_n 1, 1) := by decide +kernel
theorem dX3_measureShift_70 : decode cX3_measureShift 70 = .ok (.l2i, 1) := by decide +kernel
theorem dX3_measureShift_71 : decode cX3_measureShift 71 = .ok (.ireturn, 1) := by decide +kernel
theorem dX3_commonPart_0 : decode cX3_commonPart 0 = .ok (.lload_n 0, 1) := by decide +kernel
theorem dX3_commonPart_1 : decode cX3_commonPart 1 = .ok (.lstore 4, 2) := by decide +kernel
theorem dX3_commonPart_3 : decode cX3_commonPart 3 = .ok (.lload_n 2, 1) := by decide +kernel
theorem dX3_commonPart_4 : decode cX3_commonPart 4 = .ok (.lstore 6, 2) := by decide +kernel
theorem dX3_commonPart_6 : decode cX3_commonPart 6 = .ok (.iconst 0, 1) := by decide +kernel
theorem dX3_commonPart_7 : decode cX3_commonPart 7 = .ok (.istore 8, 2) := by decide +kernel
theorem dX3_commonPart_9 : decode cX3_commonPart 9 = .ok (.iload 8, 2) := by decide +kernel
theorem dX3_commonPart_11 : decode cX3_commonPart 11 = .ok (.bipush 64, 2) := by decide +kernel
theorem dX3_commonPart_13 : decode cX3_commonPart 13 = .ok (.if_icmp .ge 31, 3) := by decide +kernel
theorem dX3_commonPart_16 : decode cX3_commonPart 16 = .ok (.lload 6, 2) := by decide +kernel
theorem dX3_commonPart_18 : decode cX3_commonPart 18 = .ok (.lconst 0, 1) := by decide +kernel
theorem dX3_commonPart_19 : decode cX3_commonPart 19 = .ok (.lcmp, 1) := by decide +kernel
theorem dX3_commonPart_20 : decode cX3_commonPart 20 = .ok (.ifCond .eq 24, 3) := by decide +kernel
theorem dX3_commonPart_23 : decode cX3_commonPart 23 = .ok (.lload 4, 2) := by decide +kernel
theorem dX3_commonPart_25 : decode cX3_commonPart 25 = .ok (.lload 6, 2) := by decide +kernel
theorem dX3_commonPart_27 : decode cX3_commonPart 27 = .ok (.lrem, 1) := by decide +kernel
theorem dX3_commonPart_28 : decode cX3_commonPart 28 = .ok (.lstore 9, 2) := by decide +kernel
theorem dX3_commonPart_30 : decode cX3_commonPart 30 = .ok (.lload 6, 2) := by decide +kernel
theorem dX3_commonPart_32 : decode cX3_commonPart 32 = .ok (.lstore 4, 2) := by decide +kernel
theorem dX3_commonPart_34 : decode cX3_commonPart 34 = .ok (.lload 9, 2) := by decide +kernel
theorem dX3_commonPart_36 : decode cX3_commonPart 36 = .ok (.lstore 6, 2) := by decide +kernel
theorem dX3_commonPart_38 : decode cX3_commonPart 38 = .ok (.iinc 8 1, 3) := by decide +kernel
theorem dX3_commonPart_41 : decode cX3_commonPart 41 = .ok (.goto (-32), 3) := by decide +kernel
theorem dX3_commonPart_44 : decode cX3_commonPart 44 = .ok (.lload 4, 2) := by decide +kernel
theorem dX3_commonPart_46 : decode cX3_commonPart 46 = .ok (.lreturn, 1) := by decide +kernel
theorem dX3_isLike_0 : decode cX3_isLike 0 = .ok (.aload_n 0, 1) := by decide +kernel
theorem dX3_isLike_1 : decode cX3_isLike 1 = .ok (.getfield 25, 3) := by decide +kernel
theorem dX3_isLike_4 : decode cX3_isLike 4 = .ok (.aload_n 1, 1) := by decide +kernel
theorem dX3_isLike_5 : decode cX3_isLike 5 = .ok (.getfield 25, 3) := by decide +kernel
theorem dX3_isLike_8 : decode cX3_isLike 8 = .ok (.if_icmp .ne 43, 3) := by decide +kernel
theorem dX3_isLike_11 : decode cX3_isLike 11 = .ok (.aload_n 0, 1) := by decide +kernel
theorem dX3_isLike_12 : decode cX3_isLike 12 = .ok (.getfield 29, 3) := by decide +kernel
theorem dX3_isLike_15 : decode cX3_isLike 15 = .ok (.aload_n 1, 1) := by decide +kernel
theorem dX3_isLike_16 : decode cX3_isLike 16 = .ok (.getfield 29, 3) := by decide +kernel
theorem dX3_isLike_19 : decode cX3_isLike 19 = .ok (.if_icmp .ne 32, 3) := by decide +kernel
theorem dX3_isLike_22 : decode cX3_isLike 22 = .ok (.aload_n 0, 1) := by decide +kernel
theorem dX3_isLike_23 : decode cX3_isLike 23 = .ok (.invokevirtual 85, 3) := by decide +kernel
theorem dX3_isLike_26 : decode cX3_isLike 26 = .ok (.aload_n 1, 1) := by decide +kernel
theorem dX3_isLike_27 : decode cX3_isLike 27 = .ok (.invokevirtual 85, 3) := by decide +kernel
theorem dX3_isLike_30 : decode cX3_isLike 30 = .ok (.if_icmp .ne 21, 3) := by decide +kernel
theorem dX3_isLike_33 : decode cX3_isLike 33 = .ok (.aload_n 0, 1) := by decide +kernel
theorem dX3_isLike_34 : decode cX3_isLike 34 = .ok (.getfield 21, 3) := by decide +kernel
theorem dX3_isLike_37 : decode cX3_isLike 37 = .ok (.aload_n 1, 1) := by decide +kernel
theorem dX3_isLike_38 : decode cX3_isLike 38 = .ok (.getfield 21, 3) := by decide +kernel
theorem dX3_isLike_41 : decode cX3_isLike 41 = .ok (.invokevirtual 88, 3) := by decide +kernel
theorem dX3_isLike_44 : decode cX3_isLike 44 = .ok (.ifCond .eq 7, 3) := by decide +kernel
theorem dX3_isLike_47 : decode cX3_isLike 47 = .ok (.iconst 1, 1) := by decide +kernel
theorem dX3_isLike_48 : decode cX3_isLike 48 = .ok (.goto 4, 3) := by decide +kernel
theorem dX3_isLike_51 : decode cX3_isLike 51 = .ok (.iconst 0, 1) := by decide +kernel
theorem dX3_isLike_52 : decode cX3_isLike 52 = .ok (.ireturn, 1) := by decide +kernel
theorem dX3_kind_0 : decode cX3_kind 0 = .ok (.aload_n 0, 1) := by decide +kernel
theorem dX3_kind_1 : decode cX3_kind 1 = .ok (.getfield 25, 3) := by decide +kernel
theorem dX3_kind_4 : decode cX3_kind 4 = .ok (.ireturn, 1) := by decide +kernel
theorem dX3_trace_0 : decode cX3_trace 0 = .ok (.aload_n 0, 1) := by decide +kernel
theorem dX3_trace_1 : decode cX3_trace 1 = .ok (.getfield 12, 3) := by decide +kernel
theorem dX3_trace_4 : decode cX3_trace 4 = .ok (.invokevirtual 53, 3) := by decide +kernel
theorem dX3_trace_7 : decode cX3_trace 7 = .ok (.l2i, 1) := by decide +kernel
theorem dX3_trace_8 : decode cX3_trace 8 = .ok (.ireturn, 1) := by decide +kernel
theorem dX3_sign_0 : decode cX3_sign 0 = .ok (.aload_n 0, 1) := by decide +kernel
theorem dX3_sign_1 : decode cX3_sign 1 = .ok (.invokevirtual 85, 3) := by decide +kernel
theorem dX3_sign_4 : decode cX3_sign 4 = .ok (.ifCond .ge 7, 3) := by decide +kernel
theorem dX3_sign_7 : decode cX3_sign 7 = .ok (.iconst (-1), 1) := by decide +kernel
theorem dX3_sign_8 : decode cX3_sign 8 = .ok (.goto 4, 3) := by decide +kernel
theorem dX3_sign_11 : decode cX3_sign 11 = .ok (.iconst 1, 1) := by decide +kernel
theorem dX3_sign_12 : decode cX3_sign 12 = .ok (.ireturn, 1) := by decide +kernel
theorem dX3_order_0 : decode cX3_order 0 = .ok (.aload_n 0, 1) := by decide +kernel
theorem dX3_order_1 : decode cX3_order 1 = .ok (.getfield 25, 3) := by decide +kernel
theorem dX3_order_4 : decode cX3_order 4 = .ok (.ifCond .ne 16, 3) := by decide +kernel
theorem dX3_order_7 : decode cX3_order 7 = .ok (.aload_n 0, 1) := by decide +kernel
theorem dX3_order_8 : decode cX3_order 8 = .ok (.invokevirtual 85, 3) := by decide +kernel
theorem dX3_order_11 : decode cX3_order 11 = .ok (.ifCond .le 7, 3) := by decide +kernel
theorem dX3_order_14 : decode cX3_order 14 = .ok (.iconst 1, 1) := by decide +kernel
theorem dX3_order_15 : decode cX3_order 15 = .ok (.goto 4, 3) := by decide +kernel
theorem dX3_order_18 : decode cX3_order 18 = .ok (.iconst 2, 1) := by decide +kernel
theorem dX3_order_19 : decode cX3_order 19 = .ok (.ireturn, 1) := by decide +kernel
theorem dX3_order_20 : decode cX3_order 20 = .ok (.aload_n 0, 1) := by decide +kernel
theorem dX3_order_21 : decode cX3_order 21 = .ok (.getfield 25, 3) := by decide +kernel
theorem dX3_order_24 : decode cX3_order 24 = .ok (.iconst 1, 1) := by decide +kernel
theorem dX3_order_25 : decode cX3_order 25 = .ok (.if_icmp .ne 28, 3) := by decide +kernel
theorem dX3_order_28 : decode cX3_order 28 = .ok (.aload_n 0, 1) := by decide +kernel
theorem dX3_order_29 : decode cX3_order 29 = .ok (.invokevirtual 85, 3) := by decide +kernel
theorem dX3_order_32 : decode cX3_order 32 = .ok (.ifCond .ne 7, 3) := by decide +kernel
theorem dX3_order_35 : decode cX3_order 35 = .ok (.iconst 4, 1) := by decide +kernel
theorem dX3_order_36 : decode cX3_order 36 = .ok (.goto 16, 3) := by decide +kernel
theorem dX3_order_39 : decode cX3_order 39 = .ok (.aload_n 0, 1) := by decide +kernel
theorem dX3_order_40 : decode cX3_order 40 = .ok (.invokevirtual 85, 3) := by decide +kernel
theorem dX3_order_43 : decode cX3_order 43 = .ok (.ifCond .le 8, 3) := by decide +kernel
theorem dX3_order_46 : decode cX3_order 46 = .ok (.bipush 6, 2) := by decide +kernel
theorem dX3_order_48 : decode cX3_order 48 = .ok (.goto 4, 3) := by decide +kernel
theorem dX3_order_51 : decode cX3_order 51 = .ok (.iconst 3, 1) := by decide +kernel
theorem dX3_order_52 : decode cX3_order 52 = .ok (.ireturn, 1) := by decide +kernel
theorem dX3_order_53 : decode cX3_order 53 = .ok (.iconst (-1), 1) := by decide +kernel
theorem dX3_order_54 : decode cX3_order 54 = .ok (.ireturn, 1) := by decide +kernel
theorem dX3_mark_0 : decode cX3_mark 0 = .ok (.aload_n 0, 1) := by decide +kernel
theorem dX3_mark_1 : decode cX3_mark 1 = .ok (.getfield 29, 3) := by decide +kernel
theorem dX3_mark_4 : decode cX3_mark 4 = .ok (.ireturn, 1) := by decide +kernel
theorem dX3_wheel_0 : decode cX3_wheel 0 = .ok (.aload_n 0, 1) := by decide +kernel
theorem dX3_wheel_1 : decode cX3_wheel 1 = .ok (.getfield 21, 3) := by decide +kernel
theorem dX3_wheel_4 : decode cX3_wheel 4 = .ok (.areturn, 1) := by decide +kernel
theorem dX4_init_0 : decode cX4_init 0 = .ok (.aload_n 0, 1) := by decide +kernel
theorem dX4_init_1 : decode cX4_init 1 = .ok (.invokespecial 3, 3) := by decide +kernel
theorem dX4_init_4 : decode cX4_init 4 = .ok (.aload_n 0, 1) := by decide +kernel
theorem dX4_init_5 : decode cX4_init 5 = .ok (.bipush 20, 2) := by decide +kernel
theorem dX4_init_7 : decode cX4_init 7 = .ok (.anewarray 9, 3) := by decide +kernel
theorem dX4_init_10 : decode cX4_init 10 = .ok (.putfield 11, 3) := by decide +kernel
theorem dX4_init_13 : decode cX4_init 13 = .ok (.aload_n 0, 1) := by decide +kernel
theorem dX4_init_14 : decode cX4_init 14 = .ok (.iconst 0, 1) := by decide +kernel
theorem dX4_init_15 : decode cX4_init 15 = .ok (.putfield 17, 3) := by decide +kernel
theorem dX4_init_18 : decode cX4_init 18 = .ok (.aload_n 0, 1) := by decide +kernel
theorem dX4_init_19 : decode cX4_init 19 = .ok (.iconst 0, 1) := by decide +kernel
theorem dX4_init_20 : decode cX4_init 20 = .ok (.putfield 21, 3) := by decide +kernel
theorem dX4_init_23 : decode cX4_init 23 = .ok (.iconst 0, 1) := by decide +kernel
theorem dX4_init_24 : decode cX4_init 24 = .ok (.istore_n 1, 1) := by decide +kernel
theorem dX4_init_25 : decode cX4_init 25 = .ok (.iload_n 1, 1) := by decide +kernel
theorem dX4_init_26 : decode cX4_init 26 = .ok (.bipush 20, 2) := by decide +kernel
theorem dX4_init_28 : decode cX4_init 28 = .ok (.if_icmp .ge 22, 3) := by decide +kernel
theorem dX4_init_31 : decode cX4_init 31 = .ok (.aload_n 0, 1) := by decide +kernel
theorem dX4_init_32 : decode cX4_init 32 = .ok (.getfield 11, 3) := by decide +kernel
theorem dX4_init_35 : decode cX4_init 35 = .ok (.iload_n 1, 1) := by decide +kernel
theorem dX4_init_36 : decode cX4_init 36 = .ok (.new 9, 3) := by decide +kernel
theorem dX4_init_39 : decode cX4_init 39 = .ok (.dup, 1) := by decide +kernel
theorem dX4_init_40 : decode cX4_init 40 = .ok (.invokespecial 24, 3) := by decide +kernel
theorem dX4_init_43 : decode cX4_init 43 = .ok (.aastore, 1) := by decide +kernel
theorem dX4_init_44 : decode cX4_init 44 = .ok (.iinc 1 1, 3) := by decide +kernel
theorem dX4_init_47 : decode cX4_init 47 = .ok (.goto (-22), 3) := by decide +kernel
theorem dX4_init_50 : decode cX4_init 50 = .ok (.return_, 1) := by decide +kernel
theorem dX4_length_0 : decode cX4_length 0 = .ok (.aload_n 0, 1) := by decide +kernel
theorem dX4_length_1 : decode cX4_length 1 = .ok (.getfield 21, 3) := by decide +kernel
theorem dX4_length_4 : decode cX4_length 4 = .ok (.ireturn, 1) := by decide +kernel
theorem dX4_remember_0 : decode cX4_remember 0 = .ok (.aload_n 0, 1) := by decide +kernel
theorem dX4_remember_1 : decode cX4_remember 1 = .ok (.getfield 11, 3) := by decide +kernel
theorem dX4_remember_4 : decode cX4_remember 4 = .ok (.aload_n 0, 1) := by decide +kernel
theorem dX4_remember_5 : decode cX4_remember 5 = .ok (.getfield 17, 3) := by decide +kernel
theorem dX4_remember_8 : decode cX4_remember 8 = .ok (.aaload, 1) := by decide +kernel
theorem dX4_remember_9 : decode cX4_remember 9 = .ok (.aload_n 1, 1) := by decide +kernel
theorem dX4_remember_10 : decode cX4_remember 10 = .ok (.invokevirtual 25, 3) := by decide +kernel
theorem dX4_remember_13 : decode cX4_remember 13 = .ok (.aload_n 0, 1) := by decide +kernel
theorem dX4_remember_14 : decode cX4_remember 14 = .ok (.aload_n 0, 1) := by decide +kernel
theorem dX4_remember_15 : decode cX4_remember 15 = .ok (.getfield 17, 3) := by decide +kernel
theorem dX4_remember_18 : decode cX4_remember 18 = .ok (.iconst 1, 1) := by decide +kernel
theorem dX4_remember_19 : decode cX4_remember 19 = .ok (.iadd, 1) := by decide +kernel
theorem dX4_remember_20 : decode cX4_remember 20 = .ok (.bipush 20, 2) := by decide +kernel
theorem dX4_remember_22 : decode cX4_remember 22 = .ok (.irem, 1) := by decide +kernel
theorem dX4_remember_23 : decode cX4_remember 23 = .ok (.putfield 17, 3) := by decide +kernel
theorem dX4_remember_26 : decode cX4_remember 26 = .ok (.aload_n 0, 1) := by decide +kernel
theorem dX4_remember_27 : decode cX4_remember 27 = .ok (.aload_n 0, 1) := by decide +kernel
theorem dX4_remember_28 : decode cX4_remember 28 = .ok (.getfield 21, 3) := by decide +kernel
theorem dX4_remember_31 : decode cX4_remember 31 = .ok (.iconst 1, 1) := by decide +kernel
theorem dX4_remember_32 : decode cX4_remember 32 = .ok (.iadd, 1) := by decide +kernel
theorem dX4_remember_33 : decode cX4_remember 33 = .ok (.bipush 20, 2) := by decide +kernel
theorem dX4_remember_35 : decode cX4_remember 35 = .ok (.invokestatic 29, 3) := by decide +kernel
theorem dX4_remember_38 : decode cX4_remember 38 = .ok (.putfield 21, 3) := by decide +kernel
theorem dX4_remember_41 : decode cX4_remember 41 = .ok (.return_, 1) := by decide +kernel
theorem dX4_restore_0 : decode cX4_restore 0 = .ok (.aload_n 0, 1) := by decide +kernel
theorem dX4_restore_1 : decode cX4_restore 1 = .ok (.aload_n 0, 1) := by decide +kernel
theorem dX4_restore_2 : decode cX4_restore 2 = .ok (.getfield 17, 3) := by decide +kernel
theorem dX4_restore_5 : decode cX4_restore 5 = .ok (.iload_n 1, 1) := by decide +kernel
theorem dX4_restore_6 : decode cX4_restore 6 = .ok (.isub, 1) := by decide +kernel
theorem dX4_restore_7 : decode cX4_restore 7 = .ok (.bipush 20, 2) := by decide +kernel
theorem dX4_restore_9 : decode cX4_restore 9 = .ok (.invokestatic 35, 3) := by decide +kernel
theorem dX4_restore_12 : decode cX4_restore 12 = .ok (.putfield 17, 3) := by decide +kernel
theorem dX4_restore_15 : decode cX4_restore 15 = .ok (.aload_n 0, 1) := by decide +kernel
theorem dX4_restore_16 : decode cX4_restore 16 = .ok (.dup, 1) := by decide +kernel
theorem dX4_restore_17 : decode cX4_restore 17 = .ok (.getfield 21, 3) := by decide +kernel
theorem dX4_restore_20 : decode cX4_restore 20 = .ok (.iload_n 1, 1) := by decide +kernel
theorem dX4_restore_21 : decode cX4_restore 21 = .ok (.isub, 1) := by decide +kernel
theorem dX4_restore_22 : decode cX4_restore 22 = .ok (.putfield 21, 3) := by decide +kernel
theorem dX4_restore_25 : decode cX4_restore 25 = .ok (.aload_n 2, 1) := by decide +kernel
theorem dX4_restore_26 : decode cX4_restore 26 = .ok (.aload_n 0, 1) := by decide +kernel
theorem dX4_restore_27 : decode cX4_restore 27 = .ok (.getfield 11, 3) := by decide +kernel
theorem dX4_restore_30 : decode cX4_restore 30 = .ok (.aload_n 0, 1) := by decide +kernel
theorem dX4_restore_31 : decode cX4_restore 31 = .ok (.getfield 17, 3) := by decide +kernel
theorem dX4_restore_34 : decode cX4_restore 34 = .ok (.aaload, 1) := by decide +kernel
theorem dX4_restore_35 : decode cX4_restore 35 = .ok (.invokevirtual 25, 3) := by decide +kernel
theorem dX4_restore_38 : decode cX4_restore 38 = .ok (.return_, 1) := by decide +kernel
theorem dX4_forget_0 : decode cX4_forget 0 = .ok (.aload_n 0, 1) := by decide +kernel
theorem dX4_forget_1 : decode cX4_forget 1 = .ok (.iconst 0, 1) := by decide +kernel
theorem dX4_forget_2 : decode cX4_forget 2 = .ok (.putfield 21, 3) := by decide +kernel
theorem dX4_forget_5 : decode cX4_forget 5 = .ok (.return_, 1) := by decide +kernel
theorem dX5_init_0 : decode cX5_init 0 = .ok (.aload_n 0, 1) := by decide +kernel
theorem dX5_init_1 : decode cX5_init 1 = .ok (.invokespecial 3, 3) := by decide +kernel
theorem dX5_init_4 : decode cX5_init 4 = .ok (.aload_n 0, 1) := by decide +kernel
theorem dX5_init_5 : decode cX5_init 5 = .ok (.bipush 48, 2) := by decide +kernel
theorem dX5_init_7 : decode cX5_init 7 = .ok (.newarray .int, 2) := by decide +kernel
theorem dX5_init_9 : decode cX5_init 9 = .ok (.putfield 11, 3) := by decide +kernel
theorem dX5_init_12 : decode cX5_init 12 = .ok (.aload_n 0, 1) := by decide +kernel
theorem dX5_init_13 : decode cX5_init 13 = .ok (.iconst 0, 1) := by decide +kernel
theorem dX5_init_14 : decode cX5_init 14 = .ok (.putfield 15, 3) := by decide +kernel
theorem dX5_init_17 : decode cX5_init 17 = .ok (.return_, 1) := by decide +kernel
theorem dX5_size_0 : decode cX5_size 0 = .ok (.aload_n 0, 1) := by decide +kernel
theorem dX5_size_1 : decode cX5_size 1 = .ok (.getfield 15, 3) := by decide +kernel
theorem dX5_size_4 : decode cX5_size 4 = .ok (.ireturn, 1) := by decide +kernel
theorem dX5_isFull_0 : decode cX5_isFull 0 = .ok (.aload_n 0, 1) := by decide +kernel
theorem dX5_isFull_1 : decode cX5_isFull 1 = .ok (.getfield 15, 3) := by decide +kernel
theorem dX5_isFull_4 : decode cX5_isFull 4 = .ok (.bipush 12, 2) := by decide +kernel
theorem dX5_isFull_6 : decode cX5_isFull 6 = .ok (.if_icmp .lt 7, 3) := by decide +kernel
theorem dX5_isFull_9 : decode cX5_isFull 9 = .ok (.iconst 1, 1) := by decide +kernel
theorem dX5_isFull_10 : decode cX5_isFull 10 = .ok (.goto 4, 3) := by decide +kernel
theorem dX5_isFull_13 : decode cX5_isFull 13 = .ok (.iconst 0, 1) := by decide +kernel
theorem dX5_isFull_14 : decode cX5_isFull 14 = .ok (.ireturn, 1) := by decide +kernel
theorem dX5_has_0 : decode cX5_has 0 = .ok (.iload_n 1, 1) := by decide +kernel
theorem dX5_has_1 : decode cX5_has 1 = .ok (.ifCond .lt 15, 3) := by decide +kernel
theorem dX5_has_4 : decode cX5_has 4 = .ok (.iload_n 1, 1) := by decide +kernel
theorem dX5_has_5 : decode cX5_has 5 = .ok (.aload_n 0, 1) := by decide +kernel
theorem dX5_has_6 : decode cX5_has 6 = .ok (.getfield 15, 3) := by decide +kernel
theorem dX5_has_9 : decode cX5_has 9 = .ok (.if_icmp .ge 7, 3) := by decide +kernel
theorem dX5_has_12 : decode cX5_has 12 = .ok (.iconst 1, 1) := by decide +kernel
theorem dX5_has_13 : decode cX5_has 13 = .ok (.goto 4, 3) := by decide +kernel
theorem dX5_has_16 : decode cX5_has 16 = .ok (.iconst 0, 1) := by decide +kernel
theorem dX5_has_17 : decode cX5_has 17 = .ok (.ireturn, 1) := by decide +kernel
theorem dX5_cell_0 : decode cX5_cell 0 = .ok (.aload_n 0, 1) := by decide +kernel
theorem dX5_cell_1 : decode cX5_cell 1 = .ok (.getfield 11, 3) := by decide +kernel
theorem dX5_cell_4 : decode cX5_cell 4 = .ok (.iload_n 1, 1) := by decide +kernel
theorem dX5_cell_5 : decode cX5_cell 5 = .ok (.iconst 4, 1) := by decide +kernel
theorem dX5_cell_6 : decode cX5_cell 6 = .ok (.imul, 1) := by decide +kernel
theorem dX5_cell_7 : decode cX5_cell 7 = .ok (.iload_n 2, 1) := by decide +kernel
theorem dX5_cell_8 : decode cX5_cell 8 = .ok (.iadd, 1) := by decide +kernel
theorem dX5_cell_9 : decode cX5_cell 9 = .ok (.iaload, 1) := by decide +kernel
theorem dX5_cell_10 : decode cX5_cell 10 = .ok (.ireturn, 1) := by decide +kernel
theorem dX5_load_0 : decode cX5_load 0 = .ok (.iload_n 1, 1) := by decide +kernel
theorem dX5_load_1 : decode cX5_load 1 = .ok (.iconst 4, 1) := by decide +kernel
theorem dX5_load_2 : decode cX5_load 2 = .ok (.imul, 1) := by decide +kernel
theorem dX5_load_3 : decode cX5_load 3 = .ok (.istore_n 3, 1) := by decide +kernel
theorem dX5_load_4 : decode cX5_load 4 = .ok (.aload_n 2, 1) := by decide +kernel
theorem dX5_load_5 : decode cX5_load 5 = .ok (.aload_n 0, 1) := by decide +kernel
theorem dX5_load_6 : decode cX5_load 6 = .ok (.getfield 11, 3) := by decide +kernel
theorem dX5_load_9 : decode cX5_load 9 = .ok (.iload_n 3, 1) := by decide +kernel
theorem dX5_load_10 : decode cX5_load 10 = .ok (.iaload, 1) := by decide +kernel
theorem dX5_load_11 : decode cX5_load 11 = .ok (.i2l, 1) := by decide +kernel
theorem dX5_load_12 : decode cX5_load 12 = .ok (.aload_n 0, 1) := by decide +kernel
theorem dX5_load_13 : decode cX5_load 13 = .ok (.getfield 11, 3) := by decide +kernel
theorem dX5_load_16 : decode cX5_load 16 = .ok (.iload_n 3, 1) := by decide +kernel
theorem dX5_load_17 : decode cX5_load 17 = .ok (.iconst 1, 1) := by decide +kernel
theorem dX5_load_18 : decode cX5_load 18 = .ok (.iadd, 1) := by decide +kernel
theorem dX5_load_19 : decode cX5_load 19 = .ok (.iaload, 1) := by decide +kernel
theorem dX5_load_20 : decode cX5_load 20 = .ok (.i2l, 1) := by decide +kernel
theorem dX5_load_21 : decode cX5_load 21 = .ok (.aload_n 0, 1) := by decide +kernel
theorem dX5_load_22 : decode cX5_load 22 = .ok (.getfield 11, 3) := by decide +kernel
theorem dX5_load_25 : decode cX5_load 25 = .ok (.iload_n 3, 1) := by decide +kernel
theorem dX5_load_26 : decode cX5_load 26 = .ok (.iconst 2, 1) := by decide +kernel
theorem dX5_load_27 : decode cX5_load 27 = .ok (.iadd, 1) := by decide +kernel
theorem dX5_load_28 : decode cX5_load 28 = .ok (.iaload, 1) := by decide +kernel
theorem dX5_load_29 : decode cX5_load 29 = .ok (.i2l, 1) := by decide +kernel
theorem dX5_load_30 : decode cX5_load 30 = .ok (.aload_n 0, 1) := by decide +kernel
theorem dX5_load_31 : decode cX5_load 31 = .ok (.getfield 11, 3) := by decide +kernel
theorem dX5_load_34 : decode cX5_load 34 = .ok (.iload_n 3, 1) := by decide +kernel
theorem dX5_load_35 : decode cX5_load 35 = .ok (.iconst 3, 1) := by decide +kernel
theorem dX5_load_36 : decode cX5_load 36 = .ok (.iadd, 1) := by decide +kernel
theorem dX5_load_37 : decode cX5_load 37 = .ok (.iaload, 1) := by decide +kernel
theorem dX5_load_38 : decode cX5_load 38 = .ok (.i2l, 1) := by decide +kernel
theorem dX5_load_39 : decode cX5_load 39 = .ok (.invokevirtual 19, 3) := by decide +kernel
theorem dX5_load_42 : decode cX5_load 42 = .ok (.return_, 1) := by decide +kernel
theorem dX5_store_0 : decode cX5_store 0 = .ok (.aload_n 0, 1) := by decide +kernel
theorem dX5_store_1 : decode cX5_store 1 = .ok (.iload_n 1, 1) := by decide +kernel
theorem dX5_store_2 : decode cX5_store 2 = .ok (.iconst 0, 1) := by decide +kernel
theorem dX5_store_3 : decode cX5_store 3 = .ok (.invokevirtual 25, 3) := by decide +kernel
theorem dX5_store_6 : decode cX5_store 6 = .ok (.i2l, 1) := by decide +kernel
theorem dX5_store_7 : decode cX5_store 7 = .ok (.aload_n 2, 1) := by decide +kernel
theorem dX5_store_8 : decode cX5_store 8 = .ok (.getfield 29, 3) := by decide +kernel
theorem dX5_store_11 : decode cX5_store 11 = .ok (.lcmp, 1) := by decide +kernel
theorem dX5_store_12 : decode cX5_store 12 = .ok (.ifCond .ne 48, 3) := by decide +kernel
theorem dX5_store_15 : decode cX5_store 15 = .ok (.aload_n 0, 1) := by decide +kernel
theorem dX5_store_16 : decode cX5_store 16 = .ok (.iload_n 1, 1) := by decide +kernel
theorem dX5_store_17 : decode cX5_store 17 = .ok (.iconst 1, 1) := by decide +kernel
theorem dX5_store_18 : decode cX5_store 18 = .ok (.invokevirtual 25, 3) := by decide +kernel
theorem dX5_store_21 : decode cX5_store 21 = .ok (.i2l, 1) := by decide +kernel
theorem dX5_store_22 : decode cX5_store 22 = .ok (.aload_n 2, 1) := by decide +kernel
theorem dX5_store_23 : decode cX5_store 23 = .ok (.getfield 33, 3) := by decide +kernel
theorem dX5_store_26 : decode cX5_store 26 = .ok (.lcmp, 1) := by decide +kernel
theorem dX5_store_27 : decode cX5_store 27 = .ok (.ifCond .ne 33, 3) := by decide +kernel
theorem dX5_store_30 : decode cX5_store 30 = .ok (.aload_n 0, 1) := by decide +kernel
theorem dX5_store_31 : decode cX5_store 31 = .ok (.iload_n 1, 1) := by decide +kernel
theorem dX5_store_32 : decode cX5_store 32 = .ok (.iconst 2, 1) := by decide +kernel
theorem dX5_store_33 : decode cX5_store 33 = .ok (.invokevirtual 25, 3) := by decide +kernel
theorem dX5_store_36 : decode cX5_store 36 = .ok (.i2l, 1) := by decide +kernel
theorem dX5_store_37 : decode cX5_store 37 = .ok (.aload_n 2, 1) := by decide +kernel
theorem dX5_store_38 : decode cX5_store 38 = .ok (.getfield 36, 3) := by decide +kernel
theorem dX5_store_41 : decode cX5_store 41 = .ok (.lcmp, 1) := by decide +kernel
theorem dX5_store_42 : decode cX5_store 42 = .ok (.ifCond .ne 18, 3) := by decide +kernel
theorem dX5_store_45 : decode cX5_store 45 = .ok (.aload_n 0, 1) := by decide +kernel
theorem dX5_store_46 : decode cX5_store 46 = .ok (.iload_n 1, 1) := by decide +kernel
theorem dX5_store_47 : decode cX5_store 47 = .ok (.iconst 3, 1) := by decide +kernel
theorem dX5_store_48 : decode cX5_store 48 = .ok (.invokevirtual 25, 3) := by decide +kernel
theorem dX5_store_51 : decode cX5_store 51 = .ok (.i2l, 1) := by decide +kernel
theorem dX5_store_52 : decode cX5_store 52 = .ok (.aload_n 2, 1) := by decide +kernel
theorem dX5_store_53 : decode cX5_store 53 = .ok (.getfield 39, 3) := by decide +kernel
theorem dX5_store_56 : decode cX5_store 56 = .ok (.lcmp, 1) := by decide +kernel
theorem dX5_store_57 : decode cX5_store 57 = .ok (.ifCond .eq 7, 3) := by decide +kernel
theorem dX5_store_60 : decode cX5_store 60 = .ok (.iconst 1, 1) := by decide +kernel
theorem dX5_store_61 : decode cX5_store 61 = .ok (.goto 4, 3) := by decide +kernel
theorem dX5_store_64 : decode cX5_store 64 = .ok (.iconst 0, 1) := by decide +kernel
theorem dX5_store_65 : decode cX5_store 65 = .ok (.istore_n 3, 1) := by decide +kernel
theorem dX5_store_66 : decode cX5_store 66 = .ok (.iload_n 1, 1) := by decide +kernel
theorem dX5_store_67 : decode cX5_store 67 = .ok (.iconst 4, 1) := by decide +kernel
theorem dX5_store_68 : decode cX5_store 68 = .ok (.imul, 1) := by decide +kernel
theorem dX5_store_69 : decode cX5_store 69 = .ok (.istore 4, 2) := by decide +kernel
theorem dX5_store_71 : decode cX5_store 71 = .ok (.aload_n 0, 1) := by decide +kernel
theorem dX5_store_72 : decode cX5_store 72 = .ok (.getfield 11, 3) := by decide +kernel
theorem dX5_store_75 : decode cX5_store 75 = .ok (.iload 4, 2) := by decide +kernel
theorem dX5_store_77 : decode cX5_store 77 = .ok (.aload_n 2, 1) := by decide +kernel
theorem dX5_store_78 : decode cX5_store 78 = .ok (.getfield 29, 3) := by decide +kernel
theorem dX5_store_81 : decode cX5_store 81 = .ok (.l2i, 1) := by decide +kernel
theorem dX5_store_82 : decode cX5_store 82 = .ok (.iastore, 1) := by decide +kernel
theorem dX5_store_83 : decode cX5_store 83 = .ok (.aload_n 0, 1) := by decide +kernel
theorem dX5_store_84 : decode cX5_store 84 = .ok (.getfield 11, 3) := by decide +kernel
theorem dX5_store_87 : decode cX5_store 87 = .ok (.iload 4, 2) := by decide +kernel
theorem dX5_store_89 : decode cX5_store 89 = .ok (.iconst 1, 1) := by decide +kernel
theorem dX5_store_90 : decode cX5_store 90 = .ok (.iadd, 1) := by decide +kernel
theorem dX5_store_91 : decode cX5_store 91 = .ok (.aload_n 2, 1) := by decide +kernel
theorem dX5_store_92 : decode cX5_store 92 = .ok (.getfield 33, 3) := by decide +kernel
theorem dX5_store_95 : decode cX5_store 95 = .ok (.l2i, 1) := by decide +kernel
theorem dX5_store_96 : decode cX5_store 96 = .ok (.iastore, 1) := by decide +kernel
theorem dX5_store_97 : decode cX5_store 97 = .ok (.aload_n 0, 1) := by decide +kernel
theorem dX5_store_98 : decode cX5_store 98 = .ok (.getfield 11, 3) := by decide +kernel
theorem dX5_store_101 : decode cX5_store 101 = .ok (.iload 4, 2) := by decide +kernel
theorem dX5_store_103 : decode cX5_store 103 = .ok (.iconst 2, 1) := by decide +kernel
theorem dX5_store_104 : decode cX5_store 104 = .ok (.iadd, 1) := by decide +kernel
theorem dX5_store_105 : decode cX5_store 105 = .ok (.aload_n 2, 1) := by decide +kernel
theorem dX5_store_106 : decode cX5_store 106 = .ok (.getfield 36, 3) := by decide +kernel
theorem dX5_store_109 : decode cX5_store 109 = .ok (.l2i, 1) := by decide +kernel
theorem dX5_store_110 : decode cX5_store 110 = .ok (.iastore, 1) := by decide +kernel
theorem dX5_store_111 : decode cX5_store 111 = .ok (.aload_n 0, 1) := by decide +kernel
theorem dX5_store_112 : decode cX5_store 112 = .ok (.getfield 11, 3) := by decide +kernel
theorem dX5_store_115 : decode cX5_store 115 = .ok (.iload 4, 2) := by decide +kernel
theorem dX5_store_117 : decode cX5_store 117 = .ok (.iconst 3, 1) := by decide +kernel
theorem dX5_store_118 : decode cX5_store 118 = .ok (.iadd, 1) := by decide +kernel
theorem dX5_store_119 : decode cX5_store 119 = .ok (.aload_n 2, 1) := by decide +kernel
theorem dX5_store_120 : decode cX5_store 120 = .ok (.getfield 39, 3) := by decide +kernel
theorem dX5_store_123 : decode cX5_store 123 = .ok (.l2i, 1) := by decide +kernel
theorem dX5_store_124 : decode cX5_store 124 = .ok (.iastore, 1) := by decide +kernel
theorem dX5_store_125 : decode cX5_store 125 = .ok (.iload_n 3, 1) := by decide +kernel
theorem dX5_store_126 : decode cX5_store 126 = .ok (.ireturn, 1) := by decide +kernel
theorem dX5_add_0 : decode cX5_add 0 = .ok (.aload_n 0, 1) := by decide +kernel
theorem dX5_add_1 : decode cX5_add 1 = .ok (.invokevirtual 42, 3) := by decide +kernel
theorem dX5_add_4 : decode cX5_add 4 = .ok (.ifCond .eq 6, 3) := by decide +kernel
theorem dX5_add_7 : decode cX5_add 7 = .ok (.ldc 46, 2) := by decide +kernel
theorem dX5_add_9 : decode cX5_add 9 = .ok (.ireturn, 1) := by decide +kernel
theorem dX5_add_10 : decode cX5_add 10 = .ok (.aload_n 0, 1) := by decide +kernel
theorem dX5_add_11 : decode cX5_add 11 = .ok (.aload_n 0, 1) := by decide +kernel
theorem dX5_add_12 : decode cX5_add 12 = .ok (.getfield 15, 3) := by decide +kernel
theorem dX5_add_15 : decode cX5_add 15 = .ok (.aload_n 1, 1) := by decide +kernel
theorem dX5_add_16 : decode cX5_add 16 = .ok (.invokevirtual 47, 3) := by decide +kernel
theorem dX5_add_19 : decode cX5_add 19 = .ok (.pop, 1) := by decide +kernel
theorem dX5_add_20 : decode cX5_add 20 = .ok (.aload_n 0, 1) := by decide +kernel
theorem dX5_add_21 : decode cX5_add 21 = .ok (.dup, 1) := by decide +kernel
theorem dX5_add_22 : decode cX5_add 22 = .ok (.getfield 15, 3) := by decide +kernel
theorem dX5_add_25 : decode cX5_add 25 = .ok (.iconst 1, 1) := by decide +kernel
theorem dX5_add_26 : decode cX5_add 26 = .ok (.iadd, 1) := by decide +kernel
theorem dX5_add_27 : decode cX5_add 27 = .ok (.putfield 15, 3) := by decide +kernel
theorem dX5_add_30 : decode cX5_add 30 = .ok (.aload_n 0, 1) := by decide +kernel
theorem dX5_add_31 : decode cX5_add 31 = .ok (.getfield 15, 3) := by decide +kernel
theorem dX5_add_34 : decode cX5_add 34 = .ok (.iconst 1, 1) := by decide +kernel
theorem dX5_add_35 : decode cX5_add 35 = .ok (.isub, 1) := by decide +kernel
theorem dX5_add_36 : decode cX5_add 36 = .ok (.ireturn, 1) := by decide +kernel
theorem dX5_remove_0 : decode cX5_remove 0 = .ok (.iload_n 1, 1) := by decide +kernel
theorem dX5_remove_1 : decode cX5_remove 1 = .ok (.iconst 4, 1) := by decide +kernel
theorem dX5_remove_2 : decode cX5_remove 2 = .ok (.imul, 1) := by decide +kernel
theorem dX5_remove_3 : decode cX5_remove 3 = .ok (.istore_n 2, 1) := by decide +kernel
theorem dX5_remove_4 : decode cX5_remove 4 = .ok (.aload_n 0, 1) := by decide +kernel
theorem dX5_remove_5 : decode cX5_remove 5 = .ok (.getfield 11, 3) := by decide +kernel
theorem dX5_remove_8 : decode cX5_remove 8 = .ok (.iload_n 2, 1) := by decide +kernel
theorem dX5_remove_9 : decode cX5_remove 9 = .ok (.iconst 4, 1) := by decide +kernel
theorem dX5_remove_10 : decode cX5_remove 10 = .ok (.iadd, 1) := by decide +kernel
theorem dX5_remove_11 : decode cX5_remove 11 = .ok (.aload_n 0, 1) := by decide +kernel
theorem dX5_remove_12 : decode cX5_remove 12 = .ok (.getfield 11, 3) := by decide +kernel
theorem dX5_remove_15 : decode cX5_remove 15 = .ok (.iload_n 2, 1) := by decide +kernel
theorem dX5_remove_16 : decode cX5_remove 16 = .ok (.aload_n 0, 1) := by decide +kernel
theorem dX5_remove_17 : decode cX5_remove 17 = .ok (.getfield 15, 3) := by decide +kernel
theorem dX5_remove_20 : decode cX5_remove 20 = .ok (.iload_n 1, 1) := by decide +kernel
theorem dX5_remove_21 : decode cX5_remove 21 = .ok (.isub, 1) := by decide +kernel
theorem dX5_remove_22 : decode cX5_remove 22 = .ok (.iconst 1, 1) := by decide +kernel
theorem dX5_remove_23 : decode cX5_remove 23 = .ok (.isub, 1) := by decide +kernel
theorem dX5_remove_24 : decode cX5_remove 24 = .ok (.iconst 4, 1) := by decide +kernel
theorem dX5_remove_25 : decode cX5_remove 25 = .ok (.imul, 1) := by decide +kernel
theorem dX5_remove_26 : decode cX5_remove 26 = .ok (.invokestatic 51, 3) := by decide +kernel
theorem dX5_remove_29 : decode cX5_remove 29 = .ok (.aload_n 0, 1) := by decide +kernel
theorem dX5_remove_30 : decode cX5_remove 30 = .ok (.dup, 1) := by decide +kernel
theorem dX5_remove_31 : decode cX5_remove 31 = .ok (.getfield 15, 3) := by decide +kernel
theorem dX5_remove_34 : decode cX5_remove 34 = .ok (.iconst 1, 1) := by decide +kernel
theorem dX5_remove_35 : decode cX5_remove 35 = .ok (.isub, 1) := by decide +kernel
theorem dX5_remove_36 : decode cX5_remove 36 = .ok (.putfield 15, 3) := by decide +kernel
theorem dX5_remove_39 : decode cX5_remove 39 = .ok (.return_, 1) := by decide +kernel
theorem dX5_copyFrom_0 : decode cX5_copyFrom 0 = .ok (.aload_n 1, 1) := by decide +kernel
theorem dX5_copyFrom_1 : decode cX5_copyFrom 1 = .ok (.getfield 11, 3) := by decide +kernel
theorem dX5_copyFrom_4 : decode cX5_copyFrom 4 = .ok (.iconst 0, 1) := by decide +kernel
theorem dX5_copyFrom_5 : decode cX5_copyFrom 5 = .ok (.aload_n 0, 1) := by decide +kernel
theorem dX5_copyFrom_6 : decode cX5_copyFrom 6 = .ok (.getfield 11, 3) := by decide +kernel
theorem dX5_copyFrom_9 : decode cX5_copyFrom 9 = .ok (.iconst 0, 1) := by decide +kernel
theorem dX5_copyFrom_10 : decode cX5_copyFrom 10 = .ok (.aload_n 1, 1) := by decide +kernel
theorem dX5_copyFrom_11 : decode cX5_copyFrom 11 = .ok (.getfield 15, 3) := by decide +kernel
theorem dX5_copyFrom_14 : decode cX5_copyFrom 14 = .ok (.iconst 4, 1) := by decide +kernel
theorem dX5_copyFrom_15 : decode cX5_copyFrom 15 = .ok (.imul, 1) := by decide +kernel
theorem dX5_copyFrom_16 : decode cX5_copyFrom 16 = .ok (.invokestatic 51, 3) := by decide +kernel
theorem dX5_copyFrom_19 : decode cX5_copyFrom 19 = .ok (.aload_n 0, 1) := by decide +kernel
theorem dX5_copyFrom_20 : decode cX5_copyFrom 20 = .ok (.aload_n 1, 1) := by decide +kernel
theorem dX5_copyFrom_21 : decode cX5_copyFrom 21 = .ok (.getfield 15, 3) := by decide +kernel
theorem dX5_copyFrom_24 : decode cX5_copyFrom 24 = .ok (.putfield 15, 3) := by decide +kernel
theorem dX5_copyFrom_27 : decode cX5_copyFrom 27 = .ok (.return_, 1) := by decide +kernel
theorem dX6_init_0 : decode cX6_init 0 = .ok (.aload_n 0, 1) := by decide +kernel
theorem dX6_init_1 : decode cX6_init 1 = .ok (.invokespecial 3, 3) := by decide +kernel
theorem dX6_init_4 : decode cX6_init 4 = .ok (.return_, 1) := by decide +kernel
theorem dX6_set_0 : decode cX6_set 0 = .ok (.aload_n 0, 1) := by decide +kernel
theorem dX6_set_1 : decode cX6_set 1 = .ok (.lload_n 1, 1) := by decide +kernel
theorem dX6_set_2 : decode cX6_set 2 = .ok (.putfield 9, 3) := by decide +kernel
theorem dX6_set_5 : decode cX6_set 5 = .ok (.aload_n 0, 1) := by decide +kernel
theorem dX6_set_6 : decode cX6_set 6 = .ok (.lload_n 3, 1) := by decide +kernel
theorem dX6_set_7 : decode cX6_set 7 = .ok (.putfield 15, 3) := by decide +kernel
theorem dX6_set_10 : decode cX6_set 10 = .ok (.aload_n 0, 1) := by decide +kernel
theorem dX6_set_11 : decode cX6_set 11 = .ok (.lload 5, 2) := by decide +kernel
theorem dX6_set_13 : decode cX6_set 13 = .ok (.putfield 18, 3) := by decide +kernel
theorem dX6_set_16 : decode cX6_set 16 = .ok (.aload_n 0, 1) := by decide +kernel
theorem dX6_set_17 : decode cX6_set 17 = .ok (.lload 7, 2) := by decide +kernel
theorem dX6_set_19 : decode cX6_set 19 = .ok (.putfield 21, 3) := by decide +kernel
theorem dX6_set_22 : decode cX6_set 22 = .ok (.return_, 1) := by decide +kernel
theorem dX6_setOne_0 : decode cX6_setOne 0 = .ok (.aload_n 0, 1) := by decide +kernel
theorem dX6_setOne_1 : decode cX6_setOne 1 = .ok (.lconst 1, 1) := by decide +kernel
theorem dX6_setOne_2 : decode cX6_setOne 2 = .ok (.lconst 0, 1) := by decide +kernel
theorem dX6_setOne_3 : decode cX6_setOne 3 = .ok (.lconst 0, 1) := by decide +kernel
theorem dX6_setOne_4 : decode cX6_setOne 4 = .ok (.lconst 1, 1) := by decide +kernel
theorem dX6_setOne_5 : decode cX6_setOne 5 = .ok (.invokevirtual 24, 3) := by decide +kernel
theorem dX6_setOne_8 : decode cX6_setOne 8 = .ok (.return_, 1) := by decide +kernel
theorem dX6_copyFrom_0 : decode cX6_copyFrom 0 = .ok (.aload_n 0, 1) := by decide +kernel
theorem dX6_copyFrom_1 : decode cX6_copyFrom 1 = .ok (.aload_n 1, 1) := by decide +kernel
theorem dX6_copyFrom_2 : decode cX6_copyFrom 2 = .ok (.getfield 9, 3) := by decide +kernel
theorem dX6_copyFrom_5 : decode cX6_copyFrom 5 = .ok (.putfield 9, 3) := by decide +kernel
theorem dX6_copyFrom_8 : decode cX6_copyFrom 8 = .ok (.aload_n 0, 1) := by decide +kernel
theorem dX6_copyFrom_9 : decode cX6_copyFrom 9 = .ok (.aload_n 1, 1) := by decide +kernel
theorem dX6_copyFrom_10 : decode cX6_copyFrom 10 = .ok (.getfield 15, 3) := by decide +kernel
theorem dX6_copyFrom_13 : decode cX6_copyFrom 13 = .ok (.putfield 15, 3) := by decide +kernel
theorem dX6_copyFrom_16 : decode cX6_copyFrom 16 = .ok (.aload_n 0, 1) := by decide +kernel
theorem dX6_copyFrom_17 : decode cX6_copyFrom 17 = .ok (.aload_n 1, 1) := by decide +kernel
theorem dX6_copyFrom_18 : decode cX6_copyFrom 18 = .ok (.getfield 18, 3) := by decide +kernel
theorem dX6_copyFrom_21 : decode cX6_copyFrom 21 = .ok (.putfield 18, 3) := by decide +kernel
theorem dX6_copyFrom_24 : decode cX6_copyFrom 24 = .ok (.aload_n 0, 1) := by decide +kernel
theorem dX6_copyFrom_25 : decode cX6_copyFrom 25 = .ok (.aload_n 1, 1) := by decide +kernel
theorem dX6_copyFrom_26 : decode cX6_copyFrom 26 = .ok (.getfield 21, 3) := by decide +kernel
theorem dX6_copyFrom_29 : decode cX6_copyFrom 29 = .ok (.putfield 21, 3) := by decide +kernel
theorem dX6_copyFrom_32 : decode cX6_copyFrom 32 = .ok (.return_, 1) := by decide +kernel
theorem dX6_setProduct_0 : decode cX6_setProduct 0 = .ok (.aload_n 0, 1) := by decide +kernel
theorem dX6_setProduct_1 : decode cX6_setProduct 1 = .ok (.aload_n 1, 1) := by decide +kernel
theorem dX6_setProduct_2 : decode cX6_setProduct 2 = .ok (.getfield 9, 3) := by decide +kernel
theorem dX6_setProduct_5 : decode cX6_setProduct 5 = .ok (.aload_n 2, 1) := by decide +kernel
theorem dX6_setProduct_6 : decode cX6_setProduct 6 = .ok (.getfield 9, 3) := by decide +kernel
theorem dX6_setProduct_9 : decode cX6_setProduct 9 = .ok (.lmul, 1) := by decide +kernel
theorem dX6_setProduct_10 : decode cX6_setProduct 10 = .ok (.aload_n 1, 1) := by decide +kernel
theorem dX6_setProduct_11 : decode cX6_setProduct 11 = .ok (.getfield 15, 3) := by decide +kernel
theorem dX6_setProduct_14 : decode cX6_setProduct 14 = .ok (.aload_n 2, 1) := by decide +kernel
theorem dX6_setProduct_15 : decode cX6_setProduct 15 = .ok (.getfield 18, 3) := by decide +kernel
theorem dX6_setProduct_18 : decode cX6_setProduct 18 = .ok (.lmul, 1) := by decide +kernel
theorem dX6_setProduct_19 : decode cX6_setProduct 19 = .ok (.ladd, 1) := by decide +kernel
theorem dX6_setProduct_20 : decode cX6_setProduct 20 = .ok (.aload_n 1, 1) := by decide +kernel
theorem dX6_setProduct_21 : decode cX6_setProduct 21 = .ok (.getfield 9, 3) := by decide +kernel
theorem dX6_setProduct_24 : decode cX6_setProduct 24 = .ok (.aload_n 2, 1) := by decide +kernel
theorem dX6_setProduct_25 : decode cX6_setProduct 25 = .ok (.getfield 15, 3) := by decide +kernel
theorem dX6_setProduct_28 : decode cX6_setProduct 28 = .ok (.lmul, 1) := by decide +kernel
theorem dX6_setProduct_29 : decode cX6_setProduct 29 = .ok (.aload_n 1, 1) := by decide +kernel
theorem dX6_setProduct_30 : decode cX6_setProduct 30 = .ok (.getfield 15, 3) := by decide +kernel
theorem dX6_setProduct_33 : decode cX6_setProduct 33 = .ok (.aload_n 2, 1) := by decide +kernel
theorem dX6_setProduct_34 : decode cX6_setProduct 34 = .ok (.getfield 21, 3) := by decide +kernel
theorem dX6_setProduct_37 : decode cX6_setProduct 37 = .ok (.lmul, 1) := by decide +kernel
theorem dX6_setProduct_38 : decode cX6_setProduct 38 = .ok (.ladd, 1) := by decide +kernel
theorem dX6_setProduct_39 : decode cX6_setProduct 39 = .ok (.aload_n 1, 1) := by decide +kernel
theorem dX6_setProduct_40 : decode cX6_setProduct 40 = .ok (.getfield 18, 3) := by decide +kernel
theorem dX6_setProduct_43 : decode cX6_setProduct 43 = .ok (.aload_n 2, 1) := by decide +kernel
theorem dX6_setProduct_44 : decode cX6_setProduct 44 = .ok (.getfield 9, 3) := by decide +kernel
theorem dX6_setProduct_47 : decode cX6_setProduct 47 = .ok (.lmul, 1) := by decide +kernel
theorem dX6_setProduct_48 : decode cX6_setProduct 48 = .ok (.aload_n 1, 1) := by decide +kernel
theorem dX6_setProduct_49 : decode cX6_setProduct 49 = .ok (.getfield 21, 3) := by decide +kernel
theorem dX6_setProduct_52 : decode cX6_setProduct 52 = .ok (.aload_n 2, 1) := by decide +kernel
theorem dX6_setProduct_53 : decode cX6_setProduct 53 = .ok (.getfield 18, 3) := by decide +kernel
theorem dX6_setProduct_56 : decode cX6_setProduct 56 = .ok (.lmul, 1) := by decide +kernel
theorem dX6_setProduct_57 : decode cX6_setProduct 57 = .ok (.ladd, 1) := by decide +kernel
theorem dX6_setProduct_58 : decode cX6_setProduct 58 = .ok (.aload_n 1, 1) := by decide +kernel
theorem dX6_setProduct_59 : decode cX6_setProduct 59 = .ok (.getfield 18, 3) := by decide +kernel
theorem dX6_setProduct_62 : decode cX6_setProduct 62 = .ok (.aload_n 2, 1) := by decide +kernel
theorem dX6_setProduct_63 : decode cX6_setProduct 63 = .ok (.getfield 15, 3) := by decide +kernel
theorem dX6_setProduct_66 : decode cX6_setProduct 66 = .ok (.lmul, 1) := by decide +kernel
theorem dX6_setProduct_67 : decode cX6_setProduct 67 = .ok (.aload_n 1, 1) := by decide +kernel
theorem dX6_setProduct_68 : decode cX6_setProduct 68 = .ok (.getfield 21, 3) := by decide +kernel
theorem dX6_setProduct_71 : decode cX6_setProduct 71 = .ok (.aload_n 2, 1) := by decide +kernel
theorem dX6_setProduct_72 : decode cX6_setProduct 72 = .ok (.getfield 21, 3) := by decide +kernel
theorem dX6_setProduct_75 : decode cX6_setProduct 75 = .ok (.lmul, 1) := by decide +kernel
theorem dX6_setProduct_76 : decode cX6_setProduct 76 = .ok (.ladd, 1) := by decide +kernel
theorem dX6_setProduct_77 : decode cX6_setProduct 77 = .ok (.invokevirtual 24, 3) := by decide +kernel
theorem dX6_setProduct_80 : decode cX6_setProduct 80 = .ok (.return_, 1) := by decide +kernel
theorem dX6_turnBack_0 : decode cX6_turnBack 0 = .ok (.aload_n 0, 1) := by decide +kernel
theorem dX6_turnBack_1 : decode cX6_turnBack 1 = .ok (.aload_n 0, 1) := by decide +kernel
theorem dX6_turnBack_2 : decode cX6_turnBack 2 = .ok (.getfield 21, 3) := by decide +kernel
theorem dX6_turnBack_5 : decode cX6_turnBack 5 = .ok (.aload_n 0, 1) := by decide +kernel
theorem dX6_turnBack_6 : decode cX6_turnBack 6 = .ok (.getfield 15, 3) := by decide +kernel
theorem dX6_turnBack_9 : decode cX6_turnBack 9 = .ok (.lneg, 1) := by decide +kernel
theorem dX6_turnBack_10 : decode cX6_turnBack 10 = .ok (.aload_n 0, 1) := by decide +kernel
theorem dX6_turnBack_11 : decode cX6_turnBack 11 = .ok (.getfield 18, 3) := by decide +kernel
theorem dX6_turnBack_14 : decode cX6_turnBack 14 = .ok (.lneg, 1) := by decide +kernel
theorem dX6_turnBack_15 : decode cX6_turnBack 15 = .ok (.aload_n 0, 1) := by decide +kernel
theorem dX6_turnBack_16 : decode cX6_turnBack 16 = .ok (.getfield 9, 3) := by decide +kernel
theorem dX6_turnBack_19 : decode cX6_turnBack 19 = .ok (.invokevirtual 24, 3) := by decide +kernel
theorem dX6_turnBack_22 : decode cX6_turnBack 22 = .ok (.return_, 1) := by decide +kernel
theorem dX6_changeSigns_0 : decode cX6_changeSigns 0 = .ok (.aload_n 0, 1) := by decide +kernel
theorem dX6_changeSigns_1 : decode cX6_changeSigns 1 = .ok (.aload_n 0, 1) := by decide +kernel
theorem dX6_changeSigns_2 : decode cX6_changeSigns 2 = .ok (.getfield 9, 3) := by decide +kernel
theorem dX6_changeSigns_5 : decode cX6_changeSigns 5 = .ok (.lneg, 1) := by decide +kernel
theorem dX6_changeSigns_6 : decode cX6_changeSigns 6 = .ok (.aload_n 0, 1) := by decide +kernel
theorem dX6_changeSigns_7 : decode cX6_changeSigns 7 = .ok (.getfield 15, 3) := by decide +kernel
theorem dX6_changeSigns_10 : decode cX6_changeSigns 10 = .ok (.lneg, 1) := by decide +kernel
theorem dX6_changeSigns_11 : decode cX6_changeSigns 11 = .ok (.aload_n 0, 1) := by decide +kernel
theorem dX6_changeSigns_12 : decode cX6_changeSigns 12 = .ok (.getfield 18, 3) := by decide +kernel
theorem dX6_changeSigns_15 : decode cX6_changeSigns 15 = .ok (.lneg, 1) := by decide +kernel
theorem dX6_changeSigns_16 : decode cX6_changeSigns 16 = .ok (.aload_n 0, 1) := by decide +kernel
theorem dX6_changeSigns_17 : decode cX6_changeSigns 17 = .ok (.getfield 21, 3) := by decide +kernel
theorem dX6_changeSigns_20 : decode cX6_changeSigns 20 = .ok (.lneg, 1) := by decide +kernel
theorem dX6_changeSigns_21 : decode cX6_changeSigns 21 = .ok (.invokevirtual 24, 3) := by decide +kernel
theorem dX6_changeSigns_24 : decode cX6_changeSigns 24 = .ok (.return_, 1) := by decide +kernel
theorem dX6_mirror_0 : decode cX6_mirror 0 = .ok (.aload_n 0, 1) := by decide +kernel
theorem dX6_mirror_1 : decode cX6_mirror 1 = .ok (.aload_n 0, 1) := by decide +kernel
theorem dX6_mirror_2 : decode cX6_mirror 2 = .ok (.getfield 9, 3) := by decide +kernel
theorem dX6_mirror_5 : decode cX6_mirror 5 = .ok (.aload_n 0, 1) := by decide +kernel
theorem dX6_mirror_6 : decode cX6_mirror 6 = .ok (.getfield 15, 3) := by decide +kernel
theorem dX6_mirror_9 : decode cX6_mirror 9 = .ok (.lneg, 1) := by decide +kernel
theorem dX6_mirror_10 : decode cX6_mirror 10 = .ok (.aload_n 0, 1) := by decide +kernel
theorem dX6_mirror_11 : decode cX6_mirror 11 = .ok (.getfield 18, 3) := by decide +kernel
theorem dX6_mirror_14 : decode cX6_mirror 14 = .ok (.lneg, 1) := by decide +kernel
theorem dX6_mirror_15 : decode cX6_mirror 15 = .ok (.aload_n 0, 1) := by decide +kernel
theorem dX6_mirror_16 : decode cX6_mirror 16 = .ok (.getfield 21, 3) := by decide +kernel
theorem dX6_mirror_19 : decode cX6_mirror 19 = .ok (.invokevirtual 24, 3) := by decide +kernel
theorem dX6_mirror_22 : decode cX6_mirror 22 = .ok (.return_, 1) := by decide +kernel
theorem dX6_multiplyByLetter_0 : decode cX6_multiplyByLetter 0 = .ok (.iload_n 1, 1) := by decide +kernel
theorem dX6_multiplyByLetter_1 : decode cX6_multiplyByLetter 1 = .ok (.lookupswitch 235 #[(76, 91), (82, 59), (83, 187), (108, 155), (114, 123), (115, 211)], 59) := by decide +kernel
theorem dX6_multiplyByLetter_60 : decode cX6_multiplyByLetter 60 = .ok (.aload_n 0, 1) := by decide +kernel
theorem dX6_multiplyByLetter_61 : decode cX6_multiplyByLetter 61 = .ok (.aload_n 0, 1) := by decide +kernel
theorem dX6_multiplyByLetter_62 : decode cX6_multiplyByLetter 62 = .ok (.getfield 9, 3) := by decide +kernel
theorem dX6_multiplyByLetter_65 : decode cX6_multiplyByLetter 65 = .ok (.aload_n 0, 1) := by decide +kernel
theorem dX6_multiplyByLetter_66 : decode cX6_multiplyByLetter 66 = .ok (.getfield 9, 3) := by decide +kernel
theorem dX6_multiplyByLetter_69 : decode cX6_multiplyByLetter 69 = .ok (.aload_n 0, 1) := by decide +kernel
theorem dX6_multiplyByLetter_70 : decode cX6_multiplyByLetter 70 = .ok (.getfield 15, 3) := by decide +kernel
theorem dX6_multiplyByLetter_73 : decode cX6_multiplyByLetter 73 = .ok (.ladd, 1) := by decide +kernel
theorem dX6_multiplyByLetter_74 : decode cX6_multiplyByLetter 74 = .ok (.aload_n 0, 1) := by decide +kernel
theorem dX6_multiplyByLetter_75 : decode cX6_multiplyByLetter 75 = .ok (.getfield 18, 3) := by decide +kernel
theorem dX6_multiplyByLetter_78 : decode cX6_multiplyByLetter 78 = .ok (.aload_n 0, 1) := by decide +kernel
theorem dX6_multiplyByLetter_79 : decode cX6_multiplyByLetter 79 = .ok (.getfield 18, 3) := by decide +kernel
theorem dX6_multiplyByLetter_82 : decode cX6_multiplyByLetter 82 = .ok (.aload_n 0, 1) := by decide +kernel
theorem dX6_multiplyByLetter_83 : decode cX6_multiplyByLetter 83 = .ok (.getfield 21, 3) := by decide +kernel
theorem dX6_multiplyByLetter_86 : decode cX6_multiplyByLetter 86 = .ok (.ladd, 1) := by decide +kernel
theorem dX6_multiplyByLetter_87 : decode cX6_multiplyByLetter 87 = .ok (.invokevirtual 24, 3) := by decide +kernel
theorem dX6_multiplyByLetter_90 : decode cX6_multiplyByLetter 90 = .ok (.iconst 1, 1) := by decide +kernel
theorem dX6_multiplyByLetter_91 : decode cX6_multiplyByLetter 91 = .ok (.ireturn, 1) := by decide +kernel
theorem dX6_multiplyByLetter_92 : decode cX6_multiplyByLetter 92 = .ok (.aload_n 0, 1) := by decide +kernel
theorem dX6_multiplyByLetter_93 : decode cX6_multiplyByLetter 93 = .ok (.aload_n 0, 1) := by decide +kernel
theorem dX6_multiplyByLetter_94 : decode cX6_multiplyByLetter 94 = .ok (.getfield 9, 3) := by decide +kernel
theorem dX6_multiplyByLetter_97 : decode cX6_multiplyByLetter 97 = .ok (.aload_n 0, 1) := by decide +kernel
theorem dX6_multiplyByLetter_98 : decode cX6_multiplyByLetter 98 = .ok (.getfield 15, 3) := by decide +kernel
theorem dX6_multiplyByLetter_101 : decode cX6_multiplyByLetter 101 = .ok (.ladd, 1) := by decide +kernel
theorem dX6_multiplyByLetter_102 : decode cX6_multiplyByLetter 102 = .ok (.aload_n 0, 1) := by decide +kernel
theorem dX6_multiplyByLetter_103 : decode cX6_multiplyByLetter 103 = .ok (.getfield 15, 3) := by decide +kernel
theorem dX6_multiplyByLetter_106 : decode cX6_multiplyByLetter 106 = .ok (.aload_n 0, 1) := by decide +kernel
theorem dX6_multiplyByLetter_107 : decode cX6_multiplyByLetter 107 = .ok (.getfield 18, 3) := by decide +kernel
theorem dX6_multiplyByLetter_110 : decode cX6_multiplyByLetter 110 = .ok (.aload_n 0, 1) := by decide +kernel
theorem dX6_multiplyByLetter_111 : decode cX6_multiplyByLetter 111 = .ok (.getfield 21, 3) := by decide +kernel
theorem dX6_multiplyByLetter_114 : decode cX6_multiplyByLetter 114 = .ok (.ladd, 1) := by decide +kernel
theorem dX6_multiplyByLetter_115 : decode cX6_multiplyByLetter 115 = .ok (.aload_n 0, 1) := by decide +kernel
theorem dX6_multiplyByLetter_116 : decode cX6_multiplyByLetter 116 = .ok (.getfield 21, 3) := by decide +kernel
theorem dX6_multiplyByLetter_119 : decode cX6_multiplyByLetter 119 = .ok (.invokevirtual 24, 3) := by decide +kernel
theorem dX6_multiplyByLetter_122 : decode cX6_multiplyByLetter 122 = .ok (.iconst 1, 1) := by decide +kernel
theorem dX6_multiplyByLetter_123 : decode cX6_multiplyByLetter 123 = .ok (.ireturn, 1) := by decide +kernel
theorem dX6_multiplyByLetter_124 : decode cX6_multiplyByLetter 124 = .ok (.aload_n 0, 1) := by decide +kernel
theorem dX6_multiplyByLetter_125 : decode cX6_multiplyByLetter 125 = .ok (.aload_n 0, 1) := by decide +kernel
theorem dX6_multiplyByLetter_126 : decode cX6_multiplyByLetter 126 = .ok (.getfield 9, 3) := by decide +kernel
theorem dX6_multiplyByLetter_129 : decode cX6_multiplyByLetter 129 = .ok (.aload_n 0, 1) := by decide +kernel
theorem dX6_multiplyByLetter_130 : decode cX6_multiplyByLetter 130 = .ok (.getfield 15, 3) := by decide +kernel
theorem dX6_multiplyByLetter_133 : decode cX6_multiplyByLetter 133 = .ok (.aload_n 0, 1) := by decide +kernel
theorem dX6_multiplyByLetter_134 : decode cX6_multiplyByLetter 134 = .ok (.getfield 9, 3) := by decide +kernel
theorem dX6_multiplyByLetter_137 : decode cX6_multiplyByLetter 137 = .ok (.lsub, 1) := by decide +kernel
theorem dX6_multiplyByLetter_138 : decode cX6_multiplyByLetter 138 = .ok (.aload_n 0, 1) := by decide +kernel
theorem dX6_multiplyByLetter_139 : decode cX6_multiplyByLetter 139 = .ok (.getfield 18, 3) := by decide +kernel
theorem dX6_multiplyByLetter_142 : decode cX6_multiplyByLetter 142 = .ok (.aload_n 0, 1) := by decide +kernel
theorem dX6_multiplyByLetter_143 : decode cX6_multiplyByLetter 143 = .ok (.getfield 21, 3) := by decide +kernel
theorem dX6_multiplyByLetter_146 : decode cX6_multiplyByLetter 146 = .ok (.aload_n 0, 1) := by decide +kernel
theorem dX6_multiplyByLetter_147 : decode cX6_multiplyByLetter 147 = .ok (.getfield 18, 3) := by decide +kernel
theorem dX6_multiplyByLetter_150 : decode cX6_multiplyByLetter 150 = .ok (.lsub, 1) := by decide +kernel
theorem dX6_multiplyByLetter_151 : decode cX6_multiplyByLetter 151 = .ok (.invokevirtual 24, 3) := by decide +kernel
theorem dX6_multiplyByLetter_154 : decode cX6_multiplyByLetter 154 = .ok (.iconst 1, 1) := by decide +kernel
theorem dX6_multiplyByLetter_155 : decode cX6_multiplyByLetter 155 = .ok (.ireturn, 1) := by decide +kernel
theorem dX6_multiplyByLetter_156 : decode cX6_multiplyByLetter 156 = .ok (.aload_n 0, 1) := by decide +kernel
theorem dX6_multiplyByLetter_157 : decode cX6_multiplyByLetter 157 = .ok (.aload_n 0, 1) := by decide +kernel
theorem dX6_multiplyByLetter_158 : decode cX6_multiplyByLetter 158 = .ok (.getfield 9, 3) := by decide +kernel
theorem dX6_multiplyByLetter_161 : decode cX6_multiplyByLetter 161 = .ok (.aload_n 0, 1) := by decide +kernel
theorem dX6_multiplyByLetter_162 : decode cX6_multiplyByLetter 162 = .ok (.getfield 15, 3) := by decide +kernel
theorem dX6_multiplyByLetter_165 : decode cX6_multiplyByLetter 165 = .ok (.lsub, 1) := by decide +kernel
theorem dX6_multiplyByLetter_166 : decode cX6_multiplyByLetter 166 = .ok (.aload_n 0, 1) := by decide +kernel
theorem dX6_multiplyByLetter_167 : decode cX6_multiplyByLetter 167 = .ok (.getfield 15, 3) := by decide +kernel
theorem dX6_multiplyByLetter_170 : decode cX6_multiplyByLetter 170 = .ok (.aload_n 0, 1) := by decide +kernel
theorem dX6_multiplyByLetter_171 : decode cX6_multiplyByLetter 171 = .ok (.getfield 18, 3) := by decide +kernel
theorem dX6_multiplyByLetter_174 : decode cX6_multiplyByLetter 174 = .ok (.aload_n 0, 1) := by decide +kernel
end
section
theorem dX6_multiplyByLetter_175 : decode cX6_multiplyByLetter 175 = .ok (.getfield 21, 3) := by decide +kernel
theorem dX6_multiplyByLetter_178 : decode cX6_multiplyByLetter 178 = .ok (.lsub, 1) := by decide +kernel
theorem dX6_multiplyByLetter_179 : decode cX6_multiplyByLetter 179 = .ok (.aload_n 0, 1) := by decide +kernel
theorem dX6_multiplyByLetter_180 : decode cX6_multiplyByLetter 180 = .ok (.getfield 21, 3) := by decide +kernel
theorem dX6_multiplyByLetter_183 : decode cX6_multiplyByLetter 183 = .ok (.invokevirtual 24, 3) := by decide +kernel
theorem dX6_multiplyByLetter_186 : decode cX6_multiplyByLetter 186 = .ok (.iconst 1, 1) := by decide +kernel
theorem dX6_multiplyByLetter_187 : decode cX6_multiplyByLetter 187 = .ok (.ireturn, 1) := by decide +kernel
theorem dX6_multiplyByLetter_188 : decode cX6_multiplyByLetter 188 = .ok (.aload_n 0, 1) := by decide +kernel
theorem dX6_multiplyByLetter_189 : decode cX6_multiplyByLetter 189 = .ok (.aload_n 0, 1) := by decide +kernel
theorem dX6_multiplyByLetter_190 : decode cX6_multiplyByLetter 190 = .ok (.getfield 15, 3) := by decide +kernel
theorem dX6_multiplyByLetter_193 : decode cX6_multiplyByLetter 193 = .ok (.aload_n 0, 1) := by decide +kernel
theorem dX6_multiplyByLetter_194 : decode cX6_multiplyByLetter 194 = .ok (.getfield 9, 3) := by decide +kernel
theorem dX6_multiplyByLetter_197 : decode cX6_multiplyByLetter 197 = .ok (.lneg, 1) := by decide +kernel
theorem dX6_multiplyByLetter_198 : decode cX6_multiplyByLetter 198 = .ok (.aload_n 0, 1) := by decide +kernel
theorem dX6_multiplyByLetter_199 : decode cX6_multiplyByLetter 199 = .ok (.getfield 21, 3) := by decide +kernel
theorem dX6_multiplyByLetter_202 : decode cX6_multiplyByLetter 202 = .ok (.aload_n 0, 1) := by decide +kernel
theorem dX6_multiplyByLetter_203 : decode cX6_multiplyByLetter 203 = .ok (.getfield 18, 3) := by decide +kernel
theorem dX6_multiplyByLetter_206 : decode cX6_multiplyByLetter 206 = .ok (.lneg, 1) := by decide +kernel
theorem dX6_multiplyByLetter_207 : decode cX6_multiplyByLetter 207 = .ok (.invokevirtual 24, 3) := by decide +kernel
theorem dX6_multiplyByLetter_210 : decode cX6_multiplyByLetter 210 = .ok (.iconst 1, 1) := by decide +kernel
theorem dX6_multiplyByLetter_211 : decode cX6_multiplyByLetter 211 = .ok (.ireturn, 1) := by decide +kernel
theorem dX6_multiplyByLetter_212 : decode cX6_multiplyByLetter 212 = .ok (.aload_n 0, 1) := by decide +kernel
theorem dX6_multiplyByLetter_213 : decode cX6_multiplyByLetter 213 = .ok (.aload_n 0, 1) := by decide +kernel
theorem dX6_multiplyByLetter_214 : decode cX6_multiplyByLetter 214 = .ok (.getfield 15, 3) := by decide +kernel
theorem dX6_multiplyByLetter_217 : decode cX6_multiplyByLetter 217 = .ok (.lneg, 1) := by decide +kernel
theorem dX6_multiplyByLetter_218 : decode cX6_multiplyByLetter 218 = .ok (.aload_n 0, 1) := by decide +kernel
theorem dX6_multiplyByLetter_219 : decode cX6_multiplyByLetter 219 = .ok (.getfield 9, 3) := by decide +kernel
theorem dX6_multiplyByLetter_222 : decode cX6_multiplyByLetter 222 = .ok (.aload_n 0, 1) := by decide +kernel
theorem dX6_multiplyByLetter_223 : decode cX6_multiplyByLetter 223 = .ok (.getfield 21, 3) := by decide +kernel
theorem dX6_multiplyByLetter_226 : decode cX6_multiplyByLetter 226 = .ok (.lneg, 1) := by decide +kernel
theorem dX6_multiplyByLetter_227 : decode cX6_multiplyByLetter 227 = .ok (.aload_n 0, 1) := by decide +kernel
theorem dX6_multiplyByLetter_228 : decode cX6_multiplyByLetter 228 = .ok (.getfield 18, 3) := by decide +kernel
theorem dX6_multiplyByLetter_231 : decode cX6_multiplyByLetter 231 = .ok (.invokevirtual 24, 3) := by decide +kernel
theorem dX6_multiplyByLetter_234 : decode cX6_multiplyByLetter 234 = .ok (.iconst 1, 1) := by decide +kernel
theorem dX6_multiplyByLetter_235 : decode cX6_multiplyByLetter 235 = .ok (.ireturn, 1) := by decide +kernel
theorem dX6_multiplyByLetter_236 : decode cX6_multiplyByLetter 236 = .ok (.iconst 0, 1) := by decide +kernel
theorem dX6_multiplyByLetter_237 : decode cX6_multiplyByLetter 237 = .ok (.ireturn, 1) := by decide +kernel
theorem dX6_carryByR_0 : decode cX6_carryByR 0 = .ok (.aload_n 0, 1) := by decide +kernel
theorem dX6_carryByR_1 : decode cX6_carryByR 1 = .ok (.dup, 1) := by decide +kernel
theorem dX6_carryByR_2 : decode cX6_carryByR 2 = .ok (.getfield 15, 3) := by decide +kernel
theorem dX6_carryByR_5 : decode cX6_carryByR 5 = .ok (.lload_n 1, 1) := by decide +kernel
theorem dX6_carryByR_6 : decode cX6_carryByR 6 = .ok (.aload_n 0, 1) := by decide +kernel
theorem dX6_carryByR_7 : decode cX6_carryByR 7 = .ok (.getfield 21, 3) := by decide +kernel
theorem dX6_carryByR_10 : decode cX6_carryByR 10 = .ok (.aload_n 0, 1) := by decide +kernel
theorem dX6_carryByR_11 : decode cX6_carryByR 11 = .ok (.getfield 9, 3) := by decide +kernel
theorem dX6_carryByR_14 : decode cX6_carryByR 14 = .ok (.lsub, 1) := by decide +kernel
theorem dX6_carryByR_15 : decode cX6_carryByR 15 = .ok (.lmul, 1) := by decide +kernel
theorem dX6_carryByR_16 : decode cX6_carryByR 16 = .ok (.lload_n 1, 1) := by decide +kernel
theorem dX6_carryByR_17 : decode cX6_carryByR 17 = .ok (.lload_n 1, 1) := by decide +kernel
theorem dX6_carryByR_18 : decode cX6_carryByR 18 = .ok (.lmul, 1) := by decide +kernel
theorem dX6_carryByR_19 : decode cX6_carryByR 19 = .ok (.aload_n 0, 1) := by decide +kernel
theorem dX6_carryByR_20 : decode cX6_carryByR 20 = .ok (.getfield 18, 3) := by decide +kernel
theorem dX6_carryByR_23 : decode cX6_carryByR 23 = .ok (.lmul, 1) := by decide +kernel
theorem dX6_carryByR_24 : decode cX6_carryByR 24 = .ok (.lsub, 1) := by decide +kernel
theorem dX6_carryByR_25 : decode cX6_carryByR 25 = .ok (.ladd, 1) := by decide +kernel
theorem dX6_carryByR_26 : decode cX6_carryByR 26 = .ok (.putfield 15, 3) := by decide +kernel
theorem dX6_carryByR_29 : decode cX6_carryByR 29 = .ok (.aload_n 0, 1) := by decide +kernel
theorem dX6_carryByR_30 : decode cX6_carryByR 30 = .ok (.dup, 1) := by decide +kernel
theorem dX6_carryByR_31 : decode cX6_carryByR 31 = .ok (.getfield 9, 3) := by decide +kernel
theorem dX6_carryByR_34 : decode cX6_carryByR 34 = .ok (.lload_n 1, 1) := by decide +kernel
theorem dX6_carryByR_35 : decode cX6_carryByR 35 = .ok (.aload_n 0, 1) := by decide +kernel
theorem dX6_carryByR_36 : decode cX6_carryByR 36 = .ok (.getfield 18, 3) := by decide +kernel
theorem dX6_carryByR_39 : decode cX6_carryByR 39 = .ok (.lmul, 1) := by decide +kernel
theorem dX6_carryByR_40 : decode cX6_carryByR 40 = .ok (.ladd, 1) := by decide +kernel
theorem dX6_carryByR_41 : decode cX6_carryByR 41 = .ok (.putfield 9, 3) := by decide +kernel
theorem dX6_carryByR_44 : decode cX6_carryByR 44 = .ok (.aload_n 0, 1) := by decide +kernel
theorem dX6_carryByR_45 : decode cX6_carryByR 45 = .ok (.dup, 1) := by decide +kernel
theorem dX6_carryByR_46 : decode cX6_carryByR 46 = .ok (.getfield 21, 3) := by decide +kernel
theorem dX6_carryByR_49 : decode cX6_carryByR 49 = .ok (.lload_n 1, 1) := by decide +kernel
theorem dX6_carryByR_50 : decode cX6_carryByR 50 = .ok (.aload_n 0, 1) := by decide +kernel
theorem dX6_carryByR_51 : decode cX6_carryByR 51 = .ok (.getfield 18, 3) := by decide +kernel
theorem dX6_carryByR_54 : decode cX6_carryByR 54 = .ok (.lmul, 1) := by decide +kernel
theorem dX6_carryByR_55 : decode cX6_carryByR 55 = .ok (.lsub, 1) := by decide +kernel
theorem dX6_carryByR_56 : decode cX6_carryByR 56 = .ok (.putfield 21, 3) := by decide +kernel
theorem dX6_carryByR_59 : decode cX6_carryByR 59 = .ok (.return_, 1) := by decide +kernel
theorem dX6_carryByL_0 : decode cX6_carryByL 0 = .ok (.aload_n 0, 1) := by decide +kernel
theorem dX6_carryByL_1 : decode cX6_carryByL 1 = .ok (.dup, 1) := by decide +kernel
theorem dX6_carryByL_2 : decode cX6_carryByL 2 = .ok (.getfield 18, 3) := by decide +kernel
theorem dX6_carryByL_5 : decode cX6_carryByL 5 = .ok (.lload_n 1, 1) := by decide +kernel
theorem dX6_carryByL_6 : decode cX6_carryByL 6 = .ok (.aload_n 0, 1) := by decide +kernel
theorem dX6_carryByL_7 : decode cX6_carryByL 7 = .ok (.getfield 9, 3) := by decide +kernel
theorem dX6_carryByL_10 : decode cX6_carryByL 10 = .ok (.aload_n 0, 1) := by decide +kernel
theorem dX6_carryByL_11 : decode cX6_carryByL 11 = .ok (.getfield 21, 3) := by decide +kernel
theorem dX6_carryByL_14 : decode cX6_carryByL 14 = .ok (.lsub, 1) := by decide +kernel
theorem dX6_carryByL_15 : decode cX6_carryByL 15 = .ok (.lmul, 1) := by decide +kernel
theorem dX6_carryByL_16 : decode cX6_carryByL 16 = .ok (.lload_n 1, 1) := by decide +kernel
theorem dX6_carryByL_17 : decode cX6_carryByL 17 = .ok (.lload_n 1, 1) := by decide +kernel
theorem dX6_carryByL_18 : decode cX6_carryByL 18 = .ok (.lmul, 1) := by decide +kernel
theorem dX6_carryByL_19 : decode cX6_carryByL 19 = .ok (.aload_n 0, 1) := by decide +kernel
theorem dX6_carryByL_20 : decode cX6_carryByL 20 = .ok (.getfield 15, 3) := by decide +kernel
theorem dX6_carryByL_23 : decode cX6_carryByL 23 = .ok (.lmul, 1) := by decide +kernel
theorem dX6_carryByL_24 : decode cX6_carryByL 24 = .ok (.lsub, 1) := by decide +kernel
theorem dX6_carryByL_25 : decode cX6_carryByL 25 = .ok (.ladd, 1) := by decide +kernel
theorem dX6_carryByL_26 : decode cX6_carryByL 26 = .ok (.putfield 18, 3) := by decide +kernel
theorem dX6_carryByL_29 : decode cX6_carryByL 29 = .ok (.aload_n 0, 1) := by decide +kernel
theorem dX6_carryByL_30 : decode cX6_carryByL 30 = .ok (.dup, 1) := by decide +kernel
theorem dX6_carryByL_31 : decode cX6_carryByL 31 = .ok (.getfield 9, 3) := by decide +kernel
theorem dX6_carryByL_34 : decode cX6_carryByL 34 = .ok (.lload_n 1, 1) := by decide +kernel
theorem dX6_carryByL_35 : decode cX6_carryByL 35 = .ok (.aload_n 0, 1) := by decide +kernel
theorem dX6_carryByL_36 : decode cX6_carryByL 36 = .ok (.getfield 15, 3) := by decide +kernel
theorem dX6_carryByL_39 : decode cX6_carryByL 39 = .ok (.lmul, 1) := by decide +kernel
theorem dX6_carryByL_40 : decode cX6_carryByL 40 = .ok (.lsub, 1) := by decide +kernel
theorem dX6_carryByL_41 : decode cX6_carryByL 41 = .ok (.putfield 9, 3) := by decide +kernel
theorem dX6_carryByL_44 : decode cX6_carryByL 44 = .ok (.aload_n 0, 1) := by decide +kernel
theorem dX6_carryByL_45 : decode cX6_carryByL 45 = .ok (.dup, 1) := by decide +kernel
theorem dX6_carryByL_46 : decode cX6_carryByL 46 = .ok (.getfield 21, 3) := by decide +kernel
theorem dX6_carryByL_49 : decode cX6_carryByL 49 = .ok (.lload_n 1, 1) := by decide +kernel
theorem dX6_carryByL_50 : decode cX6_carryByL 50 = .ok (.aload_n 0, 1) := by decide +kernel
theorem dX6_carryByL_51 : decode cX6_carryByL 51 = .ok (.getfield 15, 3) := by decide +kernel
theorem dX6_carryByL_54 : decode cX6_carryByL 54 = .ok (.lmul, 1) := by decide +kernel
theorem dX6_carryByL_55 : decode cX6_carryByL 55 = .ok (.ladd, 1) := by decide +kernel
theorem dX6_carryByL_56 : decode cX6_carryByL 56 = .ok (.putfield 21, 3) := by decide +kernel
theorem dX6_carryByL_59 : decode cX6_carryByL 59 = .ok (.return_, 1) := by decide +kernel
theorem dX6_carryByS_0 : decode cX6_carryByS 0 = .ok (.aload_n 0, 1) := by decide +kernel
theorem dX6_carryByS_1 : decode cX6_carryByS 1 = .ok (.getfield 9, 3) := by decide +kernel
theorem dX6_carryByS_4 : decode cX6_carryByS 4 = .ok (.lstore_n 1, 1) := by decide +kernel
theorem dX6_carryByS_5 : decode cX6_carryByS 5 = .ok (.aload_n 0, 1) := by decide +kernel
theorem dX6_carryByS_6 : decode cX6_carryByS 6 = .ok (.getfield 15, 3) := by decide +kernel
theorem dX6_carryByS_9 : decode cX6_carryByS 9 = .ok (.lstore_n 3, 1) := by decide +kernel
theorem dX6_carryByS_10 : decode cX6_carryByS 10 = .ok (.aload_n 0, 1) := by decide +kernel
theorem dX6_carryByS_11 : decode cX6_carryByS 11 = .ok (.aload_n 0, 1) := by decide +kernel
theorem dX6_carryByS_12 : decode cX6_carryByS 12 = .ok (.getfield 21, 3) := by decide +kernel
theorem dX6_carryByS_15 : decode cX6_carryByS 15 = .ok (.putfield 9, 3) := by decide +kernel
theorem dX6_carryByS_18 : decode cX6_carryByS 18 = .ok (.aload_n 0, 1) := by decide +kernel
theorem dX6_carryByS_19 : decode cX6_carryByS 19 = .ok (.aload_n 0, 1) := by decide +kernel
theorem dX6_carryByS_20 : decode cX6_carryByS 20 = .ok (.getfield 18, 3) := by decide +kernel
theorem dX6_carryByS_23 : decode cX6_carryByS 23 = .ok (.lneg, 1) := by decide +kernel
theorem dX6_carryByS_24 : decode cX6_carryByS 24 = .ok (.putfield 15, 3) := by decide +kernel
theorem dX6_carryByS_27 : decode cX6_carryByS 27 = .ok (.aload_n 0, 1) := by decide +kernel
theorem dX6_carryByS_28 : decode cX6_carryByS 28 = .ok (.lload_n 3, 1) := by decide +kernel
theorem dX6_carryByS_29 : decode cX6_carryByS 29 = .ok (.lneg, 1) := by decide +kernel
theorem dX6_carryByS_30 : decode cX6_carryByS 30 = .ok (.putfield 18, 3) := by decide +kernel
theorem dX6_carryByS_33 : decode cX6_carryByS 33 = .ok (.aload_n 0, 1) := by decide +kernel
theorem dX6_carryByS_34 : decode cX6_carryByS 34 = .ok (.lload_n 1, 1) := by decide +kernel
theorem dX6_carryByS_35 : decode cX6_carryByS 35 = .ok (.putfield 21, 3) := by decide +kernel
theorem dX6_carryByS_38 : decode cX6_carryByS 38 = .ok (.return_, 1) := by decide +kernel
theorem dX6_carryToProduct_0 : decode cX6_carryToProduct 0 = .ok (.iconst 0, 1) := by decide +kernel
theorem dX6_carryToProduct_1 : decode cX6_carryToProduct 1 = .ok (.istore_n 1, 1) := by decide +kernel
theorem dX6_carryToProduct_2 : decode cX6_carryToProduct 2 = .ok (.iload_n 1, 1) := by decide +kernel
theorem dX6_carryToProduct_3 : decode cX6_carryToProduct 3 = .ok (.bipush 64, 2) := by decide +kernel
theorem dX6_carryToProduct_5 : decode cX6_carryToProduct 5 = .ok (.if_icmp .ge 35, 3) := by decide +kernel
theorem dX6_carryToProduct_8 : decode cX6_carryToProduct 8 = .ok (.aload_n 0, 1) := by decide +kernel
theorem dX6_carryToProduct_9 : decode cX6_carryToProduct 9 = .ok (.invokevirtual 28, 3) := by decide +kernel
theorem dX6_carryToProduct_12 : decode cX6_carryToProduct 12 = .ok (.ifCond .ne 28, 3) := by decide +kernel
theorem dX6_carryToProduct_15 : decode cX6_carryToProduct 15 = .ok (.aload_n 0, 1) := by decide +kernel
theorem dX6_carryToProduct_16 : decode cX6_carryToProduct 16 = .ok (.aload_n 0, 1) := by decide +kernel
theorem dX6_carryToProduct_17 : decode cX6_carryToProduct 17 = .ok (.invokevirtual 32, 3) := by decide +kernel
theorem dX6_carryToProduct_20 : decode cX6_carryToProduct 20 = .ok (.invokevirtual 36, 3) := by decide +kernel
theorem dX6_carryToProduct_23 : decode cX6_carryToProduct 23 = .ok (.aload_n 0, 1) := by decide +kernel
theorem dX6_carryToProduct_24 : decode cX6_carryToProduct 24 = .ok (.invokevirtual 28, 3) := by decide +kernel
theorem dX6_carryToProduct_27 : decode cX6_carryToProduct 27 = .ok (.ifCond .ne 7, 3) := by decide +kernel
theorem dX6_carryToProduct_30 : decode cX6_carryToProduct 30 = .ok (.aload_n 0, 1) := by decide +kernel
theorem dX6_carryToProduct_31 : decode cX6_carryToProduct 31 = .ok (.invokevirtual 40, 3) := by decide +kernel
theorem dX6_carryToProduct_34 : decode cX6_carryToProduct 34 = .ok (.iinc 1 1, 3) := by decide +kernel
theorem dX6_carryToProduct_37 : decode cX6_carryToProduct 37 = .ok (.goto (-35), 3) := by decide +kernel
theorem dX6_carryToProduct_40 : decode cX6_carryToProduct 40 = .ok (.aload_n 0, 1) := by decide +kernel
theorem dX6_carryToProduct_41 : decode cX6_carryToProduct 41 = .ok (.getfield 15, 3) := by decide +kernel
theorem dX6_carryToProduct_44 : decode cX6_carryToProduct 44 = .ok (.lconst 0, 1) := by decide +kernel
theorem dX6_carryToProduct_45 : decode cX6_carryToProduct 45 = .ok (.lcmp, 1) := by decide +kernel
theorem dX6_carryToProduct_46 : decode cX6_carryToProduct 46 = .ok (.ifCond .ge 7, 3) := by decide +kernel
theorem dX6_carryToProduct_49 : decode cX6_carryToProduct 49 = .ok (.aload_n 0, 1) := by decide +kernel
theorem dX6_carryToProduct_50 : decode cX6_carryToProduct 50 = .ok (.invokevirtual 40, 3) := by decide +kernel
theorem dX6_carryToProduct_53 : decode cX6_carryToProduct 53 = .ok (.return_, 1) := by decide +kernel
theorem dX6_stepsToEvenOut_0 : decode cX6_stepsToEvenOut 0 = .ok (.ldc2_w 43, 3) := by decide +kernel
theorem dX6_stepsToEvenOut_3 : decode cX6_stepsToEvenOut 3 = .ok (.aload_n 0, 1) := by decide +kernel
theorem dX6_stepsToEvenOut_4 : decode cX6_stepsToEvenOut 4 = .ok (.getfield 18, 3) := by decide +kernel
theorem dX6_stepsToEvenOut_7 : decode cX6_stepsToEvenOut 7 = .ok (.invokestatic 45, 3) := by decide +kernel
theorem dX6_stepsToEvenOut_10 : decode cX6_stepsToEvenOut 10 = .ok (.lmul, 1) := by decide +kernel
theorem dX6_stepsToEvenOut_11 : decode cX6_stepsToEvenOut 11 = .ok (.lstore_n 1, 1) := by decide +kernel
theorem dX6_stepsToEvenOut_12 : decode cX6_stepsToEvenOut 12 = .ok (.lload_n 1, 1) := by decide +kernel
theorem dX6_stepsToEvenOut_13 : decode cX6_stepsToEvenOut 13 = .ok (.lconst 0, 1) := by decide +kernel
theorem dX6_stepsToEvenOut_14 : decode cX6_stepsToEvenOut 14 = .ok (.lcmp, 1) := by decide +kernel
theorem dX6_stepsToEvenOut_15 : decode cX6_stepsToEvenOut 15 = .ok (.ifCond .ne 5, 3) := by decide +kernel
theorem dX6_stepsToEvenOut_18 : decode cX6_stepsToEvenOut 18 = .ok (.lconst 0, 1) := by decide +kernel
theorem dX6_stepsToEvenOut_19 : decode cX6_stepsToEvenOut 19 = .ok (.lreturn, 1) := by decide +kernel
theorem dX6_stepsToEvenOut_20 : decode cX6_stepsToEvenOut 20 = .ok (.aload_n 0, 1) := by decide +kernel
theorem dX6_stepsToEvenOut_21 : decode cX6_stepsToEvenOut 21 = .ok (.getfield 21, 3) := by decide +kernel
theorem dX6_stepsToEvenOut_24 : decode cX6_stepsToEvenOut 24 = .ok (.aload_n 0, 1) := by decide +kernel
theorem dX6_stepsToEvenOut_25 : decode cX6_stepsToEvenOut 25 = .ok (.getfield 9, 3) := by decide +kernel
theorem dX6_stepsToEvenOut_28 : decode cX6_stepsToEvenOut 28 = .ok (.lsub, 1) := by decide +kernel
theorem dX6_stepsToEvenOut_29 : decode cX6_stepsToEvenOut 29 = .ok (.lload_n 1, 1) := by decide +kernel
theorem dX6_stepsToEvenOut_30 : decode cX6_stepsToEvenOut 30 = .ok (.ldc2_w 43, 3) := by decide +kernel
theorem dX6_stepsToEvenOut_33 : decode cX6_stepsToEvenOut 33 = .ok (.ldiv, 1) := by decide +kernel
theorem dX6_stepsToEvenOut_34 : decode cX6_stepsToEvenOut 34 = .ok (.ladd, 1) := by decide +kernel
theorem dX6_stepsToEvenOut_35 : decode cX6_stepsToEvenOut 35 = .ok (.lload_n 1, 1) := by decide +kernel
theorem dX6_stepsToEvenOut_36 : decode cX6_stepsToEvenOut 36 = .ok (.invokestatic 51, 3) := by decide +kernel
theorem dX6_stepsToEvenOut_39 : decode cX6_stepsToEvenOut 39 = .ok (.lstore_n 3, 1) := by decide +kernel
theorem dX6_stepsToEvenOut_40 : decode cX6_stepsToEvenOut 40 = .ok (.aload_n 0, 1) := by decide +kernel
theorem dX6_stepsToEvenOut_41 : decode cX6_stepsToEvenOut 41 = .ok (.getfield 18, 3) := by decide +kernel
theorem dX6_stepsToEvenOut_44 : decode cX6_stepsToEvenOut 44 = .ok (.lconst 0, 1) := by decide +kernel
theorem dX6_stepsToEvenOut_45 : decode cX6_stepsToEvenOut 45 = .ok (.lcmp, 1) := by decide +kernel
theorem dX6_stepsToEvenOut_46 : decode cX6_stepsToEvenOut 46 = .ok (.ifCond .le 7, 3) := by decide +kernel
theorem dX6_stepsToEvenOut_49 : decode cX6_stepsToEvenOut 49 = .ok (.lload_n 3, 1) := by decide +kernel
theorem dX6_stepsToEvenOut_50 : decode cX6_stepsToEvenOut 50 = .ok (.goto 5, 3) := by decide +kernel
theorem dX6_stepsToEvenOut_53 : decode cX6_stepsToEvenOut 53 = .ok (.lload_n 3, 1) := by decide +kernel
theorem dX6_stepsToEvenOut_54 : decode cX6_stepsToEvenOut 54 = .ok (.lneg, 1) := by decide +kernel
theorem dX6_stepsToEvenOut_55 : decode cX6_stepsToEvenOut 55 = .ok (.lreturn, 1) := by decide +kernel
theorem dX6_hasLikeSides_0 : decode cX6_hasLikeSides 0 = .ok (.aload_n 0, 1) := by decide +kernel
theorem dX6_hasLikeSides_1 : decode cX6_hasLikeSides 1 = .ok (.getfield 15, 3) := by decide +kernel
theorem dX6_hasLikeSides_4 : decode cX6_hasLikeSides 4 = .ok (.lconst 0, 1) := by decide +kernel
theorem dX6_hasLikeSides_5 : decode cX6_hasLikeSides 5 = .ok (.lcmp, 1) := by decide +kernel
theorem dX6_hasLikeSides_6 : decode cX6_hasLikeSides 6 = .ok (.ifCond .le 12, 3) := by decide +kernel
theorem dX6_hasLikeSides_9 : decode cX6_hasLikeSides 9 = .ok (.aload_n 0, 1) := by decide +kernel
theorem dX6_hasLikeSides_10 : decode cX6_hasLikeSides 10 = .ok (.getfield 18, 3) := by decide +kernel
theorem dX6_hasLikeSides_13 : decode cX6_hasLikeSides 13 = .ok (.lconst 0, 1) := by decide +kernel
theorem dX6_hasLikeSides_14 : decode cX6_hasLikeSides 14 = .ok (.lcmp, 1) := by decide +kernel
theorem dX6_hasLikeSides_15 : decode cX6_hasLikeSides 15 = .ok (.ifCond .gt 21, 3) := by decide +kernel
theorem dX6_hasLikeSides_18 : decode cX6_hasLikeSides 18 = .ok (.aload_n 0, 1) := by decide +kernel
theorem dX6_hasLikeSides_19 : decode cX6_hasLikeSides 19 = .ok (.getfield 15, 3) := by decide +kernel
theorem dX6_hasLikeSides_22 : decode cX6_hasLikeSides 22 = .ok (.lconst 0, 1) := by decide +kernel
theorem dX6_hasLikeSides_23 : decode cX6_hasLikeSides 23 = .ok (.lcmp, 1) := by decide +kernel
theorem dX6_hasLikeSides_24 : decode cX6_hasLikeSides 24 = .ok (.ifCond .ge 16, 3) := by decide +kernel
theorem dX6_hasLikeSides_27 : decode cX6_hasLikeSides 27 = .ok (.aload_n 0, 1) := by decide +kernel
theorem dX6_hasLikeSides_28 : decode cX6_hasLikeSides 28 = .ok (.getfield 18, 3) := by decide +kernel
theorem dX6_hasLikeSides_31 : decode cX6_hasLikeSides 31 = .ok (.lconst 0, 1) := by decide +kernel
theorem dX6_hasLikeSides_32 : decode cX6_hasLikeSides 32 = .ok (.lcmp, 1) := by decide +kernel
theorem dX6_hasLikeSides_33 : decode cX6_hasLikeSides 33 = .ok (.ifCond .ge 7, 3) := by decide +kernel
theorem dX6_hasLikeSides_36 : decode cX6_hasLikeSides 36 = .ok (.iconst 1, 1) := by decide +kernel
theorem dX6_hasLikeSides_37 : decode cX6_hasLikeSides 37 = .ok (.goto 4, 3) := by decide +kernel
theorem dX6_hasLikeSides_40 : decode cX6_hasLikeSides 40 = .ok (.iconst 0, 1) := by decide +kernel
theorem dX6_hasLikeSides_41 : decode cX6_hasLikeSides 41 = .ok (.ireturn, 1) := by decide +kernel
theorem dX6_trace_0 : decode cX6_trace 0 = .ok (.aload_n 0, 1) := by decide +kernel
theorem dX6_trace_1 : decode cX6_trace 1 = .ok (.getfield 9, 3) := by decide +kernel
theorem dX6_trace_4 : decode cX6_trace 4 = .ok (.aload_n 0, 1) := by decide +kernel
theorem dX6_trace_5 : decode cX6_trace 5 = .ok (.getfield 21, 3) := by decide +kernel
theorem dX6_trace_8 : decode cX6_trace 8 = .ok (.ladd, 1) := by decide +kernel
theorem dX6_trace_9 : decode cX6_trace 9 = .ok (.lreturn, 1) := by decide +kernel
theorem dX6_hasAreaOne_0 : decode cX6_hasAreaOne 0 = .ok (.aload_n 0, 1) := by decide +kernel
theorem dX6_hasAreaOne_1 : decode cX6_hasAreaOne 1 = .ok (.getfield 9, 3) := by decide +kernel
theorem dX6_hasAreaOne_4 : decode cX6_hasAreaOne 4 = .ok (.aload_n 0, 1) := by decide +kernel
theorem dX6_hasAreaOne_5 : decode cX6_hasAreaOne 5 = .ok (.getfield 21, 3) := by decide +kernel
theorem dX6_hasAreaOne_8 : decode cX6_hasAreaOne 8 = .ok (.lmul, 1) := by decide +kernel
theorem dX6_hasAreaOne_9 : decode cX6_hasAreaOne 9 = .ok (.aload_n 0, 1) := by decide +kernel
theorem dX6_hasAreaOne_10 : decode cX6_hasAreaOne 10 = .ok (.getfield 15, 3) := by decide +kernel
theorem dX6_hasAreaOne_13 : decode cX6_hasAreaOne 13 = .ok (.aload_n 0, 1) := by decide +kernel
theorem dX6_hasAreaOne_14 : decode cX6_hasAreaOne 14 = .ok (.getfield 18, 3) := by decide +kernel
theorem dX6_hasAreaOne_17 : decode cX6_hasAreaOne 17 = .ok (.lmul, 1) := by decide +kernel
theorem dX6_hasAreaOne_18 : decode cX6_hasAreaOne 18 = .ok (.lsub, 1) := by decide +kernel
theorem dX6_hasAreaOne_19 : decode cX6_hasAreaOne 19 = .ok (.lconst 1, 1) := by decide +kernel
theorem dX6_hasAreaOne_20 : decode cX6_hasAreaOne 20 = .ok (.lcmp, 1) := by decide +kernel
theorem dX6_hasAreaOne_21 : decode cX6_hasAreaOne 21 = .ok (.ifCond .ne 7, 3) := by decide +kernel
theorem dX6_hasAreaOne_24 : decode cX6_hasAreaOne 24 = .ok (.iconst 1, 1) := by decide +kernel
theorem dX6_hasAreaOne_25 : decode cX6_hasAreaOne 25 = .ok (.goto 4, 3) := by decide +kernel
theorem dX6_hasAreaOne_28 : decode cX6_hasAreaOne 28 = .ok (.iconst 0, 1) := by decide +kernel
theorem dX6_hasAreaOne_29 : decode cX6_hasAreaOne 29 = .ok (.ireturn, 1) := by decide +kernel
theorem dX6_isWithinBounds_0 : decode cX6_isWithinBounds 0 = .ok (.aload_n 0, 1) := by decide +kernel
theorem dX6_isWithinBounds_1 : decode cX6_isWithinBounds 1 = .ok (.getfield 9, 3) := by decide +kernel
theorem dX6_isWithinBounds_4 : decode cX6_isWithinBounds 4 = .ok (.invokestatic 55, 3) := by decide +kernel
theorem dX6_isWithinBounds_7 : decode cX6_isWithinBounds 7 = .ok (.ifCond .eq 37, 3) := by decide +kernel
theorem dX6_isWithinBounds_10 : decode cX6_isWithinBounds 10 = .ok (.aload_n 0, 1) := by decide +kernel
theorem dX6_isWithinBounds_11 : decode cX6_isWithinBounds 11 = .ok (.getfield 15, 3) := by decide +kernel
theorem dX6_isWithinBounds_14 : decode cX6_isWithinBounds 14 = .ok (.invokestatic 55, 3) := by decide +kernel
theorem dX6_isWithinBounds_17 : decode cX6_isWithinBounds 17 = .ok (.ifCond .eq 27, 3) := by decide +kernel
theorem dX6_isWithinBounds_20 : decode cX6_isWithinBounds 20 = .ok (.aload_n 0, 1) := by decide +kernel
theorem dX6_isWithinBounds_21 : decode cX6_isWithinBounds 21 = .ok (.getfield 18, 3) := by decide +kernel
theorem dX6_isWithinBounds_24 : decode cX6_isWithinBounds 24 = .ok (.invokestatic 55, 3) := by decide +kernel
theorem dX6_isWithinBounds_27 : decode cX6_isWithinBounds 27 = .ok (.ifCond .eq 17, 3) := by decide +kernel
theorem dX6_isWithinBounds_30 : decode cX6_isWithinBounds 30 = .ok (.aload_n 0, 1) := by decide +kernel
theorem dX6_isWithinBounds_31 : decode cX6_isWithinBounds 31 = .ok (.getfield 21, 3) := by decide +kernel
theorem dX6_isWithinBounds_34 : decode cX6_isWithinBounds 34 = .ok (.invokestatic 55, 3) := by decide +kernel
theorem dX6_isWithinBounds_37 : decode cX6_isWithinBounds 37 = .ok (.ifCond .eq 7, 3) := by decide +kernel
theorem dX6_isWithinBounds_40 : decode cX6_isWithinBounds 40 = .ok (.iconst 1, 1) := by decide +kernel
theorem dX6_isWithinBounds_41 : decode cX6_isWithinBounds 41 = .ok (.goto 4, 3) := by decide +kernel
theorem dX6_isWithinBounds_44 : decode cX6_isWithinBounds 44 = .ok (.iconst 0, 1) := by decide +kernel
theorem dX6_isWithinBounds_45 : decode cX6_isWithinBounds 45 = .ok (.ireturn, 1) := by decide +kernel
theorem dX6_isNumber_0 : decode cX6_isNumber 0 = .ok (.lload_n 0, 1) := by decide +kernel
theorem dX6_isNumber_1 : decode cX6_isNumber 1 = .ok (.ldc2_w 59, 3) := by decide +kernel
theorem dX6_isNumber_4 : decode cX6_isNumber 4 = .ok (.lcmp, 1) := by decide +kernel
theorem dX6_isNumber_5 : decode cX6_isNumber 5 = .ok (.ifCond .lt 15, 3) := by decide +kernel
theorem dX6_isNumber_8 : decode cX6_isNumber 8 = .ok (.lload_n 0, 1) := by decide +kernel
theorem dX6_isNumber_9 : decode cX6_isNumber 9 = .ok (.ldc2_w 61, 3) := by decide +kernel
theorem dX6_isNumber_12 : decode cX6_isNumber 12 = .ok (.lcmp, 1) := by decide +kernel
theorem dX6_isNumber_13 : decode cX6_isNumber 13 = .ok (.ifCond .gt 7, 3) := by decide +kernel
theorem dX6_isNumber_16 : decode cX6_isNumber 16 = .ok (.iconst 1, 1) := by decide +kernel
theorem dX6_isNumber_17 : decode cX6_isNumber 17 = .ok (.goto 4, 3) := by decide +kernel
theorem dX6_isNumber_20 : decode cX6_isNumber 20 = .ok (.iconst 0, 1) := by decide +kernel
theorem dX6_isNumber_21 : decode cX6_isNumber 21 = .ok (.ireturn, 1) := by decide +kernel
theorem dX6_isOne_0 : decode cX6_isOne 0 = .ok (.aload_n 0, 1) := by decide +kernel
theorem dX6_isOne_1 : decode cX6_isOne 1 = .ok (.getfield 9, 3) := by decide +kernel
theorem dX6_isOne_4 : decode cX6_isOne 4 = .ok (.lconst 1, 1) := by decide +kernel
theorem dX6_isOne_5 : decode cX6_isOne 5 = .ok (.lcmp, 1) := by decide +kernel
theorem dX6_isOne_6 : decode cX6_isOne 6 = .ok (.ifCond .ne 34, 3) := by decide +kernel
theorem dX6_isOne_9 : decode cX6_isOne 9 = .ok (.aload_n 0, 1) := by decide +kernel
theorem dX6_isOne_10 : decode cX6_isOne 10 = .ok (.getfield 15, 3) := by decide +kernel
theorem dX6_isOne_13 : decode cX6_isOne 13 = .ok (.lconst 0, 1) := by decide +kernel
theorem dX6_isOne_14 : decode cX6_isOne 14 = .ok (.lcmp, 1) := by decide +kernel
theorem dX6_isOne_15 : decode cX6_isOne 15 = .ok (.ifCond .ne 25, 3) := by decide +kernel
theorem dX6_isOne_18 : decode cX6_isOne 18 = .ok (.aload_n 0, 1) := by decide +kernel
theorem dX6_isOne_19 : decode cX6_isOne 19 = .ok (.getfield 18, 3) := by decide +kernel
theorem dX6_isOne_22 : decode cX6_isOne 22 = .ok (.lconst 0, 1) := by decide +kernel
theorem dX6_isOne_23 : decode cX6_isOne 23 = .ok (.lcmp, 1) := by decide +kernel
theorem dX6_isOne_24 : decode cX6_isOne 24 = .ok (.ifCond .ne 16, 3) := by decide +kernel
theorem dX6_isOne_27 : decode cX6_isOne 27 = .ok (.aload_n 0, 1) := by decide +kernel
theorem dX6_isOne_28 : decode cX6_isOne 28 = .ok (.getfield 21, 3) := by decide +kernel
theorem dX6_isOne_31 : decode cX6_isOne 31 = .ok (.lconst 1, 1) := by decide +kernel
theorem dX6_isOne_32 : decode cX6_isOne 32 = .ok (.lcmp, 1) := by decide +kernel
theorem dX6_isOne_33 : decode cX6_isOne 33 = .ok (.ifCond .ne 7, 3) := by decide +kernel
theorem dX6_isOne_36 : decode cX6_isOne 36 = .ok (.iconst 1, 1) := by decide +kernel
theorem dX6_isOne_37 : decode cX6_isOne 37 = .ok (.goto 4, 3) := by decide +kernel
theorem dX6_isOne_40 : decode cX6_isOne 40 = .ok (.iconst 0, 1) := by decide +kernel
theorem dX6_isOne_41 : decode cX6_isOne 41 = .ok (.ireturn, 1) := by decide +kernel
theorem dX6_hasNoneBelowZero_0 : decode cX6_hasNoneBelowZero 0 = .ok (.aload_n 0, 1) := by decide +kernel
theorem dX6_hasNoneBelowZero_1 : decode cX6_hasNoneBelowZero 1 = .ok (.getfield 9, 3) := by decide +kernel
theorem dX6_hasNoneBelowZero_4 : decode cX6_hasNoneBelowZero 4 = .ok (.lconst 0, 1) := by decide +kernel
theorem dX6_hasNoneBelowZero_5 : decode cX6_hasNoneBelowZero 5 = .ok (.lcmp, 1) := by decide +kernel
theorem dX6_hasNoneBelowZero_6 : decode cX6_hasNoneBelowZero 6 = .ok (.ifCond .lt 34, 3) := by decide +kernel
theorem dX6_hasNoneBelowZero_9 : decode cX6_hasNoneBelowZero 9 = .ok (.aload_n 0, 1) := by decide +kernel
theorem dX6_hasNoneBelowZero_10 : decode cX6_hasNoneBelowZero 10 = .ok (.getfield 15, 3) := by decide +kernel
theorem dX6_hasNoneBelowZero_13 : decode cX6_hasNoneBelowZero 13 = .ok (.lconst 0, 1) := by decide +kernel
theorem dX6_hasNoneBelowZero_14 : decode cX6_hasNoneBelowZero 14 = .ok (.lcmp, 1) := by decide +kernel
theorem dX6_hasNoneBelowZero_15 : decode cX6_hasNoneBelowZero 15 = .ok (.ifCond .lt 25, 3) := by decide +kernel
theorem dX6_hasNoneBelowZero_18 : decode cX6_hasNoneBelowZero 18 = .ok (.aload_n 0, 1) := by decide +kernel
theorem dX6_hasNoneBelowZero_19 : decode cX6_hasNoneBelowZero 19 = .ok (.getfield 18, 3) := by decide +kernel
theorem dX6_hasNoneBelowZero_22 : decode cX6_hasNoneBelowZero 22 = .ok (.lconst 0, 1) := by decide +kernel
theorem dX6_hasNoneBelowZero_23 : decode cX6_hasNoneBelowZero 23 = .ok (.lcmp, 1) := by decide +kernel
theorem dX6_hasNoneBelowZero_24 : decode cX6_hasNoneBelowZero 24 = .ok (.ifCond .lt 16, 3) := by decide +kernel
theorem dX6_hasNoneBelowZero_27 : decode cX6_hasNoneBelowZero 27 = .ok (.aload_n 0, 1) := by decide +kernel
theorem dX6_hasNoneBelowZero_28 : decode cX6_hasNoneBelowZero 28 = .ok (.getfield 21, 3) := by decide +kernel
theorem dX6_hasNoneBelowZero_31 : decode cX6_hasNoneBelowZero 31 = .ok (.lconst 0, 1) := by decide +kernel
theorem dX6_hasNoneBelowZero_32 : decode cX6_hasNoneBelowZero 32 = .ok (.lcmp, 1) := by decide +kernel
theorem dX6_hasNoneBelowZero_33 : decode cX6_hasNoneBelowZero 33 = .ok (.ifCond .lt 7, 3) := by decide +kernel
theorem dX6_hasNoneBelowZero_36 : decode cX6_hasNoneBelowZero 36 = .ok (.iconst 1, 1) := by decide +kernel
theorem dX6_hasNoneBelowZero_37 : decode cX6_hasNoneBelowZero 37 = .ok (.goto 4, 3) := by decide +kernel
theorem dX6_hasNoneBelowZero_40 : decode cX6_hasNoneBelowZero 40 = .ok (.iconst 0, 1) := by decide +kernel
theorem dX6_hasNoneBelowZero_41 : decode cX6_hasNoneBelowZero 41 = .ok (.ireturn, 1) := by decide +kernel
theorem dX6_isSameAs_0 : decode cX6_isSameAs 0 = .ok (.aload_n 0, 1) := by decide +kernel
theorem dX6_isSameAs_1 : decode cX6_isSameAs 1 = .ok (.getfield 9, 3) := by decide +kernel
theorem dX6_isSameAs_4 : decode cX6_isSameAs 4 = .ok (.aload_n 1, 1) := by decide +kernel
theorem dX6_isSameAs_5 : decode cX6_isSameAs 5 = .ok (.getfield 9, 3) := by decide +kernel
theorem dX6_isSameAs_8 : decode cX6_isSameAs 8 = .ok (.lcmp, 1) := by decide +kernel
theorem dX6_isSameAs_9 : decode cX6_isSameAs 9 = .ok (.ifCond .ne 43, 3) := by decide +kernel
theorem dX6_isSameAs_12 : decode cX6_isSameAs 12 = .ok (.aload_n 0, 1) := by decide +kernel
theorem dX6_isSameAs_13 : decode cX6_isSameAs 13 = .ok (.getfield 15, 3) := by decide +kernel
theorem dX6_isSameAs_16 : decode cX6_isSameAs 16 = .ok (.aload_n 1, 1) := by decide +kernel
theorem dX6_isSameAs_17 : decode cX6_isSameAs 17 = .ok (.getfield 15, 3) := by decide +kernel
theorem dX6_isSameAs_20 : decode cX6_isSameAs 20 = .ok (.lcmp, 1) := by decide +kernel
theorem dX6_isSameAs_21 : decode cX6_isSameAs 21 = .ok (.ifCond .ne 31, 3) := by decide +kernel
theorem dX6_isSameAs_24 : decode cX6_isSameAs 24 = .ok (.aload_n 0, 1) := by decide +kernel
theorem dX6_isSameAs_25 : decode cX6_isSameAs 25 = .ok (.getfield 18, 3) := by decide +kernel
theorem dX6_isSameAs_28 : decode cX6_isSameAs 28 = .ok (.aload_n 1, 1) := by decide +kernel
theorem dX6_isSameAs_29 : decode cX6_isSameAs 29 = .ok (.getfield 18, 3) := by decide +kernel
theorem dX6_isSameAs_32 : decode cX6_isSameAs 32 = .ok (.lcmp, 1) := by decide +kernel
theorem dX6_isSameAs_33 : decode cX6_isSameAs 33 = .ok (.ifCond .ne 19, 3) := by decide +kernel
theorem dX6_isSameAs_36 : decode cX6_isSameAs 36 = .ok (.aload_n 0, 1) := by decide +kernel
theorem dX6_isSameAs_37 : decode cX6_isSameAs 37 = .ok (.getfield 21, 3) := by decide +kernel
theorem dX6_isSameAs_40 : decode cX6_isSameAs 40 = .ok (.aload_n 1, 1) := by decide +kernel
theorem dX6_isSameAs_41 : decode cX6_isSameAs 41 = .ok (.getfield 21, 3) := by decide +kernel
theorem dX6_isSameAs_44 : decode cX6_isSameAs 44 = .ok (.lcmp, 1) := by decide +kernel
theorem dX6_isSameAs_45 : decode cX6_isSameAs 45 = .ok (.ifCond .ne 7, 3) := by decide +kernel
theorem dX6_isSameAs_48 : decode cX6_isSameAs 48 = .ok (.iconst 1, 1) := by decide +kernel
theorem dX6_isSameAs_49 : decode cX6_isSameAs 49 = .ok (.goto 4, 3) := by decide +kernel
theorem dX6_isSameAs_52 : decode cX6_isSameAs 52 = .ok (.iconst 0, 1) := by decide +kernel
theorem dX6_isSameAs_53 : decode cX6_isSameAs 53 = .ok (.ireturn, 1) := by decide +kernel
theorem dX7_init_0 : decode cX7_init 0 = .ok (.aload_n 0, 1) := by decide +kernel
theorem dX7_init_1 : decode cX7_init 1 = .ok (.invokespecial 3, 3) := by decide +kernel
theorem dX7_init_4 : decode cX7_init 4 = .ok (.aload_n 0, 1) := by decide +kernel
theorem dX7_init_5 : decode cX7_init 5 = .ok (.bipush 60, 2) := by decide +kernel
theorem dX7_init_7 : decode cX7_init 7 = .ok (.newarray .int, 2) := by decide +kernel
theorem dX7_init_9 : decode cX7_init 9 = .ok (.putfield 9, 3) := by decide +kernel
theorem dX7_init_12 : decode cX7_init 12 = .ok (.aload_n 0, 1) := by decide +kernel
theorem dX7_init_13 : decode cX7_init 13 = .ok (.iconst 0, 1) := by decide +kernel
theorem dX7_init_14 : decode cX7_init 14 = .ok (.putfield 15, 3) := by decide +kernel
theorem dX7_init_17 : decode cX7_init 17 = .ok (.aload_n 0, 1) := by decide +kernel
theorem dX7_init_18 : decode cX7_init 18 = .ok (.iconst (-1), 1) := by decide +kernel
theorem dX7_init_19 : decode cX7_init 19 = .ok (.putfield 19, 3) := by decide +kernel
theorem dX7_init_22 : decode cX7_init 22 = .ok (.return_, 1) := by decide +kernel
theorem dX7_length_0 : decode cX7_length 0 = .ok (.aload_n 0, 1) := by decide +kernel
theorem dX7_length_1 : decode cX7_length 1 = .ok (.getfield 15, 3) := by decide +kernel
theorem dX7_length_4 : decode cX7_length 4 = .ok (.ireturn, 1) := by decide +kernel
theorem dX7_isFull_0 : decode cX7_isFull 0 = .ok (.aload_n 0, 1) := by decide +kernel
theorem dX7_isFull_1 : decode cX7_isFull 1 = .ok (.getfield 15, 3) := by decide +kernel
theorem dX7_isFull_4 : decode cX7_isFull 4 = .ok (.bipush 60, 2) := by decide +kernel
theorem dX7_isFull_6 : decode cX7_isFull 6 = .ok (.if_icmp .lt 7, 3) := by decide +kernel
theorem dX7_isFull_9 : decode cX7_isFull 9 = .ok (.iconst 1, 1) := by decide +kernel
theorem dX7_isFull_10 : decode cX7_isFull 10 = .ok (.goto 4, 3) := by decide +kernel
theorem dX7_isFull_13 : decode cX7_isFull 13 = .ok (.iconst 0, 1) := by decide +kernel
theorem dX7_isFull_14 : decode cX7_isFull 14 = .ok (.ireturn, 1) := by decide +kernel
theorem dX7_append_0 : decode cX7_append 0 = .ok (.aload_n 0, 1) := by decide +kernel
theorem dX7_append_1 : decode cX7_append 1 = .ok (.invokevirtual 22, 3) := by decide +kernel
theorem dX7_append_4 : decode cX7_append 4 = .ok (.ifCond .ne 23, 3) := by decide +kernel
theorem dX7_append_7 : decode cX7_append 7 = .ok (.aload_n 0, 1) := by decide +kernel
theorem dX7_append_8 : decode cX7_append 8 = .ok (.getfield 9, 3) := by decide +kernel
theorem dX7_append_11 : decode cX7_append 11 = .ok (.aload_n 0, 1) := by decide +kernel
theorem dX7_append_12 : decode cX7_append 12 = .ok (.getfield 15, 3) := by decide +kernel
theorem dX7_append_15 : decode cX7_append 15 = .ok (.iload_n 1, 1) := by decide +kernel
theorem dX7_append_16 : decode cX7_append 16 = .ok (.iastore, 1) := by decide +kernel
theorem dX7_append_17 : decode cX7_append 17 = .ok (.aload_n 0, 1) := by decide +kernel
theorem dX7_append_18 : decode cX7_append 18 = .ok (.dup, 1) := by decide +kernel
theorem dX7_append_19 : decode cX7_append 19 = .ok (.getfield 15, 3) := by decide +kernel
theorem dX7_append_22 : decode cX7_append 22 = .ok (.iconst 1, 1) := by decide +kernel
theorem dX7_append_23 : decode cX7_append 23 = .ok (.iadd, 1) := by decide +kernel
theorem dX7_append_24 : decode cX7_append 24 = .ok (.putfield 15, 3) := by decide +kernel
theorem dX7_append_27 : decode cX7_append 27 = .ok (.return_, 1) := by decide +kernel
theorem dX7_clear_0 : decode cX7_clear 0 = .ok (.aload_n 0, 1) := by decide +kernel
theorem dX7_clear_1 : decode cX7_clear 1 = .ok (.iconst 0, 1) := by decide +kernel
theorem dX7_clear_2 : decode cX7_clear 2 = .ok (.putfield 15, 3) := by decide +kernel
theorem dX7_clear_5 : decode cX7_clear 5 = .ok (.return_, 1) := by decide +kernel
theorem dX7_faultPlace_0 : decode cX7_faultPlace 0 = .ok (.aload_n 0, 1) := by decide +kernel
theorem dX7_faultPlace_1 : decode cX7_faultPlace 1 = .ok (.getfield 19, 3) := by decide +kernel
theorem dX7_faultPlace_4 : decode cX7_faultPlace 4 = .ok (.ireturn, 1) := by decide +kernel
theorem dX7_spell_0 : decode cX7_spell 0 = .ok (.aload_n 1, 1) := by decide +kernel
theorem dX7_spell_1 : decode cX7_spell 1 = .ok (.invokevirtual 26, 3) := by decide +kernel
theorem dX7_spell_4 : decode cX7_spell 4 = .ok (.aload_n 0, 1) := by decide +kernel
theorem dX7_spell_5 : decode cX7_spell 5 = .ok (.iconst (-1), 1) := by decide +kernel
theorem dX7_spell_6 : decode cX7_spell 6 = .ok (.putfield 19, 3) := by decide +kernel
theorem dX7_spell_9 : decode cX7_spell 9 = .ok (.iconst 0, 1) := by decide +kernel
theorem dX7_spell_10 : decode cX7_spell 10 = .ok (.istore_n 2, 1) := by decide +kernel
theorem dX7_spell_11 : decode cX7_spell 11 = .ok (.iload_n 2, 1) := by decide +kernel
theorem dX7_spell_12 : decode cX7_spell 12 = .ok (.aload_n 0, 1) := by decide +kernel
theorem dX7_spell_13 : decode cX7_spell 13 = .ok (.getfield 15, 3) := by decide +kernel
theorem dX7_spell_16 : decode cX7_spell 16 = .ok (.if_icmp .ge 43, 3) := by decide +kernel
theorem dX7_spell_19 : decode cX7_spell 19 = .ok (.aload_n 1, 1) := by decide +kernel
theorem dX7_spell_20 : decode cX7_spell 20 = .ok (.aload_n 0, 1) := by decide +kernel
theorem dX7_spell_21 : decode cX7_spell 21 = .ok (.getfield 9, 3) := by decide +kernel
theorem dX7_spell_24 : decode cX7_spell 24 = .ok (.iload_n 2, 1) := by decide +kernel
theorem dX7_spell_25 : decode cX7_spell 25 = .ok (.iaload, 1) := by decide +kernel
theorem dX7_spell_26 : decode cX7_spell 26 = .ok (.invokevirtual 31, 3) := by decide +kernel
theorem dX7_spell_29 : decode cX7_spell 29 = .ok (.ifCond .ne 10, 3) := by decide +kernel
theorem dX7_spell_32 : decode cX7_spell 32 = .ok (.aload_n 0, 1) := by decide +kernel
theorem dX7_spell_33 : decode cX7_spell 33 = .ok (.iload_n 2, 1) := by decide +kernel
theorem dX7_spell_34 : decode cX7_spell 34 = .ok (.putfield 19, 3) := by decide +kernel
theorem dX7_spell_37 : decode cX7_spell 37 = .ok (.iconst 1, 1) := by decide +kernel
theorem dX7_spell_38 : decode cX7_spell 38 = .ok (.ireturn, 1) := by decide +kernel
theorem dX7_spell_39 : decode cX7_spell 39 = .ok (.aload_n 1, 1) := by decide +kernel
theorem dX7_spell_40 : decode cX7_spell 40 = .ok (.invokevirtual 35, 3) := by decide +kernel
theorem dX7_spell_43 : decode cX7_spell 43 = .ok (.ifCond .ne 10, 3) := by decide +kernel
theorem dX7_spell_46 : decode cX7_spell 46 = .ok (.aload_n 0, 1) := by decide +kernel
theorem dX7_spell_47 : decode cX7_spell 47 = .ok (.iload_n 2, 1) := by decide +kernel
theorem dX7_spell_48 : decode cX7_spell 48 = .ok (.putfield 19, 3) := by decide +kernel
theorem dX7_spell_51 : decode cX7_spell 51 = .ok (.iconst 2, 1) := by decide +kernel
theorem dX7_spell_52 : decode cX7_spell 52 = .ok (.ireturn, 1) := by decide +kernel
theorem dX7_spell_53 : decode cX7_spell 53 = .ok (.iinc 2 1, 3) := by decide +kernel
theorem dX7_spell_56 : decode cX7_spell 56 = .ok (.goto (-45), 3) := by decide +kernel
theorem dX7_spell_59 : decode cX7_spell 59 = .ok (.iconst 0, 1) := by decide +kernel
theorem dX7_spell_60 : decode cX7_spell 60 = .ok (.ireturn, 1) := by decide +kernel
theorem dX8_init_0 : decode cX8_init 0 = .ok (.aload_n 0, 1) := by decide +kernel
theorem dX8_init_1 : decode cX8_init 1 = .ok (.invokespecial 3, 3) := by decide +kernel
theorem dX8_init_4 : decode cX8_init 4 = .ok (.aload_n 0, 1) := by decide +kernel
theorem dX8_init_5 : decode cX8_init 5 = .ok (.bipush 40, 2) := by decide +kernel
theorem dX8_init_7 : decode cX8_init 7 = .ok (.newarray .int, 2) := by decide +kernel
theorem dX8_init_9 : decode cX8_init 9 = .ok (.putfield 9, 3) := by decide +kernel
theorem dX8_init_12 : decode cX8_init 12 = .ok (.aload_n 0, 1) := by decide +kernel
theorem dX8_init_13 : decode cX8_init 13 = .ok (.new 15, 3) := by decide +kernel
theorem dX8_init_16 : decode cX8_init 16 = .ok (.dup, 1) := by decide +kernel
theorem dX8_init_17 : decode cX8_init 17 = .ok (.invokespecial 17, 3) := by decide +kernel
theorem dX8_init_20 : decode cX8_init 20 = .ok (.putfield 18, 3) := by decide +kernel
theorem dX8_init_23 : decode cX8_init 23 = .ok (.aload_n 0, 1) := by decide +kernel
theorem dX8_init_24 : decode cX8_init 24 = .ok (.new 22, 3) := by decide +kernel
theorem dX8_init_27 : decode cX8_init 27 = .ok (.dup, 1) := by decide +kernel
theorem dX8_init_28 : decode cX8_init 28 = .ok (.invokespecial 24, 3) := by decide +kernel
theorem dX8_init_31 : decode cX8_init 31 = .ok (.putfield 25, 3) := by decide +kernel
theorem dX8_init_34 : decode cX8_init 34 = .ok (.aload_n 0, 1) := by decide +kernel
theorem dX8_init_35 : decode cX8_init 35 = .ok (.iconst 0, 1) := by decide +kernel
theorem dX8_init_36 : decode cX8_init 36 = .ok (.putfield 29, 3) := by decide +kernel
theorem dX8_init_39 : decode cX8_init 39 = .ok (.aload_n 0, 1) := by decide +kernel
theorem dX8_init_40 : decode cX8_init 40 = .ok (.iconst 0, 1) := by decide +kernel
theorem dX8_init_41 : decode cX8_init 41 = .ok (.putfield 33, 3) := by decide +kernel
theorem dX8_init_44 : decode cX8_init 44 = .ok (.return_, 1) := by decide +kernel
theorem dX8_clear_0 : decode cX8_clear 0 = .ok (.aload_n 0, 1) := by decide +kernel
theorem dX8_clear_1 : decode cX8_clear 1 = .ok (.iconst 0, 1) := by decide +kernel
theorem dX8_clear_2 : decode cX8_clear 2 = .ok (.putfield 29, 3) := by decide +kernel
theorem dX8_clear_5 : decode cX8_clear 5 = .ok (.aload_n 0, 1) := by decide +kernel
theorem dX8_clear_6 : decode cX8_clear 6 = .ok (.iconst 0, 1) := by decide +kernel
theorem dX8_clear_7 : decode cX8_clear 7 = .ok (.putfield 33, 3) := by decide +kernel
theorem dX8_clear_10 : decode cX8_clear 10 = .ok (.return_, 1) := by decide +kernel
theorem dX8_read_0 : decode cX8_read 0 = .ok (.aload_n 0, 1) := by decide +kernel
theorem dX8_read_1 : decode cX8_read 1 = .ok (.getfield 18, 3) := by decide +kernel
theorem dX8_read_4 : decode cX8_read 4 = .ok (.aload_n 1, 1) := by decide +kernel
theorem dX8_read_5 : decode cX8_read 5 = .ok (.invokevirtual 36, 3) := by decide +kernel
theorem dX8_read_8 : decode cX8_read 8 = .ok (.aload_n 0, 1) := by decide +kernel
theorem dX8_read_9 : decode cX8_read 9 = .ok (.getfield 18, 3) := by decide +kernel
theorem dX8_read_12 : decode cX8_read 12 = .ok (.invokevirtual 40, 3) := by decide +kernel
theorem dX8_read_15 : decode cX8_read 15 = .ok (.lconst 0, 1) := by decide +kernel
theorem dX8_read_16 : decode cX8_read 16 = .ok (.lcmp, 1) := by decide +kernel
theorem dX8_read_17 : decode cX8_read 17 = .ok (.ifCond .ge 10, 3) := by decide +kernel
theorem dX8_read_20 : decode cX8_read 20 = .ok (.aload_n 0, 1) := by decide +kernel
theorem dX8_read_21 : decode cX8_read 21 = .ok (.getfield 18, 3) := by decide +kernel
theorem dX8_read_24 : decode cX8_read 24 = .ok (.invokevirtual 44, 3) := by decide +kernel
theorem dX8_read_27 : decode cX8_read 27 = .ok (.aload_n 0, 1) := by decide +kernel
theorem dX8_read_28 : decode cX8_read 28 = .ok (.getfield 18, 3) := by decide +kernel
theorem dX8_read_31 : decode cX8_read 31 = .ok (.invokevirtual 47, 3) := by decide +kernel
theorem dX8_read_34 : decode cX8_read 34 = .ok (.aload_n 0, 1) := by decide +kernel
theorem dX8_read_35 : decode cX8_read 35 = .ok (.getfield 25, 3) := by decide +kernel
theorem dX8_read_38 : decode cX8_read 38 = .ok (.aload_n 0, 1) := by decide +kernel
theorem dX8_read_39 : decode cX8_read 39 = .ok (.getfield 18, 3) := by decide +kernel
theorem dX8_read_42 : decode cX8_read 42 = .ok (.invokevirtual 50, 3) := by decide +kernel
theorem dX8_read_45 : decode cX8_read 45 = .ok (.aload_n 0, 1) := by decide +kernel
theorem dX8_read_46 : decode cX8_read 46 = .ok (.getfield 25, 3) := by decide +kernel
theorem dX8_read_49 : decode cX8_read 49 = .ok (.invokevirtual 51, 3) := by decide +kernel
theorem dX8_read_52 : decode cX8_read 52 = .ok (.pop2, 1) := by decide +kernel
theorem dX8_read_53 : decode cX8_read 53 = .ok (.aload_n 0, 1) := by decide +kernel
theorem dX8_read_54 : decode cX8_read 54 = .ok (.getfield 25, 3) := by decide +kernel
theorem dX8_read_57 : decode cX8_read 57 = .ok (.invokevirtual 54, 3) := by decide +kernel
theorem dX8_read_60 : decode cX8_read 60 = .ok (.ifCond .ne 11, 3) := by decide +kernel
theorem dX8_read_63 : decode cX8_read 63 = .ok (.aload_n 0, 1) := by decide +kernel
theorem dX8_read_64 : decode cX8_read 64 = .ok (.getfield 25, 3) := by decide +kernel
theorem dX8_read_67 : decode cX8_read 67 = .ok (.invokevirtual 51, 3) := by decide +kernel
theorem dX8_read_70 : decode cX8_read 70 = .ok (.pop2, 1) := by decide +kernel
theorem dX8_read_71 : decode cX8_read 71 = .ok (.aload_n 0, 1) := by decide +kernel
theorem dX8_read_72 : decode cX8_read 72 = .ok (.invokevirtual 58, 3) := by decide +kernel
theorem dX8_read_75 : decode cX8_read 75 = .ok (.aload_n 0, 1) := by decide +kernel
theorem dX8_read_76 : decode cX8_read 76 = .ok (.getfield 29, 3) := by decide +kernel
theorem dX8_read_79 : decode cX8_read 79 = .ok (.bipush 40, 2) := by decide +kernel
theorem dX8_read_81 : decode cX8_read 81 = .ok (.if_icmp .ge 43, 3) := by decide +kernel
theorem dX8_read_84 : decode cX8_read 84 = .ok (.aload_n 0, 1) := by decide +kernel
theorem dX8_read_85 : decode cX8_read 85 = .ok (.getfield 25, 3) := by decide +kernel
theorem dX8_read_88 : decode cX8_read 88 = .ok (.invokevirtual 61, 3) := by decide +kernel
theorem dX8_read_91 : decode cX8_read 91 = .ok (.ifCond .ne 33, 3) := by decide +kernel
theorem dX8_read_94 : decode cX8_read 94 = .ok (.aload_n 0, 1) := by decide +kernel
theorem dX8_read_95 : decode cX8_read 95 = .ok (.getfield 9, 3) := by decide +kernel
theorem dX8_read_98 : decode cX8_read 98 = .ok (.aload_n 0, 1) := by decide +kernel
theorem dX8_read_99 : decode cX8_read 99 = .ok (.getfield 29, 3) := by decide +kernel
theorem dX8_read_102 : decode cX8_read 102 = .ok (.aload_n 0, 1) := by decide +kernel
theorem dX8_read_103 : decode cX8_read 103 = .ok (.getfield 25, 3) := by decide +kernel
theorem dX8_read_106 : decode cX8_read 106 = .ok (.invokevirtual 64, 3) := by decide +kernel
theorem dX8_read_109 : decode cX8_read 109 = .ok (.l2i, 1) := by decide +kernel
theorem dX8_read_110 : decode cX8_read 110 = .ok (.iastore, 1) := by decide +kernel
theorem dX8_read_111 : decode cX8_read 111 = .ok (.aload_n 0, 1) := by decide +kernel
theorem dX8_read_112 : decode cX8_read 112 = .ok (.dup, 1) := by decide +kernel
theorem dX8_read_113 : decode cX8_read 113 = .ok (.getfield 29, 3) := by decide +kernel
theorem dX8_read_116 : decode cX8_read 116 = .ok (.iconst 1, 1) := by decide +kernel
theorem dX8_read_117 : decode cX8_read 117 = .ok (.iadd, 1) := by decide +kernel
theorem dX8_read_118 : decode cX8_read 118 = .ok (.putfield 29, 3) := by decide +kernel
theorem dX8_read_121 : decode cX8_read 121 = .ok (.goto (-46), 3) := by decide +kernel
theorem dX8_read_124 : decode cX8_read 124 = .ok (.aload_n 0, 1) := by decide +kernel
theorem dX8_read_125 : decode cX8_read 125 = .ok (.invokevirtual 67, 3) := by decide +kernel
theorem dX8_read_128 : decode cX8_read 128 = .ok (.return_, 1) := by decide +kernel
theorem dX8_findLeastStart_0 : decode cX8_findLeastStart 0 = .ok (.iconst 2, 1) := by decide +kernel
theorem dX8_findLeastStart_1 : decode cX8_findLeastStart 1 = .ok (.istore_n 1, 1) := by decide +kernel
theorem dX8_findLeastStart_2 : decode cX8_findLeastStart 2 = .ok (.iload_n 1, 1) := by decide +kernel
theorem dX8_findLeastStart_3 : decode cX8_findLeastStart 3 = .ok (.aload_n 0, 1) := by decide +kernel
theorem dX8_findLeastStart_4 : decode cX8_findLeastStart 4 = .ok (.getfield 29, 3) := by decide +kernel
theorem dX8_findLeastStart_7 : decode cX8_findLeastStart 7 = .ok (.if_icmp .ge 26, 3) := by decide +kernel
theorem dX8_findLeastStart_10 : decode cX8_findLeastStart 10 = .ok (.aload_n 0, 1) := by decide +kernel
theorem dX8_findLeastStart_11 : decode cX8_findLeastStart 11 = .ok (.iload_n 1, 1) := by decide +kernel
theorem dX8_findLeastStart_12 : decode cX8_findLeastStart 12 = .ok (.aload_n 0, 1) := by decide +kernel
theorem dX8_findLeastStart_13 : decode cX8_findLeastStart 13 = .ok (.getfield 33, 3) := by decide +kernel
theorem dX8_findLeastStart_16 : decode cX8_findLeastStart 16 = .ok (.invokevirtual 70, 3) := by decide +kernel
theorem dX8_findLeastStart_19 : decode cX8_findLeastStart 19 = .ok (.ifCond .eq 8, 3) := by decide +kernel
theorem dX8_findLeastStart_22 : decode cX8_findLeastStart 22 = .ok (.aload_n 0, 1) := by decide +kernel
theorem dX8_findLeastStart_23 : decode cX8_findLeastStart 23 = .ok (.iload_n 1, 1) := by decide +kernel
theorem dX8_findLeastStart_24 : decode cX8_findLeastStart 24 = .ok (.putfield 33, 3) := by decide +kernel
theorem dX8_findLeastStart_27 : decode cX8_findLeastStart 27 = .ok (.iinc 1 2, 3) := by decide +kernel
theorem dX8_findLeastStart_30 : decode cX8_findLeastStart 30 = .ok (.goto (-28), 3) := by decide +kernel
theorem dX8_findLeastStart_33 : decode cX8_findLeastStart 33 = .ok (.return_, 1) := by decide +kernel
theorem dX8_isLessFrom_0 : decode cX8_isLessFrom 0 = .ok (.iconst 0, 1) := by decide +kernel
theorem dX8_isLessFrom_1 : decode cX8_isLessFrom 1 = .ok (.istore_n 3, 1) := by decide +kernel
theorem dX8_isLessFrom_2 : decode cX8_isLessFrom 2 = .ok (.iload_n 3, 1) := by decide +kernel
theorem dX8_isLessFrom_3 : decode cX8_isLessFrom 3 = .ok (.aload_n 0, 1) := by decide +kernel
theorem dX8_isLessFrom_4 : decode cX8_isLessFrom 4 = .ok (.getfield 29, 3) := by decide +kernel
theorem dX8_isLessFrom_7 : decode cX8_isLessFrom 7 = .ok (.if_icmp .ge 59, 3) := by decide +kernel
theorem dX8_isLessFrom_10 : decode cX8_isLessFrom 10 = .ok (.aload_n 0, 1) := by decide +kernel
theorem dX8_isLessFrom_11 : decode cX8_isLessFrom 11 = .ok (.getfield 9, 3) := by decide +kernel
theorem dX8_isLessFrom_14 : decode cX8_isLessFrom 14 = .ok (.iload_n 1, 1) := by decide +kernel
theorem dX8_isLessFrom_15 : decode cX8_isLessFrom 15 = .ok (.iload_n 3, 1) := by decide +kernel
theorem dX8_isLessFrom_16 : decode cX8_isLessFrom 16 = .ok (.iadd, 1) := by decide +kernel
theorem dX8_isLessFrom_17 : decode cX8_isLessFrom 17 = .ok (.aload_n 0, 1) := by decide +kernel
theorem dX8_isLessFrom_18 : decode cX8_isLessFrom 18 = .ok (.getfield 29, 3) := by decide +kernel
theorem dX8_isLessFrom_21 : decode cX8_isLessFrom 21 = .ok (.irem, 1) := by decide +kernel
theorem dX8_isLessFrom_22 : decode cX8_isLessFrom 22 = .ok (.iaload, 1) := by decide +kernel
theorem dX8_isLessFrom_23 : decode cX8_isLessFrom 23 = .ok (.istore 4, 2) := by decide +kernel
theorem dX8_isLessFrom_25 : decode cX8_isLessFrom 25 = .ok (.aload_n 0, 1) := by decide +kernel
theorem dX8_isLessFrom_26 : decode cX8_isLessFrom 26 = .ok (.getfield 9, 3) := by decide +kernel
theorem dX8_isLessFrom_29 : decode cX8_isLessFrom 29 = .ok (.iload_n 2, 1) := by decide +kernel
theorem dX8_isLessFrom_30 : decode cX8_isLessFrom 30 = .ok (.iload_n 3, 1) := by decide +kernel
theorem dX8_isLessFrom_31 : decode cX8_isLessFrom 31 = .ok (.iadd, 1) := by decide +kernel
theorem dX8_isLessFrom_32 : decode cX8_isLessFrom 32 = .ok (.aload_n 0, 1) := by decide +kernel
theorem dX8_isLessFrom_33 : decode cX8_isLessFrom 33 = .ok (.getfield 29, 3) := by decide +kernel
theorem dX8_isLessFrom_36 : decode cX8_isLessFrom 36 = .ok (.irem, 1) := by decide +kernel
theorem dX8_isLessFrom_37 : decode cX8_isLessFrom 37 = .ok (.iaload, 1) := by decide +kernel
theorem dX8_isLessFrom_38 : decode cX8_isLessFrom 38 = .ok (.istore 5, 2) := by decide +kernel
theorem dX8_isLessFrom_40 : decode cX8_isLessFrom 40 = .ok (.iload 4, 2) := by decide +kernel
theorem dX8_isLessFrom_42 : decode cX8_isLessFrom 42 = .ok (.iload 5, 2) := by decide +kernel
theorem dX8_isLessFrom_44 : decode cX8_isLessFrom 44 = .ok (.if_icmp .eq 16, 3) := by decide +kernel
theorem dX8_isLessFrom_47 : decode cX8_isLessFrom 47 = .ok (.iload 4, 2) := by decide +kernel
theorem dX8_isLessFrom_49 : decode cX8_isLessFrom 49 = .ok (.iload 5, 2) := by decide +kernel
theorem dX8_isLessFrom_51 : decode cX8_isLessFrom 51 = .ok (.if_icmp .ge 7, 3) := by decide +kernel
theorem dX8_isLessFrom_54 : decode cX8_isLessFrom 54 = .ok (.iconst 1, 1) := by decide +kernel
theorem dX8_isLessFrom_55 : decode cX8_isLessFrom 55 = .ok (.goto 4, 3) := by decide +kernel
theorem dX8_isLessFrom_58 : decode cX8_isLessFrom 58 = .ok (.iconst 0, 1) := by decide +kernel
theorem dX8_isLessFrom_59 : decode cX8_isLessFrom 59 = .ok (.ireturn, 1) := by decide +kernel
theorem dX8_isLessFrom_60 : decode cX8_isLessFrom 60 = .ok (.iinc 3 1, 3) := by decide +kernel
theorem dX8_isLessFrom_63 : decode cX8_isLessFrom 63 = .ok (.goto (-61), 3) := by decide +kernel
theorem dX8_isLessFrom_66 : decode cX8_isLessFrom 66 = .ok (.iconst 0, 1) := by decide +kernel
theorem dX8_isLessFrom_67 : decode cX8_isLessFrom 67 = .ok (.ireturn, 1) := by decide +kernel
theorem dX8_count_0 : decode cX8_count 0 = .ok (.aload_n 0, 1) := by decide +kernel
theorem dX8_count_1 : decode cX8_count 1 = .ok (.getfield 29, 3) := by decide +kernel
theorem dX8_count_4 : decode cX8_count 4 = .ok (.ireturn, 1) := by decide +kernel
theorem dX8_runAt_0 : decode cX8_runAt 0 = .ok (.iload_n 1, 1) := by decide +kernel
theorem dX8_runAt_1 : decode cX8_runAt 1 = .ok (.ifCond .lt 30, 3) := by decide +kernel
theorem dX8_runAt_4 : decode cX8_runAt 4 = .ok (.iload_n 1, 1) := by decide +kernel
theorem dX8_runAt_5 : decode cX8_runAt 5 = .ok (.aload_n 0, 1) := by decide +kernel
theorem dX8_runAt_6 : decode cX8_runAt 6 = .ok (.getfield 29, 3) := by decide +kernel
theorem dX8_runAt_9 : decode cX8_runAt 9 = .ok (.if_icmp .ge 22, 3) := by decide +kernel
theorem dX8_runAt_12 : decode cX8_runAt 12 = .ok (.aload_n 0, 1) := by decide +kernel
theorem dX8_runAt_13 : decode cX8_runAt 13 = .ok (.getfield 9, 3) := by decide +kernel
theorem dX8_runAt_16 : decode cX8_runAt 16 = .ok (.aload_n 0, 1) := by decide +kernel
theorem dX8_runAt_17 : decode cX8_runAt 17 = .ok (.getfield 33, 3) := by decide +kernel
theorem dX8_runAt_20 : decode cX8_runAt 20 = .ok (.iload_n 1, 1) := by decide +kernel
theorem dX8_runAt_21 : decode cX8_runAt 21 = .ok (.iadd, 1) := by decide +kernel
theorem dX8_runAt_22 : decode cX8_runAt 22 = .ok (.aload_n 0, 1) := by decide +kernel
theorem dX8_runAt_23 : decode cX8_runAt 23 = .ok (.getfield 29, 3) := by decide +kernel
theorem dX8_runAt_26 : decode cX8_runAt 26 = .ok (.irem, 1) := by decide +kernel
theorem dX8_runAt_27 : decode cX8_runAt 27 = .ok (.iaload, 1) := by decide +kernel
theorem dX8_runAt_28 : decode cX8_runAt 28 = .ok (.goto 4, 3) := by decide +kernel
theorem dX8_runAt_31 : decode cX8_runAt 31 = .ok (.iconst (-1), 1) := by decide +kernel
theorem dX8_runAt_32 : decode cX8_runAt 32 = .ok (.ireturn, 1) := by decide +kernel
theorem dX8_letters_0 : decode cX8_letters 0 = .ok (.iconst 0, 1) := by decide +kernel
theorem dX8_letters_1 : decode cX8_letters 1 = .ok (.istore_n 1, 1) := by decide +kernel
theorem dX8_letters_2 : decode cX8_letters 2 = .ok (.iconst 0, 1) := by decide +kernel
theorem dX8_letters_3 : decode cX8_letters 3 = .ok (.istore_n 2, 1) := by decide +kernel
theorem dX8_letters_4 : decode cX8_letters 4 = .ok (.iload_n 2, 1) := by decide +kernel
theorem dX8_letters_5 : decode cX8_letters 5 = .ok (.aload_n 0, 1) := by decide +kernel
theorem dX8_letters_6 : decode cX8_letters 6 = .ok (.getfield 29, 3) := by decide +kernel
theorem dX8_letters_9 : decode cX8_letters 9 = .ok (.if_icmp .ge 18, 3) := by decide +kernel
theorem dX8_letters_12 : decode cX8_letters 12 = .ok (.iload_n 1, 1) := by decide +kernel
theorem dX8_letters_13 : decode cX8_letters 13 = .ok (.aload_n 0, 1) := by decide +kernel
theorem dX8_letters_14 : decode cX8_letters 14 = .ok (.getfield 9, 3) := by decide +kernel
theorem dX8_letters_17 : decode cX8_letters 17 = .ok (.iload_n 2, 1) := by decide +kernel
theorem dX8_letters_18 : decode cX8_letters 18 = .ok (.iaload, 1) := by decide +kernel
theorem dX8_letters_19 : decode cX8_letters 19 = .ok (.iadd, 1) := by decide +kernel
theorem dX8_letters_20 : decode cX8_letters 20 = .ok (.istore_n 1, 1) := by decide +kernel
theorem dX8_letters_21 : decode cX8_letters 21 = .ok (.iinc 2 1, 3) := by decide +kernel
theorem dX8_letters_24 : decode cX8_letters 24 = .ok (.goto (-20), 3) := by decide +kernel
theorem dX8_letters_27 : decode cX8_letters 27 = .ok (.iload_n 1, 1) := by decide +kernel
theorem dX8_letters_28 : decode cX8_letters 28 = .ok (.ireturn, 1) := by decide +kernel
theorem dX8_times_0 : decode cX8_times 0 = .ok (.iconst 2, 1) := by decide +kernel
theorem dX8_times_1 : decode cX8_times 1 = .ok (.istore_n 1, 1) := by decide +kernel
theorem dX8_times_2 : decode cX8_times 2 = .ok (.iload_n 1, 1) := by decide +kernel
theorem dX8_times_3 : decode cX8_times 3 = .ok (.aload_n 0, 1) := by decide +kernel
theorem dX8_times_4 : decode cX8_times 4 = .ok (.getfield 29, 3) := by decide +kernel
theorem dX8_times_7 : decode cX8_times 7 = .ok (.if_icmp .gt 33, 3) := by decide +kernel
theorem dX8_times_10 : decode cX8_times 10 = .ok (.aload_n 0, 1) := by decide +kernel
theorem dX8_times_11 : decode cX8_times 11 = .ok (.getfield 29, 3) := by decide +kernel
theorem dX8_times_14 : decode cX8_times 14 = .ok (.iload_n 1, 1) := by decide +kernel
theorem dX8_times_15 : decode cX8_times 15 = .ok (.irem, 1) := by decide +kernel
theorem dX8_times_16 : decode cX8_times 16 = .ok (.ifCond .ne 18, 3) := by decide +kernel
theorem dX8_times_19 : decode cX8_times 19 = .ok (.aload_n 0, 1) := by decide +kernel
theorem dX8_times_20 : decode cX8_times 20 = .ok (.iload_n 1, 1) := by decide +kernel
theorem dX8_times_21 : decode cX8_times 21 = .ok (.invokevirtual 74, 3) := by decide +kernel
theorem dX8_times_24 : decode cX8_times 24 = .ok (.ifCond .eq 10, 3) := by decide +kernel
theorem dX8_times_27 : decode cX8_times 27 = .ok (.aload_n 0, 1) := by decide +kernel
theorem dX8_times_28 : decode cX8_times 28 = .ok (.getfield 29, 3) := by decide +kernel
theorem dX8_times_31 : decode cX8_times 31 = .ok (.iload_n 1, 1) := by decide +kernel
theorem dX8_times_32 : decode cX8_times 32 = .ok (.idiv, 1) := by decide +kernel
theorem dX8_times_33 : decode cX8_times 33 = .ok (.ireturn, 1) := by decide +kernel
theorem dX8_times_34 : decode cX8_times 34 = .ok (.iinc 1 2, 3) := by decide +kernel
theorem dX8_times_37 : decode cX8_times 37 = .ok (.goto (-35), 3) := by decide +kernel
theorem dX8_times_40 : decode cX8_times 40 = .ok (.iconst 0, 1) := by decide +kernel
theorem dX8_times_41 : decode cX8_times 41 = .ok (.ireturn, 1) := by decide +kernel
theorem dX8_comesAgainAfter_0 : decode cX8_comesAgainAfter 0 = .ok (.iload_n 1, 1) := by decide +kernel
theorem dX8_comesAgainAfter_1 : decode cX8_comesAgainAfter 1 = .ok (.istore_n 2, 1) := by decide +kernel
theorem dX8_comesAgainAfter_2 : decode cX8_comesAgainAfter 2 = .ok (.iload_n 2, 1) := by decide +kernel
theorem dX8_comesAgainAfter_3 : decode cX8_comesAgainAfter 3 = .ok (.aload_n 0, 1) := by decide +kernel
theorem dX8_comesAgainAfter_4 : decode cX8_comesAgainAfter 4 = .ok (.getfield 29, 3) := by decide +kernel
theorem dX8_comesAgainAfter_7 : decode cX8_comesAgainAfter 7 = .ok (.if_icmp .ge 28, 3) := by decide +kernel
theorem dX8_comesAgainAfter_10 : decode cX8_comesAgainAfter 10 = .ok (.aload_n 0, 1) := by decide +kernel
theorem dX8_comesAgainAfter_11 : decode cX8_comesAgainAfter 11 = .ok (.getfield 9, 3) := by decide +kernel
theorem dX8_comesAgainAfter_14 : decode cX8_comesAgainAfter 14 = .ok (.iload_n 2, 1) := by decide +kernel
theorem dX8_comesAgainAfter_15 : decode cX8_comesAgainAfter 15 = .ok (.iaload, 1) := by decide +kernel
theorem dX8_comesAgainAfter_16 : decode cX8_comesAgainAfter 16 = .ok (.aload_n 0, 1) := by decide +kernel
theorem dX8_comesAgainAfter_17 : decode cX8_comesAgainAfter 17 = .ok (.getfield 9, 3) := by decide +kernel
theorem dX8_comesAgainAfter_20 : decode cX8_comesAgainAfter 20 = .ok (.iload_n 2, 1) := by decide +kernel
theorem dX8_comesAgainAfter_21 : decode cX8_comesAgainAfter 21 = .ok (.iload_n 1, 1) := by decide +kernel
theorem dX8_comesAgainAfter_22 : decode cX8_comesAgainAfter 22 = .ok (.isub, 1) := by decide +kernel
theorem dX8_comesAgainAfter_23 : decode cX8_comesAgainAfter 23 = .ok (.iaload, 1) := by decide +kernel
theorem dX8_comesAgainAfter_24 : decode cX8_comesAgainAfter 24 = .ok (.if_icmp .eq 5, 3) := by decide +kernel
theorem dX8_comesAgainAfter_27 : decode cX8_comesAgainAfter 27 = .ok (.iconst 0, 1) := by decide +kernel
theorem dX8_comesAgainAfter_28 : decode cX8_comesAgainAfter 28 = .ok (.ireturn, 1) := by decide +kernel
theorem dX8_comesAgainAfter_29 : decode cX8_comesAgainAfter 29 = .ok (.iinc 2 1, 3) := by decide +kernel
theorem dX8_comesAgainAfter_32 : decode cX8_comesAgainAfter 32 = .ok (.goto (-30), 3) := by decide +kernel
theorem dX8_comesAgainAfter_35 : decode cX8_comesAgainAfter 35 = .ok (.iconst 1, 1) := by decide +kernel
theorem dX8_comesAgainAfter_36 : decode cX8_comesAgainAfter 36 = .ok (.ireturn, 1) := by decide +kernel
theorem dX8_isSameAs_0 : decode cX8_isSameAs 0 = .ok (.aload_n 0, 1) := by decide +kernel
theorem dX8_isSameAs_1 : decode cX8_isSameAs 1 = .ok (.getfield 29, 3) := by decide +kernel
theorem dX8_isSameAs_4 : decode cX8_isSameAs 4 = .ok (.aload_n 1, 1) := by decide +kernel
theorem dX8_isSameAs_5 : decode cX8_isSameAs 5 = .ok (.getfield 29, 3) := by decide +kernel
theorem dX8_isSameAs_8 : decode cX8_isSameAs 8 = .ok (.if_icmp .eq 5, 3) := by decide +kernel
theorem dX8_isSameAs_11 : decode cX8_isSameAs 11 = .ok (.iconst 0, 1) := by decide +kernel
theorem dX8_isSameAs_12 : decode cX8_isSameAs 12 = .ok (.ireturn, 1) := by decide +kernel
theorem dX8_isSameAs_13 : decode cX8_isSameAs 13 = .ok (.iconst 0, 1) := by decide +kernel
theorem dX8_isSameAs_14 : decode cX8_isSameAs 14 = .ok (.istore_n 2, 1) := by decide +kernel
theorem dX8_isSameAs_15 : decode cX8_isSameAs 15 = .ok (.iload_n 2, 1) := by decide +kernel
theorem dX8_isSameAs_16 : decode cX8_isSameAs 16 = .ok (.aload_n 0, 1) := by decide +kernel
theorem dX8_isSameAs_17 : decode cX8_isSameAs 17 = .ok (.getfield 29, 3) := by decide +kernel
theorem dX8_isSameAs_20 : decode cX8_isSameAs 20 = .ok (.if_icmp .ge 24, 3) := by decide +kernel
theorem dX8_isSameAs_23 : decode cX8_isSameAs 23 = .ok (.aload_n 0, 1) := by decide +kernel
theorem dX8_isSameAs_24 : decode cX8_isSameAs 24 = .ok (.iload_n 2, 1) := by decide +kernel
theorem dX8_isSameAs_25 : decode cX8_isSameAs 25 = .ok (.invokevirtual 78, 3) := by decide +kernel
theorem dX8_isSameAs_28 : decode cX8_isSameAs 28 = .ok (.aload_n 1, 1) := by decide +kernel
theorem dX8_isSameAs_29 : decode cX8_isSameAs 29 = .ok (.iload_n 2, 1) := by decide +kernel
theorem dX8_isSameAs_30 : decode cX8_isSameAs 30 = .ok (.invokevirtual 78, 3) := by decide +kernel
theorem dX8_isSameAs_33 : decode cX8_isSameAs 33 = .ok (.if_icmp .eq 5, 3) := by decide +kernel
theorem dX8_isSameAs_36 : decode cX8_isSameAs 36 = .ok (.iconst 0, 1) := by decide +kernel
theorem dX8_isSameAs_37 : decode cX8_isSameAs 37 = .ok (.ireturn, 1) := by decide +kernel
theorem dX8_isSameAs_38 : decode cX8_isSameAs 38 = .ok (.iinc 2 1, 3) := by decide +kernel
theorem dX8_isSameAs_41 : decode cX8_isSameAs 41 = .ok (.goto (-26), 3) := by decide +kernel
theorem dX8_isSameAs_44 : decode cX8_isSameAs 44 = .ok (.iconst 1, 1) := by decide +kernel
theorem dX8_isSameAs_45 : decode cX8_isSameAs 45 = .ok (.ireturn, 1) := by decide +kernel
theorem dX9_init_0 : decode cX9_init 0 = .ok (.aload_n 0, 1) := by decide +kernel
theorem dX9_init_1 : decode cX9_init 1 = .ok (.invokespecial 3, 3) := by decide +kernel
theorem dX9_init_4 : decode cX9_init 4 = .ok (.aload_n 0, 1) := by decide +kernel
theorem dX9_init_5 : decode cX9_init 5 = .ok (.new 9, 3) := by decide +kernel
theorem dX9_init_8 : decode cX9_init 8 = .ok (.dup, 1) := by decide +kernel
theorem dX9_init_9 : decode cX9_init 9 = .ok (.invokespecial 11, 3) := by decide +kernel
theorem dX9_init_12 : decode cX9_init 12 = .ok (.putfield 12, 3) := by decide +kernel
theorem dX9_init_15 : decode cX9_init 15 = .ok (.return_, 1) := by decide +kernel
theorem dX9_copyFrom_0 : decode cX9_copyFrom 0 = .ok (.aload_n 0, 1) := by decide +kernel
theorem dX9_copyFrom_1 : decode cX9_copyFrom 1 = .ok (.getfield 12, 3) := by decide +kernel
theorem dX9_copyFrom_4 : decode cX9_copyFrom 4 = .ok (.aload_n 1, 1) := by decide +kernel
theorem dX9_copyFrom_5 : decode cX9_copyFrom 5 = .ok (.invokevirtual 18, 3) := by decide +kernel
theorem dX9_copyFrom_8 : decode cX9_copyFrom 8 = .ok (.return_, 1) := by decide +kernel
theorem dX9_isEmpty_0 : decode cX9_isEmpty 0 = .ok (.aload_n 0, 1) := by decide +kernel
theorem dX9_isEmpty_1 : decode cX9_isEmpty 1 = .ok (.getfield 12, 3) := by decide +kernel
theorem dX9_isEmpty_4 : decode cX9_isEmpty 4 = .ok (.invokevirtual 22, 3) := by decide +kernel
theorem dX9_isEmpty_7 : decode cX9_isEmpty 7 = .ok (.ireturn, 1) := by decide +kernel
theorem dX9_beginsWithR_0 : decode cX9_beginsWithR 0 = .ok (.aload_n 0, 1) := by decide +kernel
theorem dX9_beginsWithR_1 : decode cX9_beginsWithR 1 = .ok (.getfield 12, 3) := by decide +kernel
theorem dX9_beginsWithR_4 : decode cX9_beginsWithR 4 = .ok (.getfield 26, 3) := by decide +kernel
theorem dX9_beginsWithR_7 : decode cX9_beginsWithR 7 = .ok (.aload_n 0, 1) := by decide +kernel
theorem dX9_beginsWithR_8 : decode cX9_beginsWithR 8 = .ok (.getfield 12, 3) := by decide +kernel
theorem dX9_beginsWithR_11 : decode cX9_beginsWithR 11 = .ok (.getfield 30, 3) := by decide +kernel
theorem dX9_beginsWithR_14 : decode cX9_beginsWithR 14 = .ok (.lcmp, 1) := by decide +kernel
theorem dX9_beginsWithR_15 : decode cX9_beginsWithR 15 = .ok (.ifCond .lt 25, 3) := by decide +kernel
theorem dX9_beginsWithR_18 : decode cX9_beginsWithR 18 = .ok (.aload_n 0, 1) := by decide +kernel
theorem dX9_beginsWithR_19 : decode cX9_beginsWithR 19 = .ok (.getfield 12, 3) := by decide +kernel
theorem dX9_beginsWithR_22 : decode cX9_beginsWithR 22 = .ok (.getfield 33, 3) := by decide +kernel
theorem dX9_beginsWithR_25 : decode cX9_beginsWithR 25 = .ok (.aload_n 0, 1) := by decide +kernel
theorem dX9_beginsWithR_26 : decode cX9_beginsWithR 26 = .ok (.getfield 12, 3) := by decide +kernel
theorem dX9_beginsWithR_29 : decode cX9_beginsWithR 29 = .ok (.getfield 36, 3) := by decide +kernel
theorem dX9_beginsWithR_32 : decode cX9_beginsWithR 32 = .ok (.lcmp, 1) := by decide +kernel
theorem dX9_beginsWithR_33 : decode cX9_beginsWithR 33 = .ok (.ifCond .lt 7, 3) := by decide +kernel
theorem dX9_beginsWithR_36 : decode cX9_beginsWithR 36 = .ok (.iconst 1, 1) := by decide +kernel
theorem dX9_beginsWithR_37 : decode cX9_beginsWithR 37 = .ok (.goto 4, 3) := by decide +kernel
theorem dX9_beginsWithR_40 : decode cX9_beginsWithR 40 = .ok (.iconst 0, 1) := by decide +kernel
theorem dX9_beginsWithR_41 : decode cX9_beginsWithR 41 = .ok (.ireturn, 1) := by decide +kernel
theorem dX9_firstRun_0 : decode cX9_firstRun 0 = .ok (.iload_n 1, 1) := by decide +kernel
theorem dX9_firstRun_1 : decode cX9_firstRun 1 = .ok (.ifCond .eq 13, 3) := by decide +kernel
theorem dX9_firstRun_4 : decode cX9_firstRun 4 = .ok (.aload_n 0, 1) := by decide +kernel
theorem dX9_firstRun_5 : decode cX9_firstRun 5 = .ok (.getfield 12, 3) := by decide +kernel
theorem dX9_firstRun_8 : decode cX9_firstRun 8 = .ok (.getfield 26, 3) := by decide +kernel
theorem dX9_firstRun_11 : decode cX9_firstRun 11 = .ok (.goto 10, 3) := by decide +kernel
theorem dX9_firstRun_14 : decode cX9_firstRun 14 = .ok (.aload_n 0, 1) := by decide +kernel
theorem dX9_firstRun_15 : decode cX9_firstRun 15 = .ok (.getfield 12, 3) := by decide +kernel
theorem dX9_firstRun_18 : decode cX9_firstRun 18 = .ok (.getfield 30, 3) := by decide +kernel
theorem dX9_firstRun_21 : decode cX9_firstRun 21 = .ok (.lstore_n 2, 1) := by decide +kernel
theorem dX9_firstRun_22 : decode cX9_firstRun 22 = .ok (.iload_n 1, 1) := by decide +kernel
theorem dX9_firstRun_23 : decode cX9_firstRun 23 = .ok (.ifCond .eq 13, 3) := by decide +kernel
theorem dX9_firstRun_26 : decode cX9_firstRun 26 = .ok (.aload_n 0, 1) := by decide +kernel
theorem dX9_firstRun_27 : decode cX9_firstRun 27 = .ok (.getfield 12, 3) := by decide +kernel
theorem dX9_firstRun_30 : decode cX9_firstRun 30 = .ok (.getfield 33, 3) := by decide +kernel
theorem dX9_firstRun_33 : decode cX9_firstRun 33 = .ok (.goto 10, 3) := by decide +kernel
theorem dX9_firstRun_36 : decode cX9_firstRun 36 = .ok (.aload_n 0, 1) := by decide +kernel
theorem dX9_firstRun_37 : decode cX9_firstRun 37 = .ok (.getfield 12, 3) := by decide +kernel
theorem dX9_firstRun_40 : decode cX9_firstRun 40 = .ok (.getfield 36, 3) := by decide +kernel
theorem dX9_firstRun_43 : decode cX9_firstRun 43 = .ok (.lstore 4, 2) := by decide +kernel
theorem dX9_firstRun_45 : decode cX9_firstRun 45 = .ok (.iload_n 1, 1) := by decide +kernel
theorem dX9_firstRun_46 : decode cX9_firstRun 46 = .ok (.ifCond .eq 13, 3) := by decide +kernel
theorem dX9_firstRun_49 : decode cX9_firstRun 49 = .ok (.aload_n 0, 1) := by decide +kernel
theorem dX9_firstRun_50 : decode cX9_firstRun 50 = .ok (.getfield 12, 3) := by decide +kernel
theorem dX9_firstRun_53 : decode cX9_firstRun 53 = .ok (.getfield 30, 3) := by decide +kernel
theorem dX9_firstRun_56 : decode cX9_firstRun 56 = .ok (.goto 10, 3) := by decide +kernel
theorem dX9_firstRun_59 : decode cX9_firstRun 59 = .ok (.aload_n 0, 1) := by decide +kernel
theorem dX9_firstRun_60 : decode cX9_firstRun 60 = .ok (.getfield 12, 3) := by decide +kernel
theorem dX9_firstRun_63 : decode cX9_firstRun 63 = .ok (.getfield 26, 3) := by decide +kernel
theorem dX9_firstRun_66 : decode cX9_firstRun 66 = .ok (.lstore 6, 2) := by decide +kernel
theorem dX9_firstRun_68 : decode cX9_firstRun 68 = .ok (.iload_n 1, 1) := by decide +kernel
theorem dX9_firstRun_69 : decode cX9_firstRun 69 = .ok (.ifCond .eq 13, 3) := by decide +kernel
theorem dX9_firstRun_72 : decode cX9_firstRun 72 = .ok (.aload_n 0, 1) := by decide +kernel
theorem dX9_firstRun_73 : decode cX9_firstRun 73 = .ok (.getfield 12, 3) := by decide +kernel
theorem dX9_firstRun_76 : decode cX9_firstRun 76 = .ok (.getfield 36, 3) := by decide +kernel
theorem dX9_firstRun_79 : decode cX9_firstRun 79 = .ok (.goto 10, 3) := by decide +kernel
theorem dX9_firstRun_82 : decode cX9_firstRun 82 = .ok (.aload_n 0, 1) := by decide +kernel
theorem dX9_firstRun_83 : decode cX9_firstRun 83 = .ok (.getfield 12, 3) := by decide +kernel
theorem dX9_firstRun_86 : decode cX9_firstRun 86 = .ok (.getfield 33, 3) := by decide +kernel
theorem dX9_firstRun_89 : decode cX9_firstRun 89 = .ok (.lstore 8, 2) := by decide +kernel
theorem dX9_firstRun_91 : decode cX9_firstRun 91 = .ok (.lload 6, 2) := by decide +kernel
theorem dX9_firstRun_93 : decode cX9_firstRun 93 = .ok (.lconst 0, 1) := by decide +kernel
theorem dX9_firstRun_94 : decode cX9_firstRun 94 = .ok (.lcmp, 1) := by decide +kernel
theorem dX9_firstRun_95 : decode cX9_firstRun 95 = .ok (.ifCond .le 10, 3) := by decide +kernel
theorem dX9_firstRun_98 : decode cX9_firstRun 98 = .ok (.lload_n 2, 1) := by decide +kernel
theorem dX9_firstRun_99 : decode cX9_firstRun 99 = .ok (.lload 6, 2) := by decide +kernel
theorem dX9_firstRun_101 : decode cX9_firstRun 101 = .ok (.ldiv, 1) := by decide +kernel
theorem dX9_firstRun_102 : decode cX9_firstRun 102 = .ok (.goto 6, 3) := by decide +kernel
theorem dX9_firstRun_105 : decode cX9_firstRun 105 = .ok (.ldc2_w 41, 3) := by decide +kernel
theorem dX9_firstRun_108 : decode cX9_firstRun 108 = .ok (.lstore 10, 2) := by decide +kernel
theorem dX9_firstRun_110 : decode cX9_firstRun 110 = .ok (.lload 8, 2) := by decide +kernel
theorem dX9_firstRun_112 : decode cX9_firstRun 112 = .ok (.lconst 0, 1) := by decide +kernel
theorem dX9_firstRun_113 : decode cX9_firstRun 113 = .ok (.lcmp, 1) := by decide +kernel
theorem dX9_firstRun_114 : decode cX9_firstRun 114 = .ok (.ifCond .le 16, 3) := by decide +kernel
theorem dX9_firstRun_117 : decode cX9_firstRun 117 = .ok (.lload 10, 2) := by decide +kernel
theorem dX9_firstRun_119 : decode cX9_firstRun 119 = .ok (.lload 4, 2) := by decide +kernel
theorem dX9_firstRun_121 : decode cX9_firstRun 121 = .ok (.lload 8, 2) := by decide +kernel
theorem dX9_firstRun_123 : decode cX9_firstRun 123 = .ok (.ldiv, 1) := by decide +kernel
theorem dX9_firstRun_124 : decode cX9_firstRun 124 = .ok (.invokestatic 43, 3) := by decide +kernel
theorem dX9_firstRun_127 : decode cX9_firstRun 127 = .ok (.goto 5, 3) := by decide +kernel
theorem dX9_firstRun_130 : decode cX9_firstRun 130 = .ok (.lload 10, 2) := by decide +kernel
theorem dX9_firstRun_132 : decode cX9_firstRun 132 = .ok (.lreturn, 1) := by decide +kernel
theorem dX9_dropFirstRun_0 : decode cX9_dropFirstRun 0 = .ok (.aload_n 0, 1) := by decide +kernel
theorem dX9_dropFirstRun_1 : decode cX9_dropFirstRun 1 = .ok (.invokevirtual 49, 3) := by decide +kernel
theorem dX9_dropFirstRun_4 : decode cX9_dropFirstRun 4 = .ok (.istore_n 1, 1) := by decide +kernel
theorem dX9_dropFirstRun_5 : decode cX9_dropFirstRun 5 = .ok (.aload_n 0, 1) := by decide +kernel
theorem dX9_dropFirstRun_6 : decode cX9_dropFirstRun 6 = .ok (.iload_n 1, 1) := by decide +kernel
theorem dX9_dropFirstRun_7 : decode cX9_dropFirstRun 7 = .ok (.invokevirtual 52, 3) := by decide +kernel
theorem dX9_dropFirstRun_10 : decode cX9_dropFirstRun 10 = .ok (.lstore_n 2, 1) := by decide +kernel
theorem dX9_dropFirstRun_11 : decode cX9_dropFirstRun 11 = .ok (.iload_n 1, 1) := by decide +kernel
theorem dX9_dropFirstRun_12 : decode cX9_dropFirstRun 12 = .ok (.ifCond .eq 48, 3) := by decide +kernel
theorem dX9_dropFirstRun_15 : decode cX9_dropFirstRun 15 = .ok (.aload_n 0, 1) := by decide +kernel
theorem dX9_dropFirstRun_16 : decode cX9_dropFirstRun 16 = .ok (.getfield 12, 3) := by decide +kernel
theorem dX9_dropFirstRun_19 : decode cX9_dropFirstRun 19 = .ok (.dup, 1) := by decide +kernel
theorem dX9_dropFirstRun_20 : decode cX9_dropFirstRun 20 = .ok (.getfield 26, 3) := by decide +kernel
theorem dX9_dropFirstRun_23 : decode cX9_dropFirstRun 23 = .ok (.lload_n 2, 1) := by decide +kernel
theorem dX9_dropFirstRun_24 : decode cX9_dropFirstRun 24 = .ok (.aload_n 0, 1) := by decide +kernel
theorem dX9_dropFirstRun_25 : decode cX9_dropFirstRun 25 = .ok (.getfield 12, 3) := by decide +kernel
theorem dX9_dropFirstRun_28 : decode cX9_dropFirstRun 28 = .ok (.getfield 30, 3) := by decide +kernel
theorem dX9_dropFirstRun_31 : decode cX9_dropFirstRun 31 = .ok (.lmul, 1) := by decide +kernel
theorem dX9_dropFirstRun_32 : decode cX9_dropFirstRun 32 = .ok (.lsub, 1) := by decide +kernel
theorem dX9_dropFirstRun_33 : decode cX9_dropFirstRun 33 = .ok (.putfield 26, 3) := by decide +kernel
theorem dX9_dropFirstRun_36 : decode cX9_dropFirstRun 36 = .ok (.aload_n 0, 1) := by decide +kernel
theorem dX9_dropFirstRun_37 : decode cX9_dropFirstRun 37 = .ok (.getfield 12, 3) := by decide +kernel
theorem dX9_dropFirstRun_40 : decode cX9_dropFirstRun 40 = .ok (.dup, 1) := by decide +kernel
theorem dX9_dropFirstRun_41 : decode cX9_dropFirstRun 41 = .ok (.getfield 33, 3) := by decide +kernel
theorem dX9_dropFirstRun_44 : decode cX9_dropFirstRun 44 = .ok (.lload_n 2, 1) := by decide +kernel
theorem dX9_dropFirstRun_45 : decode cX9_dropFirstRun 45 = .ok (.aload_n 0, 1) := by decide +kernel
theorem dX9_dropFirstRun_46 : decode cX9_dropFirstRun 46 = .ok (.getfield 12, 3) := by decide +kernel
theorem dX9_dropFirstRun_49 : decode cX9_dropFirstRun 49 = .ok (.getfield 36, 3) := by decide +kernel
theorem dX9_dropFirstRun_52 : decode cX9_dropFirstRun 52 = .ok (.lmul, 1) := by decide +kernel
theorem dX9_dropFirstRun_53 : decode cX9_dropFirstRun 53 = .ok (.lsub, 1) := by decide +kernel
theorem dX9_dropFirstRun_54 : decode cX9_dropFirstRun 54 = .ok (.putfield 33, 3) := by decide +kernel
theorem dX9_dropFirstRun_57 : decode cX9_dropFirstRun 57 = .ok (.goto 45, 3) := by decide +kernel
theorem dX9_dropFirstRun_60 : decode cX9_dropFirstRun 60 = .ok (.aload_n 0, 1) := by decide +kernel
theorem dX9_dropFirstRun_61 : decode cX9_dropFirstRun 61 = .ok (.getfield 12, 3) := by decide +kernel
theorem dX9_dropFirstRun_64 : decode cX9_dropFirstRun 64 = .ok (.dup, 1) := by decide +kernel
theorem dX9_dropFirstRun_65 : decode cX9_dropFirstRun 65 = .ok (.getfield 30, 3) := by decide +kernel
theorem dX9_dropFirstRun_68 : decode cX9_dropFirstRun 68 = .ok (.lload_n 2, 1) := by decide +kernel
theorem dX9_dropFirstRun_69 : decode cX9_dropFirstRun 69 = .ok (.aload_n 0, 1) := by decide +kernel
theorem dX9_dropFirstRun_70 : decode cX9_dropFirstRun 70 = .ok (.getfield 12, 3) := by decide +kernel
theorem dX9_dropFirstRun_73 : decode cX9_dropFirstRun 73 = .ok (.getfield 26, 3) := by decide +kernel
theorem dX9_dropFirstRun_76 : decode cX9_dropFirstRun 76 = .ok (.lmul, 1) := by decide +kernel
theorem dX9_dropFirstRun_77 : decode cX9_dropFirstRun 77 = .ok (.lsub, 1) := by decide +kernel
theorem dX9_dropFirstRun_78 : decode cX9_dropFirstRun 78 = .ok (.putfield 30, 3) := by decide +kernel
theorem dX9_dropFirstRun_81 : decode cX9_dropFirstRun 81 = .ok (.aload_n 0, 1) := by decide +kernel
theorem dX9_dropFirstRun_82 : decode cX9_dropFirstRun 82 = .ok (.getfield 12, 3) := by decide +kernel
theorem dX9_dropFirstRun_85 : decode cX9_dropFirstRun 85 = .ok (.dup, 1) := by decide +kernel
theorem dX9_dropFirstRun_86 : decode cX9_dropFirstRun 86 = .ok (.getfield 36, 3) := by decide +kernel
theorem dX9_dropFirstRun_89 : decode cX9_dropFirstRun 89 = .ok (.lload_n 2, 1) := by decide +kernel
theorem dX9_dropFirstRun_90 : decode cX9_dropFirstRun 90 = .ok (.aload_n 0, 1) := by decide +kernel
theorem dX9_dropFirstRun_91 : decode cX9_dropFirstRun 91 = .ok (.getfield 12, 3) := by decide +kernel
theorem dX9_dropFirstRun_94 : decode cX9_dropFirstRun 94 = .ok (.getfield 33, 3) := by decide +kernel
theorem dX9_dropFirstRun_97 : decode cX9_dropFirstRun 97 = .ok (.lmul, 1) := by decide +kernel
theorem dX9_dropFirstRun_98 : decode cX9_dropFirstRun 98 = .ok (.lsub, 1) := by decide +kernel
theorem dX9_dropFirstRun_99 : decode cX9_dropFirstRun 99 = .ok (.putfield 36, 3) := by decide +kernel
theorem dX9_dropFirstRun_102 : decode cX9_dropFirstRun 102 = .ok (.lload_n 2, 1) := by decide +kernel
theorem dX9_dropFirstRun_103 : decode cX9_dropFirstRun 103 = .ok (.lreturn, 1) := by decide +kernel
theorem dX9_turnFirstRun_0 : decode cX9_turnFirstRun 0 = .ok (.aload_n 0, 1) := by decide +kernel
theorem dX9_turnFirstRun_1 : decode cX9_turnFirstRun 1 = .ok (.invokevirtual 49, 3) := by decide +kernel
theorem dX9_turnFirstRun_4 : decode cX9_turnFirstRun 4 = .ok (.istore_n 1, 1) := by decide +kernel
theorem dX9_turnFirstRun_5 : decode cX9_turnFirstRun 5 = .ok (.aload_n 0, 1) := by decide +kernel
theorem dX9_turnFirstRun_6 : decode cX9_turnFirstRun 6 = .ok (.iload_n 1, 1) := by decide +kernel
theorem dX9_turnFirstRun_7 : decode cX9_turnFirstRun 7 = .ok (.invokevirtual 52, 3) := by decide +kernel
theorem dX9_turnFirstRun_10 : decode cX9_turnFirstRun 10 = .ok (.lstore_n 2, 1) := by decide +kernel
theorem dX9_turnFirstRun_11 : decode cX9_turnFirstRun 11 = .ok (.iload_n 1, 1) := by decide +kernel
theorem dX9_turnFirstRun_12 : decode cX9_turnFirstRun 12 = .ok (.ifCond .eq 15, 3) := by decide +kernel
theorem dX9_turnFirstRun_15 : decode cX9_turnFirstRun 15 = .ok (.aload_n 0, 1) := by decide +kernel
theorem dX9_turnFirstRun_16 : decode cX9_turnFirstRun 16 = .ok (.getfield 12, 3) := by decide +kernel
theorem dX9_turnFirstRun_19 : decode cX9_turnFirstRun 19 = .ok (.lload_n 2, 1) := by decide +kernel
theorem dX9_turnFirstRun_20 : decode cX9_turnFirstRun 20 = .ok (.lneg, 1) := by decide +kernel
theorem dX9_turnFirstRun_21 : decode cX9_turnFirstRun 21 = .ok (.invokevirtual 56, 3) := by decide +kernel
theorem dX9_turnFirstRun_24 : decode cX9_turnFirstRun 24 = .ok (.goto 12, 3) := by decide +kernel
theorem dX9_turnFirstRun_27 : decode cX9_turnFirstRun 27 = .ok (.aload_n 0, 1) := by decide +kernel
theorem dX9_turnFirstRun_28 : decode cX9_turnFirstRun 28 = .ok (.getfield 12, 3) := by decide +kernel
theorem dX9_turnFirstRun_31 : decode cX9_turnFirstRun 31 = .ok (.lload_n 2, 1) := by decide +kernel
theorem dX9_turnFirstRun_32 : decode cX9_turnFirstRun 32 = .ok (.lneg, 1) := by decide +kernel
theorem dX9_turnFirstRun_33 : decode cX9_turnFirstRun 33 = .ok (.invokevirtual 60, 3) := by decide +kernel
theorem dX9_turnFirstRun_36 : decode cX9_turnFirstRun 36 = .ok (.lload_n 2, 1) := by decide +kernel
theorem dX9_turnFirstRun_37 : decode cX9_turnFirstRun 37 = .ok (.lreturn, 1) := by decide +kernel
theorem dX9_turnsInFirstRun_0 : decode cX9_turnsInFirstRun 0 = .ok (.aload_n 1, 1) := by decide +kernel
theorem dX9_turnsInFirstRun_1 : decode cX9_turnsInFirstRun 1 = .ok (.invokevirtual 63, 3) := by decide +kernel
theorem dX9_turnsInFirstRun_4 : decode cX9_turnsInFirstRun 4 = .ok (.aload_n 0, 1) := by decide +kernel
theorem dX9_turnsInFirstRun_5 : decode cX9_turnsInFirstRun 5 = .ok (.getfield 12, 3) := by decide +kernel
theorem dX9_turnsInFirstRun_8 : decode cX9_turnsInFirstRun 8 = .ok (.invokevirtual 63, 3) := by decide +kernel
theorem dX9_turnsInFirstRun_11 : decode cX9_turnsInFirstRun 11 = .ok (.lcmp, 1) := by decide +kernel
theorem dX9_turnsInFirstRun_12 : decode cX9_turnsInFirstRun 12 = .ok (.ifCond .eq 7, 3) := by decide +kernel
theorem dX9_turnsInFirstRun_15 : decode cX9_turnsInFirstRun 15 = .ok (.ldc2_w 67, 3) := by decide +kernel
theorem dX9_turnsInFirstRun_18 : decode cX9_turnsInFirstRun 18 = .ok (.lreturn, 1) := by decide +kernel
theorem dX9_turnsInFirstRun_19 : decode cX9_turnsInFirstRun 19 = .ok (.aload_n 0, 1) := by decide +kernel
theorem dX9_turnsInFirstRun_20 : decode cX9_turnsInFirstRun 20 = .ok (.invokevirtual 49, 3) := by decide +kernel
theorem dX9_turnsInFirstRun_23 : decode cX9_turnsInFirstRun 23 = .ok (.ifCond .eq 52, 3) := by decide +kernel
theorem dX9_turnsInFirstRun_26 : decode cX9_turnsInFirstRun 26 = .ok (.aload_n 1, 1) := by decide +kernel
theorem dX9_turnsInFirstRun_27 : decode cX9_turnsInFirstRun 27 = .ok (.getfield 30, 3) := by decide +kernel
theorem dX9_turnsInFirstRun_30 : decode cX9_turnsInFirstRun 30 = .ok (.aload_n 0, 1) := by decide +kernel
theorem dX9_turnsInFirstRun_31 : decode cX9_turnsInFirstRun 31 = .ok (.getfield 12, 3) := by decide +kernel
theorem dX9_turnsInFirstRun_34 : decode cX9_turnsInFirstRun 34 = .ok (.getfield 30, 3) := by decide +kernel
theorem dX9_turnsInFirstRun_37 : decode cX9_turnsInFirstRun 37 = .ok (.lcmp, 1) := by decide +kernel
theorem dX9_turnsInFirstRun_38 : decode cX9_turnsInFirstRun 38 = .ok (.ifCond .ne 33, 3) := by decide +kernel
theorem dX9_turnsInFirstRun_41 : decode cX9_turnsInFirstRun 41 = .ok (.aload_n 0, 1) := by decide +kernel
theorem dX9_turnsInFirstRun_42 : decode cX9_turnsInFirstRun 42 = .ok (.iconst 1, 1) := by decide +kernel
theorem dX9_turnsInFirstRun_43 : decode cX9_turnsInFirstRun 43 = .ok (.invokevirtual 52, 3) := by decide +kernel
theorem dX9_turnsInFirstRun_46 : decode cX9_turnsInFirstRun 46 = .ok (.aload_n 1, 1) := by decide +kernel
theorem dX9_turnsInFirstRun_47 : decode cX9_turnsInFirstRun 47 = .ok (.getfield 36, 3) := by decide +kernel
theorem dX9_turnsInFirstRun_50 : decode cX9_turnsInFirstRun 50 = .ok (.aload_n 0, 1) := by decide +kernel
theorem dX9_turnsInFirstRun_51 : decode cX9_turnsInFirstRun 51 = .ok (.getfield 12, 3) := by decide +kernel
theorem dX9_turnsInFirstRun_54 : decode cX9_turnsInFirstRun 54 = .ok (.getfield 36, 3) := by decide +kernel
theorem dX9_turnsInFirstRun_57 : decode cX9_turnsInFirstRun 57 = .ok (.lsub, 1) := by decide +kernel
theorem dX9_turnsInFirstRun_58 : decode cX9_turnsInFirstRun 58 = .ok (.aload_n 0, 1) := by decide +kernel
theorem dX9_turnsInFirstRun_59 : decode cX9_turnsInFirstRun 59 = .ok (.getfield 12, 3) := by decide +kernel
theorem dX9_turnsInFirstRun_62 : decode cX9_turnsInFirstRun 62 = .ok (.getfield 30, 3) := by decide +kernel
theorem dX9_turnsInFirstRun_65 : decode cX9_turnsInFirstRun 65 = .ok (.invokestatic 69, 3) := by decide +kernel
theorem dX9_turnsInFirstRun_68 : decode cX9_turnsInFirstRun 68 = .ok (.goto 6, 3) := by decide +kernel
theorem dX9_turnsInFirstRun_71 : decode cX9_turnsInFirstRun 71 = .ok (.ldc2_w 67, 3) := by decide +kernel
theorem dX9_turnsInFirstRun_74 : decode cX9_turnsInFirstRun 74 = .ok (.lreturn, 1) := by decide +kernel
theorem dX9_turnsInFirstRun_75 : decode cX9_turnsInFirstRun 75 = .ok (.aload_n 1, 1) := by decide +kernel
theorem dX9_turnsInFirstRun_76 : decode cX9_turnsInFirstRun 76 = .ok (.getfield 33, 3) := by decide +kernel
theorem dX9_turnsInFirstRun_79 : decode cX9_turnsInFirstRun 79 = .ok (.aload_n 0, 1) := by decide +kernel
theorem dX9_turnsInFirstRun_80 : decode cX9_turnsInFirstRun 80 = .ok (.getfield 12, 3) := by decide +kernel
theorem dX9_turnsInFirstRun_83 : decode cX9_turnsInFirstRun 83 = .ok (.getfield 33, 3) := by decide +kernel
theorem dX9_turnsInFirstRun_86 : decode cX9_turnsInFirstRun 86 = .ok (.lcmp, 1) := by decide +kernel
theorem dX9_turnsInFirstRun_87 : decode cX9_turnsInFirstRun 87 = .ok (.ifCond .ne 33, 3) := by decide +kernel
theorem dX9_turnsInFirstRun_90 : decode cX9_turnsInFirstRun 90 = .ok (.aload_n 0, 1) := by decide +kernel
theorem dX9_turnsInFirstRun_91 : decode cX9_turnsInFirstRun 91 = .ok (.iconst 0, 1) := by decide +kernel
theorem dX9_turnsInFirstRun_92 : decode cX9_turnsInFirstRun 92 = .ok (.invokevirtual 52, 3) := by decide +kernel
theorem dX9_turnsInFirstRun_95 : decode cX9_turnsInFirstRun 95 = .ok (.aload_n 1, 1) := by decide +kernel
theorem dX9_turnsInFirstRun_96 : decode cX9_turnsInFirstRun 96 = .ok (.getfield 26, 3) := by decide +kernel
theorem dX9_turnsInFirstRun_99 : decode cX9_turnsInFirstRun 99 = .ok (.aload_n 0, 1) := by decide +kernel
theorem dX9_turnsInFirstRun_100 : decode cX9_turnsInFirstRun 100 = .ok (.getfield 12, 3) := by decide +kernel
theorem dX9_turnsInFirstRun_103 : decode cX9_turnsInFirstRun 103 = .ok (.getfield 26, 3) := by decide +kernel
theorem dX9_turnsInFirstRun_106 : decode cX9_turnsInFirstRun 106 = .ok (.lsub, 1) := by decide +kernel
theorem dX9_turnsInFirstRun_107 : decode cX9_turnsInFirstRun 107 = .ok (.aload_n 0, 1) := by decide +kernel
theorem dX9_turnsInFirstRun_108 : decode cX9_turnsInFirstRun 108 = .ok (.getfield 12, 3) := by decide +kernel
theorem dX9_turnsInFirstRun_111 : decode cX9_turnsInFirstRun 111 = .ok (.getfield 33, 3) := by decide +kernel
theorem dX9_turnsInFirstRun_114 : decode cX9_turnsInFirstRun 114 = .ok (.invokestatic 69, 3) := by decide +kernel
theorem dX9_turnsInFirstRun_117 : decode cX9_turnsInFirstRun 117 = .ok (.goto 6, 3) := by decide +kernel
theorem dX9_turnsInFirstRun_120 : decode cX9_turnsInFirstRun 120 = .ok (.ldc2_w 67, 3) := by decide +kernel
theorem dX9_turnsInFirstRun_123 : decode cX9_turnsInFirstRun 123 = .ok (.lreturn, 1) := by decide +kernel
theorem dX9_stepsUpTo_0 : decode cX9_stepsUpTo 0 = .ok (.lload 4, 2) := by decide +kernel
theorem dX9_stepsUpTo_2 : decode cX9_stepsUpTo 2 = .ok (.lconst 0, 1) := by decide +kernel
theorem dX9_stepsUpTo_3 : decode cX9_stepsUpTo 3 = .ok (.lcmp, 1) := by decide +kernel
theorem dX9_stepsUpTo_4 : decode cX9_stepsUpTo 4 = .ok (.ifCond .le 27, 3) := by decide +kernel
theorem dX9_stepsUpTo_7 : decode cX9_stepsUpTo 7 = .ok (.lload_n 2, 1) := by decide +kernel
theorem dX9_stepsUpTo_8 : decode cX9_stepsUpTo 8 = .ok (.lconst 0, 1) := by decide +kernel
theorem dX9_stepsUpTo_9 : decode cX9_stepsUpTo 9 = .ok (.lcmp, 1) := by decide +kernel
theorem dX9_stepsUpTo_10 : decode cX9_stepsUpTo 10 = .ok (.ifCond .lt 21, 3) := by decide +kernel
theorem dX9_stepsUpTo_13 : decode cX9_stepsUpTo 13 = .ok (.lload_n 2, 1) := by decide +kernel
theorem dX9_stepsUpTo_14 : decode cX9_stepsUpTo 14 = .ok (.lload 4, 2) := by decide +kernel
theorem dX9_stepsUpTo_16 : decode cX9_stepsUpTo 16 = .ok (.lrem, 1) := by decide +kernel
theorem dX9_stepsUpTo_17 : decode cX9_stepsUpTo 17 = .ok (.lconst 0, 1) := by decide +kernel
theorem dX9_stepsUpTo_18 : decode cX9_stepsUpTo 18 = .ok (.lcmp, 1) := by decide +kernel
theorem dX9_stepsUpTo_19 : decode cX9_stepsUpTo 19 = .ok (.ifCond .ne 12, 3) := by decide +kernel
theorem dX9_stepsUpTo_22 : decode cX9_stepsUpTo 22 = .ok (.lload_n 2, 1) := by decide +kernel
theorem dX9_stepsUpTo_23 : decode cX9_stepsUpTo 23 = .ok (.lload 4, 2) := by decide +kernel
theorem dX9_stepsUpTo_25 : decode cX9_stepsUpTo 25 = .ok (.ldiv, 1) := by decide +kernel
theorem dX9_stepsUpTo_26 : decode cX9_stepsUpTo 26 = .ok (.lload_n 0, 1) := by decide +kernel
theorem dX9_stepsUpTo_27 : decode cX9_stepsUpTo 27 = .ok (.lcmp, 1) := by decide +kernel
theorem dX9_stepsUpTo_28 : decode cX9_stepsUpTo 28 = .ok (.ifCond .le 7, 3) := by decide +kernel
theorem dX9_stepsUpTo_31 : decode cX9_stepsUpTo 31 = .ok (.ldc2_w 67, 3) := by decide +kernel
theorem dX9_stepsUpTo_34 : decode cX9_stepsUpTo 34 = .ok (.lreturn, 1) := by decide +kernel
theorem dX9_stepsUpTo_35 : decode cX9_stepsUpTo 35 = .ok (.lload_n 2, 1) := by decide +kernel
theorem dX9_stepsUpTo_36 : decode cX9_stepsUpTo 36 = .ok (.lload 4, 2) := by decide +kernel
theorem dX9_stepsUpTo_38 : decode cX9_stepsUpTo 38 = .ok (.ldiv, 1) := by decide +kernel
theorem dX9_stepsUpTo_39 : decode cX9_stepsUpTo 39 = .ok (.lreturn, 1) := by decide +kernel
theorem dX10_init_0 : decode cX10_init 0 = .ok (.aload_n 0, 1) := by decide +kernel
theorem dX10_init_1 : decode cX10_init 1 = .ok (.invokespecial 1, 3) := by decide +kernel
theorem dX10_init_4 : decode cX10_init 4 = .ok (.aload_n 0, 1) := by decide +kernel
theorem dX10_init_5 : decode cX10_init 5 = .ok (.new 7, 3) := by decide +kernel
theorem dX10_init_8 : decode cX10_init 8 = .ok (.dup, 1) := by decide +kernel
theorem dX10_init_9 : decode cX10_init 9 = .ok (.invokespecial 9, 3) := by decide +kernel
theorem dX10_init_12 : decode cX10_init 12 = .ok (.putfield 10, 3) := by decide +kernel
theorem dX10_init_15 : decode cX10_init 15 = .ok (.aload_n 0, 1) := by decide +kernel
theorem dX10_init_16 : decode cX10_init 16 = .ok (.new 16, 3) := by decide +kernel
theorem dX10_init_19 : decode cX10_init 19 = .ok (.dup, 1) := by decide +kernel
theorem dX10_init_20 : decode cX10_init 20 = .ok (.invokespecial 18, 3) := by decide +kernel
theorem dX10_init_23 : decode cX10_init 23 = .ok (.putfield 19, 3) := by decide +kernel
theorem dX10_init_26 : decode cX10_init 26 = .ok (.aload_n 0, 1) := by decide +kernel
theorem dX10_init_27 : decode cX10_init 27 = .ok (.new 23, 3) := by decide +kernel
theorem dX10_init_30 : decode cX10_init 30 = .ok (.dup, 1) := by decide +kernel
theorem dX10_init_31 : decode cX10_init 31 = .ok (.invokespecial 25, 3) := by decide +kernel
theorem dX10_init_34 : decode cX10_init 34 = .ok (.putfield 26, 3) := by decide +kernel
theorem dX10_init_37 : decode cX10_init 37 = .ok (.aload_n 0, 1) := by decide +kernel
theorem dX10_init_38 : decode cX10_init 38 = .ok (.new 30, 3) := by decide +kernel
theorem dX10_init_41 : decode cX10_init 41 = .ok (.dup, 1) := by decide +kernel
theorem dX10_init_42 : decode cX10_init 42 = .ok (.invokespecial 32, 3) := by decide +kernel
theorem dX10_init_45 : decode cX10_init 45 = .ok (.putfield 33, 3) := by decide +kernel
theorem dX10_init_48 : decode cX10_init 48 = .ok (.aload_n 0, 1) := by decide +kernel
theorem dX10_init_49 : decode cX10_init 49 = .ok (.new 37, 3) := by decide +kernel
theorem dX10_init_52 : decode cX10_init 52 = .ok (.dup, 1) := by decide +kernel
theorem dX10_init_53 : decode cX10_init 53 = .ok (.aload_n 0, 1) := by decide +kernel
theorem dX10_init_54 : decode cX10_init 54 = .ok (.getfield 10, 3) := by decide +kernel
theorem dX10_init_57 : decode cX10_init 57 = .ok (.invokespecial 39, 3) := by decide +kernel
theorem dX10_init_60 : decode cX10_init 60 = .ok (.putfield 42, 3) := by decide +kernel
theorem dX10_init_63 : decode cX10_init 63 = .ok (.aload_n 0, 1) := by decide +kernel
theorem dX10_init_64 : decode cX10_init 64 = .ok (.iconst 2, 1) := by decide +kernel
theorem dX10_init_65 : decode cX10_init 65 = .ok (.anewarray 46, 3) := by decide +kernel
theorem dX10_init_68 : decode cX10_init 68 = .ok (.putfield 48, 3) := by decide +kernel
theorem dX10_init_71 : decode cX10_init 71 = .ok (.aload_n 0, 1) := by decide +kernel
theorem dX10_init_72 : decode cX10_init 72 = .ok (.new 52, 3) := by decide +kernel
theorem dX10_init_75 : decode cX10_init 75 = .ok (.dup, 1) := by decide +kernel
theorem dX10_init_76 : decode cX10_init 76 = .ok (.invokespecial 54, 3) := by decide +kernel
theorem dX10_init_79 : decode cX10_init 79 = .ok (.putfield 55, 3) := by decide +kernel
theorem dX10_init_82 : decode cX10_init 82 = .ok (.aload_n 0, 1) := by decide +kernel
theorem dX10_init_83 : decode cX10_init 83 = .ok (.new 52, 3) := by decide +kernel
theorem dX10_init_86 : decode cX10_init 86 = .ok (.dup, 1) := by decide +kernel
theorem dX10_init_87 : decode cX10_init 87 = .ok (.invokespecial 54, 3) := by decide +kernel
theorem dX10_init_90 : decode cX10_init 90 = .ok (.putfield 59, 3) := by decide +kernel
theorem dX10_init_93 : decode cX10_init 93 = .ok (.aload_n 0, 1) := by decide +kernel
theorem dX10_init_94 : decode cX10_init 94 = .ok (.new 52, 3) := by decide +kernel
theorem dX10_init_97 : decode cX10_init 97 = .ok (.dup, 1) := by decide +kernel
theorem dX10_init_98 : decode cX10_init 98 = .ok (.invokespecial 54, 3) := by decide +kernel
theorem dX10_init_101 : decode cX10_init 101 = .ok (.putfield 62, 3) := by decide +kernel
theorem dX10_init_104 : decode cX10_init 104 = .ok (.aload_n 0, 1) := by decide +kernel
theorem dX10_init_105 : decode cX10_init 105 = .ok (.iconst 0, 1) := by decide +kernel
theorem dX10_init_106 : decode cX10_init 106 = .ok (.putfield 65, 3) := by decide +kernel
theorem dX10_init_109 : decode cX10_init 109 = .ok (.iconst 0, 1) := by decide +kernel
theorem dX10_init_110 : decode cX10_init 110 = .ok (.istore_n 1, 1) := by decide +kernel
theorem dX10_init_111 : decode cX10_init 111 = .ok (.iload_n 1, 1) := by decide +kernel
theorem dX10_init_112 : decode cX10_init 112 = .ok (.iconst 2, 1) := by decide +kernel
theorem dX10_init_113 : decode cX10_init 113 = .ok (.if_icmp .ge 22, 3) := by decide +kernel
theorem dX10_init_116 : decode cX10_init 116 = .ok (.aload_n 0, 1) := by decide +kernel
theorem dX10_init_117 : decode cX10_init 117 = .ok (.getfield 48, 3) := by decide +kernel
theorem dX10_init_120 : decode cX10_init 120 = .ok (.iload_n 1, 1) := by decide +kernel
theorem dX10_init_121 : decode cX10_init 121 = .ok (.new 46, 3) := by decide +kernel
theorem dX10_init_124 : decode cX10_init 124 = .ok (.dup, 1) := by decide +kernel
theorem dX10_init_125 : decode cX10_init 125 = .ok (.invokespecial 69, 3) := by decide +kernel
theorem dX10_init_128 : decode cX10_init 128 = .ok (.aastore, 1) := by decide +kernel
theorem dX10_init_129 : decode cX10_init 129 = .ok (.iinc 1 1, 3) := by decide +kernel
theorem dX10_init_132 : decode cX10_init 132 = .ok (.goto (-21), 3) := by decide +kernel
theorem dX10_init_135 : decode cX10_init 135 = .ok (.return_, 1) := by decide +kernel
theorem dX10_feed_0 : decode cX10_feed 0 = .ok (.iload_n 1, 1) := by decide +kernel
theorem dX10_feed_1 : decode cX10_feed 1 = .ok (.ifCond .lt 10, 3) := by decide +kernel
theorem dX10_feed_4 : decode cX10_feed 4 = .ok (.iload_n 1, 1) := by decide +kernel
theorem dX10_feed_5 : decode cX10_feed 5 = .ok (.sipush 255, 3) := by decide +kernel
theorem dX10_feed_8 : decode cX10_feed 8 = .ok (.if_icmp .le 6, 3) := by decide +kernel
theorem dX10_feed_11 : decode cX10_feed 11 = .ok (.ldc 70, 2) := by decide +kernel
theorem dX10_feed_13 : decode cX10_feed 13 = .ok (.ireturn, 1) := by decide +kernel
theorem dX10_feed_14 : decode cX10_feed 14 = .ok (.aload_n 0, 1) := by decide +kernel
theorem dX10_feed_15 : decode cX10_feed 15 = .ok (.getfield 26, 3) := by decide +kernel
theorem dX10_feed_18 : decode cX10_feed 18 = .ok (.invokevirtual 71, 3) := by decide +kernel
theorem dX10_feed_21 : decode cX10_feed 21 = .ok (.ifCond .eq 6, 3) := by decide +kernel
theorem dX10_feed_24 : decode cX10_feed 24 = .ok (.ldc 75, 2) := by decide +kernel
theorem dX10_feed_26 : decode cX10_feed 26 = .ok (.ireturn, 1) := by decide +kernel
theorem dX10_feed_27 : decode cX10_feed 27 = .ok (.aload_n 0, 1) := by decide +kernel
theorem dX10_feed_28 : decode cX10_feed 28 = .ok (.getfield 26, 3) := by decide +kernel
theorem dX10_feed_31 : decode cX10_feed 31 = .ok (.iload_n 1, 1) := by decide +kernel
theorem dX10_feed_32 : decode cX10_feed 32 = .ok (.invokevirtual 76, 3) := by decide +kernel
theorem dX10_feed_35 : decode cX10_feed 35 = .ok (.aload_n 0, 1) := by decide +kernel
theorem dX10_feed_36 : decode cX10_feed 36 = .ok (.getfield 26, 3) := by decide +kernel
theorem dX10_feed_39 : decode cX10_feed 39 = .ok (.invokevirtual 80, 3) := by decide +kernel
theorem dX10_feed_42 : decode cX10_feed 42 = .ok (.ireturn, 1) := by decide +kernel
theorem dX10_write_0 : decode cX10_write 0 = .ok (.aload_n 0, 1) := by decide +kernel
theorem dX10_write_1 : decode cX10_write 1 = .ok (.getfield 10, 3) := by decide +kernel
theorem dX10_write_4 : decode cX10_write 4 = .ok (.invokevirtual 84, 3) := by decide +kernel
theorem dX10_write_7 : decode cX10_write 7 = .ok (.ifCond .eq 6, 3) := by decide +kernel
theorem dX10_write_10 : decode cX10_write 10 = .ok (.ldc 75, 2) := by decide +kernel
theorem dX10_write_12 : decode cX10_write 12 = .ok (.ireturn, 1) := by decide +kernel
theorem dX10_write_13 : decode cX10_write 13 = .ok (.aload_n 0, 1) := by decide +kernel
theorem dX10_write_14 : decode cX10_write 14 = .ok (.getfield 26, 3) := by decide +kernel
theorem dX10_write_17 : decode cX10_write 17 = .ok (.aload_n 0, 1) := by decide +kernel
theorem dX10_write_18 : decode cX10_write 18 = .ok (.getfield 62, 3) := by decide +kernel
theorem dX10_write_21 : decode cX10_write 21 = .ok (.invokevirtual 85, 3) := by decide +kernel
theorem dX10_write_24 : decode cX10_write 24 = .ok (.istore_n 1, 1) := by decide +kernel
theorem dX10_write_25 : decode cX10_write 25 = .ok (.aload_n 0, 1) := by decide +kernel
theorem dX10_write_26 : decode cX10_write 26 = .ok (.getfield 26, 3) := by decide +kernel
theorem dX10_write_29 : decode cX10_write 29 = .ok (.invokevirtual 89, 3) := by decide +kernel
theorem dX10_write_32 : decode cX10_write 32 = .ok (.iload_n 1, 1) := by decide +kernel
theorem dX10_write_33 : decode cX10_write 33 = .ok (.ifCond .eq 8, 3) := by decide +kernel
theorem dX10_write_36 : decode cX10_write 36 = .ok (.bipush (-10), 2) := by decide +kernel
theorem dX10_write_38 : decode cX10_write 38 = .ok (.iload_n 1, 1) := by decide +kernel
theorem dX10_write_39 : decode cX10_write 39 = .ok (.isub, 1) := by decide +kernel
theorem dX10_write_40 : decode cX10_write 40 = .ok (.ireturn, 1) := by decide +kernel
theorem dX10_write_41 : decode cX10_write 41 = .ok (.aload_n 0, 1) := by decide +kernel
theorem dX10_write_42 : decode cX10_write 42 = .ok (.aload_n 0, 1) := by decide +kernel
theorem dX10_write_43 : decode cX10_write 43 = .ok (.getfield 62, 3) := by decide +kernel
theorem dX10_write_46 : decode cX10_write 46 = .ok (.invokevirtual 92, 3) := by decide +kernel
theorem dX10_write_49 : decode cX10_write 49 = .ok (.ireturn, 1) := by decide +kernel
theorem dX10_fault_0 : decode cX10_fault 0 = .ok (.aload_n 0, 1) := by decide +kernel
theorem dX10_fault_1 : decode cX10_fault 1 = .ok (.getfield 26, 3) := by decide +kernel
theorem dX10_fault_4 : decode cX10_fault 4 = .ok (.invokevirtual 95, 3) := by decide +kernel
theorem dX10_fault_7 : decode cX10_fault 7 = .ok (.ireturn, 1) := by decide +kernel
theorem dX10_put_0 : decode cX10_put 0 = .ok (.aload_n 0, 1) := by decide +kernel
theorem dX10_put_1 : decode cX10_put 1 = .ok (.getfield 62, 3) := by decide +kernel
theorem dX10_put_4 : decode cX10_put 4 = .ok (.iload_n 1, 1) := by decide +kernel
theorem dX10_put_5 : decode cX10_put 5 = .ok (.i2l, 1) := by decide +kernel
theorem dX10_put_6 : decode cX10_put 6 = .ok (.iload_n 2, 1) := by decide +kernel
theorem dX10_put_7 : decode cX10_put 7 = .ok (.i2l, 1) := by decide +kernel
theorem dX10_put_8 : decode cX10_put 8 = .ok (.iload_n 3, 1) := by decide +kernel
theorem dX10_put_9 : decode cX10_put 9 = .ok (.i2l, 1) := by decide +kernel
theorem dX10_put_10 : decode cX10_put 10 = .ok (.iload 4, 2) := by decide +kernel
theorem dX10_put_12 : decode cX10_put 12 = .ok (.i2l, 1) := by decide +kernel
theorem dX10_put_13 : decode cX10_put 13 = .ok (.invokevirtual 98, 3) := by decide +kernel
theorem dX10_put_16 : decode cX10_put 16 = .ok (.aload_n 0, 1) := by decide +kernel
theorem dX10_put_17 : decode cX10_put 17 = .ok (.getfield 62, 3) := by decide +kernel
theorem dX10_put_20 : decode cX10_put 20 = .ok (.invokevirtual 102, 3) := by decide +kernel
theorem dX10_put_23 : decode cX10_put 23 = .ok (.ifCond .ne 6, 3) := by decide +kernel
theorem dX10_put_26 : decode cX10_put 26 = .ok (.ldc 70, 2) := by decide +kernel
theorem dX10_put_28 : decode cX10_put 28 = .ok (.ireturn, 1) := by decide +kernel
theorem dX10_put_29 : decode cX10_put 29 = .ok (.aload_n 0, 1) := by decide +kernel
theorem dX10_put_30 : decode cX10_put 30 = .ok (.getfield 62, 3) := by decide +kernel
theorem dX10_put_33 : decode cX10_put 33 = .ok (.invokevirtual 105, 3) := by decide +kernel
theorem dX10_put_36 : decode cX10_put 36 = .ok (.ifCond .ne 6, 3) := by decide +kernel
theorem dX10_put_39 : decode cX10_put 39 = .ok (.ldc 108, 2) := by decide +kernel
theorem dX10_put_41 : decode cX10_put 41 = .ok (.ireturn, 1) := by decide +kernel
theorem dX10_put_42 : decode cX10_put 42 = .ok (.aload_n 0, 1) := by decide +kernel
theorem dX10_put_43 : decode cX10_put 43 = .ok (.getfield 10, 3) := by decide +kernel
theorem dX10_put_46 : decode cX10_put 46 = .ok (.invokevirtual 84, 3) := by decide +kernel
theorem dX10_put_49 : decode cX10_put 49 = .ok (.ifCond .eq 6, 3) := by decide +kernel
theorem dX10_put_52 : decode cX10_put 52 = .ok (.ldc 75, 2) := by decide +kernel
theorem dX10_put_54 : decode cX10_put 54 = .ok (.ireturn, 1) := by decide +kernel
theorem dX10_put_55 : decode cX10_put 55 = .ok (.aload_n 0, 1) := by decide +kernel
theorem dX10_put_56 : decode cX10_put 56 = .ok (.aload_n 0, 1) := by decide +kernel
theorem dX10_put_57 : decode cX10_put 57 = .ok (.getfield 62, 3) := by decide +kernel
theorem dX10_put_60 : decode cX10_put 60 = .ok (.invokevirtual 92, 3) := by decide +kernel
theorem dX10_put_63 : decode cX10_put 63 = .ok (.ireturn, 1) := by decide +kernel
theorem dX10_told_0 : decode cX10_told 0 = .ok (.iload_n 1, 1) := by decide +kernel
theorem dX10_told_1 : decode cX10_told 1 = .ok (.tableswitch 136 0 7 #[47, 55, 63, 78, 93, 108, 116, 128], 47) := by decide +kernel
theorem dX10_told_48 : decode cX10_told 48 = .ok (.aload_n 0, 1) := by decide +kernel
theorem dX10_told_49 : decode cX10_told 49 = .ok (.getfield 10, 3) := by decide +kernel
theorem dX10_told_52 : decode cX10_told 52 = .ok (.invokevirtual 109, 3) := by decide +kernel
theorem dX10_told_55 : decode cX10_told 55 = .ok (.ireturn, 1) := by decide +kernel
theorem dX10_told_56 : decode cX10_told 56 = .ok (.aload_n 0, 1) := by decide +kernel
theorem dX10_told_57 : decode cX10_told 57 = .ok (.getfield 26, 3) := by decide +kernel
theorem dX10_told_60 : decode cX10_told 60 = .ok (.invokevirtual 80, 3) := by decide +kernel
theorem dX10_told_63 : decode cX10_told 63 = .ok (.ireturn, 1) := by decide +kernel
theorem dX10_told_64 : decode cX10_told 64 = .ok (.aload_n 0, 1) := by decide +kernel
theorem dX10_told_65 : decode cX10_told 65 = .ok (.getfield 42, 3) := by decide +kernel
theorem dX10_told_68 : decode cX10_told 68 = .ok (.invokevirtual 112, 3) := by decide +kernel
theorem dX10_told_71 : decode cX10_told 71 = .ok (.aload_n 0, 1) := by decide +kernel
theorem dX10_told_72 : decode cX10_told 72 = .ok (.getfield 42, 3) := by decide +kernel
theorem dX10_told_75 : decode cX10_told 75 = .ok (.invokevirtual 115, 3) := by decide +kernel
theorem dX10_told_78 : decode cX10_told 78 = .ok (.ireturn, 1) := by decide +kernel
theorem dX10_told_79 : decode cX10_told 79 = .ok (.aload_n 0, 1) := by decide +kernel
theorem dX10_told_80 : decode cX10_told 80 = .ok (.getfield 42, 3) := by decide +kernel
theorem dX10_told_83 : decode cX10_told 83 = .ok (.invokevirtual 112, 3) := by decide +kernel
theorem dX10_told_86 : decode cX10_told 86 = .ok (.aload_n 0, 1) := by decide +kernel
theorem dX10_told_87 : decode cX10_told 87 = .ok (.getfield 42, 3) := by decide +kernel
theorem dX10_told_90 : decode cX10_told 90 = .ok (.invokevirtual 118, 3) := by decide +kernel
theorem dX10_told_93 : decode cX10_told 93 = .ok (.ireturn, 1) := by decide +kernel
theorem dX10_told_94 : decode cX10_told 94 = .ok (.aload_n 0, 1) := by decide +kernel
theorem dX10_told_95 : decode cX10_told 95 = .ok (.getfield 42, 3) := by decide +kernel
theorem dX10_told_98 : decode cX10_told 98 = .ok (.invokevirtual 112, 3) := by decide +kernel
theorem dX10_told_101 : decode cX10_told 101 = .ok (.aload_n 0, 1) := by decide +kernel
theorem dX10_told_102 : decode cX10_told 102 = .ok (.getfield 42, 3) := by decide +kernel
theorem dX10_told_105 : decode cX10_told 105 = .ok (.invokevirtual 121, 3) := by decide +kernel
theorem dX10_told_108 : decode cX10_told 108 = .ok (.ireturn, 1) := by decide +kernel
theorem dX10_told_109 : decode cX10_told 109 = .ok (.aload_n 0, 1) := by decide +kernel
theorem dX10_told_110 : decode cX10_told 110 = .ok (.getfield 33, 3) := by decide +kernel
theorem dX10_told_113 : decode cX10_told 113 = .ok (.invokevirtual 124, 3) := by decide +kernel
theorem dX10_told_116 : decode cX10_told 116 = .ok (.ireturn, 1) := by decide +kernel
theorem dX10_told_117 : decode cX10_told 117 = .ok (.aload_n 0, 1) := by decide +kernel
theorem dX10_told_118 : decode cX10_told 118 = .ok (.getfield 42, 3) := by decide +kernel
theorem dX10_told_121 : decode cX10_told 121 = .ok (.invokevirtual 112, 3) := by decide +kernel
theorem dX10_told_124 : decode cX10_told 124 = .ok (.aload_n 0, 1) := by decide +kernel
theorem dX10_told_125 : decode cX10_told 125 = .ok (.invokevirtual 125, 3) := by decide +kernel
theorem dX10_told_128 : decode cX10_told 128 = .ok (.ireturn, 1) := by decide +kernel
theorem dX10_told_129 : decode cX10_told 129 = .ok (.aload_n 0, 1) := by decide +kernel
theorem dX10_told_130 : decode cX10_told 130 = .ok (.getfield 19, 3) := by decide +kernel
theorem dX10_told_133 : decode cX10_told 133 = .ok (.invokevirtual 128, 3) := by decide +kernel
theorem dX10_told_136 : decode cX10_told 136 = .ok (.ireturn, 1) := by decide +kernel
theorem dX10_told_137 : decode cX10_told 137 = .ok (.ldc 70, 2) := by decide +kernel
theorem dX10_told_139 : decode cX10_told 139 = .ok (.ireturn, 1) := by decide +kernel
theorem dX10_firstWrong_0 : decode cX10_firstWrong 0 = .ok (.iconst 0, 1) := by decide +kernel
theorem dX10_firstWrong_1 : decode cX10_firstWrong 1 = .ok (.istore_n 1, 1) := by decide +kernel
theorem dX10_firstWrong_2 : decode cX10_firstWrong 2 = .ok (.iload_n 1, 1) := by decide +kernel
theorem dX10_firstWrong_3 : decode cX10_firstWrong 3 = .ok (.aload_n 0, 1) := by decide +kernel
theorem dX10_firstWrong_4 : decode cX10_firstWrong 4 = .ok (.getfield 33, 3) := by decide +kernel
theorem dX10_firstWrong_7 : decode cX10_firstWrong 7 = .ok (.invokevirtual 124, 3) := by decide +kernel
theorem dX10_firstWrong_10 : decode cX10_firstWrong 10 = .ok (.if_icmp .ge 83, 3) := by decide +kernel
theorem dX10_firstWrong_13 : decode cX10_firstWrong 13 = .ok (.aload_n 0, 1) := by decide +kernel
theorem dX10_firstWrong_14 : decode cX10_firstWrong 14 = .ok (.getfield 33, 3) := by decide +kernel
theorem dX10_firstWrong_17 : decode cX10_firstWrong 17 = .ok (.iload_n 1, 1) := by decide +kernel
theorem dX10_firstWrong_18 : decode cX10_firstWrong 18 = .ok (.invokevirtual 129, 3) := by decide +kernel
theorem dX10_firstWrong_21 : decode cX10_firstWrong 21 = .ok (.istore_n 2, 1) := by decide +kernel
theorem dX10_firstWrong_22 : decode cX10_firstWrong 22 = .ok (.aload_n 0, 1) := by decide +kernel
theorem dX10_firstWrong_23 : decode cX10_firstWrong 23 = .ok (.getfield 33, 3) := by decide +kernel
theorem dX10_firstWrong_26 : decode cX10_firstWrong 26 = .ok (.iload_n 1, 1) := by decide +kernel
theorem dX10_firstWrong_27 : decode cX10_firstWrong 27 = .ok (.invokevirtual 133, 3) := by decide +kernel
theorem dX10_firstWrong_30 : decode cX10_firstWrong 30 = .ok (.istore_n 3, 1) := by decide +kernel
theorem dX10_firstWrong_31 : decode cX10_firstWrong 31 = .ok (.aload_n 0, 1) := by decide +kernel
theorem dX10_firstWrong_32 : decode cX10_firstWrong 32 = .ok (.getfield 10, 3) := by decide +kernel
theorem dX10_firstWrong_35 : decode cX10_firstWrong 35 = .ok (.iload_n 2, 1) := by decide +kernel
theorem dX10_firstWrong_36 : decode cX10_firstWrong 36 = .ok (.invokevirtual 136, 3) := by decide +kernel
theorem dX10_firstWrong_39 : decode cX10_firstWrong 39 = .ok (.ifCond .eq 18, 3) := by decide +kernel
theorem dX10_firstWrong_42 : decode cX10_firstWrong 42 = .ok (.aload_n 0, 1) := by decide +kernel
theorem dX10_firstWrong_43 : decode cX10_firstWrong 43 = .ok (.getfield 10, 3) := by decide +kernel
theorem dX10_firstWrong_46 : decode cX10_firstWrong 46 = .ok (.iload_n 3, 1) := by decide +kernel
theorem dX10_firstWrong_47 : decode cX10_firstWrong 47 = .ok (.invokevirtual 136, 3) := by decide +kernel
theorem dX10_firstWrong_50 : decode cX10_firstWrong 50 = .ok (.ifCond .eq 7, 3) := by decide +kernel
theorem dX10_firstWrong_53 : decode cX10_firstWrong 53 = .ok (.iconst 1, 1) := by decide +kernel
theorem dX10_firstWrong_54 : decode cX10_firstWrong 54 = .ok (.goto 4, 3) := by decide +kernel
theorem dX10_firstWrong_57 : decode cX10_firstWrong 57 = .ok (.iconst 0, 1) := by decide +kernel
theorem dX10_firstWrong_58 : decode cX10_firstWrong 58 = .ok (.istore 4, 2) := by decide +kernel
theorem dX10_firstWrong_60 : decode cX10_firstWrong 60 = .ok (.iload 4, 2) := by decide +kernel
theorem dX10_firstWrong_62 : decode cX10_firstWrong 62 = .ok (.ifCond .eq 23, 3) := by decide +kernel
theorem dX10_firstWrong_65 : decode cX10_firstWrong 65 = .ok (.aload_n 0, 1) := by decide +kernel
theorem dX10_firstWrong_66 : decode cX10_firstWrong 66 = .ok (.getfield 42, 3) := by decide +kernel
theorem dX10_firstWrong_69 : decode cX10_firstWrong 69 = .ok (.iload_n 2, 1) := by decide +kernel
theorem dX10_firstWrong_70 : decode cX10_firstWrong 70 = .ok (.iload_n 3, 1) := by decide +kernel
theorem dX10_firstWrong_71 : decode cX10_firstWrong 71 = .ok (.invokevirtual 140, 3) := by decide +kernel
theorem dX10_firstWrong_74 : decode cX10_firstWrong 74 = .ok (.aload_n 0, 1) := by decide +kernel
theorem dX10_firstWrong_75 : decode cX10_firstWrong 75 = .ok (.getfield 33, 3) := by decide +kernel
theorem dX10_firstWrong_78 : decode cX10_firstWrong 78 = .ok (.iload_n 1, 1) := by decide +kernel
theorem dX10_firstWrong_79 : decode cX10_firstWrong 79 = .ok (.invokevirtual 144, 3) := by decide +kernel
end
section
theorem dX10_firstWrong_82 : decode cX10_firstWrong 82 = .ok (.if_icmp .eq 5, 3) := by decide +kernel
theorem dX10_firstWrong_85 : decode cX10_firstWrong 85 = .ok (.iload_n 1, 1) := by decide +kernel
theorem dX10_firstWrong_86 : decode cX10_firstWrong 86 = .ok (.ireturn, 1) := by decide +kernel
theorem dX10_firstWrong_87 : decode cX10_firstWrong 87 = .ok (.iinc 1 1, 3) := by decide +kernel
theorem dX10_firstWrong_90 : decode cX10_firstWrong 90 = .ok (.goto (-88), 3) := by decide +kernel
theorem dX10_firstWrong_93 : decode cX10_firstWrong 93 = .ok (.iconst (-1), 1) := by decide +kernel
theorem dX10_firstWrong_94 : decode cX10_firstWrong 94 = .ok (.ireturn, 1) := by decide +kernel
theorem dX10_number_0 : decode cX10_number 0 = .ok (.aload_n 0, 1) := by decide +kernel
theorem dX10_number_1 : decode cX10_number 1 = .ok (.getfield 10, 3) := by decide +kernel
theorem dX10_number_4 : decode cX10_number 4 = .ok (.iload_n 1, 1) := by decide +kernel
theorem dX10_number_5 : decode cX10_number 5 = .ok (.invokevirtual 136, 3) := by decide +kernel
theorem dX10_number_8 : decode cX10_number 8 = .ok (.ifCond .ne 6, 3) := by decide +kernel
theorem dX10_number_11 : decode cX10_number 11 = .ok (.ldc 147, 2) := by decide +kernel
theorem dX10_number_13 : decode cX10_number 13 = .ok (.ireturn, 1) := by decide +kernel
theorem dX10_number_14 : decode cX10_number 14 = .ok (.iload_n 2, 1) := by decide +kernel
theorem dX10_number_15 : decode cX10_number 15 = .ok (.ifCond .lt 8, 3) := by decide +kernel
theorem dX10_number_18 : decode cX10_number 18 = .ok (.iload_n 2, 1) := by decide +kernel
theorem dX10_number_19 : decode cX10_number 19 = .ok (.iconst 4, 1) := by decide +kernel
theorem dX10_number_20 : decode cX10_number 20 = .ok (.if_icmp .lt 6, 3) := by decide +kernel
theorem dX10_number_23 : decode cX10_number 23 = .ok (.ldc 70, 2) := by decide +kernel
theorem dX10_number_25 : decode cX10_number 25 = .ok (.ireturn, 1) := by decide +kernel
theorem dX10_number_26 : decode cX10_number 26 = .ok (.aload_n 0, 1) := by decide +kernel
theorem dX10_number_27 : decode cX10_number 27 = .ok (.getfield 10, 3) := by decide +kernel
theorem dX10_number_30 : decode cX10_number 30 = .ok (.iload_n 1, 1) := by decide +kernel
theorem dX10_number_31 : decode cX10_number 31 = .ok (.iload_n 2, 1) := by decide +kernel
theorem dX10_number_32 : decode cX10_number 32 = .ok (.invokevirtual 148, 3) := by decide +kernel
theorem dX10_number_35 : decode cX10_number 35 = .ok (.ldc 152, 2) := by decide +kernel
theorem dX10_number_37 : decode cX10_number 37 = .ok (.iadd, 1) := by decide +kernel
theorem dX10_number_38 : decode cX10_number 38 = .ok (.ireturn, 1) := by decide +kernel
theorem dX10_square_0 : decode cX10_square 0 = .ok (.aload_n 0, 1) := by decide +kernel
theorem dX10_square_1 : decode cX10_square 1 = .ok (.getfield 10, 3) := by decide +kernel
theorem dX10_square_4 : decode cX10_square 4 = .ok (.iload_n 1, 1) := by decide +kernel
theorem dX10_square_5 : decode cX10_square 5 = .ok (.invokevirtual 136, 3) := by decide +kernel
theorem dX10_square_8 : decode cX10_square 8 = .ok (.ifCond .ne 6, 3) := by decide +kernel
theorem dX10_square_11 : decode cX10_square 11 = .ok (.ldc 147, 2) := by decide +kernel
theorem dX10_square_13 : decode cX10_square 13 = .ok (.ireturn, 1) := by decide +kernel
theorem dX10_square_14 : decode cX10_square 14 = .ok (.aload_n 0, 1) := by decide +kernel
theorem dX10_square_15 : decode cX10_square 15 = .ok (.getfield 42, 3) := by decide +kernel
theorem dX10_square_18 : decode cX10_square 18 = .ok (.invokevirtual 112, 3) := by decide +kernel
theorem dX10_square_21 : decode cX10_square 21 = .ok (.aload_n 0, 1) := by decide +kernel
theorem dX10_square_22 : decode cX10_square 22 = .ok (.getfield 42, 3) := by decide +kernel
theorem dX10_square_25 : decode cX10_square 25 = .ok (.iload_n 1, 1) := by decide +kernel
theorem dX10_square_26 : decode cX10_square 26 = .ok (.invokevirtual 153, 3) := by decide +kernel
theorem dX10_square_29 : decode cX10_square 29 = .ok (.astore_n 3, 1) := by decide +kernel
theorem dX10_square_30 : decode cX10_square 30 = .ok (.iload_n 2, 1) := by decide +kernel
theorem dX10_square_31 : decode cX10_square 31 = .ok (.tableswitch 169 0 10 #[57, 62, 70, 77, 82, 102, 110, 118, 135, 144, 161], 57) := by decide +kernel
theorem dX10_square_88 : decode cX10_square 88 = .ok (.aload_n 3, 1) := by decide +kernel
theorem dX10_square_89 : decode cX10_square 89 = .ok (.invokevirtual 157, 3) := by decide +kernel
theorem dX10_square_92 : decode cX10_square 92 = .ok (.ireturn, 1) := by decide +kernel
theorem dX10_square_93 : decode cX10_square 93 = .ok (.aload_n 3, 1) := by decide +kernel
theorem dX10_square_94 : decode cX10_square 94 = .ok (.invokevirtual 162, 3) := by decide +kernel
theorem dX10_square_97 : decode cX10_square 97 = .ok (.ldc 165, 2) := by decide +kernel
theorem dX10_square_99 : decode cX10_square 99 = .ok (.iadd, 1) := by decide +kernel
theorem dX10_square_100 : decode cX10_square 100 = .ok (.ireturn, 1) := by decide +kernel
theorem dX10_square_101 : decode cX10_square 101 = .ok (.aload_n 3, 1) := by decide +kernel
theorem dX10_square_102 : decode cX10_square 102 = .ok (.invokevirtual 166, 3) := by decide +kernel
theorem dX10_square_105 : decode cX10_square 105 = .ok (.iconst 1, 1) := by decide +kernel
theorem dX10_square_106 : decode cX10_square 106 = .ok (.iadd, 1) := by decide +kernel
theorem dX10_square_107 : decode cX10_square 107 = .ok (.ireturn, 1) := by decide +kernel
theorem dX10_square_108 : decode cX10_square 108 = .ok (.aload_n 3, 1) := by decide +kernel
theorem dX10_square_109 : decode cX10_square 109 = .ok (.invokevirtual 169, 3) := by decide +kernel
theorem dX10_square_112 : decode cX10_square 112 = .ok (.ireturn, 1) := by decide +kernel
theorem dX10_square_113 : decode cX10_square 113 = .ok (.aload_n 3, 1) := by decide +kernel
theorem dX10_square_114 : decode cX10_square 114 = .ok (.invokevirtual 157, 3) := by decide +kernel
theorem dX10_square_117 : decode cX10_square 117 = .ok (.iconst 2, 1) := by decide +kernel
theorem dX10_square_118 : decode cX10_square 118 = .ok (.if_icmp .ne 13, 3) := by decide +kernel
theorem dX10_square_121 : decode cX10_square 121 = .ok (.aload_n 3, 1) := by decide +kernel
theorem dX10_square_122 : decode cX10_square 122 = .ok (.invokevirtual 172, 3) := by decide +kernel
theorem dX10_square_125 : decode cX10_square 125 = .ok (.ldc 175, 2) := by decide +kernel
theorem dX10_square_127 : decode cX10_square 127 = .ok (.iadd, 1) := by decide +kernel
theorem dX10_square_128 : decode cX10_square 128 = .ok (.goto 4, 3) := by decide +kernel
theorem dX10_square_131 : decode cX10_square 131 = .ok (.iconst 0, 1) := by decide +kernel
theorem dX10_square_132 : decode cX10_square 132 = .ok (.ireturn, 1) := by decide +kernel
theorem dX10_square_133 : decode cX10_square 133 = .ok (.aload_n 3, 1) := by decide +kernel
theorem dX10_square_134 : decode cX10_square 134 = .ok (.invokevirtual 176, 3) := by decide +kernel
theorem dX10_square_137 : decode cX10_square 137 = .ok (.invokevirtual 180, 3) := by decide +kernel
theorem dX10_square_140 : decode cX10_square 140 = .ok (.ireturn, 1) := by decide +kernel
theorem dX10_square_141 : decode cX10_square 141 = .ok (.aload_n 3, 1) := by decide +kernel
theorem dX10_square_142 : decode cX10_square 142 = .ok (.invokevirtual 176, 3) := by decide +kernel
theorem dX10_square_145 : decode cX10_square 145 = .ok (.invokevirtual 185, 3) := by decide +kernel
theorem dX10_square_148 : decode cX10_square 148 = .ok (.ireturn, 1) := by decide +kernel
theorem dX10_square_149 : decode cX10_square 149 = .ok (.aload_n 0, 1) := by decide +kernel
theorem dX10_square_150 : decode cX10_square 150 = .ok (.getfield 42, 3) := by decide +kernel
theorem dX10_square_153 : decode cX10_square 153 = .ok (.iload_n 1, 1) := by decide +kernel
theorem dX10_square_154 : decode cX10_square 154 = .ok (.invokevirtual 188, 3) := by decide +kernel
theorem dX10_square_157 : decode cX10_square 157 = .ok (.ifCond .eq 7, 3) := by decide +kernel
theorem dX10_square_160 : decode cX10_square 160 = .ok (.iconst 1, 1) := by decide +kernel
theorem dX10_square_161 : decode cX10_square 161 = .ok (.goto 4, 3) := by decide +kernel
theorem dX10_square_164 : decode cX10_square 164 = .ok (.iconst 0, 1) := by decide +kernel
theorem dX10_square_165 : decode cX10_square 165 = .ok (.ireturn, 1) := by decide +kernel
theorem dX10_square_166 : decode cX10_square 166 = .ok (.aload_n 0, 1) := by decide +kernel
theorem dX10_square_167 : decode cX10_square 167 = .ok (.getfield 42, 3) := by decide +kernel
theorem dX10_square_170 : decode cX10_square 170 = .ok (.iload_n 1, 1) := by decide +kernel
theorem dX10_square_171 : decode cX10_square 171 = .ok (.invokevirtual 191, 3) := by decide +kernel
theorem dX10_square_174 : decode cX10_square 174 = .ok (.ireturn, 1) := by decide +kernel
theorem dX10_square_175 : decode cX10_square 175 = .ok (.aload_n 0, 1) := by decide +kernel
theorem dX10_square_176 : decode cX10_square 176 = .ok (.getfield 42, 3) := by decide +kernel
theorem dX10_square_179 : decode cX10_square 179 = .ok (.iload_n 1, 1) := by decide +kernel
theorem dX10_square_180 : decode cX10_square 180 = .ok (.invokevirtual 194, 3) := by decide +kernel
theorem dX10_square_183 : decode cX10_square 183 = .ok (.ifCond .eq 7, 3) := by decide +kernel
theorem dX10_square_186 : decode cX10_square 186 = .ok (.iconst 1, 1) := by decide +kernel
theorem dX10_square_187 : decode cX10_square 187 = .ok (.goto 4, 3) := by decide +kernel
theorem dX10_square_190 : decode cX10_square 190 = .ok (.iconst 0, 1) := by decide +kernel
theorem dX10_square_191 : decode cX10_square 191 = .ok (.ireturn, 1) := by decide +kernel
theorem dX10_square_192 : decode cX10_square 192 = .ok (.aload_n 3, 1) := by decide +kernel
theorem dX10_square_193 : decode cX10_square 193 = .ok (.invokevirtual 176, 3) := by decide +kernel
theorem dX10_square_196 : decode cX10_square 196 = .ok (.invokevirtual 197, 3) := by decide +kernel
theorem dX10_square_199 : decode cX10_square 199 = .ok (.ireturn, 1) := by decide +kernel
theorem dX10_square_200 : decode cX10_square 200 = .ok (.ldc 70, 2) := by decide +kernel
theorem dX10_square_202 : decode cX10_square 202 = .ok (.ireturn, 1) := by decide +kernel
theorem dX10_run_0 : decode cX10_run 0 = .ok (.aload_n 0, 1) := by decide +kernel
theorem dX10_run_1 : decode cX10_run 1 = .ok (.getfield 10, 3) := by decide +kernel
theorem dX10_run_4 : decode cX10_run 4 = .ok (.iload_n 1, 1) := by decide +kernel
theorem dX10_run_5 : decode cX10_run 5 = .ok (.invokevirtual 136, 3) := by decide +kernel
theorem dX10_run_8 : decode cX10_run 8 = .ok (.ifCond .ne 6, 3) := by decide +kernel
theorem dX10_run_11 : decode cX10_run 11 = .ok (.ldc 147, 2) := by decide +kernel
theorem dX10_run_13 : decode cX10_run 13 = .ok (.ireturn, 1) := by decide +kernel
theorem dX10_run_14 : decode cX10_run 14 = .ok (.aload_n 0, 1) := by decide +kernel
theorem dX10_run_15 : decode cX10_run 15 = .ok (.getfield 42, 3) := by decide +kernel
theorem dX10_run_18 : decode cX10_run 18 = .ok (.invokevirtual 112, 3) := by decide +kernel
theorem dX10_run_21 : decode cX10_run 21 = .ok (.aload_n 0, 1) := by decide +kernel
theorem dX10_run_22 : decode cX10_run 22 = .ok (.getfield 42, 3) := by decide +kernel
theorem dX10_run_25 : decode cX10_run 25 = .ok (.iload_n 1, 1) := by decide +kernel
theorem dX10_run_26 : decode cX10_run 26 = .ok (.invokevirtual 153, 3) := by decide +kernel
theorem dX10_run_29 : decode cX10_run 29 = .ok (.invokevirtual 176, 3) := by decide +kernel
theorem dX10_run_32 : decode cX10_run 32 = .ok (.iload_n 2, 1) := by decide +kernel
theorem dX10_run_33 : decode cX10_run 33 = .ok (.invokevirtual 200, 3) := by decide +kernel
theorem dX10_run_36 : decode cX10_run 36 = .ok (.ireturn, 1) := by decide +kernel
theorem dX10_multiply_0 : decode cX10_multiply 0 = .ok (.aload_n 0, 1) := by decide +kernel
theorem dX10_multiply_1 : decode cX10_multiply 1 = .ok (.getfield 10, 3) := by decide +kernel
theorem dX10_multiply_4 : decode cX10_multiply 4 = .ok (.iload_n 1, 1) := by decide +kernel
theorem dX10_multiply_5 : decode cX10_multiply 5 = .ok (.invokevirtual 136, 3) := by decide +kernel
theorem dX10_multiply_8 : decode cX10_multiply 8 = .ok (.ifCond .eq 14, 3) := by decide +kernel
theorem dX10_multiply_11 : decode cX10_multiply 11 = .ok (.aload_n 0, 1) := by decide +kernel
theorem dX10_multiply_12 : decode cX10_multiply 12 = .ok (.getfield 10, 3) := by decide +kernel
theorem dX10_multiply_15 : decode cX10_multiply 15 = .ok (.iload_n 2, 1) := by decide +kernel
theorem dX10_multiply_16 : decode cX10_multiply 16 = .ok (.invokevirtual 136, 3) := by decide +kernel
theorem dX10_multiply_19 : decode cX10_multiply 19 = .ok (.ifCond .ne 6, 3) := by decide +kernel
theorem dX10_multiply_22 : decode cX10_multiply 22 = .ok (.ldc 147, 2) := by decide +kernel
theorem dX10_multiply_24 : decode cX10_multiply 24 = .ok (.ireturn, 1) := by decide +kernel
theorem dX10_multiply_25 : decode cX10_multiply 25 = .ok (.aload_n 0, 1) := by decide +kernel
theorem dX10_multiply_26 : decode cX10_multiply 26 = .ok (.getfield 10, 3) := by decide +kernel
theorem dX10_multiply_29 : decode cX10_multiply 29 = .ok (.invokevirtual 84, 3) := by decide +kernel
theorem dX10_multiply_32 : decode cX10_multiply 32 = .ok (.ifCond .eq 6, 3) := by decide +kernel
theorem dX10_multiply_35 : decode cX10_multiply 35 = .ok (.ldc 75, 2) := by decide +kernel
theorem dX10_multiply_37 : decode cX10_multiply 37 = .ok (.ireturn, 1) := by decide +kernel
theorem dX10_multiply_38 : decode cX10_multiply 38 = .ok (.aload_n 0, 1) := by decide +kernel
theorem dX10_multiply_39 : decode cX10_multiply 39 = .ok (.getfield 10, 3) := by decide +kernel
theorem dX10_multiply_42 : decode cX10_multiply 42 = .ok (.iload_n 1, 1) := by decide +kernel
theorem dX10_multiply_43 : decode cX10_multiply 43 = .ok (.aload_n 0, 1) := by decide +kernel
theorem dX10_multiply_44 : decode cX10_multiply 44 = .ok (.getfield 55, 3) := by decide +kernel
theorem dX10_multiply_47 : decode cX10_multiply 47 = .ok (.invokevirtual 203, 3) := by decide +kernel
theorem dX10_multiply_50 : decode cX10_multiply 50 = .ok (.aload_n 0, 1) := by decide +kernel
theorem dX10_multiply_51 : decode cX10_multiply 51 = .ok (.getfield 10, 3) := by decide +kernel
theorem dX10_multiply_54 : decode cX10_multiply 54 = .ok (.iload_n 2, 1) := by decide +kernel
theorem dX10_multiply_55 : decode cX10_multiply 55 = .ok (.aload_n 0, 1) := by decide +kernel
theorem dX10_multiply_56 : decode cX10_multiply 56 = .ok (.getfield 59, 3) := by decide +kernel
theorem dX10_multiply_59 : decode cX10_multiply 59 = .ok (.invokevirtual 203, 3) := by decide +kernel
theorem dX10_multiply_62 : decode cX10_multiply 62 = .ok (.aload_n 0, 1) := by decide +kernel
theorem dX10_multiply_63 : decode cX10_multiply 63 = .ok (.getfield 62, 3) := by decide +kernel
theorem dX10_multiply_66 : decode cX10_multiply 66 = .ok (.aload_n 0, 1) := by decide +kernel
theorem dX10_multiply_67 : decode cX10_multiply 67 = .ok (.getfield 55, 3) := by decide +kernel
theorem dX10_multiply_70 : decode cX10_multiply 70 = .ok (.aload_n 0, 1) := by decide +kernel
theorem dX10_multiply_71 : decode cX10_multiply 71 = .ok (.getfield 59, 3) := by decide +kernel
theorem dX10_multiply_74 : decode cX10_multiply 74 = .ok (.invokevirtual 207, 3) := by decide +kernel
theorem dX10_multiply_77 : decode cX10_multiply 77 = .ok (.aload_n 0, 1) := by decide +kernel
theorem dX10_multiply_78 : decode cX10_multiply 78 = .ok (.getfield 62, 3) := by decide +kernel
theorem dX10_multiply_81 : decode cX10_multiply 81 = .ok (.invokevirtual 102, 3) := by decide +kernel
theorem dX10_multiply_84 : decode cX10_multiply 84 = .ok (.ifCond .ne 6, 3) := by decide +kernel
theorem dX10_multiply_87 : decode cX10_multiply 87 = .ok (.ldc 108, 2) := by decide +kernel
theorem dX10_multiply_89 : decode cX10_multiply 89 = .ok (.ireturn, 1) := by decide +kernel
theorem dX10_multiply_90 : decode cX10_multiply 90 = .ok (.aload_n 0, 1) := by decide +kernel
theorem dX10_multiply_91 : decode cX10_multiply 91 = .ok (.aload_n 0, 1) := by decide +kernel
theorem dX10_multiply_92 : decode cX10_multiply 92 = .ok (.getfield 62, 3) := by decide +kernel
theorem dX10_multiply_95 : decode cX10_multiply 95 = .ok (.invokevirtual 92, 3) := by decide +kernel
theorem dX10_multiply_98 : decode cX10_multiply 98 = .ok (.ireturn, 1) := by decide +kernel
theorem dX10_back_0 : decode cX10_back 0 = .ok (.aload_n 0, 1) := by decide +kernel
theorem dX10_back_1 : decode cX10_back 1 = .ok (.getfield 10, 3) := by decide +kernel
theorem dX10_back_4 : decode cX10_back 4 = .ok (.iload_n 1, 1) := by decide +kernel
theorem dX10_back_5 : decode cX10_back 5 = .ok (.invokevirtual 136, 3) := by decide +kernel
theorem dX10_back_8 : decode cX10_back 8 = .ok (.ifCond .ne 6, 3) := by decide +kernel
theorem dX10_back_11 : decode cX10_back 11 = .ok (.ldc 147, 2) := by decide +kernel
theorem dX10_back_13 : decode cX10_back 13 = .ok (.ireturn, 1) := by decide +kernel
theorem dX10_back_14 : decode cX10_back 14 = .ok (.aload_n 0, 1) := by decide +kernel
theorem dX10_back_15 : decode cX10_back 15 = .ok (.getfield 10, 3) := by decide +kernel
theorem dX10_back_18 : decode cX10_back 18 = .ok (.iload_n 1, 1) := by decide +kernel
theorem dX10_back_19 : decode cX10_back 19 = .ok (.aload_n 0, 1) := by decide +kernel
theorem dX10_back_20 : decode cX10_back 20 = .ok (.getfield 62, 3) := by decide +kernel
theorem dX10_back_23 : decode cX10_back 23 = .ok (.invokevirtual 203, 3) := by decide +kernel
theorem dX10_back_26 : decode cX10_back 26 = .ok (.aload_n 0, 1) := by decide +kernel
theorem dX10_back_27 : decode cX10_back 27 = .ok (.getfield 62, 3) := by decide +kernel
theorem dX10_back_30 : decode cX10_back 30 = .ok (.invokevirtual 211, 3) := by decide +kernel
theorem dX10_back_33 : decode cX10_back 33 = .ok (.aload_n 0, 1) := by decide +kernel
theorem dX10_back_34 : decode cX10_back 34 = .ok (.iload_n 1, 1) := by decide +kernel
theorem dX10_back_35 : decode cX10_back 35 = .ok (.aload_n 0, 1) := by decide +kernel
theorem dX10_back_36 : decode cX10_back 36 = .ok (.getfield 62, 3) := by decide +kernel
theorem dX10_back_39 : decode cX10_back 39 = .ok (.invokevirtual 214, 3) := by decide +kernel
theorem dX10_back_42 : decode cX10_back 42 = .ok (.ireturn, 1) := by decide +kernel
theorem dX10_carry_0 : decode cX10_carry 0 = .ok (.aload_n 0, 1) := by decide +kernel
theorem dX10_carry_1 : decode cX10_carry 1 = .ok (.getfield 10, 3) := by decide +kernel
theorem dX10_carry_4 : decode cX10_carry 4 = .ok (.iload_n 1, 1) := by decide +kernel
theorem dX10_carry_5 : decode cX10_carry 5 = .ok (.invokevirtual 136, 3) := by decide +kernel
theorem dX10_carry_8 : decode cX10_carry 8 = .ok (.ifCond .eq 14, 3) := by decide +kernel
theorem dX10_carry_11 : decode cX10_carry 11 = .ok (.aload_n 0, 1) := by decide +kernel
theorem dX10_carry_12 : decode cX10_carry 12 = .ok (.getfield 10, 3) := by decide +kernel
theorem dX10_carry_15 : decode cX10_carry 15 = .ok (.iload_n 2, 1) := by decide +kernel
theorem dX10_carry_16 : decode cX10_carry 16 = .ok (.invokevirtual 136, 3) := by decide +kernel
theorem dX10_carry_19 : decode cX10_carry 19 = .ok (.ifCond .ne 6, 3) := by decide +kernel
theorem dX10_carry_22 : decode cX10_carry 22 = .ok (.ldc 147, 2) := by decide +kernel
theorem dX10_carry_24 : decode cX10_carry 24 = .ok (.ireturn, 1) := by decide +kernel
theorem dX10_carry_25 : decode cX10_carry 25 = .ok (.aload_n 0, 1) := by decide +kernel
theorem dX10_carry_26 : decode cX10_carry 26 = .ok (.getfield 10, 3) := by decide +kernel
theorem dX10_carry_29 : decode cX10_carry 29 = .ok (.iload_n 1, 1) := by decide +kernel
theorem dX10_carry_30 : decode cX10_carry 30 = .ok (.aload_n 0, 1) := by decide +kernel
theorem dX10_carry_31 : decode cX10_carry 31 = .ok (.getfield 55, 3) := by decide +kernel
theorem dX10_carry_34 : decode cX10_carry 34 = .ok (.invokevirtual 203, 3) := by decide +kernel
theorem dX10_carry_37 : decode cX10_carry 37 = .ok (.aload_n 0, 1) := by decide +kernel
theorem dX10_carry_38 : decode cX10_carry 38 = .ok (.getfield 10, 3) := by decide +kernel
theorem dX10_carry_41 : decode cX10_carry 41 = .ok (.iload_n 2, 1) := by decide +kernel
theorem dX10_carry_42 : decode cX10_carry 42 = .ok (.aload_n 0, 1) := by decide +kernel
theorem dX10_carry_43 : decode cX10_carry 43 = .ok (.getfield 59, 3) := by decide +kernel
theorem dX10_carry_46 : decode cX10_carry 46 = .ok (.invokevirtual 203, 3) := by decide +kernel
theorem dX10_carry_49 : decode cX10_carry 49 = .ok (.aload_n 0, 1) := by decide +kernel
theorem dX10_carry_50 : decode cX10_carry 50 = .ok (.getfield 62, 3) := by decide +kernel
theorem dX10_carry_53 : decode cX10_carry 53 = .ok (.aload_n 0, 1) := by decide +kernel
theorem dX10_carry_54 : decode cX10_carry 54 = .ok (.getfield 59, 3) := by decide +kernel
theorem dX10_carry_57 : decode cX10_carry 57 = .ok (.aload_n 0, 1) := by decide +kernel
theorem dX10_carry_58 : decode cX10_carry 58 = .ok (.getfield 55, 3) := by decide +kernel
theorem dX10_carry_61 : decode cX10_carry 61 = .ok (.invokevirtual 207, 3) := by decide +kernel
theorem dX10_carry_64 : decode cX10_carry 64 = .ok (.aload_n 0, 1) := by decide +kernel
theorem dX10_carry_65 : decode cX10_carry 65 = .ok (.getfield 59, 3) := by decide +kernel
theorem dX10_carry_68 : decode cX10_carry 68 = .ok (.invokevirtual 211, 3) := by decide +kernel
theorem dX10_carry_71 : decode cX10_carry 71 = .ok (.aload_n 0, 1) := by decide +kernel
theorem dX10_carry_72 : decode cX10_carry 72 = .ok (.getfield 62, 3) := by decide +kernel
theorem dX10_carry_75 : decode cX10_carry 75 = .ok (.aload_n 0, 1) := by decide +kernel
theorem dX10_carry_76 : decode cX10_carry 76 = .ok (.getfield 62, 3) := by decide +kernel
theorem dX10_carry_79 : decode cX10_carry 79 = .ok (.aload_n 0, 1) := by decide +kernel
theorem dX10_carry_80 : decode cX10_carry 80 = .ok (.getfield 59, 3) := by decide +kernel
theorem dX10_carry_83 : decode cX10_carry 83 = .ok (.invokevirtual 207, 3) := by decide +kernel
theorem dX10_carry_86 : decode cX10_carry 86 = .ok (.aload_n 0, 1) := by decide +kernel
theorem dX10_carry_87 : decode cX10_carry 87 = .ok (.getfield 62, 3) := by decide +kernel
theorem dX10_carry_90 : decode cX10_carry 90 = .ok (.invokevirtual 102, 3) := by decide +kernel
theorem dX10_carry_93 : decode cX10_carry 93 = .ok (.ifCond .ne 6, 3) := by decide +kernel
theorem dX10_carry_96 : decode cX10_carry 96 = .ok (.ldc 108, 2) := by decide +kernel
theorem dX10_carry_98 : decode cX10_carry 98 = .ok (.ireturn, 1) := by decide +kernel
theorem dX10_carry_99 : decode cX10_carry 99 = .ok (.aload_n 0, 1) := by decide +kernel
theorem dX10_carry_100 : decode cX10_carry 100 = .ok (.iload_n 1, 1) := by decide +kernel
theorem dX10_carry_101 : decode cX10_carry 101 = .ok (.aload_n 0, 1) := by decide +kernel
theorem dX10_carry_102 : decode cX10_carry 102 = .ok (.getfield 62, 3) := by decide +kernel
theorem dX10_carry_105 : decode cX10_carry 105 = .ok (.invokevirtual 214, 3) := by decide +kernel
theorem dX10_carry_108 : decode cX10_carry 108 = .ok (.ireturn, 1) := by decide +kernel
theorem dX10_raise_0 : decode cX10_raise 0 = .ok (.aload_n 0, 1) := by decide +kernel
theorem dX10_raise_1 : decode cX10_raise 1 = .ok (.getfield 10, 3) := by decide +kernel
theorem dX10_raise_4 : decode cX10_raise 4 = .ok (.iload_n 1, 1) := by decide +kernel
theorem dX10_raise_5 : decode cX10_raise 5 = .ok (.invokevirtual 136, 3) := by decide +kernel
theorem dX10_raise_8 : decode cX10_raise 8 = .ok (.ifCond .ne 6, 3) := by decide +kernel
theorem dX10_raise_11 : decode cX10_raise 11 = .ok (.ldc 147, 2) := by decide +kernel
theorem dX10_raise_13 : decode cX10_raise 13 = .ok (.ireturn, 1) := by decide +kernel
theorem dX10_raise_14 : decode cX10_raise 14 = .ok (.iload_n 2, 1) := by decide +kernel
theorem dX10_raise_15 : decode cX10_raise 15 = .ok (.ifCond .lt 9, 3) := by decide +kernel
theorem dX10_raise_18 : decode cX10_raise 18 = .ok (.iload_n 2, 1) := by decide +kernel
theorem dX10_raise_19 : decode cX10_raise 19 = .ok (.bipush 20, 2) := by decide +kernel
theorem dX10_raise_21 : decode cX10_raise 21 = .ok (.if_icmp .le 6, 3) := by decide +kernel
theorem dX10_raise_24 : decode cX10_raise 24 = .ok (.ldc 70, 2) := by decide +kernel
theorem dX10_raise_26 : decode cX10_raise 26 = .ok (.ireturn, 1) := by decide +kernel
theorem dX10_raise_27 : decode cX10_raise 27 = .ok (.aload_n 0, 1) := by decide +kernel
theorem dX10_raise_28 : decode cX10_raise 28 = .ok (.getfield 10, 3) := by decide +kernel
theorem dX10_raise_31 : decode cX10_raise 31 = .ok (.iload_n 1, 1) := by decide +kernel
theorem dX10_raise_32 : decode cX10_raise 32 = .ok (.aload_n 0, 1) := by decide +kernel
theorem dX10_raise_33 : decode cX10_raise 33 = .ok (.getfield 55, 3) := by decide +kernel
theorem dX10_raise_36 : decode cX10_raise 36 = .ok (.invokevirtual 203, 3) := by decide +kernel
theorem dX10_raise_39 : decode cX10_raise 39 = .ok (.aload_n 0, 1) := by decide +kernel
theorem dX10_raise_40 : decode cX10_raise 40 = .ok (.getfield 62, 3) := by decide +kernel
theorem dX10_raise_43 : decode cX10_raise 43 = .ok (.invokevirtual 218, 3) := by decide +kernel
theorem dX10_raise_46 : decode cX10_raise 46 = .ok (.iconst 0, 1) := by decide +kernel
theorem dX10_raise_47 : decode cX10_raise 47 = .ok (.istore_n 3, 1) := by decide +kernel
theorem dX10_raise_48 : decode cX10_raise 48 = .ok (.iload_n 3, 1) := by decide +kernel
theorem dX10_raise_49 : decode cX10_raise 49 = .ok (.iload_n 2, 1) := by decide +kernel
theorem dX10_raise_50 : decode cX10_raise 50 = .ok (.if_icmp .ge 37, 3) := by decide +kernel
theorem dX10_raise_53 : decode cX10_raise 53 = .ok (.aload_n 0, 1) := by decide +kernel
theorem dX10_raise_54 : decode cX10_raise 54 = .ok (.getfield 62, 3) := by decide +kernel
theorem dX10_raise_57 : decode cX10_raise 57 = .ok (.aload_n 0, 1) := by decide +kernel
theorem dX10_raise_58 : decode cX10_raise 58 = .ok (.getfield 62, 3) := by decide +kernel
theorem dX10_raise_61 : decode cX10_raise 61 = .ok (.aload_n 0, 1) := by decide +kernel
theorem dX10_raise_62 : decode cX10_raise 62 = .ok (.getfield 55, 3) := by decide +kernel
theorem dX10_raise_65 : decode cX10_raise 65 = .ok (.invokevirtual 207, 3) := by decide +kernel
theorem dX10_raise_68 : decode cX10_raise 68 = .ok (.aload_n 0, 1) := by decide +kernel
theorem dX10_raise_69 : decode cX10_raise 69 = .ok (.getfield 62, 3) := by decide +kernel
theorem dX10_raise_72 : decode cX10_raise 72 = .ok (.invokevirtual 102, 3) := by decide +kernel
theorem dX10_raise_75 : decode cX10_raise 75 = .ok (.ifCond .ne 6, 3) := by decide +kernel
theorem dX10_raise_78 : decode cX10_raise 78 = .ok (.ldc 108, 2) := by decide +kernel
theorem dX10_raise_80 : decode cX10_raise 80 = .ok (.ireturn, 1) := by decide +kernel
theorem dX10_raise_81 : decode cX10_raise 81 = .ok (.iinc 3 1, 3) := by decide +kernel
theorem dX10_raise_84 : decode cX10_raise 84 = .ok (.goto (-36), 3) := by decide +kernel
theorem dX10_raise_87 : decode cX10_raise 87 = .ok (.aload_n 0, 1) := by decide +kernel
theorem dX10_raise_88 : decode cX10_raise 88 = .ok (.iload_n 1, 1) := by decide +kernel
theorem dX10_raise_89 : decode cX10_raise 89 = .ok (.aload_n 0, 1) := by decide +kernel
theorem dX10_raise_90 : decode cX10_raise 90 = .ok (.getfield 62, 3) := by decide +kernel
theorem dX10_raise_93 : decode cX10_raise 93 = .ok (.invokevirtual 214, 3) := by decide +kernel
theorem dX10_raise_96 : decode cX10_raise 96 = .ok (.ireturn, 1) := by decide +kernel
theorem dX10_take_0 : decode cX10_take 0 = .ok (.aload_n 0, 1) := by decide +kernel
theorem dX10_take_1 : decode cX10_take 1 = .ok (.getfield 10, 3) := by decide +kernel
theorem dX10_take_4 : decode cX10_take 4 = .ok (.iload_n 1, 1) := by decide +kernel
theorem dX10_take_5 : decode cX10_take 5 = .ok (.invokevirtual 136, 3) := by decide +kernel
theorem dX10_take_8 : decode cX10_take 8 = .ok (.ifCond .ne 6, 3) := by decide +kernel
theorem dX10_take_11 : decode cX10_take 11 = .ok (.ldc 147, 2) := by decide +kernel
theorem dX10_take_13 : decode cX10_take 13 = .ok (.ireturn, 1) := by decide +kernel
theorem dX10_take_14 : decode cX10_take 14 = .ok (.aload_n 0, 1) := by decide +kernel
theorem dX10_take_15 : decode cX10_take 15 = .ok (.getfield 19, 3) := by decide +kernel
theorem dX10_take_18 : decode cX10_take 18 = .ok (.aload_n 0, 1) := by decide +kernel
theorem dX10_take_19 : decode cX10_take 19 = .ok (.getfield 10, 3) := by decide +kernel
theorem dX10_take_22 : decode cX10_take 22 = .ok (.invokevirtual 221, 3) := by decide +kernel
theorem dX10_take_25 : decode cX10_take 25 = .ok (.aload_n 0, 1) := by decide +kernel
theorem dX10_take_26 : decode cX10_take 26 = .ok (.getfield 10, 3) := by decide +kernel
theorem dX10_take_29 : decode cX10_take 29 = .ok (.iload_n 1, 1) := by decide +kernel
theorem dX10_take_30 : decode cX10_take 30 = .ok (.invokevirtual 224, 3) := by decide +kernel
theorem dX10_take_33 : decode cX10_take 33 = .ok (.aload_n 0, 1) := by decide +kernel
theorem dX10_take_34 : decode cX10_take 34 = .ok (.getfield 10, 3) := by decide +kernel
theorem dX10_take_37 : decode cX10_take 37 = .ok (.invokevirtual 109, 3) := by decide +kernel
theorem dX10_take_40 : decode cX10_take 40 = .ok (.ireturn, 1) := by decide +kernel
theorem dX10_drift_0 : decode cX10_drift 0 = .ok (.iload_n 1, 1) := by decide +kernel
theorem dX10_drift_1 : decode cX10_drift 1 = .ok (.iconst 1, 1) := by decide +kernel
theorem dX10_drift_2 : decode cX10_drift 2 = .ok (.if_icmp .lt 9, 3) := by decide +kernel
theorem dX10_drift_5 : decode cX10_drift 5 = .ok (.iload_n 1, 1) := by decide +kernel
theorem dX10_drift_6 : decode cX10_drift 6 = .ok (.bipush 12, 2) := by decide +kernel
theorem dX10_drift_8 : decode cX10_drift 8 = .ok (.if_icmp .le 6, 3) := by decide +kernel
theorem dX10_drift_11 : decode cX10_drift 11 = .ok (.ldc 70, 2) := by decide +kernel
theorem dX10_drift_13 : decode cX10_drift 13 = .ok (.ireturn, 1) := by decide +kernel
theorem dX10_drift_14 : decode cX10_drift 14 = .ok (.iconst 0, 1) := by decide +kernel
theorem dX10_drift_15 : decode cX10_drift 15 = .ok (.istore_n 2, 1) := by decide +kernel
theorem dX10_drift_16 : decode cX10_drift 16 = .ok (.iload_n 2, 1) := by decide +kernel
theorem dX10_drift_17 : decode cX10_drift 17 = .ok (.iload_n 1, 1) := by decide +kernel
theorem dX10_drift_18 : decode cX10_drift 18 = .ok (.if_icmp .ge 36, 3) := by decide +kernel
theorem dX10_drift_21 : decode cX10_drift 21 = .ok (.aload_n 0, 1) := by decide +kernel
theorem dX10_drift_22 : decode cX10_drift 22 = .ok (.getfield 10, 3) := by decide +kernel
theorem dX10_drift_25 : decode cX10_drift 25 = .ok (.invokevirtual 84, 3) := by decide +kernel
theorem dX10_drift_28 : decode cX10_drift 28 = .ok (.ifCond .ne 26, 3) := by decide +kernel
theorem dX10_drift_31 : decode cX10_drift 31 = .ok (.aload_n 0, 1) := by decide +kernel
theorem dX10_drift_32 : decode cX10_drift 32 = .ok (.aload_n 0, 1) := by decide +kernel
theorem dX10_drift_33 : decode cX10_drift 33 = .ok (.getfield 62, 3) := by decide +kernel
theorem dX10_drift_36 : decode cX10_drift 36 = .ok (.invokevirtual 227, 3) := by decide +kernel
theorem dX10_drift_39 : decode cX10_drift 39 = .ok (.aload_n 0, 1) := by decide +kernel
theorem dX10_drift_40 : decode cX10_drift 40 = .ok (.aload_n 0, 1) := by decide +kernel
theorem dX10_drift_41 : decode cX10_drift 41 = .ok (.getfield 62, 3) := by decide +kernel
theorem dX10_drift_44 : decode cX10_drift 44 = .ok (.invokevirtual 92, 3) := by decide +kernel
theorem dX10_drift_47 : decode cX10_drift 47 = .ok (.pop, 1) := by decide +kernel
theorem dX10_drift_48 : decode cX10_drift 48 = .ok (.iinc 2 1, 3) := by decide +kernel
theorem dX10_drift_51 : decode cX10_drift 51 = .ok (.goto (-35), 3) := by decide +kernel
theorem dX10_drift_54 : decode cX10_drift 54 = .ok (.aload_n 0, 1) := by decide +kernel
theorem dX10_drift_55 : decode cX10_drift 55 = .ok (.getfield 10, 3) := by decide +kernel
theorem dX10_drift_58 : decode cX10_drift 58 = .ok (.invokevirtual 109, 3) := by decide +kernel
theorem dX10_drift_61 : decode cX10_drift 61 = .ok (.ireturn, 1) := by decide +kernel
theorem dX10_undo_0 : decode cX10_undo 0 = .ok (.iload_n 1, 1) := by decide +kernel
theorem dX10_undo_1 : decode cX10_undo 1 = .ok (.iconst 1, 1) := by decide +kernel
theorem dX10_undo_2 : decode cX10_undo 2 = .ok (.if_icmp .lt 9, 3) := by decide +kernel
theorem dX10_undo_5 : decode cX10_undo 5 = .ok (.iload_n 1, 1) := by decide +kernel
theorem dX10_undo_6 : decode cX10_undo 6 = .ok (.bipush 20, 2) := by decide +kernel
theorem dX10_undo_8 : decode cX10_undo 8 = .ok (.if_icmp .le 6, 3) := by decide +kernel
theorem dX10_undo_11 : decode cX10_undo 11 = .ok (.ldc 70, 2) := by decide +kernel
theorem dX10_undo_13 : decode cX10_undo 13 = .ok (.ireturn, 1) := by decide +kernel
theorem dX10_undo_14 : decode cX10_undo 14 = .ok (.iload_n 1, 1) := by decide +kernel
theorem dX10_undo_15 : decode cX10_undo 15 = .ok (.aload_n 0, 1) := by decide +kernel
theorem dX10_undo_16 : decode cX10_undo 16 = .ok (.getfield 19, 3) := by decide +kernel
theorem dX10_undo_19 : decode cX10_undo 19 = .ok (.invokevirtual 128, 3) := by decide +kernel
theorem dX10_undo_22 : decode cX10_undo 22 = .ok (.if_icmp .le 6, 3) := by decide +kernel
theorem dX10_undo_25 : decode cX10_undo 25 = .ok (.ldc 108, 2) := by decide +kernel
theorem dX10_undo_27 : decode cX10_undo 27 = .ok (.ireturn, 1) := by decide +kernel
theorem dX10_undo_28 : decode cX10_undo 28 = .ok (.aload_n 0, 1) := by decide +kernel
theorem dX10_undo_29 : decode cX10_undo 29 = .ok (.getfield 19, 3) := by decide +kernel
theorem dX10_undo_32 : decode cX10_undo 32 = .ok (.iload_n 1, 1) := by decide +kernel
theorem dX10_undo_33 : decode cX10_undo 33 = .ok (.aload_n 0, 1) := by decide +kernel
theorem dX10_undo_34 : decode cX10_undo 34 = .ok (.getfield 10, 3) := by decide +kernel
theorem dX10_undo_37 : decode cX10_undo 37 = .ok (.invokevirtual 231, 3) := by decide +kernel
theorem dX10_undo_40 : decode cX10_undo 40 = .ok (.aload_n 0, 1) := by decide +kernel
theorem dX10_undo_41 : decode cX10_undo 41 = .ok (.getfield 10, 3) := by decide +kernel
theorem dX10_undo_44 : decode cX10_undo 44 = .ok (.invokevirtual 109, 3) := by decide +kernel
theorem dX10_undo_47 : decode cX10_undo 47 = .ok (.ireturn, 1) := by decide +kernel
theorem dX10_place_0 : decode cX10_place 0 = .ok (.aload_n 0, 1) := by decide +kernel
theorem dX10_place_1 : decode cX10_place 1 = .ok (.getfield 19, 3) := by decide +kernel
theorem dX10_place_4 : decode cX10_place 4 = .ok (.aload_n 0, 1) := by decide +kernel
theorem dX10_place_5 : decode cX10_place 5 = .ok (.getfield 10, 3) := by decide +kernel
theorem dX10_place_8 : decode cX10_place 8 = .ok (.invokevirtual 221, 3) := by decide +kernel
theorem dX10_place_11 : decode cX10_place 11 = .ok (.aload_n 0, 1) := by decide +kernel
theorem dX10_place_12 : decode cX10_place 12 = .ok (.getfield 10, 3) := by decide +kernel
theorem dX10_place_15 : decode cX10_place 15 = .ok (.aload_n 1, 1) := by decide +kernel
theorem dX10_place_16 : decode cX10_place 16 = .ok (.invokevirtual 235, 3) := by decide +kernel
theorem dX10_place_19 : decode cX10_place 19 = .ok (.ireturn, 1) := by decide +kernel
theorem dX10_exchange_0 : decode cX10_exchange 0 = .ok (.aload_n 0, 1) := by decide +kernel
theorem dX10_exchange_1 : decode cX10_exchange 1 = .ok (.getfield 19, 3) := by decide +kernel
theorem dX10_exchange_4 : decode cX10_exchange 4 = .ok (.aload_n 0, 1) := by decide +kernel
theorem dX10_exchange_5 : decode cX10_exchange 5 = .ok (.getfield 10, 3) := by decide +kernel
theorem dX10_exchange_8 : decode cX10_exchange 8 = .ok (.invokevirtual 221, 3) := by decide +kernel
theorem dX10_exchange_11 : decode cX10_exchange 11 = .ok (.aload_n 0, 1) := by decide +kernel
theorem dX10_exchange_12 : decode cX10_exchange 12 = .ok (.getfield 10, 3) := by decide +kernel
theorem dX10_exchange_15 : decode cX10_exchange 15 = .ok (.iload_n 1, 1) := by decide +kernel
theorem dX10_exchange_16 : decode cX10_exchange 16 = .ok (.aload_n 2, 1) := by decide +kernel
theorem dX10_exchange_17 : decode cX10_exchange 17 = .ok (.invokevirtual 238, 3) := by decide +kernel
theorem dX10_exchange_20 : decode cX10_exchange 20 = .ok (.ifCond .eq 7, 3) := by decide +kernel
theorem dX10_exchange_23 : decode cX10_exchange 23 = .ok (.iconst 1, 1) := by decide +kernel
theorem dX10_exchange_24 : decode cX10_exchange 24 = .ok (.goto 4, 3) := by decide +kernel
theorem dX10_exchange_27 : decode cX10_exchange 27 = .ok (.iconst 0, 1) := by decide +kernel
theorem dX10_exchange_28 : decode cX10_exchange 28 = .ok (.ireturn, 1) := by decide +kernel
theorem dX10_drawSquare_0 : decode cX10_drawSquare 0 = .ok (.aload_n 1, 1) := by decide +kernel
theorem dX10_drawSquare_1 : decode cX10_drawSquare 1 = .ok (.invokevirtual 218, 3) := by decide +kernel
theorem dX10_drawSquare_4 : decode cX10_drawSquare 4 = .ok (.aload_n 0, 1) := by decide +kernel
theorem dX10_drawSquare_5 : decode cX10_drawSquare 5 = .ok (.bipush 8, 2) := by decide +kernel
theorem dX10_drawSquare_7 : decode cX10_drawSquare 7 = .ok (.invokevirtual 242, 3) := by decide +kernel
theorem dX10_drawSquare_10 : decode cX10_drawSquare 10 = .ok (.iconst 2, 1) := by decide +kernel
theorem dX10_drawSquare_11 : decode cX10_drawSquare 11 = .ok (.iadd, 1) := by decide +kernel
theorem dX10_drawSquare_12 : decode cX10_drawSquare 12 = .ok (.istore_n 2, 1) := by decide +kernel
theorem dX10_drawSquare_13 : decode cX10_drawSquare 13 = .ok (.iconst 0, 1) := by decide +kernel
theorem dX10_drawSquare_14 : decode cX10_drawSquare 14 = .ok (.istore_n 3, 1) := by decide +kernel
theorem dX10_drawSquare_15 : decode cX10_drawSquare 15 = .ok (.iload_n 3, 1) := by decide +kernel
theorem dX10_drawSquare_16 : decode cX10_drawSquare 16 = .ok (.iload_n 2, 1) := by decide +kernel
theorem dX10_drawSquare_17 : decode cX10_drawSquare 17 = .ok (.if_icmp .ge 25, 3) := by decide +kernel
theorem dX10_drawSquare_20 : decode cX10_drawSquare 20 = .ok (.aload_n 1, 1) := by decide +kernel
theorem dX10_drawSquare_21 : decode cX10_drawSquare 21 = .ok (.ldc 245, 2) := by decide +kernel
theorem dX10_drawSquare_23 : decode cX10_drawSquare 23 = .ok (.aload_n 0, 1) := by decide +kernel
theorem dX10_drawSquare_24 : decode cX10_drawSquare 24 = .ok (.bipush 6, 2) := by decide +kernel
theorem dX10_drawSquare_26 : decode cX10_drawSquare 26 = .ok (.invokevirtual 242, 3) := by decide +kernel
theorem dX10_drawSquare_29 : decode cX10_drawSquare 29 = .ok (.invokevirtual 247, 3) := by decide +kernel
theorem dX10_drawSquare_32 : decode cX10_drawSquare 32 = .ok (.invokevirtual 253, 3) := by decide +kernel
theorem dX10_drawSquare_35 : decode cX10_drawSquare 35 = .ok (.pop, 1) := by decide +kernel
theorem dX10_drawSquare_36 : decode cX10_drawSquare 36 = .ok (.iinc 3 1, 3) := by decide +kernel
theorem dX10_drawSquare_39 : decode cX10_drawSquare 39 = .ok (.goto (-24), 3) := by decide +kernel
theorem dX10_drawSquare_42 : decode cX10_drawSquare 42 = .ok (.return_, 1) := by decide +kernel
theorem dX10_draw_0 : decode cX10_draw 0 = .ok (.aload_n 0, 1) := by decide +kernel
theorem dX10_draw_1 : decode cX10_draw 1 = .ok (.getfield 65, 3) := by decide +kernel
theorem dX10_draw_4 : decode cX10_draw 4 = .ok (.i2l, 1) := by decide +kernel
theorem dX10_draw_5 : decode cX10_draw 5 = .ok (.ldc2_w 256, 3) := by decide +kernel
theorem dX10_draw_8 : decode cX10_draw 8 = .ok (.lmul, 1) := by decide +kernel
theorem dX10_draw_9 : decode cX10_draw 9 = .ok (.ldc2_w 258, 3) := by decide +kernel
theorem dX10_draw_12 : decode cX10_draw 12 = .ok (.ladd, 1) := by decide +kernel
theorem dX10_draw_13 : decode cX10_draw 13 = .ok (.lstore_n 2, 1) := by decide +kernel
theorem dX10_draw_14 : decode cX10_draw 14 = .ok (.aload_n 0, 1) := by decide +kernel
theorem dX10_draw_15 : decode cX10_draw 15 = .ok (.lload_n 2, 1) := by decide +kernel
theorem dX10_draw_16 : decode cX10_draw 16 = .ok (.ldc2_w 260, 3) := by decide +kernel
theorem dX10_draw_19 : decode cX10_draw 19 = .ok (.land, 1) := by decide +kernel
theorem dX10_draw_20 : decode cX10_draw 20 = .ok (.l2i, 1) := by decide +kernel
theorem dX10_draw_21 : decode cX10_draw 21 = .ok (.putfield 65, 3) := by decide +kernel
theorem dX10_draw_24 : decode cX10_draw 24 = .ok (.iload_n 1, 1) := by decide +kernel
theorem dX10_draw_25 : decode cX10_draw 25 = .ok (.ifCond .le 16, 3) := by decide +kernel
theorem dX10_draw_28 : decode cX10_draw 28 = .ok (.aload_n 0, 1) := by decide +kernel
theorem dX10_draw_29 : decode cX10_draw 29 = .ok (.getfield 65, 3) := by decide +kernel
theorem dX10_draw_32 : decode cX10_draw 32 = .ok (.ldc_w 262, 3) := by decide +kernel
theorem dX10_draw_35 : decode cX10_draw 35 = .ok (.idiv, 1) := by decide +kernel
theorem dX10_draw_36 : decode cX10_draw 36 = .ok (.iload_n 1, 1) := by decide +kernel
theorem dX10_draw_37 : decode cX10_draw 37 = .ok (.irem, 1) := by decide +kernel
theorem dX10_draw_38 : decode cX10_draw 38 = .ok (.goto 4, 3) := by decide +kernel
theorem dX10_draw_41 : decode cX10_draw 41 = .ok (.iconst 0, 1) := by decide +kernel
theorem dX10_draw_42 : decode cX10_draw 42 = .ok (.ireturn, 1) := by decide +kernel
theorem dX10_pair_0 : decode cX10_pair 0 = .ok (.aload_n 0, 1) := by decide +kernel
theorem dX10_pair_1 : decode cX10_pair 1 = .ok (.getfield 10, 3) := by decide +kernel
theorem dX10_pair_4 : decode cX10_pair 4 = .ok (.iload_n 1, 1) := by decide +kernel
theorem dX10_pair_5 : decode cX10_pair 5 = .ok (.invokevirtual 136, 3) := by decide +kernel
theorem dX10_pair_8 : decode cX10_pair 8 = .ok (.ifCond .eq 14, 3) := by decide +kernel
theorem dX10_pair_11 : decode cX10_pair 11 = .ok (.aload_n 0, 1) := by decide +kernel
theorem dX10_pair_12 : decode cX10_pair 12 = .ok (.getfield 10, 3) := by decide +kernel
theorem dX10_pair_15 : decode cX10_pair 15 = .ok (.iload_n 2, 1) := by decide +kernel
theorem dX10_pair_16 : decode cX10_pair 16 = .ok (.invokevirtual 136, 3) := by decide +kernel
theorem dX10_pair_19 : decode cX10_pair 19 = .ok (.ifCond .ne 6, 3) := by decide +kernel
theorem dX10_pair_22 : decode cX10_pair 22 = .ok (.ldc 147, 2) := by decide +kernel
theorem dX10_pair_24 : decode cX10_pair 24 = .ok (.ireturn, 1) := by decide +kernel
theorem dX10_pair_25 : decode cX10_pair 25 = .ok (.aload_n 0, 1) := by decide +kernel
theorem dX10_pair_26 : decode cX10_pair 26 = .ok (.getfield 42, 3) := by decide +kernel
theorem dX10_pair_29 : decode cX10_pair 29 = .ok (.invokevirtual 112, 3) := by decide +kernel
theorem dX10_pair_32 : decode cX10_pair 32 = .ok (.iload_n 3, 1) := by decide +kernel
theorem dX10_pair_33 : decode cX10_pair 33 = .ok (.tableswitch 73 0 2 #[27, 45, 63], 27) := by decide +kernel
theorem dX10_pair_60 : decode cX10_pair 60 = .ok (.aload_n 0, 1) := by decide +kernel
theorem dX10_pair_61 : decode cX10_pair 61 = .ok (.getfield 42, 3) := by decide +kernel
theorem dX10_pair_64 : decode cX10_pair 64 = .ok (.iload_n 1, 1) := by decide +kernel
theorem dX10_pair_65 : decode cX10_pair 65 = .ok (.iload_n 2, 1) := by decide +kernel
theorem dX10_pair_66 : decode cX10_pair 66 = .ok (.invokevirtual 140, 3) := by decide +kernel
theorem dX10_pair_69 : decode cX10_pair 69 = .ok (.ifCond .eq 7, 3) := by decide +kernel
theorem dX10_pair_72 : decode cX10_pair 72 = .ok (.iconst 1, 1) := by decide +kernel
theorem dX10_pair_73 : decode cX10_pair 73 = .ok (.goto 4, 3) := by decide +kernel
theorem dX10_pair_76 : decode cX10_pair 76 = .ok (.iconst 0, 1) := by decide +kernel
theorem dX10_pair_77 : decode cX10_pair 77 = .ok (.ireturn, 1) := by decide +kernel
theorem dX10_pair_78 : decode cX10_pair 78 = .ok (.aload_n 0, 1) := by decide +kernel
theorem dX10_pair_79 : decode cX10_pair 79 = .ok (.getfield 42, 3) := by decide +kernel
theorem dX10_pair_82 : decode cX10_pair 82 = .ok (.iload_n 1, 1) := by decide +kernel
theorem dX10_pair_83 : decode cX10_pair 83 = .ok (.iload_n 2, 1) := by decide +kernel
theorem dX10_pair_84 : decode cX10_pair 84 = .ok (.invokevirtual 263, 3) := by decide +kernel
theorem dX10_pair_87 : decode cX10_pair 87 = .ok (.ifCond .eq 7, 3) := by decide +kernel
theorem dX10_pair_90 : decode cX10_pair 90 = .ok (.iconst 1, 1) := by decide +kernel
theorem dX10_pair_91 : decode cX10_pair 91 = .ok (.goto 4, 3) := by decide +kernel
theorem dX10_pair_94 : decode cX10_pair 94 = .ok (.iconst 0, 1) := by decide +kernel
theorem dX10_pair_95 : decode cX10_pair 95 = .ok (.ireturn, 1) := by decide +kernel
theorem dX10_pair_96 : decode cX10_pair 96 = .ok (.aload_n 0, 1) := by decide +kernel
theorem dX10_pair_97 : decode cX10_pair 97 = .ok (.getfield 42, 3) := by decide +kernel
theorem dX10_pair_100 : decode cX10_pair 100 = .ok (.iload_n 1, 1) := by decide +kernel
theorem dX10_pair_101 : decode cX10_pair 101 = .ok (.iload_n 2, 1) := by decide +kernel
theorem dX10_pair_102 : decode cX10_pair 102 = .ok (.invokevirtual 266, 3) := by decide +kernel
theorem dX10_pair_105 : decode cX10_pair 105 = .ok (.ireturn, 1) := by decide +kernel
theorem dX10_pair_106 : decode cX10_pair 106 = .ok (.ldc 70, 2) := by decide +kernel
theorem dX10_pair_108 : decode cX10_pair 108 = .ok (.ireturn, 1) := by decide +kernel
theorem dX10_note_0 : decode cX10_note 0 = .ok (.aload_n 0, 1) := by decide +kernel
theorem dX10_note_1 : decode cX10_note 1 = .ok (.getfield 10, 3) := by decide +kernel
theorem dX10_note_4 : decode cX10_note 4 = .ok (.iload_n 1, 1) := by decide +kernel
theorem dX10_note_5 : decode cX10_note 5 = .ok (.invokevirtual 136, 3) := by decide +kernel
theorem dX10_note_8 : decode cX10_note 8 = .ok (.ifCond .eq 14, 3) := by decide +kernel
theorem dX10_note_11 : decode cX10_note 11 = .ok (.aload_n 0, 1) := by decide +kernel
theorem dX10_note_12 : decode cX10_note 12 = .ok (.getfield 10, 3) := by decide +kernel
theorem dX10_note_15 : decode cX10_note 15 = .ok (.iload_n 2, 1) := by decide +kernel
theorem dX10_note_16 : decode cX10_note 16 = .ok (.invokevirtual 136, 3) := by decide +kernel
theorem dX10_note_19 : decode cX10_note 19 = .ok (.ifCond .ne 6, 3) := by decide +kernel
theorem dX10_note_22 : decode cX10_note 22 = .ok (.ldc 147, 2) := by decide +kernel
theorem dX10_note_24 : decode cX10_note 24 = .ok (.ireturn, 1) := by decide +kernel
theorem dX10_note_25 : decode cX10_note 25 = .ok (.aload_n 0, 1) := by decide +kernel
theorem dX10_note_26 : decode cX10_note 26 = .ok (.getfield 33, 3) := by decide +kernel
theorem dX10_note_29 : decode cX10_note 29 = .ok (.invokevirtual 269, 3) := by decide +kernel
theorem dX10_note_32 : decode cX10_note 32 = .ok (.ifCond .eq 6, 3) := by decide +kernel
theorem dX10_note_35 : decode cX10_note 35 = .ok (.ldc 75, 2) := by decide +kernel
theorem dX10_note_37 : decode cX10_note 37 = .ok (.ireturn, 1) := by decide +kernel
theorem dX10_note_38 : decode cX10_note 38 = .ok (.aload_n 0, 1) := by decide +kernel
theorem dX10_note_39 : decode cX10_note 39 = .ok (.getfield 33, 3) := by decide +kernel
theorem dX10_note_42 : decode cX10_note 42 = .ok (.iload_n 1, 1) := by decide +kernel
theorem dX10_note_43 : decode cX10_note 43 = .ok (.iload_n 2, 1) := by decide +kernel
theorem dX10_note_44 : decode cX10_note 44 = .ok (.iload_n 3, 1) := by decide +kernel
theorem dX10_note_45 : decode cX10_note 45 = .ok (.invokevirtual 270, 3) := by decide +kernel
theorem dX10_note_48 : decode cX10_note 48 = .ok (.aload_n 0, 1) := by decide +kernel
theorem dX10_note_49 : decode cX10_note 49 = .ok (.getfield 33, 3) := by decide +kernel
theorem dX10_note_52 : decode cX10_note 52 = .ok (.invokevirtual 124, 3) := by decide +kernel
theorem dX10_note_55 : decode cX10_note 55 = .ok (.ireturn, 1) := by decide +kernel
theorem dX10_tear_0 : decode cX10_tear 0 = .ok (.aload_n 0, 1) := by decide +kernel
theorem dX10_tear_1 : decode cX10_tear 1 = .ok (.getfield 33, 3) := by decide +kernel
theorem dX10_tear_4 : decode cX10_tear 4 = .ok (.invokevirtual 124, 3) := by decide +kernel
theorem dX10_tear_7 : decode cX10_tear 7 = .ok (.istore_n 1, 1) := by decide +kernel
theorem dX10_tear_8 : decode cX10_tear 8 = .ok (.aload_n 0, 1) := by decide +kernel
theorem dX10_tear_9 : decode cX10_tear 9 = .ok (.getfield 33, 3) := by decide +kernel
theorem dX10_tear_12 : decode cX10_tear 12 = .ok (.invokevirtual 273, 3) := by decide +kernel
theorem dX10_tear_15 : decode cX10_tear 15 = .ok (.iload_n 1, 1) := by decide +kernel
theorem dX10_tear_16 : decode cX10_tear 16 = .ok (.ireturn, 1) := by decide +kernel
theorem dX10_seed_0 : decode cX10_seed 0 = .ok (.iload_n 1, 1) := by decide +kernel
theorem dX10_seed_1 : decode cX10_seed 1 = .ok (.ifCond .ge 6, 3) := by decide +kernel
theorem dX10_seed_4 : decode cX10_seed 4 = .ok (.ldc 70, 2) := by decide +kernel
theorem dX10_seed_6 : decode cX10_seed 6 = .ok (.ireturn, 1) := by decide +kernel
theorem dX10_seed_7 : decode cX10_seed 7 = .ok (.aload_n 0, 1) := by decide +kernel
theorem dX10_seed_8 : decode cX10_seed 8 = .ok (.getfield 65, 3) := by decide +kernel
theorem dX10_seed_11 : decode cX10_seed 11 = .ok (.istore_n 2, 1) := by decide +kernel
theorem dX10_seed_12 : decode cX10_seed 12 = .ok (.aload_n 0, 1) := by decide +kernel
theorem dX10_seed_13 : decode cX10_seed 13 = .ok (.iload_n 1, 1) := by decide +kernel
theorem dX10_seed_14 : decode cX10_seed 14 = .ok (.putfield 65, 3) := by decide +kernel
theorem dX10_seed_17 : decode cX10_seed 17 = .ok (.iload_n 2, 1) := by decide +kernel
theorem dX10_seed_18 : decode cX10_seed 18 = .ok (.ireturn, 1) := by decide +kernel
theorem dX10_keep_0 : decode cX10_keep 0 = .ok (.iload_n 1, 1) := by decide +kernel
theorem dX10_keep_1 : decode cX10_keep 1 = .ok (.ifCond .lt 8, 3) := by decide +kernel
theorem dX10_keep_4 : decode cX10_keep 4 = .ok (.iload_n 1, 1) := by decide +kernel
theorem dX10_keep_5 : decode cX10_keep 5 = .ok (.iconst 2, 1) := by decide +kernel
theorem dX10_keep_6 : decode cX10_keep 6 = .ok (.if_icmp .lt 6, 3) := by decide +kernel
theorem dX10_keep_9 : decode cX10_keep 9 = .ok (.ldc 147, 2) := by decide +kernel
theorem dX10_keep_11 : decode cX10_keep 11 = .ok (.ireturn, 1) := by decide +kernel
theorem dX10_keep_12 : decode cX10_keep 12 = .ok (.aload_n 0, 1) := by decide +kernel
theorem dX10_keep_13 : decode cX10_keep 13 = .ok (.getfield 48, 3) := by decide +kernel
theorem dX10_keep_16 : decode cX10_keep 16 = .ok (.iload_n 1, 1) := by decide +kernel
theorem dX10_keep_17 : decode cX10_keep 17 = .ok (.aaload, 1) := by decide +kernel
theorem dX10_keep_18 : decode cX10_keep 18 = .ok (.aload_n 0, 1) := by decide +kernel
theorem dX10_keep_19 : decode cX10_keep 19 = .ok (.getfield 10, 3) := by decide +kernel
theorem dX10_keep_22 : decode cX10_keep 22 = .ok (.aload_n 0, 1) := by decide +kernel
theorem dX10_keep_23 : decode cX10_keep 23 = .ok (.getfield 65, 3) := by decide +kernel
theorem dX10_keep_26 : decode cX10_keep 26 = .ok (.invokevirtual 274, 3) := by decide +kernel
theorem dX10_keep_29 : decode cX10_keep 29 = .ok (.aload_n 0, 1) := by decide +kernel
theorem dX10_keep_30 : decode cX10_keep 30 = .ok (.getfield 19, 3) := by decide +kernel
theorem dX10_keep_33 : decode cX10_keep 33 = .ok (.invokevirtual 278, 3) := by decide +kernel
theorem dX10_keep_36 : decode cX10_keep 36 = .ok (.iconst 1, 1) := by decide +kernel
theorem dX10_keep_37 : decode cX10_keep 37 = .ok (.ireturn, 1) := by decide +kernel
theorem dX10_goBack_0 : decode cX10_goBack 0 = .ok (.iload_n 1, 1) := by decide +kernel
theorem dX10_goBack_1 : decode cX10_goBack 1 = .ok (.ifCond .lt 8, 3) := by decide +kernel
theorem dX10_goBack_4 : decode cX10_goBack 4 = .ok (.iload_n 1, 1) := by decide +kernel
theorem dX10_goBack_5 : decode cX10_goBack 5 = .ok (.iconst 2, 1) := by decide +kernel
theorem dX10_goBack_6 : decode cX10_goBack 6 = .ok (.if_icmp .lt 6, 3) := by decide +kernel
theorem dX10_goBack_9 : decode cX10_goBack 9 = .ok (.ldc 147, 2) := by decide +kernel
theorem dX10_goBack_11 : decode cX10_goBack 11 = .ok (.ireturn, 1) := by decide +kernel
theorem dX10_goBack_12 : decode cX10_goBack 12 = .ok (.aload_n 0, 1) := by decide +kernel
theorem dX10_goBack_13 : decode cX10_goBack 13 = .ok (.getfield 48, 3) := by decide +kernel
theorem dX10_goBack_16 : decode cX10_goBack 16 = .ok (.iload_n 1, 1) := by decide +kernel
theorem dX10_goBack_17 : decode cX10_goBack 17 = .ok (.aaload, 1) := by decide +kernel
theorem dX10_goBack_18 : decode cX10_goBack 18 = .ok (.invokevirtual 281, 3) := by decide +kernel
theorem dX10_goBack_21 : decode cX10_goBack 21 = .ok (.ifCond .ne 6, 3) := by decide +kernel
theorem dX10_goBack_24 : decode cX10_goBack 24 = .ok (.ldc 108, 2) := by decide +kernel
theorem dX10_goBack_26 : decode cX10_goBack 26 = .ok (.ireturn, 1) := by decide +kernel
theorem dX10_goBack_27 : decode cX10_goBack 27 = .ok (.aload_n 0, 1) := by decide +kernel
theorem dX10_goBack_28 : decode cX10_goBack 28 = .ok (.getfield 10, 3) := by decide +kernel
theorem dX10_goBack_31 : decode cX10_goBack 31 = .ok (.aload_n 0, 1) := by decide +kernel
theorem dX10_goBack_32 : decode cX10_goBack 32 = .ok (.getfield 48, 3) := by decide +kernel
theorem dX10_goBack_35 : decode cX10_goBack 35 = .ok (.iload_n 1, 1) := by decide +kernel
theorem dX10_goBack_36 : decode cX10_goBack 36 = .ok (.aaload, 1) := by decide +kernel
theorem dX10_goBack_37 : decode cX10_goBack 37 = .ok (.invokevirtual 284, 3) := by decide +kernel
theorem dX10_goBack_40 : decode cX10_goBack 40 = .ok (.invokevirtual 287, 3) := by decide +kernel
theorem dX10_goBack_43 : decode cX10_goBack 43 = .ok (.aload_n 0, 1) := by decide +kernel
theorem dX10_goBack_44 : decode cX10_goBack 44 = .ok (.aload_n 0, 1) := by decide +kernel
theorem dX10_goBack_45 : decode cX10_goBack 45 = .ok (.getfield 48, 3) := by decide +kernel
theorem dX10_goBack_48 : decode cX10_goBack 48 = .ok (.iload_n 1, 1) := by decide +kernel
theorem dX10_goBack_49 : decode cX10_goBack 49 = .ok (.aaload, 1) := by decide +kernel
theorem dX10_goBack_50 : decode cX10_goBack 50 = .ok (.invokevirtual 290, 3) := by decide +kernel
theorem dX10_goBack_53 : decode cX10_goBack 53 = .ok (.putfield 65, 3) := by decide +kernel
theorem dX10_goBack_56 : decode cX10_goBack 56 = .ok (.aload_n 0, 1) := by decide +kernel
theorem dX10_goBack_57 : decode cX10_goBack 57 = .ok (.getfield 19, 3) := by decide +kernel
theorem dX10_goBack_60 : decode cX10_goBack 60 = .ok (.invokevirtual 278, 3) := by decide +kernel
theorem dX10_goBack_63 : decode cX10_goBack 63 = .ok (.iconst 1, 1) := by decide +kernel
theorem dX10_goBack_64 : decode cX10_goBack 64 = .ok (.ireturn, 1) := by decide +kernel
theorem dX11_init_0 : decode cX11_init 0 = .ok (.aload_n 0, 1) := by decide +kernel
theorem dX11_init_1 : decode cX11_init 1 = .ok (.invokespecial 1, 3) := by decide +kernel
theorem dX11_init_4 : decode cX11_init 4 = .ok (.aload_n 0, 1) := by decide +kernel
theorem dX11_init_5 : decode cX11_init 5 = .ok (.bipush 49, 2) := by decide +kernel
theorem dX11_init_7 : decode cX11_init 7 = .ok (.newarray .int, 2) := by decide +kernel
theorem dX11_init_9 : decode cX11_init 9 = .ok (.putfield 7, 3) := by decide +kernel
theorem dX11_init_12 : decode cX11_init 12 = .ok (.aload_n 0, 1) := by decide +kernel
theorem dX11_init_13 : decode cX11_init 13 = .ok (.sipush 980, 3) := by decide +kernel
theorem dX11_init_16 : decode cX11_init 16 = .ok (.newarray .int, 2) := by decide +kernel
theorem dX11_init_18 : decode cX11_init 18 = .ok (.putfield 13, 3) := by decide +kernel
theorem dX11_init_21 : decode cX11_init 21 = .ok (.aload_n 0, 1) := by decide +kernel
theorem dX11_init_22 : decode cX11_init 22 = .ok (.bipush 100, 2) := by decide +kernel
theorem dX11_init_24 : decode cX11_init 24 = .ok (.newarray .int, 2) := by decide +kernel
theorem dX11_init_26 : decode cX11_init 26 = .ok (.putfield 16, 3) := by decide +kernel
theorem dX11_init_29 : decode cX11_init 29 = .ok (.aload_n 0, 1) := by decide +kernel
theorem dX11_init_30 : decode cX11_init 30 = .ok (.iconst 2, 1) := by decide +kernel
theorem dX11_init_31 : decode cX11_init 31 = .ok (.newarray .boolean, 2) := by decide +kernel
theorem dX11_init_33 : decode cX11_init 33 = .ok (.putfield 19, 3) := by decide +kernel
theorem dX11_init_36 : decode cX11_init 36 = .ok (.aload_n 0, 1) := by decide +kernel
theorem dX11_init_37 : decode cX11_init 37 = .ok (.bipush 60, 2) := by decide +kernel
theorem dX11_init_39 : decode cX11_init 39 = .ok (.newarray .int, 2) := by decide +kernel
theorem dX11_init_41 : decode cX11_init 41 = .ok (.putfield 23, 3) := by decide +kernel
theorem dX11_init_44 : decode cX11_init 44 = .ok (.aload_n 0, 1) := by decide +kernel
theorem dX11_init_45 : decode cX11_init 45 = .ok (.iconst (-1), 1) := by decide +kernel
theorem dX11_init_46 : decode cX11_init 46 = .ok (.putfield 26, 3) := by decide +kernel
theorem dX11_init_49 : decode cX11_init 49 = .ok (.aload_n 0, 1) := by decide +kernel
theorem dX11_init_50 : decode cX11_init 50 = .ok (.bipush 60, 2) := by decide +kernel
theorem dX11_init_52 : decode cX11_init 52 = .ok (.newarray .int, 2) := by decide +kernel
theorem dX11_init_54 : decode cX11_init 54 = .ok (.putfield 30, 3) := by decide +kernel
theorem dX11_init_57 : decode cX11_init 57 = .ok (.aload_n 0, 1) := by decide +kernel
theorem dX11_init_58 : decode cX11_init 58 = .ok (.bipush 64, 2) := by decide +kernel
theorem dX11_init_60 : decode cX11_init 60 = .ok (.newarray .int, 2) := by decide +kernel
theorem dX11_init_62 : decode cX11_init 62 = .ok (.putfield 33, 3) := by decide +kernel
theorem dX11_init_65 : decode cX11_init 65 = .ok (.aload_n 0, 1) := by decide +kernel
theorem dX11_init_66 : decode cX11_init 66 = .ok (.bipush 64, 2) := by decide +kernel
theorem dX11_init_68 : decode cX11_init 68 = .ok (.newarray .int, 2) := by decide +kernel
theorem dX11_init_70 : decode cX11_init 70 = .ok (.putfield 36, 3) := by decide +kernel
theorem dX11_init_73 : decode cX11_init 73 = .ok (.aload_n 0, 1) := by decide +kernel
theorem dX11_init_74 : decode cX11_init 74 = .ok (.bipush 64, 2) := by decide +kernel
theorem dX11_init_76 : decode cX11_init 76 = .ok (.newarray .int, 2) := by decide +kernel
theorem dX11_init_78 : decode cX11_init 78 = .ok (.putfield 39, 3) := by decide +kernel
theorem dX11_init_81 : decode cX11_init 81 = .ok (.aload_n 0, 1) := by decide +kernel
theorem dX11_init_82 : decode cX11_init 82 = .ok (.bipush 64, 2) := by decide +kernel
theorem dX11_init_84 : decode cX11_init 84 = .ok (.newarray .int, 2) := by decide +kernel
theorem dX11_init_86 : decode cX11_init 86 = .ok (.putfield 42, 3) := by decide +kernel
theorem dX11_init_89 : decode cX11_init 89 = .ok (.aload_n 0, 1) := by decide +kernel
theorem dX11_init_90 : decode cX11_init 90 = .ok (.iconst 4, 1) := by decide +kernel
theorem dX11_init_91 : decode cX11_init 91 = .ok (.newarray .long, 2) := by decide +kernel
theorem dX11_init_93 : decode cX11_init 93 = .ok (.putfield 45, 3) := by decide +kernel
theorem dX11_init_96 : decode cX11_init 96 = .ok (.return_, 1) := by decide +kernel
theorem dX11_in_0 : decode cX11_in 0 = .ok (.lload_n 0, 1) := by decide +kernel
theorem dX11_in_1 : decode cX11_in 1 = .ok (.lload_n 2, 1) := by decide +kernel
theorem dX11_in_2 : decode cX11_in 2 = .ok (.lcmp, 1) := by decide +kernel
theorem dX11_in_3 : decode cX11_in 3 = .ok (.ifCond .lt 14, 3) := by decide +kernel
theorem dX11_in_6 : decode cX11_in 6 = .ok (.lload_n 0, 1) := by decide +kernel
theorem dX11_in_7 : decode cX11_in 7 = .ok (.lload 4, 2) := by decide +kernel
theorem dX11_in_9 : decode cX11_in 9 = .ok (.lcmp, 1) := by decide +kernel
theorem dX11_in_10 : decode cX11_in 10 = .ok (.ifCond .gt 7, 3) := by decide +kernel
theorem dX11_in_13 : decode cX11_in 13 = .ok (.iconst 1, 1) := by decide +kernel
theorem dX11_in_14 : decode cX11_in 14 = .ok (.goto 4, 3) := by decide +kernel
theorem dX11_in_17 : decode cX11_in 17 = .ok (.iconst 0, 1) := by decide +kernel
theorem dX11_in_18 : decode cX11_in 18 = .ok (.ireturn, 1) := by decide +kernel
theorem dX11_isBound_0 : decode cX11_isBound 0 = .ok (.lload_n 0, 1) := by decide +kernel
theorem dX11_isBound_1 : decode cX11_isBound 1 = .ok (.ldc2_w 49, 3) := by decide +kernel
theorem dX11_isBound_4 : decode cX11_isBound 4 = .ok (.ldc2_w 51, 3) := by decide +kernel
theorem dX11_isBound_7 : decode cX11_isBound 7 = .ok (.invokestatic 53, 3) := by decide +kernel
theorem dX11_isBound_10 : decode cX11_isBound 10 = .ok (.ireturn, 1) := by decide +kernel
theorem dX11_bits_0 : decode cX11_bits 0 = .ok (.iconst 0, 1) := by decide +kernel
theorem dX11_bits_1 : decode cX11_bits 1 = .ok (.istore_n 1, 1) := by decide +kernel
theorem dX11_bits_2 : decode cX11_bits 2 = .ok (.iload_n 0, 1) := by decide +kernel
theorem dX11_bits_3 : decode cX11_bits 3 = .ok (.istore_n 2, 1) := by decide +kernel
theorem dX11_bits_4 : decode cX11_bits 4 = .ok (.iload_n 2, 1) := by decide +kernel
theorem dX11_bits_5 : decode cX11_bits 5 = .ok (.ifCond .eq 15, 3) := by decide +kernel
theorem dX11_bits_8 : decode cX11_bits 8 = .ok (.iinc 1 1, 3) := by decide +kernel
theorem dX11_bits_11 : decode cX11_bits 11 = .ok (.iload_n 2, 1) := by decide +kernel
theorem dX11_bits_12 : decode cX11_bits 12 = .ok (.iload_n 2, 1) := by decide +kernel
theorem dX11_bits_13 : decode cX11_bits 13 = .ok (.iconst 1, 1) := by decide +kernel
theorem dX11_bits_14 : decode cX11_bits 14 = .ok (.isub, 1) := by decide +kernel
theorem dX11_bits_15 : decode cX11_bits 15 = .ok (.iand, 1) := by decide +kernel
theorem dX11_bits_16 : decode cX11_bits 16 = .ok (.istore_n 2, 1) := by decide +kernel
theorem dX11_bits_17 : decode cX11_bits 17 = .ok (.goto (-13), 3) := by decide +kernel
theorem dX11_bits_20 : decode cX11_bits 20 = .ok (.iload_n 1, 1) := by decide +kernel
theorem dX11_bits_21 : decode cX11_bits 21 = .ok (.ireturn, 1) := by decide +kernel
theorem dX11_takes_0 : decode cX11_takes 0 = .ok (.aload_n 0, 1) := by decide +kernel
theorem dX11_takes_1 : decode cX11_takes 1 = .ok (.lload_n 1, 1) := by decide +kernel
theorem dX11_takes_2 : decode cX11_takes 2 = .ok (.putfield 57, 3) := by decide +kernel
theorem dX11_takes_5 : decode cX11_takes 5 = .ok (.aload_n 0, 1) := by decide +kernel
theorem dX11_takes_6 : decode cX11_takes 6 = .ok (.lload_n 3, 1) := by decide +kernel
theorem dX11_takes_7 : decode cX11_takes 7 = .ok (.putfield 61, 3) := by decide +kernel
theorem dX11_takes_10 : decode cX11_takes 10 = .ok (.aload_n 0, 1) := by decide +kernel
theorem dX11_takes_11 : decode cX11_takes 11 = .ok (.lload 5, 2) := by decide +kernel
theorem dX11_takes_13 : decode cX11_takes 13 = .ok (.putfield 64, 3) := by decide +kernel
theorem dX11_takes_16 : decode cX11_takes 16 = .ok (.aload_n 0, 1) := by decide +kernel
theorem dX11_takes_17 : decode cX11_takes 17 = .ok (.lload 7, 2) := by decide +kernel
theorem dX11_takes_19 : decode cX11_takes 19 = .ok (.putfield 67, 3) := by decide +kernel
theorem dX11_takes_22 : decode cX11_takes 22 = .ok (.return_, 1) := by decide +kernel
theorem dX11_takesFrom_0 : decode cX11_takesFrom 0 = .ok (.aload_n 0, 1) := by decide +kernel
theorem dX11_takesFrom_1 : decode cX11_takesFrom 1 = .ok (.aload_n 0, 1) := by decide +kernel
theorem dX11_takesFrom_2 : decode cX11_takesFrom 2 = .ok (.getfield 7, 3) := by decide +kernel
theorem dX11_takesFrom_5 : decode cX11_takesFrom 5 = .ok (.iconst 1, 1) := by decide +kernel
theorem dX11_takesFrom_6 : decode cX11_takesFrom 6 = .ok (.iconst 4, 1) := by decide +kernel
theorem dX11_takesFrom_7 : decode cX11_takesFrom 7 = .ok (.iload_n 1, 1) := by decide +kernel
theorem dX11_takesFrom_8 : decode cX11_takesFrom 8 = .ok (.imul, 1) := by decide +kernel
theorem dX11_takesFrom_9 : decode cX11_takesFrom 9 = .ok (.iadd, 1) := by decide +kernel
theorem dX11_takesFrom_10 : decode cX11_takesFrom 10 = .ok (.iaload, 1) := by decide +kernel
theorem dX11_takesFrom_11 : decode cX11_takesFrom 11 = .ok (.i2l, 1) := by decide +kernel
theorem dX11_takesFrom_12 : decode cX11_takesFrom 12 = .ok (.aload_n 0, 1) := by decide +kernel
theorem dX11_takesFrom_13 : decode cX11_takesFrom 13 = .ok (.getfield 7, 3) := by decide +kernel
theorem dX11_takesFrom_16 : decode cX11_takesFrom 16 = .ok (.iconst 2, 1) := by decide +kernel
theorem dX11_takesFrom_17 : decode cX11_takesFrom 17 = .ok (.iconst 4, 1) := by decide +kernel
theorem dX11_takesFrom_18 : decode cX11_takesFrom 18 = .ok (.iload_n 1, 1) := by decide +kernel
theorem dX11_takesFrom_19 : decode cX11_takesFrom 19 = .ok (.imul, 1) := by decide +kernel
theorem dX11_takesFrom_20 : decode cX11_takesFrom 20 = .ok (.iadd, 1) := by decide +kernel
theorem dX11_takesFrom_21 : decode cX11_takesFrom 21 = .ok (.iaload, 1) := by decide +kernel
theorem dX11_takesFrom_22 : decode cX11_takesFrom 22 = .ok (.i2l, 1) := by decide +kernel
theorem dX11_takesFrom_23 : decode cX11_takesFrom 23 = .ok (.aload_n 0, 1) := by decide +kernel
theorem dX11_takesFrom_24 : decode cX11_takesFrom 24 = .ok (.getfield 7, 3) := by decide +kernel
theorem dX11_takesFrom_27 : decode cX11_takesFrom 27 = .ok (.iconst 3, 1) := by decide +kernel
theorem dX11_takesFrom_28 : decode cX11_takesFrom 28 = .ok (.iconst 4, 1) := by decide +kernel
theorem dX11_takesFrom_29 : decode cX11_takesFrom 29 = .ok (.iload_n 1, 1) := by decide +kernel
theorem dX11_takesFrom_30 : decode cX11_takesFrom 30 = .ok (.imul, 1) := by decide +kernel
theorem dX11_takesFrom_31 : decode cX11_takesFrom 31 = .ok (.iadd, 1) := by decide +kernel
theorem dX11_takesFrom_32 : decode cX11_takesFrom 32 = .ok (.iaload, 1) := by decide +kernel
theorem dX11_takesFrom_33 : decode cX11_takesFrom 33 = .ok (.i2l, 1) := by decide +kernel
theorem dX11_takesFrom_34 : decode cX11_takesFrom 34 = .ok (.aload_n 0, 1) := by decide +kernel
theorem dX11_takesFrom_35 : decode cX11_takesFrom 35 = .ok (.getfield 7, 3) := by decide +kernel
theorem dX11_takesFrom_38 : decode cX11_takesFrom 38 = .ok (.iconst 4, 1) := by decide +kernel
theorem dX11_takesFrom_39 : decode cX11_takesFrom 39 = .ok (.iconst 4, 1) := by decide +kernel
theorem dX11_takesFrom_40 : decode cX11_takesFrom 40 = .ok (.iload_n 1, 1) := by decide +kernel
theorem dX11_takesFrom_41 : decode cX11_takesFrom 41 = .ok (.imul, 1) := by decide +kernel
theorem dX11_takesFrom_42 : decode cX11_takesFrom 42 = .ok (.iadd, 1) := by decide +kernel
theorem dX11_takesFrom_43 : decode cX11_takesFrom 43 = .ok (.iaload, 1) := by decide +kernel
theorem dX11_takesFrom_44 : decode cX11_takesFrom 44 = .ok (.i2l, 1) := by decide +kernel
theorem dX11_takesFrom_45 : decode cX11_takesFrom 45 = .ok (.invokevirtual 70, 3) := by decide +kernel
theorem dX11_takesFrom_48 : decode cX11_takesFrom 48 = .ok (.return_, 1) := by decide +kernel
theorem dX11_multiplies_0 : decode cX11_multiplies 0 = .ok (.aload_n 0, 1) := by decide +kernel
theorem dX11_multiplies_1 : decode cX11_multiplies 1 = .ok (.aload_n 0, 1) := by decide +kernel
theorem dX11_multiplies_2 : decode cX11_multiplies 2 = .ok (.getfield 57, 3) := by decide +kernel
theorem dX11_multiplies_5 : decode cX11_multiplies 5 = .ok (.lload_n 1, 1) := by decide +kernel
theorem dX11_multiplies_6 : decode cX11_multiplies 6 = .ok (.lmul, 1) := by decide +kernel
theorem dX11_multiplies_7 : decode cX11_multiplies 7 = .ok (.aload_n 0, 1) := by decide +kernel
theorem dX11_multiplies_8 : decode cX11_multiplies 8 = .ok (.getfield 61, 3) := by decide +kernel
theorem dX11_multiplies_11 : decode cX11_multiplies 11 = .ok (.lload 5, 2) := by decide +kernel
theorem dX11_multiplies_13 : decode cX11_multiplies 13 = .ok (.lmul, 1) := by decide +kernel
theorem dX11_multiplies_14 : decode cX11_multiplies 14 = .ok (.ladd, 1) := by decide +kernel
theorem dX11_multiplies_15 : decode cX11_multiplies 15 = .ok (.aload_n 0, 1) := by decide +kernel
theorem dX11_multiplies_16 : decode cX11_multiplies 16 = .ok (.getfield 57, 3) := by decide +kernel
theorem dX11_multiplies_19 : decode cX11_multiplies 19 = .ok (.lload_n 3, 1) := by decide +kernel
theorem dX11_multiplies_20 : decode cX11_multiplies 20 = .ok (.lmul, 1) := by decide +kernel
theorem dX11_multiplies_21 : decode cX11_multiplies 21 = .ok (.aload_n 0, 1) := by decide +kernel
theorem dX11_multiplies_22 : decode cX11_multiplies 22 = .ok (.getfield 61, 3) := by decide +kernel
theorem dX11_multiplies_25 : decode cX11_multiplies 25 = .ok (.lload 7, 2) := by decide +kernel
theorem dX11_multiplies_27 : decode cX11_multiplies 27 = .ok (.lmul, 1) := by decide +kernel
theorem dX11_multiplies_28 : decode cX11_multiplies 28 = .ok (.ladd, 1) := by decide +kernel
theorem dX11_multiplies_29 : decode cX11_multiplies 29 = .ok (.aload_n 0, 1) := by decide +kernel
theorem dX11_multiplies_30 : decode cX11_multiplies 30 = .ok (.getfield 64, 3) := by decide +kernel
theorem dX11_multiplies_33 : decode cX11_multiplies 33 = .ok (.lload_n 1, 1) := by decide +kernel
theorem dX11_multiplies_34 : decode cX11_multiplies 34 = .ok (.lmul, 1) := by decide +kernel
theorem dX11_multiplies_35 : decode cX11_multiplies 35 = .ok (.aload_n 0, 1) := by decide +kernel
theorem dX11_multiplies_36 : decode cX11_multiplies 36 = .ok (.getfield 67, 3) := by decide +kernel
theorem dX11_multiplies_39 : decode cX11_multiplies 39 = .ok (.lload 5, 2) := by decide +kernel
theorem dX11_multiplies_41 : decode cX11_multiplies 41 = .ok (.lmul, 1) := by decide +kernel
theorem dX11_multiplies_42 : decode cX11_multiplies 42 = .ok (.ladd, 1) := by decide +kernel
theorem dX11_multiplies_43 : decode cX11_multiplies 43 = .ok (.aload_n 0, 1) := by decide +kernel
theorem dX11_multiplies_44 : decode cX11_multiplies 44 = .ok (.getfield 64, 3) := by decide +kernel
theorem dX11_multiplies_47 : decode cX11_multiplies 47 = .ok (.lload_n 3, 1) := by decide +kernel
theorem dX11_multiplies_48 : decode cX11_multiplies 48 = .ok (.lmul, 1) := by decide +kernel
theorem dX11_multiplies_49 : decode cX11_multiplies 49 = .ok (.aload_n 0, 1) := by decide +kernel
theorem dX11_multiplies_50 : decode cX11_multiplies 50 = .ok (.getfield 67, 3) := by decide +kernel
theorem dX11_multiplies_53 : decode cX11_multiplies 53 = .ok (.lload 7, 2) := by decide +kernel
theorem dX11_multiplies_55 : decode cX11_multiplies 55 = .ok (.lmul, 1) := by decide +kernel
theorem dX11_multiplies_56 : decode cX11_multiplies 56 = .ok (.ladd, 1) := by decide +kernel
theorem dX11_multiplies_57 : decode cX11_multiplies 57 = .ok (.invokevirtual 70, 3) := by decide +kernel
theorem dX11_multiplies_60 : decode cX11_multiplies 60 = .ok (.return_, 1) := by decide +kernel
theorem dX11_isWell_0 : decode cX11_isWell 0 = .ok (.aload_n 0, 1) := by decide +kernel
theorem dX11_isWell_1 : decode cX11_isWell 1 = .ok (.getfield 57, 3) := by decide +kernel
theorem dX11_isWell_4 : decode cX11_isWell 4 = .ok (.invokestatic 74, 3) := by decide +kernel
theorem dX11_isWell_7 : decode cX11_isWell 7 = .ok (.ifCond .eq 37, 3) := by decide +kernel
theorem dX11_isWell_10 : decode cX11_isWell 10 = .ok (.aload_n 0, 1) := by decide +kernel
theorem dX11_isWell_11 : decode cX11_isWell 11 = .ok (.getfield 61, 3) := by decide +kernel
theorem dX11_isWell_14 : decode cX11_isWell 14 = .ok (.invokestatic 74, 3) := by decide +kernel
theorem dX11_isWell_17 : decode cX11_isWell 17 = .ok (.ifCond .eq 27, 3) := by decide +kernel
theorem dX11_isWell_20 : decode cX11_isWell 20 = .ok (.aload_n 0, 1) := by decide +kernel
theorem dX11_isWell_21 : decode cX11_isWell 21 = .ok (.getfield 64, 3) := by decide +kernel
theorem dX11_isWell_24 : decode cX11_isWell 24 = .ok (.invokestatic 74, 3) := by decide +kernel
theorem dX11_isWell_27 : decode cX11_isWell 27 = .ok (.ifCond .eq 17, 3) := by decide +kernel
theorem dX11_isWell_30 : decode cX11_isWell 30 = .ok (.aload_n 0, 1) := by decide +kernel
theorem dX11_isWell_31 : decode cX11_isWell 31 = .ok (.getfield 67, 3) := by decide +kernel
theorem dX11_isWell_34 : decode cX11_isWell 34 = .ok (.invokestatic 74, 3) := by decide +kernel
theorem dX11_isWell_37 : decode cX11_isWell 37 = .ok (.ifCond .eq 7, 3) := by decide +kernel
theorem dX11_isWell_40 : decode cX11_isWell 40 = .ok (.iconst 1, 1) := by decide +kernel
theorem dX11_isWell_41 : decode cX11_isWell 41 = .ok (.goto 4, 3) := by decide +kernel
theorem dX11_isWell_44 : decode cX11_isWell 44 = .ok (.iconst 0, 1) := by decide +kernel
theorem dX11_isWell_45 : decode cX11_isWell 45 = .ok (.ireturn, 1) := by decide +kernel
theorem dX11_isAt_0 : decode cX11_isAt 0 = .ok (.aload_n 0, 1) := by decide +kernel
theorem dX11_isAt_1 : decode cX11_isAt 1 = .ok (.getfield 57, 3) := by decide +kernel
theorem dX11_isAt_4 : decode cX11_isAt 4 = .ok (.aload_n 0, 1) := by decide +kernel
theorem dX11_isAt_5 : decode cX11_isAt 5 = .ok (.getfield 7, 3) := by decide +kernel
theorem dX11_isAt_8 : decode cX11_isAt 8 = .ok (.iconst 1, 1) := by decide +kernel
theorem dX11_isAt_9 : decode cX11_isAt 9 = .ok (.iconst 4, 1) := by decide +kernel
theorem dX11_isAt_10 : decode cX11_isAt 10 = .ok (.iload_n 1, 1) := by decide +kernel
theorem dX11_isAt_11 : decode cX11_isAt 11 = .ok (.imul, 1) := by decide +kernel
theorem dX11_isAt_12 : decode cX11_isAt 12 = .ok (.iadd, 1) := by decide +kernel
theorem dX11_isAt_13 : decode cX11_isAt 13 = .ok (.iaload, 1) := by decide +kernel
theorem dX11_isAt_14 : decode cX11_isAt 14 = .ok (.i2l, 1) := by decide +kernel
theorem dX11_isAt_15 : decode cX11_isAt 15 = .ok (.lcmp, 1) := by decide +kernel
theorem dX11_isAt_16 : decode cX11_isAt 16 = .ok (.ifCond .ne 64, 3) := by decide +kernel
theorem dX11_isAt_19 : decode cX11_isAt 19 = .ok (.aload_n 0, 1) := by decide +kernel
theorem dX11_isAt_20 : decode cX11_isAt 20 = .ok (.getfield 61, 3) := by decide +kernel
theorem dX11_isAt_23 : decode cX11_isAt 23 = .ok (.aload_n 0, 1) := by decide +kernel
theorem dX11_isAt_24 : decode cX11_isAt 24 = .ok (.getfield 7, 3) := by decide +kernel
theorem dX11_isAt_27 : decode cX11_isAt 27 = .ok (.iconst 2, 1) := by decide +kernel
theorem dX11_isAt_28 : decode cX11_isAt 28 = .ok (.iconst 4, 1) := by decide +kernel
theorem dX11_isAt_29 : decode cX11_isAt 29 = .ok (.iload_n 1, 1) := by decide +kernel
theorem dX11_isAt_30 : decode cX11_isAt 30 = .ok (.imul, 1) := by decide +kernel
theorem dX11_isAt_31 : decode cX11_isAt 31 = .ok (.iadd, 1) := by decide +kernel
theorem dX11_isAt_32 : decode cX11_isAt 32 = .ok (.iaload, 1) := by decide +kernel
theorem dX11_isAt_33 : decode cX11_isAt 33 = .ok (.i2l, 1) := by decide +kernel
theorem dX11_isAt_34 : decode cX11_isAt 34 = .ok (.lcmp, 1) := by decide +kernel
theorem dX11_isAt_35 : decode cX11_isAt 35 = .ok (.ifCond .ne 45, 3) := by decide +kernel
theorem dX11_isAt_38 : decode cX11_isAt 38 = .ok (.aload_n 0, 1) := by decide +kernel
theorem dX11_isAt_39 : decode cX11_isAt 39 = .ok (.getfield 64, 3) := by decide +kernel
theorem dX11_isAt_42 : decode cX11_isAt 42 = .ok (.aload_n 0, 1) := by decide +kernel
theorem dX11_isAt_43 : decode cX11_isAt 43 = .ok (.getfield 7, 3) := by decide +kernel
theorem dX11_isAt_46 : decode cX11_isAt 46 = .ok (.iconst 3, 1) := by decide +kernel
theorem dX11_isAt_47 : decode cX11_isAt 47 = .ok (.iconst 4, 1) := by decide +kernel
theorem dX11_isAt_48 : decode cX11_isAt 48 = .ok (.iload_n 1, 1) := by decide +kernel
theorem dX11_isAt_49 : decode cX11_isAt 49 = .ok (.imul, 1) := by decide +kernel
theorem dX11_isAt_50 : decode cX11_isAt 50 = .ok (.iadd, 1) := by decide +kernel
theorem dX11_isAt_51 : decode cX11_isAt 51 = .ok (.iaload, 1) := by decide +kernel
theorem dX11_isAt_52 : decode cX11_isAt 52 = .ok (.i2l, 1) := by decide +kernel
theorem dX11_isAt_53 : decode cX11_isAt 53 = .ok (.lcmp, 1) := by decide +kernel
theorem dX11_isAt_54 : decode cX11_isAt 54 = .ok (.ifCond .ne 26, 3) := by decide +kernel
theorem dX11_isAt_57 : decode cX11_isAt 57 = .ok (.aload_n 0, 1) := by decide +kernel
theorem dX11_isAt_58 : decode cX11_isAt 58 = .ok (.getfield 67, 3) := by decide +kernel
theorem dX11_isAt_61 : decode cX11_isAt 61 = .ok (.aload_n 0, 1) := by decide +kernel
theorem dX11_isAt_62 : decode cX11_isAt 62 = .ok (.getfield 7, 3) := by decide +kernel
theorem dX11_isAt_65 : decode cX11_isAt 65 = .ok (.iconst 4, 1) := by decide +kernel
theorem dX11_isAt_66 : decode cX11_isAt 66 = .ok (.iconst 4, 1) := by decide +kernel
theorem dX11_isAt_67 : decode cX11_isAt 67 = .ok (.iload_n 1, 1) := by decide +kernel
theorem dX11_isAt_68 : decode cX11_isAt 68 = .ok (.imul, 1) := by decide +kernel
theorem dX11_isAt_69 : decode cX11_isAt 69 = .ok (.iadd, 1) := by decide +kernel
theorem dX11_isAt_70 : decode cX11_isAt 70 = .ok (.iaload, 1) := by decide +kernel
theorem dX11_isAt_71 : decode cX11_isAt 71 = .ok (.i2l, 1) := by decide +kernel
theorem dX11_isAt_72 : decode cX11_isAt 72 = .ok (.lcmp, 1) := by decide +kernel
theorem dX11_isAt_73 : decode cX11_isAt 73 = .ok (.ifCond .ne 7, 3) := by decide +kernel
theorem dX11_isAt_76 : decode cX11_isAt 76 = .ok (.iconst 1, 1) := by decide +kernel
theorem dX11_isAt_77 : decode cX11_isAt 77 = .ok (.goto 4, 3) := by decide +kernel
theorem dX11_isAt_80 : decode cX11_isAt 80 = .ok (.iconst 0, 1) := by decide +kernel
theorem dX11_isAt_81 : decode cX11_isAt 81 = .ok (.ireturn, 1) := by decide +kernel
theorem dX11_laysAt_0 : decode cX11_laysAt 0 = .ok (.aload_n 0, 1) := by decide +kernel
theorem dX11_laysAt_1 : decode cX11_laysAt 1 = .ok (.getfield 7, 3) := by decide +kernel
theorem dX11_laysAt_4 : decode cX11_laysAt 4 = .ok (.iconst 1, 1) := by decide +kernel
theorem dX11_laysAt_5 : decode cX11_laysAt 5 = .ok (.iconst 4, 1) := by decide +kernel
theorem dX11_laysAt_6 : decode cX11_laysAt 6 = .ok (.iload_n 1, 1) := by decide +kernel
theorem dX11_laysAt_7 : decode cX11_laysAt 7 = .ok (.imul, 1) := by decide +kernel
theorem dX11_laysAt_8 : decode cX11_laysAt 8 = .ok (.iadd, 1) := by decide +kernel
theorem dX11_laysAt_9 : decode cX11_laysAt 9 = .ok (.aload_n 0, 1) := by decide +kernel
theorem dX11_laysAt_10 : decode cX11_laysAt 10 = .ok (.getfield 57, 3) := by decide +kernel
theorem dX11_laysAt_13 : decode cX11_laysAt 13 = .ok (.l2i, 1) := by decide +kernel
theorem dX11_laysAt_14 : decode cX11_laysAt 14 = .ok (.iastore, 1) := by decide +kernel
theorem dX11_laysAt_15 : decode cX11_laysAt 15 = .ok (.aload_n 0, 1) := by decide +kernel
theorem dX11_laysAt_16 : decode cX11_laysAt 16 = .ok (.getfield 7, 3) := by decide +kernel
theorem dX11_laysAt_19 : decode cX11_laysAt 19 = .ok (.iconst 2, 1) := by decide +kernel
theorem dX11_laysAt_20 : decode cX11_laysAt 20 = .ok (.iconst 4, 1) := by decide +kernel
theorem dX11_laysAt_21 : decode cX11_laysAt 21 = .ok (.iload_n 1, 1) := by decide +kernel
theorem dX11_laysAt_22 : decode cX11_laysAt 22 = .ok (.imul, 1) := by decide +kernel
theorem dX11_laysAt_23 : decode cX11_laysAt 23 = .ok (.iadd, 1) := by decide +kernel
theorem dX11_laysAt_24 : decode cX11_laysAt 24 = .ok (.aload_n 0, 1) := by decide +kernel
theorem dX11_laysAt_25 : decode cX11_laysAt 25 = .ok (.getfield 61, 3) := by decide +kernel
theorem dX11_laysAt_28 : decode cX11_laysAt 28 = .ok (.l2i, 1) := by decide +kernel
theorem dX11_laysAt_29 : decode cX11_laysAt 29 = .ok (.iastore, 1) := by decide +kernel
theorem dX11_laysAt_30 : decode cX11_laysAt 30 = .ok (.aload_n 0, 1) := by decide +kernel
theorem dX11_laysAt_31 : decode cX11_laysAt 31 = .ok (.getfield 7, 3) := by decide +kernel
theorem dX11_laysAt_34 : decode cX11_laysAt 34 = .ok (.iconst 3, 1) := by decide +kernel
theorem dX11_laysAt_35 : decode cX11_laysAt 35 = .ok (.iconst 4, 1) := by decide +kernel
theorem dX11_laysAt_36 : decode cX11_laysAt 36 = .ok (.iload_n 1, 1) := by decide +kernel
theorem dX11_laysAt_37 : decode cX11_laysAt 37 = .ok (.imul, 1) := by decide +kernel
theorem dX11_laysAt_38 : decode cX11_laysAt 38 = .ok (.iadd, 1) := by decide +kernel
theorem dX11_laysAt_39 : decode cX11_laysAt 39 = .ok (.aload_n 0, 1) := by decide +kernel
theorem dX11_laysAt_40 : decode cX11_laysAt 40 = .ok (.getfield 64, 3) := by decide +kernel
theorem dX11_laysAt_43 : decode cX11_laysAt 43 = .ok (.l2i, 1) := by decide +kernel
theorem dX11_laysAt_44 : decode cX11_laysAt 44 = .ok (.iastore, 1) := by decide +kernel
theorem dX11_laysAt_45 : decode cX11_laysAt 45 = .ok (.aload_n 0, 1) := by decide +kernel
theorem dX11_laysAt_46 : decode cX11_laysAt 46 = .ok (.getfield 7, 3) := by decide +kernel
theorem dX11_laysAt_49 : decode cX11_laysAt 49 = .ok (.iconst 4, 1) := by decide +kernel
theorem dX11_laysAt_50 : decode cX11_laysAt 50 = .ok (.iconst 4, 1) := by decide +kernel
theorem dX11_laysAt_51 : decode cX11_laysAt 51 = .ok (.iload_n 1, 1) := by decide +kernel
theorem dX11_laysAt_52 : decode cX11_laysAt 52 = .ok (.imul, 1) := by decide +kernel
theorem dX11_laysAt_53 : decode cX11_laysAt 53 = .ok (.iadd, 1) := by decide +kernel
theorem dX11_laysAt_54 : decode cX11_laysAt 54 = .ok (.aload_n 0, 1) := by decide +kernel
theorem dX11_laysAt_55 : decode cX11_laysAt 55 = .ok (.getfield 67, 3) := by decide +kernel
theorem dX11_laysAt_58 : decode cX11_laysAt 58 = .ok (.l2i, 1) := by decide +kernel
theorem dX11_laysAt_59 : decode cX11_laysAt 59 = .ok (.iastore, 1) := by decide +kernel
theorem dX11_laysAt_60 : decode cX11_laysAt 60 = .ok (.return_, 1) := by decide +kernel
theorem dX11_comes_0 : decode cX11_comes 0 = .ok (.iload_n 1, 1) := by decide +kernel
theorem dX11_comes_1 : decode cX11_comes 1 = .ok (.tableswitch 96 0 4 #[35, 46, 57, 70, 83], 35) := by decide +kernel
theorem dX11_comes_36 : decode cX11_comes 36 = .ok (.aload_n 0, 1) := by decide +kernel
theorem dX11_comes_37 : decode cX11_comes 37 = .ok (.lconst 1, 1) := by decide +kernel
theorem dX11_comes_38 : decode cX11_comes 38 = .ok (.lconst 1, 1) := by decide +kernel
theorem dX11_comes_39 : decode cX11_comes 39 = .ok (.lconst 0, 1) := by decide +kernel
theorem dX11_comes_40 : decode cX11_comes 40 = .ok (.lconst 1, 1) := by decide +kernel
theorem dX11_comes_41 : decode cX11_comes 41 = .ok (.invokevirtual 78, 3) := by decide +kernel
theorem dX11_comes_44 : decode cX11_comes 44 = .ok (.goto 63, 3) := by decide +kernel
theorem dX11_comes_47 : decode cX11_comes 47 = .ok (.aload_n 0, 1) := by decide +kernel
theorem dX11_comes_48 : decode cX11_comes 48 = .ok (.lconst 1, 1) := by decide +kernel
theorem dX11_comes_49 : decode cX11_comes 49 = .ok (.lconst 0, 1) := by decide +kernel
theorem dX11_comes_50 : decode cX11_comes 50 = .ok (.lconst 1, 1) := by decide +kernel
theorem dX11_comes_51 : decode cX11_comes 51 = .ok (.lconst 1, 1) := by decide +kernel
theorem dX11_comes_52 : decode cX11_comes 52 = .ok (.invokevirtual 78, 3) := by decide +kernel
theorem dX11_comes_55 : decode cX11_comes 55 = .ok (.goto 52, 3) := by decide +kernel
theorem dX11_comes_58 : decode cX11_comes 58 = .ok (.aload_n 0, 1) := by decide +kernel
theorem dX11_comes_59 : decode cX11_comes 59 = .ok (.lconst 1, 1) := by decide +kernel
theorem dX11_comes_60 : decode cX11_comes 60 = .ok (.ldc2_w 81, 3) := by decide +kernel
theorem dX11_comes_63 : decode cX11_comes 63 = .ok (.lconst 0, 1) := by decide +kernel
theorem dX11_comes_64 : decode cX11_comes 64 = .ok (.lconst 1, 1) := by decide +kernel
theorem dX11_comes_65 : decode cX11_comes 65 = .ok (.invokevirtual 78, 3) := by decide +kernel
theorem dX11_comes_68 : decode cX11_comes 68 = .ok (.goto 39, 3) := by decide +kernel
theorem dX11_comes_71 : decode cX11_comes 71 = .ok (.aload_n 0, 1) := by decide +kernel
theorem dX11_comes_72 : decode cX11_comes 72 = .ok (.lconst 1, 1) := by decide +kernel
theorem dX11_comes_73 : decode cX11_comes 73 = .ok (.lconst 0, 1) := by decide +kernel
theorem dX11_comes_74 : decode cX11_comes 74 = .ok (.ldc2_w 81, 3) := by decide +kernel
theorem dX11_comes_77 : decode cX11_comes 77 = .ok (.lconst 1, 1) := by decide +kernel
theorem dX11_comes_78 : decode cX11_comes 78 = .ok (.invokevirtual 78, 3) := by decide +kernel
theorem dX11_comes_81 : decode cX11_comes 81 = .ok (.goto 26, 3) := by decide +kernel
theorem dX11_comes_84 : decode cX11_comes 84 = .ok (.aload_n 0, 1) := by decide +kernel
theorem dX11_comes_85 : decode cX11_comes 85 = .ok (.lconst 0, 1) := by decide +kernel
theorem dX11_comes_86 : decode cX11_comes 86 = .ok (.ldc2_w 81, 3) := by decide +kernel
theorem dX11_comes_89 : decode cX11_comes 89 = .ok (.lconst 1, 1) := by decide +kernel
theorem dX11_comes_90 : decode cX11_comes 90 = .ok (.lconst 0, 1) := by decide +kernel
theorem dX11_comes_91 : decode cX11_comes 91 = .ok (.invokevirtual 78, 3) := by decide +kernel
theorem dX11_comes_94 : decode cX11_comes 94 = .ok (.goto 13, 3) := by decide +kernel
theorem dX11_comes_97 : decode cX11_comes 97 = .ok (.aload_n 0, 1) := by decide +kernel
theorem dX11_comes_98 : decode cX11_comes 98 = .ok (.lconst 0, 1) := by decide +kernel
theorem dX11_comes_99 : decode cX11_comes 99 = .ok (.lconst 1, 1) := by decide +kernel
theorem dX11_comes_100 : decode cX11_comes 100 = .ok (.ldc2_w 81, 3) := by decide +kernel
theorem dX11_comes_103 : decode cX11_comes 103 = .ok (.lconst 0, 1) := by decide +kernel
theorem dX11_comes_104 : decode cX11_comes 104 = .ok (.invokevirtual 78, 3) := by decide +kernel
theorem dX11_comes_107 : decode cX11_comes 107 = .ok (.return_, 1) := by decide +kernel
theorem dX11_letterOf_0 : decode cX11_letterOf 0 = .ok (.iload_n 0, 1) := by decide +kernel
theorem dX11_letterOf_1 : decode cX11_letterOf 1 = .ok (.bipush 82, 2) := by decide +kernel
theorem dX11_letterOf_3 : decode cX11_letterOf 3 = .ok (.if_icmp .ne 7, 3) := by decide +kernel
theorem dX11_letterOf_6 : decode cX11_letterOf 6 = .ok (.iconst 0, 1) := by decide +kernel
theorem dX11_letterOf_7 : decode cX11_letterOf 7 = .ok (.goto 54, 3) := by decide +kernel
theorem dX11_letterOf_10 : decode cX11_letterOf 10 = .ok (.iload_n 0, 1) := by decide +kernel
theorem dX11_letterOf_11 : decode cX11_letterOf 11 = .ok (.bipush 76, 2) := by decide +kernel
theorem dX11_letterOf_13 : decode cX11_letterOf 13 = .ok (.if_icmp .ne 7, 3) := by decide +kernel
theorem dX11_letterOf_16 : decode cX11_letterOf 16 = .ok (.iconst 1, 1) := by decide +kernel
theorem dX11_letterOf_17 : decode cX11_letterOf 17 = .ok (.goto 44, 3) := by decide +kernel
theorem dX11_letterOf_20 : decode cX11_letterOf 20 = .ok (.iload_n 0, 1) := by decide +kernel
theorem dX11_letterOf_21 : decode cX11_letterOf 21 = .ok (.bipush 114, 2) := by decide +kernel
theorem dX11_letterOf_23 : decode cX11_letterOf 23 = .ok (.if_icmp .ne 7, 3) := by decide +kernel
theorem dX11_letterOf_26 : decode cX11_letterOf 26 = .ok (.iconst 2, 1) := by decide +kernel
theorem dX11_letterOf_27 : decode cX11_letterOf 27 = .ok (.goto 34, 3) := by decide +kernel
theorem dX11_letterOf_30 : decode cX11_letterOf 30 = .ok (.iload_n 0, 1) := by decide +kernel
theorem dX11_letterOf_31 : decode cX11_letterOf 31 = .ok (.bipush 108, 2) := by decide +kernel
theorem dX11_letterOf_33 : decode cX11_letterOf 33 = .ok (.if_icmp .ne 7, 3) := by decide +kernel
theorem dX11_letterOf_36 : decode cX11_letterOf 36 = .ok (.iconst 3, 1) := by decide +kernel
theorem dX11_letterOf_37 : decode cX11_letterOf 37 = .ok (.goto 24, 3) := by decide +kernel
theorem dX11_letterOf_40 : decode cX11_letterOf 40 = .ok (.iload_n 0, 1) := by decide +kernel
theorem dX11_letterOf_41 : decode cX11_letterOf 41 = .ok (.bipush 83, 2) := by decide +kernel
theorem dX11_letterOf_43 : decode cX11_letterOf 43 = .ok (.if_icmp .ne 7, 3) := by decide +kernel
theorem dX11_letterOf_46 : decode cX11_letterOf 46 = .ok (.iconst 4, 1) := by decide +kernel
theorem dX11_letterOf_47 : decode cX11_letterOf 47 = .ok (.goto 14, 3) := by decide +kernel
theorem dX11_letterOf_50 : decode cX11_letterOf 50 = .ok (.iload_n 0, 1) := by decide +kernel
theorem dX11_letterOf_51 : decode cX11_letterOf 51 = .ok (.bipush 115, 2) := by decide +kernel
theorem dX11_letterOf_53 : decode cX11_letterOf 53 = .ok (.if_icmp .ne 7, 3) := by decide +kernel
theorem dX11_letterOf_56 : decode cX11_letterOf 56 = .ok (.iconst 5, 1) := by decide +kernel
theorem dX11_letterOf_57 : decode cX11_letterOf 57 = .ok (.goto 4, 3) := by decide +kernel
theorem dX11_letterOf_60 : decode cX11_letterOf 60 = .ok (.iconst (-1), 1) := by decide +kernel
theorem dX11_letterOf_61 : decode cX11_letterOf 61 = .ok (.ireturn, 1) := by decide +kernel
theorem dX11_feed_0 : decode cX11_feed 0 = .ok (.iload_n 1, 1) := by decide +kernel
theorem dX11_feed_1 : decode cX11_feed 1 = .ok (.i2l, 1) := by decide +kernel
theorem dX11_feed_2 : decode cX11_feed 2 = .ok (.lconst 0, 1) := by decide +kernel
theorem dX11_feed_3 : decode cX11_feed 3 = .ok (.ldc2_w 83, 3) := by decide +kernel
theorem dX11_feed_6 : decode cX11_feed 6 = .ok (.invokestatic 53, 3) := by decide +kernel
theorem dX11_feed_9 : decode cX11_feed 9 = .ok (.ifCond .ne 6, 3) := by decide +kernel
theorem dX11_feed_12 : decode cX11_feed 12 = .ok (.ldc 85, 2) := by decide +kernel
theorem dX11_feed_14 : decode cX11_feed 14 = .ok (.ireturn, 1) := by decide +kernel
theorem dX11_feed_15 : decode cX11_feed 15 = .ok (.aload_n 0, 1) := by decide +kernel
theorem dX11_feed_16 : decode cX11_feed 16 = .ok (.getfield 86, 3) := by decide +kernel
theorem dX11_feed_19 : decode cX11_feed 19 = .ok (.bipush 60, 2) := by decide +kernel
theorem dX11_feed_21 : decode cX11_feed 21 = .ok (.if_icmp .ne 6, 3) := by decide +kernel
theorem dX11_feed_24 : decode cX11_feed 24 = .ok (.ldc 89, 2) := by decide +kernel
theorem dX11_feed_26 : decode cX11_feed 26 = .ok (.ireturn, 1) := by decide +kernel
theorem dX11_feed_27 : decode cX11_feed 27 = .ok (.aload_n 0, 1) := by decide +kernel
theorem dX11_feed_28 : decode cX11_feed 28 = .ok (.getfield 23, 3) := by decide +kernel
theorem dX11_feed_31 : decode cX11_feed 31 = .ok (.aload_n 0, 1) := by decide +kernel
theorem dX11_feed_32 : decode cX11_feed 32 = .ok (.getfield 86, 3) := by decide +kernel
theorem dX11_feed_35 : decode cX11_feed 35 = .ok (.iload_n 1, 1) := by decide +kernel
theorem dX11_feed_36 : decode cX11_feed 36 = .ok (.iastore, 1) := by decide +kernel
theorem dX11_feed_37 : decode cX11_feed 37 = .ok (.aload_n 0, 1) := by decide +kernel
theorem dX11_feed_38 : decode cX11_feed 38 = .ok (.dup, 1) := by decide +kernel
theorem dX11_feed_39 : decode cX11_feed 39 = .ok (.getfield 86, 3) := by decide +kernel
theorem dX11_feed_42 : decode cX11_feed 42 = .ok (.iconst 1, 1) := by decide +kernel
theorem dX11_feed_43 : decode cX11_feed 43 = .ok (.iadd, 1) := by decide +kernel
theorem dX11_feed_44 : decode cX11_feed 44 = .ok (.putfield 86, 3) := by decide +kernel
theorem dX11_feed_47 : decode cX11_feed 47 = .ok (.aload_n 0, 1) := by decide +kernel
theorem dX11_feed_48 : decode cX11_feed 48 = .ok (.getfield 86, 3) := by decide +kernel
theorem dX11_feed_51 : decode cX11_feed 51 = .ok (.ireturn, 1) := by decide +kernel
theorem dX11_notes_0 : decode cX11_notes 0 = .ok (.aload_n 0, 1) := by decide +kernel
theorem dX11_notes_1 : decode cX11_notes 1 = .ok (.getfield 90, 3) := by decide +kernel
theorem dX11_notes_4 : decode cX11_notes 4 = .ok (.bipush 20, 2) := by decide +kernel
theorem dX11_notes_6 : decode cX11_notes 6 = .ok (.if_icmp .ne 43, 3) := by decide +kernel
theorem dX11_notes_9 : decode cX11_notes 9 = .ok (.iconst 0, 1) := by decide +kernel
theorem dX11_notes_10 : decode cX11_notes 10 = .ok (.istore_n 1, 1) := by decide +kernel
theorem dX11_notes_11 : decode cX11_notes 11 = .ok (.iload_n 1, 1) := by decide +kernel
theorem dX11_notes_12 : decode cX11_notes 12 = .ok (.sipush 931, 3) := by decide +kernel
theorem dX11_notes_15 : decode cX11_notes 15 = .ok (.if_icmp .ge 24, 3) := by decide +kernel
theorem dX11_notes_18 : decode cX11_notes 18 = .ok (.aload_n 0, 1) := by decide +kernel
theorem dX11_notes_19 : decode cX11_notes 19 = .ok (.getfield 13, 3) := by decide +kernel
theorem dX11_notes_22 : decode cX11_notes 22 = .ok (.iload_n 1, 1) := by decide +kernel
theorem dX11_notes_23 : decode cX11_notes 23 = .ok (.aload_n 0, 1) := by decide +kernel
theorem dX11_notes_24 : decode cX11_notes 24 = .ok (.getfield 13, 3) := by decide +kernel
theorem dX11_notes_27 : decode cX11_notes 27 = .ok (.iload_n 1, 1) := by decide +kernel
theorem dX11_notes_28 : decode cX11_notes 28 = .ok (.bipush 49, 2) := by decide +kernel
theorem dX11_notes_30 : decode cX11_notes 30 = .ok (.iadd, 1) := by decide +kernel
theorem dX11_notes_31 : decode cX11_notes 31 = .ok (.iaload, 1) := by decide +kernel
theorem dX11_notes_32 : decode cX11_notes 32 = .ok (.iastore, 1) := by decide +kernel
theorem dX11_notes_33 : decode cX11_notes 33 = .ok (.iinc 1 1, 3) := by decide +kernel
theorem dX11_notes_36 : decode cX11_notes 36 = .ok (.goto (-25), 3) := by decide +kernel
theorem dX11_notes_39 : decode cX11_notes 39 = .ok (.aload_n 0, 1) := by decide +kernel
theorem dX11_notes_40 : decode cX11_notes 40 = .ok (.dup, 1) := by decide +kernel
theorem dX11_notes_41 : decode cX11_notes 41 = .ok (.getfield 90, 3) := by decide +kernel
theorem dX11_notes_44 : decode cX11_notes 44 = .ok (.iconst 1, 1) := by decide +kernel
theorem dX11_notes_45 : decode cX11_notes 45 = .ok (.isub, 1) := by decide +kernel
theorem dX11_notes_46 : decode cX11_notes 46 = .ok (.putfield 90, 3) := by decide +kernel
theorem dX11_notes_49 : decode cX11_notes 49 = .ok (.iconst 0, 1) := by decide +kernel
theorem dX11_notes_50 : decode cX11_notes 50 = .ok (.istore_n 1, 1) := by decide +kernel
theorem dX11_notes_51 : decode cX11_notes 51 = .ok (.iload_n 1, 1) := by decide +kernel
theorem dX11_notes_52 : decode cX11_notes 52 = .ok (.bipush 49, 2) := by decide +kernel
theorem dX11_notes_54 : decode cX11_notes 54 = .ok (.if_icmp .ge 29, 3) := by decide +kernel
theorem dX11_notes_57 : decode cX11_notes 57 = .ok (.aload_n 0, 1) := by decide +kernel
theorem dX11_notes_58 : decode cX11_notes 58 = .ok (.getfield 13, 3) := by decide +kernel
theorem dX11_notes_61 : decode cX11_notes 61 = .ok (.bipush 49, 2) := by decide +kernel
theorem dX11_notes_63 : decode cX11_notes 63 = .ok (.aload_n 0, 1) := by decide +kernel
theorem dX11_notes_64 : decode cX11_notes 64 = .ok (.getfield 90, 3) := by decide +kernel
theorem dX11_notes_67 : decode cX11_notes 67 = .ok (.imul, 1) := by decide +kernel
theorem dX11_notes_68 : decode cX11_notes 68 = .ok (.iload_n 1, 1) := by decide +kernel
theorem dX11_notes_69 : decode cX11_notes 69 = .ok (.iadd, 1) := by decide +kernel
theorem dX11_notes_70 : decode cX11_notes 70 = .ok (.aload_n 0, 1) := by decide +kernel
theorem dX11_notes_71 : decode cX11_notes 71 = .ok (.getfield 7, 3) := by decide +kernel
theorem dX11_notes_74 : decode cX11_notes 74 = .ok (.iload_n 1, 1) := by decide +kernel
theorem dX11_notes_75 : decode cX11_notes 75 = .ok (.iaload, 1) := by decide +kernel
theorem dX11_notes_76 : decode cX11_notes 76 = .ok (.iastore, 1) := by decide +kernel
theorem dX11_notes_77 : decode cX11_notes 77 = .ok (.iinc 1 1, 3) := by decide +kernel
theorem dX11_notes_80 : decode cX11_notes 80 = .ok (.goto (-29), 3) := by decide +kernel
theorem dX11_notes_83 : decode cX11_notes 83 = .ok (.aload_n 0, 1) := by decide +kernel
theorem dX11_notes_84 : decode cX11_notes 84 = .ok (.dup, 1) := by decide +kernel
theorem dX11_notes_85 : decode cX11_notes 85 = .ok (.getfield 90, 3) := by decide +kernel
theorem dX11_notes_88 : decode cX11_notes 88 = .ok (.iconst 1, 1) := by decide +kernel
theorem dX11_notes_89 : decode cX11_notes 89 = .ok (.iadd, 1) := by decide +kernel
theorem dX11_notes_90 : decode cX11_notes 90 = .ok (.putfield 90, 3) := by decide +kernel
theorem dX11_notes_93 : decode cX11_notes 93 = .ok (.return_, 1) := by decide +kernel
theorem dX11_puts_0 : decode cX11_puts 0 = .ok (.aload_n 0, 1) := by decide +kernel
theorem dX11_puts_1 : decode cX11_puts 1 = .ok (.invokevirtual 93, 3) := by decide +kernel
theorem dX11_puts_4 : decode cX11_puts 4 = .ok (.aload_n 0, 1) := by decide +kernel
theorem dX11_puts_5 : decode cX11_puts 5 = .ok (.aload_n 0, 1) := by decide +kernel
theorem dX11_puts_6 : decode cX11_puts 6 = .ok (.getfield 7, 3) := by decide +kernel
theorem dX11_puts_9 : decode cX11_puts 9 = .ok (.iconst 0, 1) := by decide +kernel
theorem dX11_puts_10 : decode cX11_puts 10 = .ok (.iaload, 1) := by decide +kernel
theorem dX11_puts_11 : decode cX11_puts 11 = .ok (.invokevirtual 96, 3) := by decide +kernel
theorem dX11_puts_14 : decode cX11_puts 14 = .ok (.aload_n 0, 1) := by decide +kernel
theorem dX11_puts_15 : decode cX11_puts 15 = .ok (.getfield 7, 3) := by decide +kernel
theorem dX11_puts_18 : decode cX11_puts 18 = .ok (.iconst 0, 1) := by decide +kernel
theorem dX11_puts_19 : decode cX11_puts 19 = .ok (.dup2, 1) := by decide +kernel
theorem dX11_puts_20 : decode cX11_puts 20 = .ok (.iaload, 1) := by decide +kernel
theorem dX11_puts_21 : decode cX11_puts 21 = .ok (.iconst 1, 1) := by decide +kernel
theorem dX11_puts_22 : decode cX11_puts 22 = .ok (.iadd, 1) := by decide +kernel
theorem dX11_puts_23 : decode cX11_puts 23 = .ok (.iastore, 1) := by decide +kernel
theorem dX11_puts_24 : decode cX11_puts 24 = .ok (.aload_n 0, 1) := by decide +kernel
theorem dX11_puts_25 : decode cX11_puts 25 = .ok (.getfield 7, 3) := by decide +kernel
theorem dX11_puts_28 : decode cX11_puts 28 = .ok (.iconst 0, 1) := by decide +kernel
theorem dX11_puts_29 : decode cX11_puts 29 = .ok (.iaload, 1) := by decide +kernel
theorem dX11_puts_30 : decode cX11_puts 30 = .ok (.iconst 1, 1) := by decide +kernel
theorem dX11_puts_31 : decode cX11_puts 31 = .ok (.isub, 1) := by decide +kernel
theorem dX11_puts_32 : decode cX11_puts 32 = .ok (.ireturn, 1) := by decide +kernel
theorem dX11_write_0 : decode cX11_write 0 = .ok (.aload_n 0, 1) := by decide +kernel
theorem dX11_write_1 : decode cX11_write 1 = .ok (.getfield 7, 3) := by decide +kernel
theorem dX11_write_4 : decode cX11_write 4 = .ok (.iconst 0, 1) := by decide +kernel
theorem dX11_write_5 : decode cX11_write 5 = .ok (.iaload, 1) := by decide +kernel
theorem dX11_write_6 : decode cX11_write 6 = .ok (.bipush 12, 2) := by decide +kernel
theorem dX11_write_8 : decode cX11_write 8 = .ok (.if_icmp .ne 6, 3) := by decide +kernel
theorem dX11_write_11 : decode cX11_write 11 = .ok (.ldc 89, 2) := by decide +kernel
theorem dX11_write_13 : decode cX11_write 13 = .ok (.ireturn, 1) := by decide +kernel
theorem dX11_write_14 : decode cX11_write 14 = .ok (.aload_n 0, 1) := by decide +kernel
theorem dX11_write_15 : decode cX11_write 15 = .ok (.lconst 1, 1) := by decide +kernel
theorem dX11_write_16 : decode cX11_write 16 = .ok (.lconst 0, 1) := by decide +kernel
theorem dX11_write_17 : decode cX11_write 17 = .ok (.lconst 0, 1) := by decide +kernel
theorem dX11_write_18 : decode cX11_write 18 = .ok (.lconst 1, 1) := by decide +kernel
theorem dX11_write_19 : decode cX11_write 19 = .ok (.invokevirtual 70, 3) := by decide +kernel
theorem dX11_write_22 : decode cX11_write 22 = .ok (.aload_n 0, 1) := by decide +kernel
theorem dX11_write_23 : decode cX11_write 23 = .ok (.getfield 86, 3) := by decide +kernel
theorem dX11_write_26 : decode cX11_write 26 = .ok (.istore_n 1, 1) := by decide +kernel
theorem dX11_write_27 : decode cX11_write 27 = .ok (.aload_n 0, 1) := by decide +kernel
theorem dX11_write_28 : decode cX11_write 28 = .ok (.iconst 0, 1) := by decide +kernel
theorem dX11_write_29 : decode cX11_write 29 = .ok (.putfield 86, 3) := by decide +kernel
theorem dX11_write_32 : decode cX11_write 32 = .ok (.iconst 0, 1) := by decide +kernel
theorem dX11_write_33 : decode cX11_write 33 = .ok (.istore_n 2, 1) := by decide +kernel
theorem dX11_write_34 : decode cX11_write 34 = .ok (.iload_n 2, 1) := by decide +kernel
theorem dX11_write_35 : decode cX11_write 35 = .ok (.iload_n 1, 1) := by decide +kernel
theorem dX11_write_36 : decode cX11_write 36 = .ok (.if_icmp .ge 52, 3) := by decide +kernel
theorem dX11_write_39 : decode cX11_write 39 = .ok (.aload_n 0, 1) := by decide +kernel
theorem dX11_write_40 : decode cX11_write 40 = .ok (.getfield 23, 3) := by decide +kernel
theorem dX11_write_43 : decode cX11_write 43 = .ok (.iload_n 2, 1) := by decide +kernel
theorem dX11_write_44 : decode cX11_write 44 = .ok (.iaload, 1) := by decide +kernel
theorem dX11_write_45 : decode cX11_write 45 = .ok (.invokestatic 100, 3) := by decide +kernel
theorem dX11_write_48 : decode cX11_write 48 = .ok (.istore_n 3, 1) := by decide +kernel
theorem dX11_write_49 : decode cX11_write 49 = .ok (.iload_n 3, 1) := by decide +kernel
theorem dX11_write_50 : decode cX11_write 50 = .ok (.iconst (-1), 1) := by decide +kernel
theorem dX11_write_51 : decode cX11_write 51 = .ok (.if_icmp .ne 11, 3) := by decide +kernel
theorem dX11_write_54 : decode cX11_write 54 = .ok (.aload_n 0, 1) := by decide +kernel
theorem dX11_write_55 : decode cX11_write 55 = .ok (.iload_n 2, 1) := by decide +kernel
theorem dX11_write_56 : decode cX11_write 56 = .ok (.putfield 26, 3) := by decide +kernel
theorem dX11_write_59 : decode cX11_write 59 = .ok (.bipush (-11), 2) := by decide +kernel
theorem dX11_write_61 : decode cX11_write 61 = .ok (.ireturn, 1) := by decide +kernel
theorem dX11_write_62 : decode cX11_write 62 = .ok (.aload_n 0, 1) := by decide +kernel
theorem dX11_write_63 : decode cX11_write 63 = .ok (.iload_n 3, 1) := by decide +kernel
theorem dX11_write_64 : decode cX11_write 64 = .ok (.invokevirtual 104, 3) := by decide +kernel
theorem dX11_write_67 : decode cX11_write 67 = .ok (.aload_n 0, 1) := by decide +kernel
theorem dX11_write_68 : decode cX11_write 68 = .ok (.invokevirtual 107, 3) := by decide +kernel
theorem dX11_write_71 : decode cX11_write 71 = .ok (.ifCond .ne 11, 3) := by decide +kernel
theorem dX11_write_74 : decode cX11_write 74 = .ok (.aload_n 0, 1) := by decide +kernel
theorem dX11_write_75 : decode cX11_write 75 = .ok (.iload_n 2, 1) := by decide +kernel
theorem dX11_write_76 : decode cX11_write 76 = .ok (.putfield 26, 3) := by decide +kernel
theorem dX11_write_79 : decode cX11_write 79 = .ok (.bipush (-12), 2) := by decide +kernel
theorem dX11_write_81 : decode cX11_write 81 = .ok (.ireturn, 1) := by decide +kernel
theorem dX11_write_82 : decode cX11_write 82 = .ok (.iinc 2 1, 3) := by decide +kernel
theorem dX11_write_85 : decode cX11_write 85 = .ok (.goto (-51), 3) := by decide +kernel
theorem dX11_write_88 : decode cX11_write 88 = .ok (.aload_n 0, 1) := by decide +kernel
theorem dX11_write_89 : decode cX11_write 89 = .ok (.iconst (-1), 1) := by decide +kernel
theorem dX11_write_90 : decode cX11_write 90 = .ok (.putfield 26, 3) := by decide +kernel
theorem dX11_write_93 : decode cX11_write 93 = .ok (.aload_n 0, 1) := by decide +kernel
theorem dX11_write_94 : decode cX11_write 94 = .ok (.invokevirtual 111, 3) := by decide +kernel
theorem dX11_write_97 : decode cX11_write 97 = .ok (.ireturn, 1) := by decide +kernel
theorem dX11_fault_0 : decode cX11_fault 0 = .ok (.aload_n 0, 1) := by decide +kernel
theorem dX11_fault_1 : decode cX11_fault 1 = .ok (.getfield 26, 3) := by decide +kernel
theorem dX11_fault_4 : decode cX11_fault 4 = .ok (.ireturn, 1) := by decide +kernel
theorem dX11_put_0 : decode cX11_put 0 = .ok (.iload_n 1, 1) := by decide +kernel
theorem dX11_put_1 : decode cX11_put 1 = .ok (.i2l, 1) := by decide +kernel
theorem dX11_put_2 : decode cX11_put 2 = .ok (.invokestatic 74, 3) := by decide +kernel
theorem dX11_put_5 : decode cX11_put 5 = .ok (.ifCond .eq 28, 3) := by decide +kernel
theorem dX11_put_8 : decode cX11_put 8 = .ok (.iload_n 2, 1) := by decide +kernel
theorem dX11_put_9 : decode cX11_put 9 = .ok (.i2l, 1) := by decide +kernel
theorem dX11_put_10 : decode cX11_put 10 = .ok (.invokestatic 74, 3) := by decide +kernel
theorem dX11_put_13 : decode cX11_put 13 = .ok (.ifCond .eq 20, 3) := by decide +kernel
theorem dX11_put_16 : decode cX11_put 16 = .ok (.iload_n 3, 1) := by decide +kernel
theorem dX11_put_17 : decode cX11_put 17 = .ok (.i2l, 1) := by decide +kernel
theorem dX11_put_18 : decode cX11_put 18 = .ok (.invokestatic 74, 3) := by decide +kernel
theorem dX11_put_21 : decode cX11_put 21 = .ok (.ifCond .eq 12, 3) := by decide +kernel
theorem dX11_put_24 : decode cX11_put 24 = .ok (.iload 4, 2) := by decide +kernel
theorem dX11_put_26 : decode cX11_put 26 = .ok (.i2l, 1) := by decide +kernel
theorem dX11_put_27 : decode cX11_put 27 = .ok (.invokestatic 74, 3) := by decide +kernel
theorem dX11_put_30 : decode cX11_put 30 = .ok (.ifCond .ne 6, 3) := by decide +kernel
theorem dX11_put_33 : decode cX11_put 33 = .ok (.ldc 85, 2) := by decide +kernel
theorem dX11_put_35 : decode cX11_put 35 = .ok (.ireturn, 1) := by decide +kernel
theorem dX11_put_36 : decode cX11_put 36 = .ok (.iload_n 1, 1) := by decide +kernel
theorem dX11_put_37 : decode cX11_put 37 = .ok (.i2l, 1) := by decide +kernel
theorem dX11_put_38 : decode cX11_put 38 = .ok (.iload 4, 2) := by decide +kernel
theorem dX11_put_40 : decode cX11_put 40 = .ok (.i2l, 1) := by decide +kernel
theorem dX11_put_41 : decode cX11_put 41 = .ok (.lmul, 1) := by decide +kernel
theorem dX11_put_42 : decode cX11_put 42 = .ok (.iload_n 2, 1) := by decide +kernel
theorem dX11_put_43 : decode cX11_put 43 = .ok (.i2l, 1) := by decide +kernel
theorem dX11_put_44 : decode cX11_put 44 = .ok (.iload_n 3, 1) := by decide +kernel
theorem dX11_put_45 : decode cX11_put 45 = .ok (.i2l, 1) := by decide +kernel
theorem dX11_put_46 : decode cX11_put 46 = .ok (.lmul, 1) := by decide +kernel
theorem dX11_put_47 : decode cX11_put 47 = .ok (.lsub, 1) := by decide +kernel
theorem dX11_put_48 : decode cX11_put 48 = .ok (.lconst 1, 1) := by decide +kernel
theorem dX11_put_49 : decode cX11_put 49 = .ok (.lcmp, 1) := by decide +kernel
theorem dX11_put_50 : decode cX11_put 50 = .ok (.ifCond .eq 6, 3) := by decide +kernel
theorem dX11_put_53 : decode cX11_put 53 = .ok (.ldc 115, 2) := by decide +kernel
theorem dX11_put_55 : decode cX11_put 55 = .ok (.ireturn, 1) := by decide +kernel
theorem dX11_put_56 : decode cX11_put 56 = .ok (.aload_n 0, 1) := by decide +kernel
theorem dX11_put_57 : decode cX11_put 57 = .ok (.getfield 7, 3) := by decide +kernel
theorem dX11_put_60 : decode cX11_put 60 = .ok (.iconst 0, 1) := by decide +kernel
theorem dX11_put_61 : decode cX11_put 61 = .ok (.iaload, 1) := by decide +kernel
theorem dX11_put_62 : decode cX11_put 62 = .ok (.bipush 12, 2) := by decide +kernel
theorem dX11_put_64 : decode cX11_put 64 = .ok (.if_icmp .ne 6, 3) := by decide +kernel
theorem dX11_put_67 : decode cX11_put 67 = .ok (.ldc 89, 2) := by decide +kernel
theorem dX11_put_69 : decode cX11_put 69 = .ok (.ireturn, 1) := by decide +kernel
theorem dX11_put_70 : decode cX11_put 70 = .ok (.aload_n 0, 1) := by decide +kernel
theorem dX11_put_71 : decode cX11_put 71 = .ok (.iload_n 1, 1) := by decide +kernel
theorem dX11_put_72 : decode cX11_put 72 = .ok (.i2l, 1) := by decide +kernel
theorem dX11_put_73 : decode cX11_put 73 = .ok (.iload_n 2, 1) := by decide +kernel
theorem dX11_put_74 : decode cX11_put 74 = .ok (.i2l, 1) := by decide +kernel
theorem dX11_put_75 : decode cX11_put 75 = .ok (.iload_n 3, 1) := by decide +kernel
theorem dX11_put_76 : decode cX11_put 76 = .ok (.i2l, 1) := by decide +kernel
theorem dX11_put_77 : decode cX11_put 77 = .ok (.iload 4, 2) := by decide +kernel
theorem dX11_put_79 : decode cX11_put 79 = .ok (.i2l, 1) := by decide +kernel
theorem dX11_put_80 : decode cX11_put 80 = .ok (.invokevirtual 70, 3) := by decide +kernel
theorem dX11_put_83 : decode cX11_put 83 = .ok (.aload_n 0, 1) := by decide +kernel
theorem dX11_put_84 : decode cX11_put 84 = .ok (.invokevirtual 111, 3) := by decide +kernel
theorem dX11_put_87 : decode cX11_put 87 = .ok (.ireturn, 1) := by decide +kernel
theorem dX11_isSquare_0 : decode cX11_isSquare 0 = .ok (.iload_n 1, 1) := by decide +kernel
theorem dX11_isSquare_1 : decode cX11_isSquare 1 = .ok (.i2l, 1) := by decide +kernel
theorem dX11_isSquare_2 : decode cX11_isSquare 2 = .ok (.lconst 0, 1) := by decide +kernel
theorem dX11_isSquare_3 : decode cX11_isSquare 3 = .ok (.aload_n 0, 1) := by decide +kernel
theorem dX11_isSquare_4 : decode cX11_isSquare 4 = .ok (.getfield 7, 3) := by decide +kernel
theorem dX11_isSquare_7 : decode cX11_isSquare 7 = .ok (.iconst 0, 1) := by decide +kernel
end
section
theorem dX11_isSquare_8 : decode cX11_isSquare 8 = .ok (.iaload, 1) := by decide +kernel
theorem dX11_isSquare_9 : decode cX11_isSquare 9 = .ok (.iconst 1, 1) := by decide +kernel
theorem dX11_isSquare_10 : decode cX11_isSquare 10 = .ok (.isub, 1) := by decide +kernel
theorem dX11_isSquare_11 : decode cX11_isSquare 11 = .ok (.i2l, 1) := by decide +kernel
theorem dX11_isSquare_12 : decode cX11_isSquare 12 = .ok (.invokestatic 53, 3) := by decide +kernel
theorem dX11_isSquare_15 : decode cX11_isSquare 15 = .ok (.ireturn, 1) := by decide +kernel
theorem dX11_far_0 : decode cX11_far 0 = .ok (.lload_n 0, 1) := by decide +kernel
theorem dX11_far_1 : decode cX11_far 1 = .ok (.lconst 0, 1) := by decide +kernel
theorem dX11_far_2 : decode cX11_far 2 = .ok (.lcmp, 1) := by decide +kernel
theorem dX11_far_3 : decode cX11_far 3 = .ok (.ifCond .ge 9, 3) := by decide +kernel
theorem dX11_far_6 : decode cX11_far 6 = .ok (.lconst 0, 1) := by decide +kernel
theorem dX11_far_7 : decode cX11_far 7 = .ok (.lload_n 0, 1) := by decide +kernel
theorem dX11_far_8 : decode cX11_far 8 = .ok (.lsub, 1) := by decide +kernel
theorem dX11_far_9 : decode cX11_far 9 = .ok (.goto 4, 3) := by decide +kernel
theorem dX11_far_12 : decode cX11_far 12 = .ok (.lload_n 0, 1) := by decide +kernel
theorem dX11_far_13 : decode cX11_far 13 = .ok (.lreturn, 1) := by decide +kernel
theorem dX11_divisor_0 : decode cX11_divisor 0 = .ok (.lload_n 0, 1) := by decide +kernel
theorem dX11_divisor_1 : decode cX11_divisor 1 = .ok (.invokestatic 116, 3) := by decide +kernel
theorem dX11_divisor_4 : decode cX11_divisor 4 = .ok (.lstore 4, 2) := by decide +kernel
theorem dX11_divisor_6 : decode cX11_divisor 6 = .ok (.lload_n 2, 1) := by decide +kernel
theorem dX11_divisor_7 : decode cX11_divisor 7 = .ok (.invokestatic 116, 3) := by decide +kernel
theorem dX11_divisor_10 : decode cX11_divisor 10 = .ok (.lstore 6, 2) := by decide +kernel
theorem dX11_divisor_12 : decode cX11_divisor 12 = .ok (.lload 6, 2) := by decide +kernel
theorem dX11_divisor_14 : decode cX11_divisor 14 = .ok (.lconst 0, 1) := by decide +kernel
theorem dX11_divisor_15 : decode cX11_divisor 15 = .ok (.lcmp, 1) := by decide +kernel
theorem dX11_divisor_16 : decode cX11_divisor 16 = .ok (.ifCond .eq 21, 3) := by decide +kernel
theorem dX11_divisor_19 : decode cX11_divisor 19 = .ok (.lload 4, 2) := by decide +kernel
theorem dX11_divisor_21 : decode cX11_divisor 21 = .ok (.lload 6, 2) := by decide +kernel
theorem dX11_divisor_23 : decode cX11_divisor 23 = .ok (.lrem, 1) := by decide +kernel
theorem dX11_divisor_24 : decode cX11_divisor 24 = .ok (.lstore 8, 2) := by decide +kernel
theorem dX11_divisor_26 : decode cX11_divisor 26 = .ok (.lload 6, 2) := by decide +kernel
theorem dX11_divisor_28 : decode cX11_divisor 28 = .ok (.lstore 4, 2) := by decide +kernel
theorem dX11_divisor_30 : decode cX11_divisor 30 = .ok (.lload 8, 2) := by decide +kernel
theorem dX11_divisor_32 : decode cX11_divisor 32 = .ok (.lstore 6, 2) := by decide +kernel
theorem dX11_divisor_34 : decode cX11_divisor 34 = .ok (.goto (-22), 3) := by decide +kernel
theorem dX11_divisor_37 : decode cX11_divisor 37 = .ok (.lload 4, 2) := by decide +kernel
theorem dX11_divisor_39 : decode cX11_divisor 39 = .ok (.lreturn, 1) := by decide +kernel
theorem dX11_root_0 : decode cX11_root 0 = .ok (.lconst 0, 1) := by decide +kernel
theorem dX11_root_1 : decode cX11_root 1 = .ok (.lstore_n 2, 1) := by decide +kernel
theorem dX11_root_2 : decode cX11_root 2 = .ok (.ldc2_w 120, 3) := by decide +kernel
theorem dX11_root_5 : decode cX11_root 5 = .ok (.lstore 4, 2) := by decide +kernel
theorem dX11_root_7 : decode cX11_root 7 = .ok (.lload 4, 2) := by decide +kernel
theorem dX11_root_9 : decode cX11_root 9 = .ok (.lconst 0, 1) := by decide +kernel
theorem dX11_root_10 : decode cX11_root 10 = .ok (.lcmp, 1) := by decide +kernel
theorem dX11_root_11 : decode cX11_root 11 = .ok (.ifCond .le 35, 3) := by decide +kernel
theorem dX11_root_14 : decode cX11_root 14 = .ok (.lload_n 2, 1) := by decide +kernel
theorem dX11_root_15 : decode cX11_root 15 = .ok (.lload 4, 2) := by decide +kernel
theorem dX11_root_17 : decode cX11_root 17 = .ok (.ladd, 1) := by decide +kernel
theorem dX11_root_18 : decode cX11_root 18 = .ok (.lstore 6, 2) := by decide +kernel
theorem dX11_root_20 : decode cX11_root 20 = .ok (.lload 6, 2) := by decide +kernel
theorem dX11_root_22 : decode cX11_root 22 = .ok (.lload 6, 2) := by decide +kernel
theorem dX11_root_24 : decode cX11_root 24 = .ok (.lmul, 1) := by decide +kernel
theorem dX11_root_25 : decode cX11_root 25 = .ok (.lload_n 0, 1) := by decide +kernel
theorem dX11_root_26 : decode cX11_root 26 = .ok (.lcmp, 1) := by decide +kernel
theorem dX11_root_27 : decode cX11_root 27 = .ok (.ifCond .gt 8, 3) := by decide +kernel
theorem dX11_root_30 : decode cX11_root 30 = .ok (.lload 6, 2) := by decide +kernel
theorem dX11_root_32 : decode cX11_root 32 = .ok (.goto 4, 3) := by decide +kernel
theorem dX11_root_35 : decode cX11_root 35 = .ok (.lload_n 2, 1) := by decide +kernel
theorem dX11_root_36 : decode cX11_root 36 = .ok (.lstore_n 2, 1) := by decide +kernel
theorem dX11_root_37 : decode cX11_root 37 = .ok (.lload 4, 2) := by decide +kernel
theorem dX11_root_39 : decode cX11_root 39 = .ok (.iconst 1, 1) := by decide +kernel
theorem dX11_root_40 : decode cX11_root 40 = .ok (.lshr, 1) := by decide +kernel
theorem dX11_root_41 : decode cX11_root 41 = .ok (.lstore 4, 2) := by decide +kernel
theorem dX11_root_43 : decode cX11_root 43 = .ok (.goto (-36), 3) := by decide +kernel
theorem dX11_root_46 : decode cX11_root 46 = .ok (.lload_n 2, 1) := by decide +kernel
theorem dX11_root_47 : decode cX11_root 47 = .ok (.lreturn, 1) := by decide +kernel
theorem dX11_floor_0 : decode cX11_floor 0 = .ok (.lload_n 0, 1) := by decide +kernel
theorem dX11_floor_1 : decode cX11_floor 1 = .ok (.lload_n 2, 1) := by decide +kernel
theorem dX11_floor_2 : decode cX11_floor 2 = .ok (.ldiv, 1) := by decide +kernel
theorem dX11_floor_3 : decode cX11_floor 3 = .ok (.lstore 4, 2) := by decide +kernel
theorem dX11_floor_5 : decode cX11_floor 5 = .ok (.lload 4, 2) := by decide +kernel
theorem dX11_floor_7 : decode cX11_floor 7 = .ok (.lload_n 2, 1) := by decide +kernel
theorem dX11_floor_8 : decode cX11_floor 8 = .ok (.lmul, 1) := by decide +kernel
theorem dX11_floor_9 : decode cX11_floor 9 = .ok (.lload_n 0, 1) := by decide +kernel
theorem dX11_floor_10 : decode cX11_floor 10 = .ok (.lcmp, 1) := by decide +kernel
theorem dX11_floor_11 : decode cX11_floor 11 = .ok (.ifCond .eq 35, 3) := by decide +kernel
theorem dX11_floor_14 : decode cX11_floor 14 = .ok (.lload_n 0, 1) := by decide +kernel
theorem dX11_floor_15 : decode cX11_floor 15 = .ok (.lconst 0, 1) := by decide +kernel
theorem dX11_floor_16 : decode cX11_floor 16 = .ok (.lcmp, 1) := by decide +kernel
theorem dX11_floor_17 : decode cX11_floor 17 = .ok (.ifCond .ge 7, 3) := by decide +kernel
theorem dX11_floor_20 : decode cX11_floor 20 = .ok (.iconst 1, 1) := by decide +kernel
theorem dX11_floor_21 : decode cX11_floor 21 = .ok (.goto 4, 3) := by decide +kernel
theorem dX11_floor_24 : decode cX11_floor 24 = .ok (.iconst 0, 1) := by decide +kernel
theorem dX11_floor_25 : decode cX11_floor 25 = .ok (.lload_n 2, 1) := by decide +kernel
theorem dX11_floor_26 : decode cX11_floor 26 = .ok (.lconst 0, 1) := by decide +kernel
theorem dX11_floor_27 : decode cX11_floor 27 = .ok (.lcmp, 1) := by decide +kernel
theorem dX11_floor_28 : decode cX11_floor 28 = .ok (.ifCond .ge 7, 3) := by decide +kernel
theorem dX11_floor_31 : decode cX11_floor 31 = .ok (.iconst 1, 1) := by decide +kernel
theorem dX11_floor_32 : decode cX11_floor 32 = .ok (.goto 4, 3) := by decide +kernel
theorem dX11_floor_35 : decode cX11_floor 35 = .ok (.iconst 0, 1) := by decide +kernel
theorem dX11_floor_36 : decode cX11_floor 36 = .ok (.if_icmp .eq 10, 3) := by decide +kernel
theorem dX11_floor_39 : decode cX11_floor 39 = .ok (.lload 4, 2) := by decide +kernel
theorem dX11_floor_41 : decode cX11_floor 41 = .ok (.lconst 1, 1) := by decide +kernel
theorem dX11_floor_42 : decode cX11_floor 42 = .ok (.lsub, 1) := by decide +kernel
theorem dX11_floor_43 : decode cX11_floor 43 = .ok (.goto 5, 3) := by decide +kernel
theorem dX11_floor_46 : decode cX11_floor 46 = .ok (.lload 4, 2) := by decide +kernel
theorem dX11_floor_48 : decode cX11_floor 48 = .ok (.lreturn, 1) := by decide +kernel
theorem dX11_part_0 : decode cX11_part 0 = .ok (.lload_n 2, 1) := by decide +kernel
theorem dX11_part_1 : decode cX11_part 1 = .ok (.lconst 0, 1) := by decide +kernel
theorem dX11_part_2 : decode cX11_part 2 = .ok (.lcmp, 1) := by decide +kernel
theorem dX11_part_3 : decode cX11_part 3 = .ok (.ifCond .ge 9, 3) := by decide +kernel
theorem dX11_part_6 : decode cX11_part 6 = .ok (.lconst 0, 1) := by decide +kernel
theorem dX11_part_7 : decode cX11_part 7 = .ok (.lload_n 0, 1) := by decide +kernel
theorem dX11_part_8 : decode cX11_part 8 = .ok (.lsub, 1) := by decide +kernel
theorem dX11_part_9 : decode cX11_part 9 = .ok (.goto 4, 3) := by decide +kernel
theorem dX11_part_12 : decode cX11_part 12 = .ok (.lload_n 0, 1) := by decide +kernel
theorem dX11_part_13 : decode cX11_part 13 = .ok (.lload 4, 2) := by decide +kernel
theorem dX11_part_15 : decode cX11_part 15 = .ok (.ladd, 1) := by decide +kernel
theorem dX11_part_16 : decode cX11_part 16 = .ok (.lload_n 2, 1) := by decide +kernel
theorem dX11_part_17 : decode cX11_part 17 = .ok (.invokestatic 116, 3) := by decide +kernel
theorem dX11_part_20 : decode cX11_part 20 = .ok (.invokestatic 122, 3) := by decide +kernel
theorem dX11_part_23 : decode cX11_part 23 = .ok (.lreturn, 1) := by decide +kernel
theorem dX11_carries_0 : decode cX11_carries 0 = .ok (.aload_n 0, 1) := by decide +kernel
theorem dX11_carries_1 : decode cX11_carries 1 = .ok (.getfield 126, 3) := by decide +kernel
theorem dX11_carries_4 : decode cX11_carries 4 = .ok (.aload_n 0, 1) := by decide +kernel
theorem dX11_carries_5 : decode cX11_carries 5 = .ok (.getfield 126, 3) := by decide +kernel
theorem dX11_carries_8 : decode cX11_carries 8 = .ok (.lmul, 1) := by decide +kernel
theorem dX11_carries_9 : decode cX11_carries 9 = .ok (.ldc2_w 129, 3) := by decide +kernel
theorem dX11_carries_12 : decode cX11_carries 12 = .ok (.lsub, 1) := by decide +kernel
theorem dX11_carries_13 : decode cX11_carries 13 = .ok (.invokestatic 131, 3) := by decide +kernel
theorem dX11_carries_16 : decode cX11_carries 16 = .ok (.lstore_n 1, 1) := by decide +kernel
theorem dX11_carries_17 : decode cX11_carries 17 = .ok (.iconst 1, 1) := by decide +kernel
theorem dX11_carries_18 : decode cX11_carries 18 = .ok (.istore_n 3, 1) := by decide +kernel
theorem dX11_carries_19 : decode cX11_carries 19 = .ok (.aload_n 0, 1) := by decide +kernel
theorem dX11_carries_20 : decode cX11_carries 20 = .ok (.getfield 61, 3) := by decide +kernel
theorem dX11_carries_23 : decode cX11_carries 23 = .ok (.lconst 0, 1) := by decide +kernel
theorem dX11_carries_24 : decode cX11_carries 24 = .ok (.lcmp, 1) := by decide +kernel
theorem dX11_carries_25 : decode cX11_carries 25 = .ok (.ifCond .ge 7, 3) := by decide +kernel
theorem dX11_carries_28 : decode cX11_carries 28 = .ok (.iconst 1, 1) := by decide +kernel
theorem dX11_carries_29 : decode cX11_carries 29 = .ok (.goto 4, 3) := by decide +kernel
theorem dX11_carries_32 : decode cX11_carries 32 = .ok (.iconst 0, 1) := by decide +kernel
theorem dX11_carries_33 : decode cX11_carries 33 = .ok (.aload_n 0, 1) := by decide +kernel
theorem dX11_carries_34 : decode cX11_carries 34 = .ok (.getfield 64, 3) := by decide +kernel
theorem dX11_carries_37 : decode cX11_carries 37 = .ok (.lconst 0, 1) := by decide +kernel
theorem dX11_carries_38 : decode cX11_carries 38 = .ok (.lcmp, 1) := by decide +kernel
theorem dX11_carries_39 : decode cX11_carries 39 = .ok (.ifCond .ge 7, 3) := by decide +kernel
theorem dX11_carries_42 : decode cX11_carries 42 = .ok (.iconst 1, 1) := by decide +kernel
theorem dX11_carries_43 : decode cX11_carries 43 = .ok (.goto 4, 3) := by decide +kernel
theorem dX11_carries_46 : decode cX11_carries 46 = .ok (.iconst 0, 1) := by decide +kernel
theorem dX11_carries_47 : decode cX11_carries 47 = .ok (.if_icmp .eq 205, 3) := by decide +kernel
theorem dX11_carries_50 : decode cX11_carries 50 = .ok (.iload_n 3, 1) := by decide +kernel
theorem dX11_carries_51 : decode cX11_carries 51 = .ok (.ifCond .eq 15, 3) := by decide +kernel
theorem dX11_carries_54 : decode cX11_carries 54 = .ok (.aload_n 0, 1) := by decide +kernel
theorem dX11_carries_55 : decode cX11_carries 55 = .ok (.getfield 57, 3) := by decide +kernel
theorem dX11_carries_58 : decode cX11_carries 58 = .ok (.aload_n 0, 1) := by decide +kernel
theorem dX11_carries_59 : decode cX11_carries 59 = .ok (.getfield 67, 3) := by decide +kernel
theorem dX11_carries_62 : decode cX11_carries 62 = .ok (.lsub, 1) := by decide +kernel
theorem dX11_carries_63 : decode cX11_carries 63 = .ok (.goto 12, 3) := by decide +kernel
theorem dX11_carries_66 : decode cX11_carries 66 = .ok (.aload_n 0, 1) := by decide +kernel
theorem dX11_carries_67 : decode cX11_carries 67 = .ok (.getfield 67, 3) := by decide +kernel
theorem dX11_carries_70 : decode cX11_carries 70 = .ok (.aload_n 0, 1) := by decide +kernel
theorem dX11_carries_71 : decode cX11_carries 71 = .ok (.getfield 57, 3) := by decide +kernel
theorem dX11_carries_74 : decode cX11_carries 74 = .ok (.lsub, 1) := by decide +kernel
theorem dX11_carries_75 : decode cX11_carries 75 = .ok (.lstore 4, 2) := by decide +kernel
theorem dX11_carries_77 : decode cX11_carries 77 = .ok (.iload_n 3, 1) := by decide +kernel
theorem dX11_carries_78 : decode cX11_carries 78 = .ok (.ifCond .eq 14, 3) := by decide +kernel
theorem dX11_carries_81 : decode cX11_carries 81 = .ok (.ldc2_w 134, 3) := by decide +kernel
theorem dX11_carries_84 : decode cX11_carries 84 = .ok (.aload_n 0, 1) := by decide +kernel
theorem dX11_carries_85 : decode cX11_carries 85 = .ok (.getfield 64, 3) := by decide +kernel
theorem dX11_carries_88 : decode cX11_carries 88 = .ok (.lmul, 1) := by decide +kernel
theorem dX11_carries_89 : decode cX11_carries 89 = .ok (.goto 11, 3) := by decide +kernel
theorem dX11_carries_92 : decode cX11_carries 92 = .ok (.ldc2_w 134, 3) := by decide +kernel
theorem dX11_carries_95 : decode cX11_carries 95 = .ok (.aload_n 0, 1) := by decide +kernel
theorem dX11_carries_96 : decode cX11_carries 96 = .ok (.getfield 61, 3) := by decide +kernel
theorem dX11_carries_99 : decode cX11_carries 99 = .ok (.lmul, 1) := by decide +kernel
theorem dX11_carries_100 : decode cX11_carries 100 = .ok (.lstore 6, 2) := by decide +kernel
theorem dX11_carries_102 : decode cX11_carries 102 = .ok (.lload 4, 2) := by decide +kernel
theorem dX11_carries_104 : decode cX11_carries 104 = .ok (.lload 6, 2) := by decide +kernel
theorem dX11_carries_106 : decode cX11_carries 106 = .ok (.lload_n 1, 1) := by decide +kernel
theorem dX11_carries_107 : decode cX11_carries 107 = .ok (.invokestatic 136, 3) := by decide +kernel
theorem dX11_carries_110 : decode cX11_carries 110 = .ok (.lstore 8, 2) := by decide +kernel
theorem dX11_carries_112 : decode cX11_carries 112 = .ok (.iload_n 3, 1) := by decide +kernel
theorem dX11_carries_113 : decode cX11_carries 113 = .ok (.ifCond .eq 66, 3) := by decide +kernel
theorem dX11_carries_116 : decode cX11_carries 116 = .ok (.aload_n 0, 1) := by decide +kernel
theorem dX11_carries_117 : decode cX11_carries 117 = .ok (.aload_n 0, 1) := by decide +kernel
theorem dX11_carries_118 : decode cX11_carries 118 = .ok (.getfield 57, 3) := by decide +kernel
theorem dX11_carries_121 : decode cX11_carries 121 = .ok (.lload 8, 2) := by decide +kernel
theorem dX11_carries_123 : decode cX11_carries 123 = .ok (.aload_n 0, 1) := by decide +kernel
theorem dX11_carries_124 : decode cX11_carries 124 = .ok (.getfield 64, 3) := by decide +kernel
theorem dX11_carries_127 : decode cX11_carries 127 = .ok (.lmul, 1) := by decide +kernel
theorem dX11_carries_128 : decode cX11_carries 128 = .ok (.lsub, 1) := by decide +kernel
theorem dX11_carries_129 : decode cX11_carries 129 = .ok (.aload_n 0, 1) := by decide +kernel
theorem dX11_carries_130 : decode cX11_carries 130 = .ok (.getfield 57, 3) := by decide +kernel
theorem dX11_carries_133 : decode cX11_carries 133 = .ok (.lload 8, 2) := by decide +kernel
theorem dX11_carries_135 : decode cX11_carries 135 = .ok (.lmul, 1) := by decide +kernel
theorem dX11_carries_136 : decode cX11_carries 136 = .ok (.aload_n 0, 1) := by decide +kernel
theorem dX11_carries_137 : decode cX11_carries 137 = .ok (.getfield 61, 3) := by decide +kernel
theorem dX11_carries_140 : decode cX11_carries 140 = .ok (.ladd, 1) := by decide +kernel
theorem dX11_carries_141 : decode cX11_carries 141 = .ok (.lload 8, 2) := by decide +kernel
theorem dX11_carries_143 : decode cX11_carries 143 = .ok (.aload_n 0, 1) := by decide +kernel
theorem dX11_carries_144 : decode cX11_carries 144 = .ok (.getfield 64, 3) := by decide +kernel
theorem dX11_carries_147 : decode cX11_carries 147 = .ok (.lload 8, 2) := by decide +kernel
theorem dX11_carries_149 : decode cX11_carries 149 = .ok (.lmul, 1) := by decide +kernel
theorem dX11_carries_150 : decode cX11_carries 150 = .ok (.aload_n 0, 1) := by decide +kernel
theorem dX11_carries_151 : decode cX11_carries 151 = .ok (.getfield 67, 3) := by decide +kernel
theorem dX11_carries_154 : decode cX11_carries 154 = .ok (.ladd, 1) := by decide +kernel
theorem dX11_carries_155 : decode cX11_carries 155 = .ok (.lmul, 1) := by decide +kernel
theorem dX11_carries_156 : decode cX11_carries 156 = .ok (.lsub, 1) := by decide +kernel
theorem dX11_carries_157 : decode cX11_carries 157 = .ok (.aload_n 0, 1) := by decide +kernel
theorem dX11_carries_158 : decode cX11_carries 158 = .ok (.getfield 64, 3) := by decide +kernel
theorem dX11_carries_161 : decode cX11_carries 161 = .ok (.aload_n 0, 1) := by decide +kernel
theorem dX11_carries_162 : decode cX11_carries 162 = .ok (.getfield 64, 3) := by decide +kernel
theorem dX11_carries_165 : decode cX11_carries 165 = .ok (.lload 8, 2) := by decide +kernel
theorem dX11_carries_167 : decode cX11_carries 167 = .ok (.lmul, 1) := by decide +kernel
theorem dX11_carries_168 : decode cX11_carries 168 = .ok (.aload_n 0, 1) := by decide +kernel
theorem dX11_carries_169 : decode cX11_carries 169 = .ok (.getfield 67, 3) := by decide +kernel
theorem dX11_carries_172 : decode cX11_carries 172 = .ok (.ladd, 1) := by decide +kernel
theorem dX11_carries_173 : decode cX11_carries 173 = .ok (.invokevirtual 70, 3) := by decide +kernel
theorem dX11_carries_176 : decode cX11_carries 176 = .ok (.goto 63, 3) := by decide +kernel
theorem dX11_carries_179 : decode cX11_carries 179 = .ok (.aload_n 0, 1) := by decide +kernel
theorem dX11_carries_180 : decode cX11_carries 180 = .ok (.aload_n 0, 1) := by decide +kernel
theorem dX11_carries_181 : decode cX11_carries 181 = .ok (.getfield 57, 3) := by decide +kernel
theorem dX11_carries_184 : decode cX11_carries 184 = .ok (.aload_n 0, 1) := by decide +kernel
theorem dX11_carries_185 : decode cX11_carries 185 = .ok (.getfield 61, 3) := by decide +kernel
theorem dX11_carries_188 : decode cX11_carries 188 = .ok (.lload 8, 2) := by decide +kernel
theorem dX11_carries_190 : decode cX11_carries 190 = .ok (.lmul, 1) := by decide +kernel
theorem dX11_carries_191 : decode cX11_carries 191 = .ok (.ladd, 1) := by decide +kernel
theorem dX11_carries_192 : decode cX11_carries 192 = .ok (.aload_n 0, 1) := by decide +kernel
theorem dX11_carries_193 : decode cX11_carries 193 = .ok (.getfield 61, 3) := by decide +kernel
theorem dX11_carries_196 : decode cX11_carries 196 = .ok (.aload_n 0, 1) := by decide +kernel
theorem dX11_carries_197 : decode cX11_carries 197 = .ok (.getfield 64, 3) := by decide +kernel
theorem dX11_carries_200 : decode cX11_carries 200 = .ok (.aload_n 0, 1) := by decide +kernel
theorem dX11_carries_201 : decode cX11_carries 201 = .ok (.getfield 67, 3) := by decide +kernel
theorem dX11_carries_204 : decode cX11_carries 204 = .ok (.lload 8, 2) := by decide +kernel
theorem dX11_carries_206 : decode cX11_carries 206 = .ok (.lmul, 1) := by decide +kernel
theorem dX11_carries_207 : decode cX11_carries 207 = .ok (.ladd, 1) := by decide +kernel
theorem dX11_carries_208 : decode cX11_carries 208 = .ok (.lload 8, 2) := by decide +kernel
theorem dX11_carries_210 : decode cX11_carries 210 = .ok (.aload_n 0, 1) := by decide +kernel
theorem dX11_carries_211 : decode cX11_carries 211 = .ok (.getfield 57, 3) := by decide +kernel
theorem dX11_carries_214 : decode cX11_carries 214 = .ok (.aload_n 0, 1) := by decide +kernel
theorem dX11_carries_215 : decode cX11_carries 215 = .ok (.getfield 61, 3) := by decide +kernel
theorem dX11_carries_218 : decode cX11_carries 218 = .ok (.lload 8, 2) := by decide +kernel
theorem dX11_carries_220 : decode cX11_carries 220 = .ok (.lmul, 1) := by decide +kernel
theorem dX11_carries_221 : decode cX11_carries 221 = .ok (.ladd, 1) := by decide +kernel
theorem dX11_carries_222 : decode cX11_carries 222 = .ok (.lmul, 1) := by decide +kernel
theorem dX11_carries_223 : decode cX11_carries 223 = .ok (.lsub, 1) := by decide +kernel
theorem dX11_carries_224 : decode cX11_carries 224 = .ok (.aload_n 0, 1) := by decide +kernel
theorem dX11_carries_225 : decode cX11_carries 225 = .ok (.getfield 67, 3) := by decide +kernel
theorem dX11_carries_228 : decode cX11_carries 228 = .ok (.lload 8, 2) := by decide +kernel
theorem dX11_carries_230 : decode cX11_carries 230 = .ok (.aload_n 0, 1) := by decide +kernel
theorem dX11_carries_231 : decode cX11_carries 231 = .ok (.getfield 61, 3) := by decide +kernel
theorem dX11_carries_234 : decode cX11_carries 234 = .ok (.lmul, 1) := by decide +kernel
theorem dX11_carries_235 : decode cX11_carries 235 = .ok (.lsub, 1) := by decide +kernel
theorem dX11_carries_236 : decode cX11_carries 236 = .ok (.invokevirtual 70, 3) := by decide +kernel
theorem dX11_carries_239 : decode cX11_carries 239 = .ok (.iload_n 3, 1) := by decide +kernel
theorem dX11_carries_240 : decode cX11_carries 240 = .ok (.ifCond .ne 7, 3) := by decide +kernel
theorem dX11_carries_243 : decode cX11_carries 243 = .ok (.iconst 1, 1) := by decide +kernel
theorem dX11_carries_244 : decode cX11_carries 244 = .ok (.goto 4, 3) := by decide +kernel
theorem dX11_carries_247 : decode cX11_carries 247 = .ok (.iconst 0, 1) := by decide +kernel
theorem dX11_carries_248 : decode cX11_carries 248 = .ok (.istore_n 3, 1) := by decide +kernel
theorem dX11_carries_249 : decode cX11_carries 249 = .ok (.goto (-230), 3) := by decide +kernel
theorem dX11_carries_252 : decode cX11_carries 252 = .ok (.aload_n 0, 1) := by decide +kernel
theorem dX11_carries_253 : decode cX11_carries 253 = .ok (.getfield 61, 3) := by decide +kernel
theorem dX11_carries_256 : decode cX11_carries 256 = .ok (.lconst 0, 1) := by decide +kernel
theorem dX11_carries_257 : decode cX11_carries 257 = .ok (.lcmp, 1) := by decide +kernel
theorem dX11_carries_258 : decode cX11_carries 258 = .ok (.ifCond .ge 27, 3) := by decide +kernel
theorem dX11_carries_261 : decode cX11_carries 261 = .ok (.aload_n 0, 1) := by decide +kernel
theorem dX11_carries_262 : decode cX11_carries 262 = .ok (.aload_n 0, 1) := by decide +kernel
theorem dX11_carries_263 : decode cX11_carries 263 = .ok (.getfield 67, 3) := by decide +kernel
theorem dX11_carries_266 : decode cX11_carries 266 = .ok (.lconst 0, 1) := by decide +kernel
theorem dX11_carries_267 : decode cX11_carries 267 = .ok (.aload_n 0, 1) := by decide +kernel
theorem dX11_carries_268 : decode cX11_carries 268 = .ok (.getfield 64, 3) := by decide +kernel
theorem dX11_carries_271 : decode cX11_carries 271 = .ok (.lsub, 1) := by decide +kernel
theorem dX11_carries_272 : decode cX11_carries 272 = .ok (.lconst 0, 1) := by decide +kernel
theorem dX11_carries_273 : decode cX11_carries 273 = .ok (.aload_n 0, 1) := by decide +kernel
theorem dX11_carries_274 : decode cX11_carries 274 = .ok (.getfield 61, 3) := by decide +kernel
theorem dX11_carries_277 : decode cX11_carries 277 = .ok (.lsub, 1) := by decide +kernel
theorem dX11_carries_278 : decode cX11_carries 278 = .ok (.aload_n 0, 1) := by decide +kernel
theorem dX11_carries_279 : decode cX11_carries 279 = .ok (.getfield 57, 3) := by decide +kernel
theorem dX11_carries_282 : decode cX11_carries 282 = .ok (.invokevirtual 70, 3) := by decide +kernel
theorem dX11_carries_285 : decode cX11_carries 285 = .ok (.return_, 1) := by decide +kernel
theorem dX11_spells_0 : decode cX11_spells 0 = .ok (.aload_n 0, 1) := by decide +kernel
theorem dX11_spells_1 : decode cX11_spells 1 = .ok (.iconst 0, 1) := by decide +kernel
theorem dX11_spells_2 : decode cX11_spells 2 = .ok (.putfield 140, 3) := by decide +kernel
theorem dX11_spells_5 : decode cX11_spells 5 = .ok (.aload_n 0, 1) := by decide +kernel
theorem dX11_spells_6 : decode cX11_spells 6 = .ok (.getfield 57, 3) := by decide +kernel
theorem dX11_spells_9 : decode cX11_spells 9 = .ok (.lconst 1, 1) := by decide +kernel
theorem dX11_spells_10 : decode cX11_spells 10 = .ok (.lcmp, 1) := by decide +kernel
theorem dX11_spells_11 : decode cX11_spells 11 = .ok (.ifCond .ne 21, 3) := by decide +kernel
theorem dX11_spells_14 : decode cX11_spells 14 = .ok (.aload_n 0, 1) := by decide +kernel
theorem dX11_spells_15 : decode cX11_spells 15 = .ok (.getfield 61, 3) := by decide +kernel
theorem dX11_spells_18 : decode cX11_spells 18 = .ok (.lconst 0, 1) := by decide +kernel
theorem dX11_spells_19 : decode cX11_spells 19 = .ok (.lcmp, 1) := by decide +kernel
theorem dX11_spells_20 : decode cX11_spells 20 = .ok (.ifCond .ne 12, 3) := by decide +kernel
theorem dX11_spells_23 : decode cX11_spells 23 = .ok (.aload_n 0, 1) := by decide +kernel
theorem dX11_spells_24 : decode cX11_spells 24 = .ok (.getfield 64, 3) := by decide +kernel
theorem dX11_spells_27 : decode cX11_spells 27 = .ok (.lconst 0, 1) := by decide +kernel
theorem dX11_spells_28 : decode cX11_spells 28 = .ok (.lcmp, 1) := by decide +kernel
theorem dX11_spells_29 : decode cX11_spells 29 = .ok (.ifCond .eq 322, 3) := by decide +kernel
theorem dX11_spells_32 : decode cX11_spells 32 = .ok (.aload_n 0, 1) := by decide +kernel
theorem dX11_spells_33 : decode cX11_spells 33 = .ok (.getfield 57, 3) := by decide +kernel
theorem dX11_spells_36 : decode cX11_spells 36 = .ok (.aload_n 0, 1) := by decide +kernel
theorem dX11_spells_37 : decode cX11_spells 37 = .ok (.getfield 64, 3) := by decide +kernel
theorem dX11_spells_40 : decode cX11_spells 40 = .ok (.lcmp, 1) := by decide +kernel
theorem dX11_spells_41 : decode cX11_spells 41 = .ok (.ifCond .lt 19, 3) := by decide +kernel
theorem dX11_spells_44 : decode cX11_spells 44 = .ok (.aload_n 0, 1) := by decide +kernel
theorem dX11_spells_45 : decode cX11_spells 45 = .ok (.getfield 61, 3) := by decide +kernel
theorem dX11_spells_48 : decode cX11_spells 48 = .ok (.aload_n 0, 1) := by decide +kernel
theorem dX11_spells_49 : decode cX11_spells 49 = .ok (.getfield 67, 3) := by decide +kernel
theorem dX11_spells_52 : decode cX11_spells 52 = .ok (.lcmp, 1) := by decide +kernel
theorem dX11_spells_53 : decode cX11_spells 53 = .ok (.ifCond .lt 7, 3) := by decide +kernel
theorem dX11_spells_56 : decode cX11_spells 56 = .ok (.iconst 1, 1) := by decide +kernel
theorem dX11_spells_57 : decode cX11_spells 57 = .ok (.goto 4, 3) := by decide +kernel
theorem dX11_spells_60 : decode cX11_spells 60 = .ok (.iconst 0, 1) := by decide +kernel
theorem dX11_spells_61 : decode cX11_spells 61 = .ok (.istore_n 1, 1) := by decide +kernel
theorem dX11_spells_62 : decode cX11_spells 62 = .ok (.iload_n 1, 1) := by decide +kernel
theorem dX11_spells_63 : decode cX11_spells 63 = .ok (.ifCond .eq 126, 3) := by decide +kernel
theorem dX11_spells_66 : decode cX11_spells 66 = .ok (.aload_n 0, 1) := by decide +kernel
theorem dX11_spells_67 : decode cX11_spells 67 = .ok (.getfield 64, 3) := by decide +kernel
theorem dX11_spells_70 : decode cX11_spells 70 = .ok (.lconst 0, 1) := by decide +kernel
theorem dX11_spells_71 : decode cX11_spells 71 = .ok (.lcmp, 1) := by decide +kernel
theorem dX11_spells_72 : decode cX11_spells 72 = .ok (.ifCond .ne 15, 3) := by decide +kernel
theorem dX11_spells_75 : decode cX11_spells 75 = .ok (.aload_n 0, 1) := by decide +kernel
theorem dX11_spells_76 : decode cX11_spells 76 = .ok (.getfield 61, 3) := by decide +kernel
theorem dX11_spells_79 : decode cX11_spells 79 = .ok (.aload_n 0, 1) := by decide +kernel
theorem dX11_spells_80 : decode cX11_spells 80 = .ok (.getfield 67, 3) := by decide +kernel
theorem dX11_spells_83 : decode cX11_spells 83 = .ok (.ldiv, 1) := by decide +kernel
theorem dX11_spells_84 : decode cX11_spells 84 = .ok (.goto 67, 3) := by decide +kernel
theorem dX11_spells_87 : decode cX11_spells 87 = .ok (.aload_n 0, 1) := by decide +kernel
theorem dX11_spells_88 : decode cX11_spells 88 = .ok (.getfield 67, 3) := by decide +kernel
theorem dX11_spells_91 : decode cX11_spells 91 = .ok (.lconst 0, 1) := by decide +kernel
theorem dX11_spells_92 : decode cX11_spells 92 = .ok (.lcmp, 1) := by decide +kernel
theorem dX11_spells_93 : decode cX11_spells 93 = .ok (.ifCond .ne 15, 3) := by decide +kernel
theorem dX11_spells_96 : decode cX11_spells 96 = .ok (.aload_n 0, 1) := by decide +kernel
theorem dX11_spells_97 : decode cX11_spells 97 = .ok (.getfield 57, 3) := by decide +kernel
theorem dX11_spells_100 : decode cX11_spells 100 = .ok (.aload_n 0, 1) := by decide +kernel
theorem dX11_spells_101 : decode cX11_spells 101 = .ok (.getfield 64, 3) := by decide +kernel
theorem dX11_spells_104 : decode cX11_spells 104 = .ok (.ldiv, 1) := by decide +kernel
theorem dX11_spells_105 : decode cX11_spells 105 = .ok (.goto 46, 3) := by decide +kernel
theorem dX11_spells_108 : decode cX11_spells 108 = .ok (.aload_n 0, 1) := by decide +kernel
theorem dX11_spells_109 : decode cX11_spells 109 = .ok (.getfield 57, 3) := by decide +kernel
theorem dX11_spells_112 : decode cX11_spells 112 = .ok (.aload_n 0, 1) := by decide +kernel
theorem dX11_spells_113 : decode cX11_spells 113 = .ok (.getfield 64, 3) := by decide +kernel
theorem dX11_spells_116 : decode cX11_spells 116 = .ok (.ldiv, 1) := by decide +kernel
theorem dX11_spells_117 : decode cX11_spells 117 = .ok (.aload_n 0, 1) := by decide +kernel
theorem dX11_spells_118 : decode cX11_spells 118 = .ok (.getfield 61, 3) := by decide +kernel
theorem dX11_spells_121 : decode cX11_spells 121 = .ok (.aload_n 0, 1) := by decide +kernel
theorem dX11_spells_122 : decode cX11_spells 122 = .ok (.getfield 67, 3) := by decide +kernel
theorem dX11_spells_125 : decode cX11_spells 125 = .ok (.ldiv, 1) := by decide +kernel
theorem dX11_spells_126 : decode cX11_spells 126 = .ok (.lcmp, 1) := by decide +kernel
theorem dX11_spells_127 : decode cX11_spells 127 = .ok (.ifCond .ge 15, 3) := by decide +kernel
theorem dX11_spells_130 : decode cX11_spells 130 = .ok (.aload_n 0, 1) := by decide +kernel
theorem dX11_spells_131 : decode cX11_spells 131 = .ok (.getfield 57, 3) := by decide +kernel
theorem dX11_spells_134 : decode cX11_spells 134 = .ok (.aload_n 0, 1) := by decide +kernel
theorem dX11_spells_135 : decode cX11_spells 135 = .ok (.getfield 64, 3) := by decide +kernel
theorem dX11_spells_138 : decode cX11_spells 138 = .ok (.ldiv, 1) := by decide +kernel
theorem dX11_spells_139 : decode cX11_spells 139 = .ok (.goto 12, 3) := by decide +kernel
theorem dX11_spells_142 : decode cX11_spells 142 = .ok (.aload_n 0, 1) := by decide +kernel
theorem dX11_spells_143 : decode cX11_spells 143 = .ok (.getfield 61, 3) := by decide +kernel
theorem dX11_spells_146 : decode cX11_spells 146 = .ok (.aload_n 0, 1) := by decide +kernel
theorem dX11_spells_147 : decode cX11_spells 147 = .ok (.getfield 67, 3) := by decide +kernel
theorem dX11_spells_150 : decode cX11_spells 150 = .ok (.ldiv, 1) := by decide +kernel
theorem dX11_spells_151 : decode cX11_spells 151 = .ok (.lstore_n 2, 1) := by decide +kernel
theorem dX11_spells_152 : decode cX11_spells 152 = .ok (.aload_n 0, 1) := by decide +kernel
theorem dX11_spells_153 : decode cX11_spells 153 = .ok (.aload_n 0, 1) := by decide +kernel
theorem dX11_spells_154 : decode cX11_spells 154 = .ok (.getfield 57, 3) := by decide +kernel
theorem dX11_spells_157 : decode cX11_spells 157 = .ok (.lload_n 2, 1) := by decide +kernel
theorem dX11_spells_158 : decode cX11_spells 158 = .ok (.aload_n 0, 1) := by decide +kernel
theorem dX11_spells_159 : decode cX11_spells 159 = .ok (.getfield 64, 3) := by decide +kernel
theorem dX11_spells_162 : decode cX11_spells 162 = .ok (.lmul, 1) := by decide +kernel
theorem dX11_spells_163 : decode cX11_spells 163 = .ok (.lsub, 1) := by decide +kernel
theorem dX11_spells_164 : decode cX11_spells 164 = .ok (.aload_n 0, 1) := by decide +kernel
theorem dX11_spells_165 : decode cX11_spells 165 = .ok (.getfield 61, 3) := by decide +kernel
theorem dX11_spells_168 : decode cX11_spells 168 = .ok (.lload_n 2, 1) := by decide +kernel
theorem dX11_spells_169 : decode cX11_spells 169 = .ok (.aload_n 0, 1) := by decide +kernel
theorem dX11_spells_170 : decode cX11_spells 170 = .ok (.getfield 67, 3) := by decide +kernel
theorem dX11_spells_173 : decode cX11_spells 173 = .ok (.lmul, 1) := by decide +kernel
theorem dX11_spells_174 : decode cX11_spells 174 = .ok (.lsub, 1) := by decide +kernel
theorem dX11_spells_175 : decode cX11_spells 175 = .ok (.aload_n 0, 1) := by decide +kernel
theorem dX11_spells_176 : decode cX11_spells 176 = .ok (.getfield 64, 3) := by decide +kernel
theorem dX11_spells_179 : decode cX11_spells 179 = .ok (.aload_n 0, 1) := by decide +kernel
theorem dX11_spells_180 : decode cX11_spells 180 = .ok (.getfield 67, 3) := by decide +kernel
theorem dX11_spells_183 : decode cX11_spells 183 = .ok (.invokevirtual 70, 3) := by decide +kernel
theorem dX11_spells_186 : decode cX11_spells 186 = .ok (.goto 123, 3) := by decide +kernel
theorem dX11_spells_189 : decode cX11_spells 189 = .ok (.aload_n 0, 1) := by decide +kernel
theorem dX11_spells_190 : decode cX11_spells 190 = .ok (.getfield 57, 3) := by decide +kernel
theorem dX11_spells_193 : decode cX11_spells 193 = .ok (.lconst 0, 1) := by decide +kernel
theorem dX11_spells_194 : decode cX11_spells 194 = .ok (.lcmp, 1) := by decide +kernel
theorem dX11_spells_195 : decode cX11_spells 195 = .ok (.ifCond .ne 15, 3) := by decide +kernel
theorem dX11_spells_198 : decode cX11_spells 198 = .ok (.aload_n 0, 1) := by decide +kernel
theorem dX11_spells_199 : decode cX11_spells 199 = .ok (.getfield 67, 3) := by decide +kernel
theorem dX11_spells_202 : decode cX11_spells 202 = .ok (.aload_n 0, 1) := by decide +kernel
theorem dX11_spells_203 : decode cX11_spells 203 = .ok (.getfield 61, 3) := by decide +kernel
theorem dX11_spells_206 : decode cX11_spells 206 = .ok (.ldiv, 1) := by decide +kernel
theorem dX11_spells_207 : decode cX11_spells 207 = .ok (.goto 67, 3) := by decide +kernel
theorem dX11_spells_210 : decode cX11_spells 210 = .ok (.aload_n 0, 1) := by decide +kernel
theorem dX11_spells_211 : decode cX11_spells 211 = .ok (.getfield 61, 3) := by decide +kernel
theorem dX11_spells_214 : decode cX11_spells 214 = .ok (.lconst 0, 1) := by decide +kernel
theorem dX11_spells_215 : decode cX11_spells 215 = .ok (.lcmp, 1) := by decide +kernel
theorem dX11_spells_216 : decode cX11_spells 216 = .ok (.ifCond .ne 15, 3) := by decide +kernel
theorem dX11_spells_219 : decode cX11_spells 219 = .ok (.aload_n 0, 1) := by decide +kernel
theorem dX11_spells_220 : decode cX11_spells 220 = .ok (.getfield 64, 3) := by decide +kernel
theorem dX11_spells_223 : decode cX11_spells 223 = .ok (.aload_n 0, 1) := by decide +kernel
theorem dX11_spells_224 : decode cX11_spells 224 = .ok (.getfield 57, 3) := by decide +kernel
theorem dX11_spells_227 : decode cX11_spells 227 = .ok (.ldiv, 1) := by decide +kernel
theorem dX11_spells_228 : decode cX11_spells 228 = .ok (.goto 46, 3) := by decide +kernel
theorem dX11_spells_231 : decode cX11_spells 231 = .ok (.aload_n 0, 1) := by decide +kernel
theorem dX11_spells_232 : decode cX11_spells 232 = .ok (.getfield 64, 3) := by decide +kernel
theorem dX11_spells_235 : decode cX11_spells 235 = .ok (.aload_n 0, 1) := by decide +kernel
theorem dX11_spells_236 : decode cX11_spells 236 = .ok (.getfield 57, 3) := by decide +kernel
theorem dX11_spells_239 : decode cX11_spells 239 = .ok (.ldiv, 1) := by decide +kernel
theorem dX11_spells_240 : decode cX11_spells 240 = .ok (.aload_n 0, 1) := by decide +kernel
theorem dX11_spells_241 : decode cX11_spells 241 = .ok (.getfield 67, 3) := by decide +kernel
theorem dX11_spells_244 : decode cX11_spells 244 = .ok (.aload_n 0, 1) := by decide +kernel
theorem dX11_spells_245 : decode cX11_spells 245 = .ok (.getfield 61, 3) := by decide +kernel
theorem dX11_spells_248 : decode cX11_spells 248 = .ok (.ldiv, 1) := by decide +kernel
theorem dX11_spells_249 : decode cX11_spells 249 = .ok (.lcmp, 1) := by decide +kernel
theorem dX11_spells_250 : decode cX11_spells 250 = .ok (.ifCond .ge 15, 3) := by decide +kernel
theorem dX11_spells_253 : decode cX11_spells 253 = .ok (.aload_n 0, 1) := by decide +kernel
theorem dX11_spells_254 : decode cX11_spells 254 = .ok (.getfield 64, 3) := by decide +kernel
theorem dX11_spells_257 : decode cX11_spells 257 = .ok (.aload_n 0, 1) := by decide +kernel
theorem dX11_spells_258 : decode cX11_spells 258 = .ok (.getfield 57, 3) := by decide +kernel
theorem dX11_spells_261 : decode cX11_spells 261 = .ok (.ldiv, 1) := by decide +kernel
theorem dX11_spells_262 : decode cX11_spells 262 = .ok (.goto 12, 3) := by decide +kernel
theorem dX11_spells_265 : decode cX11_spells 265 = .ok (.aload_n 0, 1) := by decide +kernel
theorem dX11_spells_266 : decode cX11_spells 266 = .ok (.getfield 67, 3) := by decide +kernel
theorem dX11_spells_269 : decode cX11_spells 269 = .ok (.aload_n 0, 1) := by decide +kernel
theorem dX11_spells_270 : decode cX11_spells 270 = .ok (.getfield 61, 3) := by decide +kernel
theorem dX11_spells_273 : decode cX11_spells 273 = .ok (.ldiv, 1) := by decide +kernel
theorem dX11_spells_274 : decode cX11_spells 274 = .ok (.lstore_n 2, 1) := by decide +kernel
theorem dX11_spells_275 : decode cX11_spells 275 = .ok (.aload_n 0, 1) := by decide +kernel
theorem dX11_spells_276 : decode cX11_spells 276 = .ok (.aload_n 0, 1) := by decide +kernel
theorem dX11_spells_277 : decode cX11_spells 277 = .ok (.getfield 57, 3) := by decide +kernel
theorem dX11_spells_280 : decode cX11_spells 280 = .ok (.aload_n 0, 1) := by decide +kernel
theorem dX11_spells_281 : decode cX11_spells 281 = .ok (.getfield 61, 3) := by decide +kernel
theorem dX11_spells_284 : decode cX11_spells 284 = .ok (.aload_n 0, 1) := by decide +kernel
theorem dX11_spells_285 : decode cX11_spells 285 = .ok (.getfield 64, 3) := by decide +kernel
theorem dX11_spells_288 : decode cX11_spells 288 = .ok (.lload_n 2, 1) := by decide +kernel
theorem dX11_spells_289 : decode cX11_spells 289 = .ok (.aload_n 0, 1) := by decide +kernel
theorem dX11_spells_290 : decode cX11_spells 290 = .ok (.getfield 57, 3) := by decide +kernel
theorem dX11_spells_293 : decode cX11_spells 293 = .ok (.lmul, 1) := by decide +kernel
theorem dX11_spells_294 : decode cX11_spells 294 = .ok (.lsub, 1) := by decide +kernel
theorem dX11_spells_295 : decode cX11_spells 295 = .ok (.aload_n 0, 1) := by decide +kernel
theorem dX11_spells_296 : decode cX11_spells 296 = .ok (.getfield 67, 3) := by decide +kernel
theorem dX11_spells_299 : decode cX11_spells 299 = .ok (.lload_n 2, 1) := by decide +kernel
theorem dX11_spells_300 : decode cX11_spells 300 = .ok (.aload_n 0, 1) := by decide +kernel
theorem dX11_spells_301 : decode cX11_spells 301 = .ok (.getfield 61, 3) := by decide +kernel
theorem dX11_spells_304 : decode cX11_spells 304 = .ok (.lmul, 1) := by decide +kernel
theorem dX11_spells_305 : decode cX11_spells 305 = .ok (.lsub, 1) := by decide +kernel
theorem dX11_spells_306 : decode cX11_spells 306 = .ok (.invokevirtual 70, 3) := by decide +kernel
theorem dX11_spells_309 : decode cX11_spells 309 = .ok (.aload_n 0, 1) := by decide +kernel
theorem dX11_spells_310 : decode cX11_spells 310 = .ok (.getfield 33, 3) := by decide +kernel
theorem dX11_spells_313 : decode cX11_spells 313 = .ok (.aload_n 0, 1) := by decide +kernel
theorem dX11_spells_314 : decode cX11_spells 314 = .ok (.getfield 140, 3) := by decide +kernel
theorem dX11_spells_317 : decode cX11_spells 317 = .ok (.lload_n 2, 1) := by decide +kernel
theorem dX11_spells_318 : decode cX11_spells 318 = .ok (.l2i, 1) := by decide +kernel
theorem dX11_spells_319 : decode cX11_spells 319 = .ok (.iastore, 1) := by decide +kernel
theorem dX11_spells_320 : decode cX11_spells 320 = .ok (.aload_n 0, 1) := by decide +kernel
theorem dX11_spells_321 : decode cX11_spells 321 = .ok (.getfield 36, 3) := by decide +kernel
theorem dX11_spells_324 : decode cX11_spells 324 = .ok (.aload_n 0, 1) := by decide +kernel
theorem dX11_spells_325 : decode cX11_spells 325 = .ok (.getfield 140, 3) := by decide +kernel
theorem dX11_spells_328 : decode cX11_spells 328 = .ok (.iload_n 1, 1) := by decide +kernel
theorem dX11_spells_329 : decode cX11_spells 329 = .ok (.ifCond .eq 7, 3) := by decide +kernel
theorem dX11_spells_332 : decode cX11_spells 332 = .ok (.iconst 0, 1) := by decide +kernel
theorem dX11_spells_333 : decode cX11_spells 333 = .ok (.goto 4, 3) := by decide +kernel
theorem dX11_spells_336 : decode cX11_spells 336 = .ok (.iconst 1, 1) := by decide +kernel
theorem dX11_spells_337 : decode cX11_spells 337 = .ok (.iastore, 1) := by decide +kernel
theorem dX11_spells_338 : decode cX11_spells 338 = .ok (.aload_n 0, 1) := by decide +kernel
theorem dX11_spells_339 : decode cX11_spells 339 = .ok (.dup, 1) := by decide +kernel
theorem dX11_spells_340 : decode cX11_spells 340 = .ok (.getfield 140, 3) := by decide +kernel
theorem dX11_spells_343 : decode cX11_spells 343 = .ok (.iconst 1, 1) := by decide +kernel
theorem dX11_spells_344 : decode cX11_spells 344 = .ok (.iadd, 1) := by decide +kernel
theorem dX11_spells_345 : decode cX11_spells 345 = .ok (.putfield 140, 3) := by decide +kernel
theorem dX11_spells_348 : decode cX11_spells 348 = .ok (.goto (-343), 3) := by decide +kernel
theorem dX11_spells_351 : decode cX11_spells 351 = .ok (.return_, 1) := by decide +kernel
theorem dX11_isLess_0 : decode cX11_isLess 0 = .ok (.iconst 0, 1) := by decide +kernel
theorem dX11_isLess_1 : decode cX11_isLess 1 = .ok (.istore_n 3, 1) := by decide +kernel
theorem dX11_isLess_2 : decode cX11_isLess 2 = .ok (.iload_n 3, 1) := by decide +kernel
theorem dX11_isLess_3 : decode cX11_isLess 3 = .ok (.aload_n 0, 1) := by decide +kernel
theorem dX11_isLess_4 : decode cX11_isLess 4 = .ok (.getfield 140, 3) := by decide +kernel
theorem dX11_isLess_7 : decode cX11_isLess 7 = .ok (.if_icmp .ge 59, 3) := by decide +kernel
theorem dX11_isLess_10 : decode cX11_isLess 10 = .ok (.aload_n 0, 1) := by decide +kernel
theorem dX11_isLess_11 : decode cX11_isLess 11 = .ok (.getfield 39, 3) := by decide +kernel
theorem dX11_isLess_14 : decode cX11_isLess 14 = .ok (.iload_n 1, 1) := by decide +kernel
theorem dX11_isLess_15 : decode cX11_isLess 15 = .ok (.iload_n 3, 1) := by decide +kernel
theorem dX11_isLess_16 : decode cX11_isLess 16 = .ok (.iadd, 1) := by decide +kernel
theorem dX11_isLess_17 : decode cX11_isLess 17 = .ok (.aload_n 0, 1) := by decide +kernel
theorem dX11_isLess_18 : decode cX11_isLess 18 = .ok (.getfield 140, 3) := by decide +kernel
theorem dX11_isLess_21 : decode cX11_isLess 21 = .ok (.irem, 1) := by decide +kernel
theorem dX11_isLess_22 : decode cX11_isLess 22 = .ok (.iaload, 1) := by decide +kernel
theorem dX11_isLess_23 : decode cX11_isLess 23 = .ok (.istore 4, 2) := by decide +kernel
theorem dX11_isLess_25 : decode cX11_isLess 25 = .ok (.aload_n 0, 1) := by decide +kernel
theorem dX11_isLess_26 : decode cX11_isLess 26 = .ok (.getfield 39, 3) := by decide +kernel
theorem dX11_isLess_29 : decode cX11_isLess 29 = .ok (.iload_n 2, 1) := by decide +kernel
theorem dX11_isLess_30 : decode cX11_isLess 30 = .ok (.iload_n 3, 1) := by decide +kernel
theorem dX11_isLess_31 : decode cX11_isLess 31 = .ok (.iadd, 1) := by decide +kernel
theorem dX11_isLess_32 : decode cX11_isLess 32 = .ok (.aload_n 0, 1) := by decide +kernel
theorem dX11_isLess_33 : decode cX11_isLess 33 = .ok (.getfield 140, 3) := by decide +kernel
theorem dX11_isLess_36 : decode cX11_isLess 36 = .ok (.irem, 1) := by decide +kernel
theorem dX11_isLess_37 : decode cX11_isLess 37 = .ok (.iaload, 1) := by decide +kernel
theorem dX11_isLess_38 : decode cX11_isLess 38 = .ok (.istore 5, 2) := by decide +kernel
theorem dX11_isLess_40 : decode cX11_isLess 40 = .ok (.iload 4, 2) := by decide +kernel
theorem dX11_isLess_42 : decode cX11_isLess 42 = .ok (.iload 5, 2) := by decide +kernel
theorem dX11_isLess_44 : decode cX11_isLess 44 = .ok (.if_icmp .eq 16, 3) := by decide +kernel
theorem dX11_isLess_47 : decode cX11_isLess 47 = .ok (.iload 4, 2) := by decide +kernel
theorem dX11_isLess_49 : decode cX11_isLess 49 = .ok (.iload 5, 2) := by decide +kernel
theorem dX11_isLess_51 : decode cX11_isLess 51 = .ok (.if_icmp .ge 7, 3) := by decide +kernel
theorem dX11_isLess_54 : decode cX11_isLess 54 = .ok (.iconst 1, 1) := by decide +kernel
theorem dX11_isLess_55 : decode cX11_isLess 55 = .ok (.goto 4, 3) := by decide +kernel
theorem dX11_isLess_58 : decode cX11_isLess 58 = .ok (.iconst 0, 1) := by decide +kernel
theorem dX11_isLess_59 : decode cX11_isLess 59 = .ok (.ireturn, 1) := by decide +kernel
theorem dX11_isLess_60 : decode cX11_isLess 60 = .ok (.iinc 3 1, 3) := by decide +kernel
theorem dX11_isLess_63 : decode cX11_isLess 63 = .ok (.goto (-61), 3) := by decide +kernel
theorem dX11_isLess_66 : decode cX11_isLess 66 = .ok (.iconst 0, 1) := by decide +kernel
theorem dX11_isLess_67 : decode cX11_isLess 67 = .ok (.ireturn, 1) := by decide +kernel
theorem dX11_isLike_0 : decode cX11_isLike 0 = .ok (.iconst 1, 1) := by decide +kernel
theorem dX11_isLike_1 : decode cX11_isLike 1 = .ok (.istore_n 2, 1) := by decide +kernel
theorem dX11_isLike_2 : decode cX11_isLike 2 = .ok (.iconst 0, 1) := by decide +kernel
theorem dX11_isLike_3 : decode cX11_isLike 3 = .ok (.istore_n 3, 1) := by decide +kernel
theorem dX11_isLike_4 : decode cX11_isLike 4 = .ok (.iload_n 3, 1) := by decide +kernel
theorem dX11_isLike_5 : decode cX11_isLike 5 = .ok (.aload_n 0, 1) := by decide +kernel
theorem dX11_isLike_6 : decode cX11_isLike 6 = .ok (.getfield 140, 3) := by decide +kernel
theorem dX11_isLike_9 : decode cX11_isLike 9 = .ok (.if_icmp .ge 41, 3) := by decide +kernel
theorem dX11_isLike_12 : decode cX11_isLike 12 = .ok (.iload_n 2, 1) := by decide +kernel
theorem dX11_isLike_13 : decode cX11_isLike 13 = .ok (.ifCond .eq 37, 3) := by decide +kernel
theorem dX11_isLike_16 : decode cX11_isLike 16 = .ok (.aload_n 0, 1) := by decide +kernel
theorem dX11_isLike_17 : decode cX11_isLike 17 = .ok (.getfield 39, 3) := by decide +kernel
theorem dX11_isLike_20 : decode cX11_isLike 20 = .ok (.iload_n 1, 1) := by decide +kernel
theorem dX11_isLike_21 : decode cX11_isLike 21 = .ok (.iload_n 3, 1) := by decide +kernel
theorem dX11_isLike_22 : decode cX11_isLike 22 = .ok (.iadd, 1) := by decide +kernel
theorem dX11_isLike_23 : decode cX11_isLike 23 = .ok (.aload_n 0, 1) := by decide +kernel
theorem dX11_isLike_24 : decode cX11_isLike 24 = .ok (.getfield 140, 3) := by decide +kernel
theorem dX11_isLike_27 : decode cX11_isLike 27 = .ok (.irem, 1) := by decide +kernel
theorem dX11_isLike_28 : decode cX11_isLike 28 = .ok (.iaload, 1) := by decide +kernel
theorem dX11_isLike_29 : decode cX11_isLike 29 = .ok (.aload_n 0, 1) := by decide +kernel
theorem dX11_isLike_30 : decode cX11_isLike 30 = .ok (.getfield 39, 3) := by decide +kernel
theorem dX11_isLike_33 : decode cX11_isLike 33 = .ok (.iload_n 3, 1) := by decide +kernel
theorem dX11_isLike_34 : decode cX11_isLike 34 = .ok (.iaload, 1) := by decide +kernel
theorem dX11_isLike_35 : decode cX11_isLike 35 = .ok (.if_icmp .ne 7, 3) := by decide +kernel
theorem dX11_isLike_38 : decode cX11_isLike 38 = .ok (.iconst 1, 1) := by decide +kernel
theorem dX11_isLike_39 : decode cX11_isLike 39 = .ok (.goto 4, 3) := by decide +kernel
theorem dX11_isLike_42 : decode cX11_isLike 42 = .ok (.iconst 0, 1) := by decide +kernel
theorem dX11_isLike_43 : decode cX11_isLike 43 = .ok (.istore_n 2, 1) := by decide +kernel
theorem dX11_isLike_44 : decode cX11_isLike 44 = .ok (.iinc 3 1, 3) := by decide +kernel
theorem dX11_isLike_47 : decode cX11_isLike 47 = .ok (.goto (-43), 3) := by decide +kernel
theorem dX11_isLike_50 : decode cX11_isLike 50 = .ok (.iload_n 2, 1) := by decide +kernel
theorem dX11_isLike_51 : decode cX11_isLike 51 = .ok (.ireturn, 1) := by decide +kernel
theorem dX11_turns_0 : decode cX11_turns 0 = .ok (.lconst 0, 1) := by decide +kernel
theorem dX11_turns_1 : decode cX11_turns 1 = .ok (.lstore_n 1, 1) := by decide +kernel
theorem dX11_turns_2 : decode cX11_turns 2 = .ok (.iconst 0, 1) := by decide +kernel
theorem dX11_turns_3 : decode cX11_turns 3 = .ok (.istore_n 3, 1) := by decide +kernel
theorem dX11_turns_4 : decode cX11_turns 4 = .ok (.aload_n 0, 1) := by decide +kernel
theorem dX11_turns_5 : decode cX11_turns 5 = .ok (.getfield 36, 3) := by decide +kernel
theorem dX11_turns_8 : decode cX11_turns 8 = .ok (.iconst 0, 1) := by decide +kernel
theorem dX11_turns_9 : decode cX11_turns 9 = .ok (.iaload, 1) := by decide +kernel
theorem dX11_turns_10 : decode cX11_turns 10 = .ok (.aload_n 0, 1) := by decide +kernel
theorem dX11_turns_11 : decode cX11_turns 11 = .ok (.getfield 36, 3) := by decide +kernel
theorem dX11_turns_14 : decode cX11_turns 14 = .ok (.aload_n 0, 1) := by decide +kernel
theorem dX11_turns_15 : decode cX11_turns 15 = .ok (.getfield 140, 3) := by decide +kernel
theorem dX11_turns_18 : decode cX11_turns 18 = .ok (.iconst 1, 1) := by decide +kernel
theorem dX11_turns_19 : decode cX11_turns 19 = .ok (.isub, 1) := by decide +kernel
theorem dX11_turns_20 : decode cX11_turns 20 = .ok (.iaload, 1) := by decide +kernel
theorem dX11_turns_21 : decode cX11_turns 21 = .ok (.if_icmp .ne 33, 3) := by decide +kernel
theorem dX11_turns_24 : decode cX11_turns 24 = .ok (.aload_n 0, 1) := by decide +kernel
theorem dX11_turns_25 : decode cX11_turns 25 = .ok (.getfield 33, 3) := by decide +kernel
theorem dX11_turns_28 : decode cX11_turns 28 = .ok (.iconst 0, 1) := by decide +kernel
theorem dX11_turns_29 : decode cX11_turns 29 = .ok (.iaload, 1) := by decide +kernel
theorem dX11_turns_30 : decode cX11_turns 30 = .ok (.i2l, 1) := by decide +kernel
theorem dX11_turns_31 : decode cX11_turns 31 = .ok (.lstore_n 1, 1) := by decide +kernel
theorem dX11_turns_32 : decode cX11_turns 32 = .ok (.aload_n 0, 1) := by decide +kernel
theorem dX11_turns_33 : decode cX11_turns 33 = .ok (.getfield 33, 3) := by decide +kernel
theorem dX11_turns_36 : decode cX11_turns 36 = .ok (.aload_n 0, 1) := by decide +kernel
theorem dX11_turns_37 : decode cX11_turns 37 = .ok (.getfield 140, 3) := by decide +kernel
theorem dX11_turns_40 : decode cX11_turns 40 = .ok (.iconst 1, 1) := by decide +kernel
theorem dX11_turns_41 : decode cX11_turns 41 = .ok (.isub, 1) := by decide +kernel
theorem dX11_turns_42 : decode cX11_turns 42 = .ok (.dup2, 1) := by decide +kernel
theorem dX11_turns_43 : decode cX11_turns 43 = .ok (.iaload, 1) := by decide +kernel
theorem dX11_turns_44 : decode cX11_turns 44 = .ok (.aload_n 0, 1) := by decide +kernel
theorem dX11_turns_45 : decode cX11_turns 45 = .ok (.getfield 33, 3) := by decide +kernel
theorem dX11_turns_48 : decode cX11_turns 48 = .ok (.iconst 0, 1) := by decide +kernel
theorem dX11_turns_49 : decode cX11_turns 49 = .ok (.iaload, 1) := by decide +kernel
theorem dX11_turns_50 : decode cX11_turns 50 = .ok (.iadd, 1) := by decide +kernel
theorem dX11_turns_51 : decode cX11_turns 51 = .ok (.iastore, 1) := by decide +kernel
theorem dX11_turns_52 : decode cX11_turns 52 = .ok (.iconst 1, 1) := by decide +kernel
theorem dX11_turns_53 : decode cX11_turns 53 = .ok (.istore_n 3, 1) := by decide +kernel
theorem dX11_turns_54 : decode cX11_turns 54 = .ok (.aload_n 0, 1) := by decide +kernel
theorem dX11_turns_55 : decode cX11_turns 55 = .ok (.getfield 36, 3) := by decide +kernel
theorem dX11_turns_58 : decode cX11_turns 58 = .ok (.iload_n 3, 1) := by decide +kernel
theorem dX11_turns_59 : decode cX11_turns 59 = .ok (.iaload, 1) := by decide +kernel
theorem dX11_turns_60 : decode cX11_turns 60 = .ok (.iconst 1, 1) := by decide +kernel
theorem dX11_turns_61 : decode cX11_turns 61 = .ok (.if_icmp .ne 55, 3) := by decide +kernel
theorem dX11_turns_64 : decode cX11_turns 64 = .ok (.lload_n 1, 1) := by decide +kernel
theorem dX11_turns_65 : decode cX11_turns 65 = .ok (.aload_n 0, 1) := by decide +kernel
theorem dX11_turns_66 : decode cX11_turns 66 = .ok (.getfield 33, 3) := by decide +kernel
theorem dX11_turns_69 : decode cX11_turns 69 = .ok (.iload_n 3, 1) := by decide +kernel
theorem dX11_turns_70 : decode cX11_turns 70 = .ok (.iaload, 1) := by decide +kernel
theorem dX11_turns_71 : decode cX11_turns 71 = .ok (.i2l, 1) := by decide +kernel
theorem dX11_turns_72 : decode cX11_turns 72 = .ok (.ladd, 1) := by decide +kernel
theorem dX11_turns_73 : decode cX11_turns 73 = .ok (.lstore_n 1, 1) := by decide +kernel
theorem dX11_turns_74 : decode cX11_turns 74 = .ok (.aload_n 0, 1) := by decide +kernel
theorem dX11_turns_75 : decode cX11_turns 75 = .ok (.getfield 33, 3) := by decide +kernel
theorem dX11_turns_78 : decode cX11_turns 78 = .ok (.iload_n 3, 1) := by decide +kernel
theorem dX11_turns_79 : decode cX11_turns 79 = .ok (.iaload, 1) := by decide +kernel
theorem dX11_turns_80 : decode cX11_turns 80 = .ok (.istore 4, 2) := by decide +kernel
theorem dX11_turns_82 : decode cX11_turns 82 = .ok (.aload_n 0, 1) := by decide +kernel
theorem dX11_turns_83 : decode cX11_turns 83 = .ok (.getfield 33, 3) := by decide +kernel
theorem dX11_turns_86 : decode cX11_turns 86 = .ok (.aload_n 0, 1) := by decide +kernel
theorem dX11_turns_87 : decode cX11_turns 87 = .ok (.getfield 140, 3) := by decide +kernel
theorem dX11_turns_90 : decode cX11_turns 90 = .ok (.iload 4, 2) := by decide +kernel
theorem dX11_turns_92 : decode cX11_turns 92 = .ok (.iastore, 1) := by decide +kernel
theorem dX11_turns_93 : decode cX11_turns 93 = .ok (.aload_n 0, 1) := by decide +kernel
theorem dX11_turns_94 : decode cX11_turns 94 = .ok (.getfield 36, 3) := by decide +kernel
theorem dX11_turns_97 : decode cX11_turns 97 = .ok (.aload_n 0, 1) := by decide +kernel
theorem dX11_turns_98 : decode cX11_turns 98 = .ok (.getfield 140, 3) := by decide +kernel
theorem dX11_turns_101 : decode cX11_turns 101 = .ok (.iconst 1, 1) := by decide +kernel
theorem dX11_turns_102 : decode cX11_turns 102 = .ok (.iastore, 1) := by decide +kernel
theorem dX11_turns_103 : decode cX11_turns 103 = .ok (.aload_n 0, 1) := by decide +kernel
theorem dX11_turns_104 : decode cX11_turns 104 = .ok (.dup, 1) := by decide +kernel
theorem dX11_turns_105 : decode cX11_turns 105 = .ok (.getfield 140, 3) := by decide +kernel
theorem dX11_turns_108 : decode cX11_turns 108 = .ok (.iconst 1, 1) := by decide +kernel
theorem dX11_turns_109 : decode cX11_turns 109 = .ok (.iadd, 1) := by decide +kernel
theorem dX11_turns_110 : decode cX11_turns 110 = .ok (.putfield 140, 3) := by decide +kernel
theorem dX11_turns_113 : decode cX11_turns 113 = .ok (.iinc 3 1, 3) := by decide +kernel
theorem dX11_turns_116 : decode cX11_turns 116 = .ok (.aload_n 0, 1) := by decide +kernel
theorem dX11_turns_117 : decode cX11_turns 117 = .ok (.dup, 1) := by decide +kernel
theorem dX11_turns_118 : decode cX11_turns 118 = .ok (.getfield 140, 3) := by decide +kernel
theorem dX11_turns_121 : decode cX11_turns 121 = .ok (.iload_n 3, 1) := by decide +kernel
theorem dX11_turns_122 : decode cX11_turns 122 = .ok (.isub, 1) := by decide +kernel
theorem dX11_turns_123 : decode cX11_turns 123 = .ok (.putfield 140, 3) := by decide +kernel
theorem dX11_turns_126 : decode cX11_turns 126 = .ok (.aload_n 0, 1) := by decide +kernel
theorem dX11_turns_127 : decode cX11_turns 127 = .ok (.lconst 0, 1) := by decide +kernel
theorem dX11_turns_128 : decode cX11_turns 128 = .ok (.putfield 143, 3) := by decide +kernel
theorem dX11_turns_131 : decode cX11_turns 131 = .ok (.iconst 0, 1) := by decide +kernel
theorem dX11_turns_132 : decode cX11_turns 132 = .ok (.istore 4, 2) := by decide +kernel
theorem dX11_turns_134 : decode cX11_turns 134 = .ok (.iload 4, 2) := by decide +kernel
theorem dX11_turns_136 : decode cX11_turns 136 = .ok (.aload_n 0, 1) := by decide +kernel
theorem dX11_turns_137 : decode cX11_turns 137 = .ok (.getfield 140, 3) := by decide +kernel
theorem dX11_turns_140 : decode cX11_turns 140 = .ok (.if_icmp .ge 42, 3) := by decide +kernel
theorem dX11_turns_143 : decode cX11_turns 143 = .ok (.aload_n 0, 1) := by decide +kernel
theorem dX11_turns_144 : decode cX11_turns 144 = .ok (.getfield 39, 3) := by decide +kernel
theorem dX11_turns_147 : decode cX11_turns 147 = .ok (.iload 4, 2) := by decide +kernel
theorem dX11_turns_149 : decode cX11_turns 149 = .ok (.aload_n 0, 1) := by decide +kernel
theorem dX11_turns_150 : decode cX11_turns 150 = .ok (.getfield 33, 3) := by decide +kernel
theorem dX11_turns_153 : decode cX11_turns 153 = .ok (.iload_n 3, 1) := by decide +kernel
theorem dX11_turns_154 : decode cX11_turns 154 = .ok (.iload 4, 2) := by decide +kernel
theorem dX11_turns_156 : decode cX11_turns 156 = .ok (.iadd, 1) := by decide +kernel
theorem dX11_turns_157 : decode cX11_turns 157 = .ok (.iaload, 1) := by decide +kernel
theorem dX11_turns_158 : decode cX11_turns 158 = .ok (.iastore, 1) := by decide +kernel
theorem dX11_turns_159 : decode cX11_turns 159 = .ok (.aload_n 0, 1) := by decide +kernel
theorem dX11_turns_160 : decode cX11_turns 160 = .ok (.dup, 1) := by decide +kernel
theorem dX11_turns_161 : decode cX11_turns 161 = .ok (.getfield 143, 3) := by decide +kernel
theorem dX11_turns_164 : decode cX11_turns 164 = .ok (.aload_n 0, 1) := by decide +kernel
theorem dX11_turns_165 : decode cX11_turns 165 = .ok (.getfield 39, 3) := by decide +kernel
theorem dX11_turns_168 : decode cX11_turns 168 = .ok (.iload 4, 2) := by decide +kernel
theorem dX11_turns_170 : decode cX11_turns 170 = .ok (.iaload, 1) := by decide +kernel
theorem dX11_turns_171 : decode cX11_turns 171 = .ok (.i2l, 1) := by decide +kernel
theorem dX11_turns_172 : decode cX11_turns 172 = .ok (.ladd, 1) := by decide +kernel
theorem dX11_turns_173 : decode cX11_turns 173 = .ok (.putfield 143, 3) := by decide +kernel
theorem dX11_turns_176 : decode cX11_turns 176 = .ok (.iinc 4 1, 3) := by decide +kernel
theorem dX11_turns_179 : decode cX11_turns 179 = .ok (.goto (-45), 3) := by decide +kernel
theorem dX11_turns_182 : decode cX11_turns 182 = .ok (.iconst 0, 1) := by decide +kernel
theorem dX11_turns_183 : decode cX11_turns 183 = .ok (.istore 4, 2) := by decide +kernel
theorem dX11_turns_185 : decode cX11_turns 185 = .ok (.aload_n 0, 1) := by decide +kernel
theorem dX11_turns_186 : decode cX11_turns 186 = .ok (.iconst 0, 1) := by decide +kernel
theorem dX11_turns_187 : decode cX11_turns 187 = .ok (.putfield 146, 3) := by decide +kernel
theorem dX11_turns_190 : decode cX11_turns 190 = .ok (.iconst 0, 1) := by decide +kernel
theorem dX11_turns_191 : decode cX11_turns 191 = .ok (.istore 5, 2) := by decide +kernel
theorem dX11_turns_193 : decode cX11_turns 193 = .ok (.iload 5, 2) := by decide +kernel
theorem dX11_turns_195 : decode cX11_turns 195 = .ok (.aload_n 0, 1) := by decide +kernel
theorem dX11_turns_196 : decode cX11_turns 196 = .ok (.getfield 140, 3) := by decide +kernel
theorem dX11_turns_199 : decode cX11_turns 199 = .ok (.if_icmp .ge 52, 3) := by decide +kernel
theorem dX11_turns_202 : decode cX11_turns 202 = .ok (.aload_n 0, 1) := by decide +kernel
theorem dX11_turns_203 : decode cX11_turns 203 = .ok (.iload 5, 2) := by decide +kernel
theorem dX11_turns_205 : decode cX11_turns 205 = .ok (.iload 4, 2) := by decide +kernel
theorem dX11_turns_207 : decode cX11_turns 207 = .ok (.invokevirtual 149, 3) := by decide +kernel
theorem dX11_turns_210 : decode cX11_turns 210 = .ok (.ifCond .eq 8, 3) := by decide +kernel
theorem dX11_turns_213 : decode cX11_turns 213 = .ok (.iload 5, 2) := by decide +kernel
theorem dX11_turns_215 : decode cX11_turns 215 = .ok (.goto 5, 3) := by decide +kernel
theorem dX11_turns_218 : decode cX11_turns 218 = .ok (.iload 4, 2) := by decide +kernel
theorem dX11_turns_220 : decode cX11_turns 220 = .ok (.istore 4, 2) := by decide +kernel
theorem dX11_turns_222 : decode cX11_turns 222 = .ok (.aload_n 0, 1) := by decide +kernel
theorem dX11_turns_223 : decode cX11_turns 223 = .ok (.dup, 1) := by decide +kernel
theorem dX11_turns_224 : decode cX11_turns 224 = .ok (.getfield 146, 3) := by decide +kernel
theorem dX11_turns_227 : decode cX11_turns 227 = .ok (.aload_n 0, 1) := by decide +kernel
theorem dX11_turns_228 : decode cX11_turns 228 = .ok (.iload 5, 2) := by decide +kernel
theorem dX11_turns_230 : decode cX11_turns 230 = .ok (.invokevirtual 153, 3) := by decide +kernel
theorem dX11_turns_233 : decode cX11_turns 233 = .ok (.ifCond .eq 7, 3) := by decide +kernel
theorem dX11_turns_236 : decode cX11_turns 236 = .ok (.iconst 1, 1) := by decide +kernel
theorem dX11_turns_237 : decode cX11_turns 237 = .ok (.goto 4, 3) := by decide +kernel
theorem dX11_turns_240 : decode cX11_turns 240 = .ok (.iconst 0, 1) := by decide +kernel
theorem dX11_turns_241 : decode cX11_turns 241 = .ok (.iadd, 1) := by decide +kernel
theorem dX11_turns_242 : decode cX11_turns 242 = .ok (.putfield 146, 3) := by decide +kernel
theorem dX11_turns_245 : decode cX11_turns 245 = .ok (.iinc 5 2, 3) := by decide +kernel
theorem dX11_turns_248 : decode cX11_turns 248 = .ok (.goto (-55), 3) := by decide +kernel
theorem dX11_turns_251 : decode cX11_turns 251 = .ok (.lconst 0, 1) := by decide +kernel
theorem dX11_turns_252 : decode cX11_turns 252 = .ok (.lstore 5, 2) := by decide +kernel
theorem dX11_turns_254 : decode cX11_turns 254 = .ok (.iconst 0, 1) := by decide +kernel
theorem dX11_turns_255 : decode cX11_turns 255 = .ok (.istore 7, 2) := by decide +kernel
theorem dX11_turns_257 : decode cX11_turns 257 = .ok (.iload 7, 2) := by decide +kernel
theorem dX11_turns_259 : decode cX11_turns 259 = .ok (.iload 4, 2) := by decide +kernel
theorem dX11_turns_261 : decode cX11_turns 261 = .ok (.if_icmp .ge 22, 3) := by decide +kernel
theorem dX11_turns_264 : decode cX11_turns 264 = .ok (.lload 5, 2) := by decide +kernel
theorem dX11_turns_266 : decode cX11_turns 266 = .ok (.aload_n 0, 1) := by decide +kernel
theorem dX11_turns_267 : decode cX11_turns 267 = .ok (.getfield 39, 3) := by decide +kernel
theorem dX11_turns_270 : decode cX11_turns 270 = .ok (.iload 7, 2) := by decide +kernel
theorem dX11_turns_272 : decode cX11_turns 272 = .ok (.iaload, 1) := by decide +kernel
theorem dX11_turns_273 : decode cX11_turns 273 = .ok (.i2l, 1) := by decide +kernel
theorem dX11_turns_274 : decode cX11_turns 274 = .ok (.ladd, 1) := by decide +kernel
theorem dX11_turns_275 : decode cX11_turns 275 = .ok (.lstore 5, 2) := by decide +kernel
theorem dX11_turns_277 : decode cX11_turns 277 = .ok (.iinc 7 1, 3) := by decide +kernel
theorem dX11_turns_280 : decode cX11_turns 280 = .ok (.goto (-23), 3) := by decide +kernel
theorem dX11_turns_283 : decode cX11_turns 283 = .ok (.aload_n 0, 1) := by decide +kernel
theorem dX11_turns_284 : decode cX11_turns 284 = .ok (.getfield 143, 3) := by decide +kernel
theorem dX11_turns_287 : decode cX11_turns 287 = .ok (.aload_n 0, 1) := by decide +kernel
theorem dX11_turns_288 : decode cX11_turns 288 = .ok (.getfield 146, 3) := by decide +kernel
theorem dX11_turns_291 : decode cX11_turns 291 = .ok (.i2l, 1) := by decide +kernel
theorem dX11_turns_292 : decode cX11_turns 292 = .ok (.ldiv, 1) := by decide +kernel
theorem dX11_turns_293 : decode cX11_turns 293 = .ok (.lstore 7, 2) := by decide +kernel
theorem dX11_turns_295 : decode cX11_turns 295 = .ok (.aload_n 0, 1) := by decide +kernel
theorem dX11_turns_296 : decode cX11_turns 296 = .ok (.lconst 0, 1) := by decide +kernel
theorem dX11_turns_297 : decode cX11_turns 297 = .ok (.lload_n 1, 1) := by decide +kernel
theorem dX11_turns_298 : decode cX11_turns 298 = .ok (.lsub, 1) := by decide +kernel
theorem dX11_turns_299 : decode cX11_turns 299 = .ok (.lload 5, 2) := by decide +kernel
theorem dX11_turns_301 : decode cX11_turns 301 = .ok (.lsub, 1) := by decide +kernel
theorem dX11_turns_302 : decode cX11_turns 302 = .ok (.lload 7, 2) := by decide +kernel
theorem dX11_turns_304 : decode cX11_turns 304 = .ok (.lrem, 1) := by decide +kernel
theorem dX11_turns_305 : decode cX11_turns 305 = .ok (.lload 7, 2) := by decide +kernel
theorem dX11_turns_307 : decode cX11_turns 307 = .ok (.ladd, 1) := by decide +kernel
theorem dX11_turns_308 : decode cX11_turns 308 = .ok (.lload 7, 2) := by decide +kernel
theorem dX11_turns_310 : decode cX11_turns 310 = .ok (.lrem, 1) := by decide +kernel
theorem dX11_turns_311 : decode cX11_turns 311 = .ok (.putfield 157, 3) := by decide +kernel
theorem dX11_turns_314 : decode cX11_turns 314 = .ok (.iconst 0, 1) := by decide +kernel
theorem dX11_turns_315 : decode cX11_turns 315 = .ok (.istore 9, 2) := by decide +kernel
theorem dX11_turns_317 : decode cX11_turns 317 = .ok (.iload 9, 2) := by decide +kernel
theorem dX11_turns_319 : decode cX11_turns 319 = .ok (.aload_n 0, 1) := by decide +kernel
theorem dX11_turns_320 : decode cX11_turns 320 = .ok (.getfield 140, 3) := by decide +kernel
theorem dX11_turns_323 : decode cX11_turns 323 = .ok (.if_icmp .ge 31, 3) := by decide +kernel
theorem dX11_turns_326 : decode cX11_turns 326 = .ok (.aload_n 0, 1) := by decide +kernel
theorem dX11_turns_327 : decode cX11_turns 327 = .ok (.getfield 33, 3) := by decide +kernel
theorem dX11_turns_330 : decode cX11_turns 330 = .ok (.iload 9, 2) := by decide +kernel
theorem dX11_turns_332 : decode cX11_turns 332 = .ok (.aload_n 0, 1) := by decide +kernel
theorem dX11_turns_333 : decode cX11_turns 333 = .ok (.getfield 39, 3) := by decide +kernel
theorem dX11_turns_336 : decode cX11_turns 336 = .ok (.iload 4, 2) := by decide +kernel
theorem dX11_turns_338 : decode cX11_turns 338 = .ok (.iload 9, 2) := by decide +kernel
theorem dX11_turns_340 : decode cX11_turns 340 = .ok (.iadd, 1) := by decide +kernel
theorem dX11_turns_341 : decode cX11_turns 341 = .ok (.aload_n 0, 1) := by decide +kernel
theorem dX11_turns_342 : decode cX11_turns 342 = .ok (.getfield 140, 3) := by decide +kernel
theorem dX11_turns_345 : decode cX11_turns 345 = .ok (.irem, 1) := by decide +kernel
theorem dX11_turns_346 : decode cX11_turns 346 = .ok (.iaload, 1) := by decide +kernel
theorem dX11_turns_347 : decode cX11_turns 347 = .ok (.iastore, 1) := by decide +kernel
theorem dX11_turns_348 : decode cX11_turns 348 = .ok (.iinc 9 1, 3) := by decide +kernel
theorem dX11_turns_351 : decode cX11_turns 351 = .ok (.goto (-34), 3) := by decide +kernel
theorem dX11_turns_354 : decode cX11_turns 354 = .ok (.return_, 1) := by decide +kernel
theorem dX11_isOne_0 : decode cX11_isOne 0 = .ok (.aload_n 0, 1) := by decide +kernel
theorem dX11_isOne_1 : decode cX11_isOne 1 = .ok (.getfield 61, 3) := by decide +kernel
theorem dX11_isOne_4 : decode cX11_isOne 4 = .ok (.lconst 0, 1) := by decide +kernel
theorem dX11_isOne_5 : decode cX11_isOne 5 = .ok (.lcmp, 1) := by decide +kernel
theorem dX11_isOne_6 : decode cX11_isOne 6 = .ok (.ifCond .ne 16, 3) := by decide +kernel
theorem dX11_isOne_9 : decode cX11_isOne 9 = .ok (.aload_n 0, 1) := by decide +kernel
theorem dX11_isOne_10 : decode cX11_isOne 10 = .ok (.getfield 64, 3) := by decide +kernel
theorem dX11_isOne_13 : decode cX11_isOne 13 = .ok (.lconst 0, 1) := by decide +kernel
theorem dX11_isOne_14 : decode cX11_isOne 14 = .ok (.lcmp, 1) := by decide +kernel
theorem dX11_isOne_15 : decode cX11_isOne 15 = .ok (.ifCond .ne 7, 3) := by decide +kernel
theorem dX11_isOne_18 : decode cX11_isOne 18 = .ok (.iconst 1, 1) := by decide +kernel
theorem dX11_isOne_19 : decode cX11_isOne 19 = .ok (.goto 4, 3) := by decide +kernel
theorem dX11_isOne_22 : decode cX11_isOne 22 = .ok (.iconst 0, 1) := by decide +kernel
theorem dX11_isOne_23 : decode cX11_isOne 23 = .ok (.ireturn, 1) := by decide +kernel
theorem dX11_changes_0 : decode cX11_changes 0 = .ok (.aload_n 0, 1) := by decide +kernel
theorem dX11_changes_1 : decode cX11_changes 1 = .ok (.lconst 0, 1) := by decide +kernel
theorem dX11_changes_2 : decode cX11_changes 2 = .ok (.aload_n 0, 1) := by decide +kernel
theorem dX11_changes_3 : decode cX11_changes 3 = .ok (.getfield 57, 3) := by decide +kernel
theorem dX11_changes_6 : decode cX11_changes 6 = .ok (.lsub, 1) := by decide +kernel
theorem dX11_changes_7 : decode cX11_changes 7 = .ok (.lconst 0, 1) := by decide +kernel
theorem dX11_changes_8 : decode cX11_changes 8 = .ok (.aload_n 0, 1) := by decide +kernel
theorem dX11_changes_9 : decode cX11_changes 9 = .ok (.getfield 61, 3) := by decide +kernel
theorem dX11_changes_12 : decode cX11_changes 12 = .ok (.lsub, 1) := by decide +kernel
theorem dX11_changes_13 : decode cX11_changes 13 = .ok (.lconst 0, 1) := by decide +kernel
theorem dX11_changes_14 : decode cX11_changes 14 = .ok (.aload_n 0, 1) := by decide +kernel
theorem dX11_changes_15 : decode cX11_changes 15 = .ok (.getfield 64, 3) := by decide +kernel
theorem dX11_changes_18 : decode cX11_changes 18 = .ok (.lsub, 1) := by decide +kernel
theorem dX11_changes_19 : decode cX11_changes 19 = .ok (.lconst 0, 1) := by decide +kernel
theorem dX11_changes_20 : decode cX11_changes 20 = .ok (.aload_n 0, 1) := by decide +kernel
theorem dX11_changes_21 : decode cX11_changes 21 = .ok (.getfield 67, 3) := by decide +kernel
theorem dX11_changes_24 : decode cX11_changes 24 = .ok (.lsub, 1) := by decide +kernel
theorem dX11_changes_25 : decode cX11_changes 25 = .ok (.invokevirtual 70, 3) := by decide +kernel
theorem dX11_changes_28 : decode cX11_changes 28 = .ok (.return_, 1) := by decide +kernel
theorem dX11_knows_0 : decode cX11_knows 0 = .ok (.aload_n 0, 1) := by decide +kernel
theorem dX11_knows_1 : decode cX11_knows 1 = .ok (.aload_n 0, 1) := by decide +kernel
theorem dX11_knows_2 : decode cX11_knows 2 = .ok (.getfield 57, 3) := by decide +kernel
theorem dX11_knows_5 : decode cX11_knows 5 = .ok (.aload_n 0, 1) := by decide +kernel
theorem dX11_knows_6 : decode cX11_knows 6 = .ok (.getfield 67, 3) := by decide +kernel
theorem dX11_knows_9 : decode cX11_knows 9 = .ok (.ladd, 1) := by decide +kernel
theorem dX11_knows_10 : decode cX11_knows 10 = .ok (.putfield 126, 3) := by decide +kernel
theorem dX11_knows_13 : decode cX11_knows 13 = .ok (.aload_n 0, 1) := by decide +kernel
theorem dX11_knows_14 : decode cX11_knows 14 = .ok (.lconst 0, 1) := by decide +kernel
theorem dX11_knows_15 : decode cX11_knows 15 = .ok (.putfield 160, 3) := by decide +kernel
theorem dX11_knows_18 : decode cX11_knows 18 = .ok (.aload_n 0, 1) := by decide +kernel
theorem dX11_knows_19 : decode cX11_knows 19 = .ok (.iconst 0, 1) := by decide +kernel
theorem dX11_knows_20 : decode cX11_knows 20 = .ok (.putfield 140, 3) := by decide +kernel
theorem dX11_knows_23 : decode cX11_knows 23 = .ok (.aload_n 0, 1) := by decide +kernel
theorem dX11_knows_24 : decode cX11_knows 24 = .ok (.iconst 0, 1) := by decide +kernel
theorem dX11_knows_25 : decode cX11_knows 25 = .ok (.putfield 146, 3) := by decide +kernel
theorem dX11_knows_28 : decode cX11_knows 28 = .ok (.aload_n 0, 1) := by decide +kernel
theorem dX11_knows_29 : decode cX11_knows 29 = .ok (.lconst 0, 1) := by decide +kernel
theorem dX11_knows_30 : decode cX11_knows 30 = .ok (.putfield 143, 3) := by decide +kernel
theorem dX11_knows_33 : decode cX11_knows 33 = .ok (.aload_n 0, 1) := by decide +kernel
theorem dX11_knows_34 : decode cX11_knows 34 = .ok (.aload_n 0, 1) := by decide +kernel
theorem dX11_knows_35 : decode cX11_knows 35 = .ok (.invokevirtual 163, 3) := by decide +kernel
theorem dX11_knows_38 : decode cX11_knows 38 = .ok (.ifCond .eq 7, 3) := by decide +kernel
theorem dX11_knows_41 : decode cX11_knows 41 = .ok (.iconst 0, 1) := by decide +kernel
theorem dX11_knows_42 : decode cX11_knows 42 = .ok (.goto 42, 3) := by decide +kernel
theorem dX11_knows_45 : decode cX11_knows 45 = .ok (.aload_n 0, 1) := by decide +kernel
theorem dX11_knows_46 : decode cX11_knows 46 = .ok (.getfield 126, 3) := by decide +kernel
theorem dX11_knows_49 : decode cX11_knows 49 = .ok (.ldc2_w 81, 3) := by decide +kernel
theorem dX11_knows_52 : decode cX11_knows 52 = .ok (.lconst 1, 1) := by decide +kernel
theorem dX11_knows_53 : decode cX11_knows 53 = .ok (.invokestatic 53, 3) := by decide +kernel
theorem dX11_knows_56 : decode cX11_knows 56 = .ok (.ifCond .eq 7, 3) := by decide +kernel
theorem dX11_knows_59 : decode cX11_knows 59 = .ok (.iconst 1, 1) := by decide +kernel
theorem dX11_knows_60 : decode cX11_knows 60 = .ok (.goto 24, 3) := by decide +kernel
theorem dX11_knows_63 : decode cX11_knows 63 = .ok (.aload_n 0, 1) := by decide +kernel
theorem dX11_knows_64 : decode cX11_knows 64 = .ok (.getfield 126, 3) := by decide +kernel
theorem dX11_knows_67 : decode cX11_knows 67 = .ok (.ldc2_w 166, 3) := by decide +kernel
theorem dX11_knows_70 : decode cX11_knows 70 = .ok (.ldc2_w 134, 3) := by decide +kernel
theorem dX11_knows_73 : decode cX11_knows 73 = .ok (.invokestatic 53, 3) := by decide +kernel
theorem dX11_knows_76 : decode cX11_knows 76 = .ok (.ifCond .eq 7, 3) := by decide +kernel
theorem dX11_knows_79 : decode cX11_knows 79 = .ok (.iconst 2, 1) := by decide +kernel
theorem dX11_knows_80 : decode cX11_knows 80 = .ok (.goto 4, 3) := by decide +kernel
theorem dX11_knows_83 : decode cX11_knows 83 = .ok (.iconst 3, 1) := by decide +kernel
theorem dX11_knows_84 : decode cX11_knows 84 = .ok (.putfield 168, 3) := by decide +kernel
theorem dX11_knows_87 : decode cX11_knows 87 = .ok (.aload_n 0, 1) := by decide +kernel
theorem dX11_knows_88 : decode cX11_knows 88 = .ok (.aload_n 0, 1) := by decide +kernel
theorem dX11_knows_89 : decode cX11_knows 89 = .ok (.getfield 64, 3) := by decide +kernel
theorem dX11_knows_92 : decode cX11_knows 92 = .ok (.lconst 0, 1) := by decide +kernel
theorem dX11_knows_93 : decode cX11_knows 93 = .ok (.lcmp, 1) := by decide +kernel
theorem dX11_knows_94 : decode cX11_knows 94 = .ok (.ifCond .ge 7, 3) := by decide +kernel
theorem dX11_knows_97 : decode cX11_knows 97 = .ok (.iconst (-1), 1) := by decide +kernel
theorem dX11_knows_98 : decode cX11_knows 98 = .ok (.goto 4, 3) := by decide +kernel
theorem dX11_knows_101 : decode cX11_knows 101 = .ok (.iconst 1, 1) := by decide +kernel
theorem dX11_knows_102 : decode cX11_knows 102 = .ok (.putfield 171, 3) := by decide +kernel
theorem dX11_knows_105 : decode cX11_knows 105 = .ok (.aload_n 0, 1) := by decide +kernel
theorem dX11_knows_106 : decode cX11_knows 106 = .ok (.getfield 168, 3) := by decide +kernel
theorem dX11_knows_109 : decode cX11_knows 109 = .ok (.iconst 1, 1) := by decide +kernel
theorem dX11_knows_110 : decode cX11_knows 110 = .ok (.if_icmp .le 16, 3) := by decide +kernel
theorem dX11_knows_113 : decode cX11_knows 113 = .ok (.aload_n 0, 1) := by decide +kernel
theorem dX11_knows_114 : decode cX11_knows 114 = .ok (.getfield 126, 3) := by decide +kernel
theorem dX11_knows_117 : decode cX11_knows 117 = .ok (.lconst 0, 1) := by decide +kernel
theorem dX11_knows_118 : decode cX11_knows 118 = .ok (.lcmp, 1) := by decide +kernel
theorem dX11_knows_119 : decode cX11_knows 119 = .ok (.ifCond .ge 7, 3) := by decide +kernel
theorem dX11_knows_122 : decode cX11_knows 122 = .ok (.aload_n 0, 1) := by decide +kernel
theorem dX11_knows_123 : decode cX11_knows 123 = .ok (.invokevirtual 174, 3) := by decide +kernel
theorem dX11_knows_126 : decode cX11_knows 126 = .ok (.aload_n 0, 1) := by decide +kernel
theorem dX11_knows_127 : decode cX11_knows 127 = .ok (.getfield 168, 3) := by decide +kernel
theorem dX11_knows_130 : decode cX11_knows 130 = .ok (.iconst 2, 1) := by decide +kernel
theorem dX11_knows_131 : decode cX11_knows 131 = .ok (.if_icmp .ne 62, 3) := by decide +kernel
theorem dX11_knows_134 : decode cX11_knows 134 = .ok (.aload_n 0, 1) := by decide +kernel
theorem dX11_knows_135 : decode cX11_knows 135 = .ok (.getfield 57, 3) := by decide +kernel
theorem dX11_knows_138 : decode cX11_knows 138 = .ok (.lconst 1, 1) := by decide +kernel
theorem dX11_knows_139 : decode cX11_knows 139 = .ok (.lsub, 1) := by decide +kernel
theorem dX11_knows_140 : decode cX11_knows 140 = .ok (.aload_n 0, 1) := by decide +kernel
theorem dX11_knows_141 : decode cX11_knows 141 = .ok (.getfield 61, 3) := by decide +kernel
theorem dX11_knows_144 : decode cX11_knows 144 = .ok (.invokestatic 177, 3) := by decide +kernel
theorem dX11_knows_147 : decode cX11_knows 147 = .ok (.aload_n 0, 1) := by decide +kernel
theorem dX11_knows_148 : decode cX11_knows 148 = .ok (.getfield 64, 3) := by decide +kernel
theorem dX11_knows_151 : decode cX11_knows 151 = .ok (.invokestatic 177, 3) := by decide +kernel
theorem dX11_knows_154 : decode cX11_knows 154 = .ok (.lstore_n 1, 1) := by decide +kernel
theorem dX11_knows_155 : decode cX11_knows 155 = .ok (.aload_n 0, 1) := by decide +kernel
theorem dX11_knows_156 : decode cX11_knows 156 = .ok (.aload_n 0, 1) := by decide +kernel
theorem dX11_knows_157 : decode cX11_knows 157 = .ok (.getfield 61, 3) := by decide +kernel
theorem dX11_knows_160 : decode cX11_knows 160 = .ok (.lconst 0, 1) := by decide +kernel
theorem dX11_knows_161 : decode cX11_knows 161 = .ok (.lcmp, 1) := by decide +kernel
theorem dX11_knows_162 : decode cX11_knows 162 = .ok (.ifCond .gt 21, 3) := by decide +kernel
theorem dX11_knows_165 : decode cX11_knows 165 = .ok (.aload_n 0, 1) := by decide +kernel
theorem dX11_knows_166 : decode cX11_knows 166 = .ok (.getfield 61, 3) := by decide +kernel
theorem dX11_knows_169 : decode cX11_knows 169 = .ok (.lconst 0, 1) := by decide +kernel
theorem dX11_knows_170 : decode cX11_knows 170 = .ok (.lcmp, 1) := by decide +kernel
theorem dX11_knows_171 : decode cX11_knows 171 = .ok (.ifCond .ne 16, 3) := by decide +kernel
theorem dX11_knows_174 : decode cX11_knows 174 = .ok (.aload_n 0, 1) := by decide +kernel
theorem dX11_knows_175 : decode cX11_knows 175 = .ok (.getfield 64, 3) := by decide +kernel
theorem dX11_knows_178 : decode cX11_knows 178 = .ok (.lconst 0, 1) := by decide +kernel
theorem dX11_knows_179 : decode cX11_knows 179 = .ok (.lcmp, 1) := by decide +kernel
theorem dX11_knows_180 : decode cX11_knows 180 = .ok (.ifCond .ge 7, 3) := by decide +kernel
theorem dX11_knows_183 : decode cX11_knows 183 = .ok (.lload_n 1, 1) := by decide +kernel
theorem dX11_knows_184 : decode cX11_knows 184 = .ok (.goto 6, 3) := by decide +kernel
theorem dX11_knows_187 : decode cX11_knows 187 = .ok (.lconst 0, 1) := by decide +kernel
theorem dX11_knows_188 : decode cX11_knows 188 = .ok (.lload_n 1, 1) := by decide +kernel
theorem dX11_knows_189 : decode cX11_knows 189 = .ok (.lsub, 1) := by decide +kernel
theorem dX11_knows_190 : decode cX11_knows 190 = .ok (.putfield 160, 3) := by decide +kernel
theorem dX11_knows_193 : decode cX11_knows 193 = .ok (.aload_n 0, 1) := by decide +kernel
theorem dX11_knows_194 : decode cX11_knows 194 = .ok (.getfield 168, 3) := by decide +kernel
theorem dX11_knows_197 : decode cX11_knows 197 = .ok (.iconst 3, 1) := by decide +kernel
theorem dX11_knows_198 : decode cX11_knows 198 = .ok (.if_icmp .ne 36, 3) := by decide +kernel
theorem dX11_knows_201 : decode cX11_knows 201 = .ok (.aload_n 0, 1) := by decide +kernel
theorem dX11_knows_202 : decode cX11_knows 202 = .ok (.getfield 126, 3) := by decide +kernel
theorem dX11_knows_205 : decode cX11_knows 205 = .ok (.lstore_n 1, 1) := by decide +kernel
theorem dX11_knows_206 : decode cX11_knows 206 = .ok (.aload_n 0, 1) := by decide +kernel
theorem dX11_knows_207 : decode cX11_knows 207 = .ok (.aload_n 0, 1) := by decide +kernel
theorem dX11_knows_208 : decode cX11_knows 208 = .ok (.getfield 126, 3) := by decide +kernel
theorem dX11_knows_211 : decode cX11_knows 211 = .ok (.invokestatic 116, 3) := by decide +kernel
theorem dX11_knows_214 : decode cX11_knows 214 = .ok (.putfield 126, 3) := by decide +kernel
theorem dX11_knows_217 : decode cX11_knows 217 = .ok (.aload_n 0, 1) := by decide +kernel
theorem dX11_knows_218 : decode cX11_knows 218 = .ok (.invokevirtual 180, 3) := by decide +kernel
theorem dX11_knows_221 : decode cX11_knows 221 = .ok (.aload_n 0, 1) := by decide +kernel
theorem dX11_knows_222 : decode cX11_knows 222 = .ok (.invokevirtual 183, 3) := by decide +kernel
theorem dX11_knows_225 : decode cX11_knows 225 = .ok (.aload_n 0, 1) := by decide +kernel
theorem dX11_knows_226 : decode cX11_knows 226 = .ok (.invokevirtual 186, 3) := by decide +kernel
theorem dX11_knows_229 : decode cX11_knows 229 = .ok (.aload_n 0, 1) := by decide +kernel
theorem dX11_knows_230 : decode cX11_knows 230 = .ok (.lload_n 1, 1) := by decide +kernel
theorem dX11_knows_231 : decode cX11_knows 231 = .ok (.putfield 126, 3) := by decide +kernel
theorem dX11_knows_234 : decode cX11_knows 234 = .ok (.return_, 1) := by decide +kernel
theorem dX11_putsAside_0 : decode cX11_putsAside 0 = .ok (.aload_n 0, 1) := by decide +kernel
theorem dX11_putsAside_1 : decode cX11_putsAside 1 = .ok (.aload_n 0, 1) := by decide +kernel
theorem dX11_putsAside_2 : decode cX11_putsAside 2 = .ok (.getfield 168, 3) := by decide +kernel
theorem dX11_putsAside_5 : decode cX11_putsAside 5 = .ok (.putfield 189, 3) := by decide +kernel
theorem dX11_putsAside_8 : decode cX11_putsAside 8 = .ok (.aload_n 0, 1) := by decide +kernel
theorem dX11_putsAside_9 : decode cX11_putsAside 9 = .ok (.aload_n 0, 1) := by decide +kernel
theorem dX11_putsAside_10 : decode cX11_putsAside 10 = .ok (.getfield 126, 3) := by decide +kernel
theorem dX11_putsAside_13 : decode cX11_putsAside 13 = .ok (.putfield 192, 3) := by decide +kernel
theorem dX11_putsAside_16 : decode cX11_putsAside 16 = .ok (.aload_n 0, 1) := by decide +kernel
theorem dX11_putsAside_17 : decode cX11_putsAside 17 = .ok (.aload_n 0, 1) := by decide +kernel
theorem dX11_putsAside_18 : decode cX11_putsAside 18 = .ok (.getfield 160, 3) := by decide +kernel
theorem dX11_putsAside_21 : decode cX11_putsAside 21 = .ok (.putfield 195, 3) := by decide +kernel
theorem dX11_putsAside_24 : decode cX11_putsAside 24 = .ok (.aload_n 0, 1) := by decide +kernel
theorem dX11_putsAside_25 : decode cX11_putsAside 25 = .ok (.aload_n 0, 1) := by decide +kernel
theorem dX11_putsAside_26 : decode cX11_putsAside 26 = .ok (.getfield 171, 3) := by decide +kernel
theorem dX11_putsAside_29 : decode cX11_putsAside 29 = .ok (.putfield 198, 3) := by decide +kernel
theorem dX11_putsAside_32 : decode cX11_putsAside 32 = .ok (.aload_n 0, 1) := by decide +kernel
theorem dX11_putsAside_33 : decode cX11_putsAside 33 = .ok (.aload_n 0, 1) := by decide +kernel
theorem dX11_putsAside_34 : decode cX11_putsAside 34 = .ok (.getfield 140, 3) := by decide +kernel
theorem dX11_putsAside_37 : decode cX11_putsAside 37 = .ok (.putfield 201, 3) := by decide +kernel
theorem dX11_putsAside_40 : decode cX11_putsAside 40 = .ok (.aload_n 0, 1) := by decide +kernel
theorem dX11_putsAside_41 : decode cX11_putsAside 41 = .ok (.aload_n 0, 1) := by decide +kernel
theorem dX11_putsAside_42 : decode cX11_putsAside 42 = .ok (.getfield 157, 3) := by decide +kernel
theorem dX11_putsAside_45 : decode cX11_putsAside 45 = .ok (.putfield 204, 3) := by decide +kernel
theorem dX11_putsAside_48 : decode cX11_putsAside 48 = .ok (.iconst 0, 1) := by decide +kernel
theorem dX11_putsAside_49 : decode cX11_putsAside 49 = .ok (.istore_n 1, 1) := by decide +kernel
theorem dX11_putsAside_50 : decode cX11_putsAside 50 = .ok (.iload_n 1, 1) := by decide +kernel
theorem dX11_putsAside_51 : decode cX11_putsAside 51 = .ok (.aload_n 0, 1) := by decide +kernel
theorem dX11_putsAside_52 : decode cX11_putsAside 52 = .ok (.getfield 140, 3) := by decide +kernel
theorem dX11_putsAside_55 : decode cX11_putsAside 55 = .ok (.if_icmp .ge 21, 3) := by decide +kernel
theorem dX11_putsAside_58 : decode cX11_putsAside 58 = .ok (.aload_n 0, 1) := by decide +kernel
theorem dX11_putsAside_59 : decode cX11_putsAside 59 = .ok (.getfield 42, 3) := by decide +kernel
theorem dX11_putsAside_62 : decode cX11_putsAside 62 = .ok (.iload_n 1, 1) := by decide +kernel
theorem dX11_putsAside_63 : decode cX11_putsAside 63 = .ok (.aload_n 0, 1) := by decide +kernel
theorem dX11_putsAside_64 : decode cX11_putsAside 64 = .ok (.getfield 33, 3) := by decide +kernel
theorem dX11_putsAside_67 : decode cX11_putsAside 67 = .ok (.iload_n 1, 1) := by decide +kernel
theorem dX11_putsAside_68 : decode cX11_putsAside 68 = .ok (.iaload, 1) := by decide +kernel
theorem dX11_putsAside_69 : decode cX11_putsAside 69 = .ok (.iastore, 1) := by decide +kernel
theorem dX11_putsAside_70 : decode cX11_putsAside 70 = .ok (.iinc 1 1, 3) := by decide +kernel
theorem dX11_putsAside_73 : decode cX11_putsAside 73 = .ok (.goto (-23), 3) := by decide +kernel
theorem dX11_putsAside_76 : decode cX11_putsAside 76 = .ok (.return_, 1) := by decide +kernel
theorem dX11_isAlike_0 : decode cX11_isAlike 0 = .ok (.aload_n 0, 1) := by decide +kernel
theorem dX11_isAlike_1 : decode cX11_isAlike 1 = .ok (.getfield 168, 3) := by decide +kernel
theorem dX11_isAlike_4 : decode cX11_isAlike 4 = .ok (.aload_n 0, 1) := by decide +kernel
theorem dX11_isAlike_5 : decode cX11_isAlike 5 = .ok (.getfield 189, 3) := by decide +kernel
theorem dX11_isAlike_8 : decode cX11_isAlike 8 = .ok (.if_icmp .ne 61, 3) := by decide +kernel
theorem dX11_isAlike_11 : decode cX11_isAlike 11 = .ok (.aload_n 0, 1) := by decide +kernel
theorem dX11_isAlike_12 : decode cX11_isAlike 12 = .ok (.getfield 126, 3) := by decide +kernel
theorem dX11_isAlike_15 : decode cX11_isAlike 15 = .ok (.aload_n 0, 1) := by decide +kernel
theorem dX11_isAlike_16 : decode cX11_isAlike 16 = .ok (.getfield 192, 3) := by decide +kernel
theorem dX11_isAlike_19 : decode cX11_isAlike 19 = .ok (.lcmp, 1) := by decide +kernel
theorem dX11_isAlike_20 : decode cX11_isAlike 20 = .ok (.ifCond .ne 49, 3) := by decide +kernel
theorem dX11_isAlike_23 : decode cX11_isAlike 23 = .ok (.aload_n 0, 1) := by decide +kernel
theorem dX11_isAlike_24 : decode cX11_isAlike 24 = .ok (.getfield 168, 3) := by decide +kernel
theorem dX11_isAlike_27 : decode cX11_isAlike 27 = .ok (.iconst 1, 1) := by decide +kernel
theorem dX11_isAlike_28 : decode cX11_isAlike 28 = .ok (.if_icmp .ne 14, 3) := by decide +kernel
theorem dX11_isAlike_31 : decode cX11_isAlike 31 = .ok (.aload_n 0, 1) := by decide +kernel
theorem dX11_isAlike_32 : decode cX11_isAlike 32 = .ok (.getfield 171, 3) := by decide +kernel
theorem dX11_isAlike_35 : decode cX11_isAlike 35 = .ok (.aload_n 0, 1) := by decide +kernel
theorem dX11_isAlike_36 : decode cX11_isAlike 36 = .ok (.getfield 198, 3) := by decide +kernel
theorem dX11_isAlike_39 : decode cX11_isAlike 39 = .ok (.if_icmp .ne 30, 3) := by decide +kernel
theorem dX11_isAlike_42 : decode cX11_isAlike 42 = .ok (.aload_n 0, 1) := by decide +kernel
theorem dX11_isAlike_43 : decode cX11_isAlike 43 = .ok (.getfield 160, 3) := by decide +kernel
theorem dX11_isAlike_46 : decode cX11_isAlike 46 = .ok (.aload_n 0, 1) := by decide +kernel
theorem dX11_isAlike_47 : decode cX11_isAlike 47 = .ok (.getfield 195, 3) := by decide +kernel
theorem dX11_isAlike_50 : decode cX11_isAlike 50 = .ok (.lcmp, 1) := by decide +kernel
theorem dX11_isAlike_51 : decode cX11_isAlike 51 = .ok (.ifCond .ne 18, 3) := by decide +kernel
theorem dX11_isAlike_54 : decode cX11_isAlike 54 = .ok (.aload_n 0, 1) := by decide +kernel
theorem dX11_isAlike_55 : decode cX11_isAlike 55 = .ok (.getfield 140, 3) := by decide +kernel
theorem dX11_isAlike_58 : decode cX11_isAlike 58 = .ok (.aload_n 0, 1) := by decide +kernel
theorem dX11_isAlike_59 : decode cX11_isAlike 59 = .ok (.getfield 201, 3) := by decide +kernel
theorem dX11_isAlike_62 : decode cX11_isAlike 62 = .ok (.if_icmp .ne 7, 3) := by decide +kernel
theorem dX11_isAlike_65 : decode cX11_isAlike 65 = .ok (.iconst 1, 1) := by decide +kernel
theorem dX11_isAlike_66 : decode cX11_isAlike 66 = .ok (.goto 4, 3) := by decide +kernel
theorem dX11_isAlike_69 : decode cX11_isAlike 69 = .ok (.iconst 0, 1) := by decide +kernel
theorem dX11_isAlike_70 : decode cX11_isAlike 70 = .ok (.istore_n 1, 1) := by decide +kernel
theorem dX11_isAlike_71 : decode cX11_isAlike 71 = .ok (.iconst 0, 1) := by decide +kernel
theorem dX11_isAlike_72 : decode cX11_isAlike 72 = .ok (.istore_n 2, 1) := by decide +kernel
theorem dX11_isAlike_73 : decode cX11_isAlike 73 = .ok (.iload_n 2, 1) := by decide +kernel
theorem dX11_isAlike_74 : decode cX11_isAlike 74 = .ok (.aload_n 0, 1) := by decide +kernel
theorem dX11_isAlike_75 : decode cX11_isAlike 75 = .ok (.getfield 140, 3) := by decide +kernel
theorem dX11_isAlike_78 : decode cX11_isAlike 78 = .ok (.if_icmp .ge 34, 3) := by decide +kernel
theorem dX11_isAlike_81 : decode cX11_isAlike 81 = .ok (.iload_n 1, 1) := by decide +kernel
theorem dX11_isAlike_82 : decode cX11_isAlike 82 = .ok (.ifCond .eq 30, 3) := by decide +kernel
theorem dX11_isAlike_85 : decode cX11_isAlike 85 = .ok (.aload_n 0, 1) := by decide +kernel
theorem dX11_isAlike_86 : decode cX11_isAlike 86 = .ok (.getfield 33, 3) := by decide +kernel
theorem dX11_isAlike_89 : decode cX11_isAlike 89 = .ok (.iload_n 2, 1) := by decide +kernel
theorem dX11_isAlike_90 : decode cX11_isAlike 90 = .ok (.iaload, 1) := by decide +kernel
theorem dX11_isAlike_91 : decode cX11_isAlike 91 = .ok (.aload_n 0, 1) := by decide +kernel
theorem dX11_isAlike_92 : decode cX11_isAlike 92 = .ok (.getfield 42, 3) := by decide +kernel
theorem dX11_isAlike_95 : decode cX11_isAlike 95 = .ok (.iload_n 2, 1) := by decide +kernel
theorem dX11_isAlike_96 : decode cX11_isAlike 96 = .ok (.iaload, 1) := by decide +kernel
theorem dX11_isAlike_97 : decode cX11_isAlike 97 = .ok (.if_icmp .ne 7, 3) := by decide +kernel
theorem dX11_isAlike_100 : decode cX11_isAlike 100 = .ok (.iconst 1, 1) := by decide +kernel
theorem dX11_isAlike_101 : decode cX11_isAlike 101 = .ok (.goto 4, 3) := by decide +kernel
theorem dX11_isAlike_104 : decode cX11_isAlike 104 = .ok (.iconst 0, 1) := by decide +kernel
theorem dX11_isAlike_105 : decode cX11_isAlike 105 = .ok (.istore_n 1, 1) := by decide +kernel
theorem dX11_isAlike_106 : decode cX11_isAlike 106 = .ok (.iinc 2 1, 3) := by decide +kernel
theorem dX11_isAlike_109 : decode cX11_isAlike 109 = .ok (.goto (-36), 3) := by decide +kernel
theorem dX11_isAlike_112 : decode cX11_isAlike 112 = .ok (.iload_n 1, 1) := by decide +kernel
theorem dX11_isAlike_113 : decode cX11_isAlike 113 = .ok (.ireturn, 1) := by decide +kernel
theorem dX11_asides_0 : decode cX11_asides 0 = .ok (.aload_n 0, 1) := by decide +kernel
theorem dX11_asides_1 : decode cX11_asides 1 = .ok (.iload_n 1, 1) := by decide +kernel
theorem dX11_asides_2 : decode cX11_asides 2 = .ok (.invokevirtual 207, 3) := by decide +kernel
theorem dX11_asides_5 : decode cX11_asides 5 = .ok (.aload_n 0, 1) := by decide +kernel
theorem dX11_asides_6 : decode cX11_asides 6 = .ok (.invokevirtual 210, 3) := by decide +kernel
theorem dX11_asides_9 : decode cX11_asides 9 = .ok (.aload_n 0, 1) := by decide +kernel
theorem dX11_asides_10 : decode cX11_asides 10 = .ok (.invokevirtual 213, 3) := by decide +kernel
theorem dX11_asides_13 : decode cX11_asides 13 = .ok (.return_, 1) := by decide +kernel
theorem dX11_areAlike_0 : decode cX11_areAlike 0 = .ok (.aload_n 0, 1) := by decide +kernel
theorem dX11_areAlike_1 : decode cX11_areAlike 1 = .ok (.iload_n 1, 1) := by decide +kernel
theorem dX11_areAlike_2 : decode cX11_areAlike 2 = .ok (.invokevirtual 216, 3) := by decide +kernel
theorem dX11_areAlike_5 : decode cX11_areAlike 5 = .ok (.aload_n 0, 1) := by decide +kernel
theorem dX11_areAlike_6 : decode cX11_areAlike 6 = .ok (.iload_n 2, 1) := by decide +kernel
theorem dX11_areAlike_7 : decode cX11_areAlike 7 = .ok (.invokevirtual 207, 3) := by decide +kernel
theorem dX11_areAlike_10 : decode cX11_areAlike 10 = .ok (.aload_n 0, 1) := by decide +kernel
theorem dX11_areAlike_11 : decode cX11_areAlike 11 = .ok (.invokevirtual 210, 3) := by decide +kernel
theorem dX11_areAlike_14 : decode cX11_areAlike 14 = .ok (.aload_n 0, 1) := by decide +kernel
theorem dX11_areAlike_15 : decode cX11_areAlike 15 = .ok (.invokevirtual 219, 3) := by decide +kernel
theorem dX11_areAlike_18 : decode cX11_areAlike 18 = .ok (.ireturn, 1) := by decide +kernel
theorem dX11_isTwin_0 : decode cX11_isTwin 0 = .ok (.aload_n 0, 1) := by decide +kernel
theorem dX11_isTwin_1 : decode cX11_isTwin 1 = .ok (.iload_n 1, 1) := by decide +kernel
theorem dX11_isTwin_2 : decode cX11_isTwin 2 = .ok (.invokevirtual 216, 3) := by decide +kernel
theorem dX11_isTwin_5 : decode cX11_isTwin 5 = .ok (.aload_n 0, 1) := by decide +kernel
theorem dX11_isTwin_6 : decode cX11_isTwin 6 = .ok (.iload_n 1, 1) := by decide +kernel
theorem dX11_isTwin_7 : decode cX11_isTwin 7 = .ok (.invokevirtual 207, 3) := by decide +kernel
theorem dX11_isTwin_10 : decode cX11_isTwin 10 = .ok (.aload_n 0, 1) := by decide +kernel
theorem dX11_isTwin_11 : decode cX11_isTwin 11 = .ok (.aload_n 0, 1) := by decide +kernel
theorem dX11_isTwin_12 : decode cX11_isTwin 12 = .ok (.getfield 67, 3) := by decide +kernel
theorem dX11_isTwin_15 : decode cX11_isTwin 15 = .ok (.lconst 0, 1) := by decide +kernel
theorem dX11_isTwin_16 : decode cX11_isTwin 16 = .ok (.aload_n 0, 1) := by decide +kernel
theorem dX11_isTwin_17 : decode cX11_isTwin 17 = .ok (.getfield 61, 3) := by decide +kernel
theorem dX11_isTwin_20 : decode cX11_isTwin 20 = .ok (.lsub, 1) := by decide +kernel
theorem dX11_isTwin_21 : decode cX11_isTwin 21 = .ok (.lconst 0, 1) := by decide +kernel
theorem dX11_isTwin_22 : decode cX11_isTwin 22 = .ok (.aload_n 0, 1) := by decide +kernel
theorem dX11_isTwin_23 : decode cX11_isTwin 23 = .ok (.getfield 64, 3) := by decide +kernel
theorem dX11_isTwin_26 : decode cX11_isTwin 26 = .ok (.lsub, 1) := by decide +kernel
theorem dX11_isTwin_27 : decode cX11_isTwin 27 = .ok (.aload_n 0, 1) := by decide +kernel
theorem dX11_isTwin_28 : decode cX11_isTwin 28 = .ok (.getfield 57, 3) := by decide +kernel
theorem dX11_isTwin_31 : decode cX11_isTwin 31 = .ok (.invokevirtual 70, 3) := by decide +kernel
theorem dX11_isTwin_34 : decode cX11_isTwin 34 = .ok (.aload_n 0, 1) := by decide +kernel
theorem dX11_isTwin_35 : decode cX11_isTwin 35 = .ok (.invokevirtual 210, 3) := by decide +kernel
theorem dX11_isTwin_38 : decode cX11_isTwin 38 = .ok (.aload_n 0, 1) := by decide +kernel
theorem dX11_isTwin_39 : decode cX11_isTwin 39 = .ok (.invokevirtual 219, 3) := by decide +kernel
theorem dX11_isTwin_42 : decode cX11_isTwin 42 = .ok (.ireturn, 1) := by decide +kernel
theorem dX11_isMirrored_0 : decode cX11_isMirrored 0 = .ok (.aload_n 0, 1) := by decide +kernel
theorem dX11_isMirrored_1 : decode cX11_isMirrored 1 = .ok (.iload_n 1, 1) := by decide +kernel
theorem dX11_isMirrored_2 : decode cX11_isMirrored 2 = .ok (.invokevirtual 216, 3) := by decide +kernel
theorem dX11_isMirrored_5 : decode cX11_isMirrored 5 = .ok (.aload_n 0, 1) := by decide +kernel
theorem dX11_isMirrored_6 : decode cX11_isMirrored 6 = .ok (.iload_n 1, 1) := by decide +kernel
theorem dX11_isMirrored_7 : decode cX11_isMirrored 7 = .ok (.invokevirtual 207, 3) := by decide +kernel
theorem dX11_isMirrored_10 : decode cX11_isMirrored 10 = .ok (.aload_n 0, 1) := by decide +kernel
theorem dX11_isMirrored_11 : decode cX11_isMirrored 11 = .ok (.aload_n 0, 1) := by decide +kernel
theorem dX11_isMirrored_12 : decode cX11_isMirrored 12 = .ok (.getfield 57, 3) := by decide +kernel
theorem dX11_isMirrored_15 : decode cX11_isMirrored 15 = .ok (.lconst 0, 1) := by decide +kernel
theorem dX11_isMirrored_16 : decode cX11_isMirrored 16 = .ok (.aload_n 0, 1) := by decide +kernel
theorem dX11_isMirrored_17 : decode cX11_isMirrored 17 = .ok (.getfield 61, 3) := by decide +kernel
theorem dX11_isMirrored_20 : decode cX11_isMirrored 20 = .ok (.lsub, 1) := by decide +kernel
theorem dX11_isMirrored_21 : decode cX11_isMirrored 21 = .ok (.lconst 0, 1) := by decide +kernel
theorem dX11_isMirrored_22 : decode cX11_isMirrored 22 = .ok (.aload_n 0, 1) := by decide +kernel
theorem dX11_isMirrored_23 : decode cX11_isMirrored 23 = .ok (.getfield 64, 3) := by decide +kernel
theorem dX11_isMirrored_26 : decode cX11_isMirrored 26 = .ok (.lsub, 1) := by decide +kernel
theorem dX11_isMirrored_27 : decode cX11_isMirrored 27 = .ok (.aload_n 0, 1) := by decide +kernel
theorem dX11_isMirrored_28 : decode cX11_isMirrored 28 = .ok (.getfield 67, 3) := by decide +kernel
theorem dX11_isMirrored_31 : decode cX11_isMirrored 31 = .ok (.invokevirtual 70, 3) := by decide +kernel
theorem dX11_isMirrored_34 : decode cX11_isMirrored 34 = .ok (.aload_n 0, 1) := by decide +kernel
theorem dX11_isMirrored_35 : decode cX11_isMirrored 35 = .ok (.invokevirtual 210, 3) := by decide +kernel
theorem dX11_isMirrored_38 : decode cX11_isMirrored 38 = .ok (.aload_n 0, 1) := by decide +kernel
theorem dX11_isMirrored_39 : decode cX11_isMirrored 39 = .ok (.invokevirtual 219, 3) := by decide +kernel
theorem dX11_isMirrored_42 : decode cX11_isMirrored 42 = .ok (.ireturn, 1) := by decide +kernel
theorem dX11_family_0 : decode cX11_family 0 = .ok (.aload_n 0, 1) := by decide +kernel
theorem dX11_family_1 : decode cX11_family 1 = .ok (.iload_n 1, 1) := by decide +kernel
theorem dX11_family_2 : decode cX11_family 2 = .ok (.invokevirtual 216, 3) := by decide +kernel
theorem dX11_family_5 : decode cX11_family 5 = .ok (.iconst 0, 1) := by decide +kernel
theorem dX11_family_6 : decode cX11_family 6 = .ok (.istore_n 2, 1) := by decide +kernel
theorem dX11_family_7 : decode cX11_family 7 = .ok (.iconst 0, 1) := by decide +kernel
theorem dX11_family_8 : decode cX11_family 8 = .ok (.istore_n 3, 1) := by decide +kernel
theorem dX11_family_9 : decode cX11_family 9 = .ok (.iload_n 3, 1) := by decide +kernel
theorem dX11_family_10 : decode cX11_family 10 = .ok (.aload_n 0, 1) := by decide +kernel
theorem dX11_family_11 : decode cX11_family 11 = .ok (.getfield 7, 3) := by decide +kernel
theorem dX11_family_14 : decode cX11_family 14 = .ok (.iconst 0, 1) := by decide +kernel
theorem dX11_family_15 : decode cX11_family 15 = .ok (.iaload, 1) := by decide +kernel
theorem dX11_family_16 : decode cX11_family 16 = .ok (.if_icmp .ge 35, 3) := by decide +kernel
theorem dX11_family_19 : decode cX11_family 19 = .ok (.aload_n 0, 1) := by decide +kernel
theorem dX11_family_20 : decode cX11_family 20 = .ok (.iload_n 3, 1) := by decide +kernel
theorem dX11_family_21 : decode cX11_family 21 = .ok (.invokevirtual 207, 3) := by decide +kernel
theorem dX11_family_24 : decode cX11_family 24 = .ok (.aload_n 0, 1) := by decide +kernel
theorem dX11_family_25 : decode cX11_family 25 = .ok (.invokevirtual 210, 3) := by decide +kernel
theorem dX11_family_28 : decode cX11_family 28 = .ok (.iload_n 2, 1) := by decide +kernel
theorem dX11_family_29 : decode cX11_family 29 = .ok (.aload_n 0, 1) := by decide +kernel
theorem dX11_family_30 : decode cX11_family 30 = .ok (.invokevirtual 219, 3) := by decide +kernel
theorem dX11_family_33 : decode cX11_family 33 = .ok (.ifCond .eq 9, 3) := by decide +kernel
theorem dX11_family_36 : decode cX11_family 36 = .ok (.iconst 1, 1) := by decide +kernel
theorem dX11_family_37 : decode cX11_family 37 = .ok (.iload_n 3, 1) := by decide +kernel
theorem dX11_family_38 : decode cX11_family 38 = .ok (.ishl, 1) := by decide +kernel
theorem dX11_family_39 : decode cX11_family 39 = .ok (.goto 4, 3) := by decide +kernel
theorem dX11_family_42 : decode cX11_family 42 = .ok (.iconst 0, 1) := by decide +kernel
theorem dX11_family_43 : decode cX11_family 43 = .ok (.ior, 1) := by decide +kernel
theorem dX11_family_44 : decode cX11_family 44 = .ok (.istore_n 2, 1) := by decide +kernel
theorem dX11_family_45 : decode cX11_family 45 = .ok (.iinc 3 1, 3) := by decide +kernel
theorem dX11_family_48 : decode cX11_family 48 = .ok (.goto (-39), 3) := by decide +kernel
theorem dX11_family_51 : decode cX11_family 51 = .ok (.iload_n 2, 1) := by decide +kernel
theorem dX11_family_52 : decode cX11_family 52 = .ok (.ireturn, 1) := by decide +kernel
theorem dX11_families_0 : decode cX11_families 0 = .ok (.iconst 0, 1) := by decide +kernel
theorem dX11_families_1 : decode cX11_families 1 = .ok (.istore_n 2, 1) := by decide +kernel
theorem dX11_families_2 : decode cX11_families 2 = .ok (.iconst 0, 1) := by decide +kernel
theorem dX11_families_3 : decode cX11_families 3 = .ok (.istore_n 3, 1) := by decide +kernel
theorem dX11_families_4 : decode cX11_families 4 = .ok (.iconst 0, 1) := by decide +kernel
theorem dX11_families_5 : decode cX11_families 5 = .ok (.istore 4, 2) := by decide +kernel
theorem dX11_families_7 : decode cX11_families 7 = .ok (.iload 4, 2) := by decide +kernel
theorem dX11_families_9 : decode cX11_families 9 = .ok (.aload_n 0, 1) := by decide +kernel
theorem dX11_families_10 : decode cX11_families 10 = .ok (.getfield 7, 3) := by decide +kernel
theorem dX11_families_13 : decode cX11_families 13 = .ok (.iconst 0, 1) := by decide +kernel
theorem dX11_families_14 : decode cX11_families 14 = .ok (.iaload, 1) := by decide +kernel
theorem dX11_families_15 : decode cX11_families 15 = .ok (.if_icmp .ge 56, 3) := by decide +kernel
theorem dX11_families_18 : decode cX11_families 18 = .ok (.aload_n 0, 1) := by decide +kernel
theorem dX11_families_19 : decode cX11_families 19 = .ok (.iload 4, 2) := by decide +kernel
theorem dX11_families_21 : decode cX11_families 21 = .ok (.invokevirtual 222, 3) := by decide +kernel
theorem dX11_families_24 : decode cX11_families 24 = .ok (.istore 5, 2) := by decide +kernel
theorem dX11_families_26 : decode cX11_families 26 = .ok (.iload_n 2, 1) := by decide +kernel
theorem dX11_families_27 : decode cX11_families 27 = .ok (.iload 5, 2) := by decide +kernel
theorem dX11_families_29 : decode cX11_families 29 = .ok (.iconst 1, 1) := by decide +kernel
theorem dX11_families_30 : decode cX11_families 30 = .ok (.iload 4, 2) := by decide +kernel
theorem dX11_families_32 : decode cX11_families 32 = .ok (.ishl, 1) := by decide +kernel
theorem dX11_families_33 : decode cX11_families 33 = .ok (.iconst 1, 1) := by decide +kernel
theorem dX11_families_34 : decode cX11_families 34 = .ok (.isub, 1) := by decide +kernel
theorem dX11_families_35 : decode cX11_families 35 = .ok (.iand, 1) := by decide +kernel
theorem dX11_families_36 : decode cX11_families 36 = .ok (.ifCond .ne 7, 3) := by decide +kernel
theorem dX11_families_39 : decode cX11_families 39 = .ok (.iconst 1, 1) := by decide +kernel
theorem dX11_families_40 : decode cX11_families 40 = .ok (.goto 4, 3) := by decide +kernel
theorem dX11_families_43 : decode cX11_families 43 = .ok (.iconst 0, 1) := by decide +kernel
theorem dX11_families_44 : decode cX11_families 44 = .ok (.iadd, 1) := by decide +kernel
theorem dX11_families_45 : decode cX11_families 45 = .ok (.istore_n 2, 1) := by decide +kernel
theorem dX11_families_46 : decode cX11_families 46 = .ok (.iload 5, 2) := by decide +kernel
theorem dX11_families_48 : decode cX11_families 48 = .ok (.invokestatic 225, 3) := by decide +kernel
theorem dX11_families_51 : decode cX11_families 51 = .ok (.iload_n 3, 1) := by decide +kernel
theorem dX11_families_52 : decode cX11_families 52 = .ok (.invokestatic 225, 3) := by decide +kernel
theorem dX11_families_55 : decode cX11_families 55 = .ok (.if_icmp .le 8, 3) := by decide +kernel
theorem dX11_families_58 : decode cX11_families 58 = .ok (.iload 5, 2) := by decide +kernel
theorem dX11_families_60 : decode cX11_families 60 = .ok (.goto 4, 3) := by decide +kernel
theorem dX11_families_63 : decode cX11_families 63 = .ok (.iload_n 3, 1) := by decide +kernel
theorem dX11_families_64 : decode cX11_families 64 = .ok (.istore_n 3, 1) := by decide +kernel
theorem dX11_families_65 : decode cX11_families 65 = .ok (.iinc 4 1, 3) := by decide +kernel
theorem dX11_families_68 : decode cX11_families 68 = .ok (.goto (-61), 3) := by decide +kernel
theorem dX11_families_71 : decode cX11_families 71 = .ok (.iload_n 1, 1) := by decide +kernel
theorem dX11_families_72 : decode cX11_families 72 = .ok (.iconst 2, 1) := by decide +kernel
theorem dX11_families_73 : decode cX11_families 73 = .ok (.if_icmp .ne 7, 3) := by decide +kernel
theorem dX11_families_76 : decode cX11_families 76 = .ok (.iload_n 2, 1) := by decide +kernel
theorem dX11_families_77 : decode cX11_families 77 = .ok (.goto 4, 3) := by decide +kernel
theorem dX11_families_80 : decode cX11_families 80 = .ok (.iload_n 3, 1) := by decide +kernel
theorem dX11_families_81 : decode cX11_families 81 = .ok (.ireturn, 1) := by decide +kernel
theorem dX11_twins_0 : decode cX11_twins 0 = .ok (.iconst 0, 1) := by decide +kernel
theorem dX11_twins_1 : decode cX11_twins 1 = .ok (.istore_n 1, 1) := by decide +kernel
theorem dX11_twins_2 : decode cX11_twins 2 = .ok (.iconst 0, 1) := by decide +kernel
theorem dX11_twins_3 : decode cX11_twins 3 = .ok (.istore_n 2, 1) := by decide +kernel
theorem dX11_twins_4 : decode cX11_twins 4 = .ok (.iload_n 2, 1) := by decide +kernel
theorem dX11_twins_5 : decode cX11_twins 5 = .ok (.aload_n 0, 1) := by decide +kernel
theorem dX11_twins_6 : decode cX11_twins 6 = .ok (.getfield 7, 3) := by decide +kernel
theorem dX11_twins_9 : decode cX11_twins 9 = .ok (.iconst 0, 1) := by decide +kernel
theorem dX11_twins_10 : decode cX11_twins 10 = .ok (.iaload, 1) := by decide +kernel
theorem dX11_twins_11 : decode cX11_twins 11 = .ok (.if_icmp .ge 25, 3) := by decide +kernel
theorem dX11_twins_14 : decode cX11_twins 14 = .ok (.iload_n 1, 1) := by decide +kernel
theorem dX11_twins_15 : decode cX11_twins 15 = .ok (.aload_n 0, 1) := by decide +kernel
theorem dX11_twins_16 : decode cX11_twins 16 = .ok (.iload_n 2, 1) := by decide +kernel
theorem dX11_twins_17 : decode cX11_twins 17 = .ok (.invokevirtual 228, 3) := by decide +kernel
theorem dX11_twins_20 : decode cX11_twins 20 = .ok (.ifCond .eq 7, 3) := by decide +kernel
theorem dX11_twins_23 : decode cX11_twins 23 = .ok (.iconst 1, 1) := by decide +kernel
theorem dX11_twins_24 : decode cX11_twins 24 = .ok (.goto 4, 3) := by decide +kernel
theorem dX11_twins_27 : decode cX11_twins 27 = .ok (.iconst 0, 1) := by decide +kernel
theorem dX11_twins_28 : decode cX11_twins 28 = .ok (.iadd, 1) := by decide +kernel
theorem dX11_twins_29 : decode cX11_twins 29 = .ok (.istore_n 1, 1) := by decide +kernel
theorem dX11_twins_30 : decode cX11_twins 30 = .ok (.iinc 2 1, 3) := by decide +kernel
theorem dX11_twins_33 : decode cX11_twins 33 = .ok (.goto (-29), 3) := by decide +kernel
theorem dX11_twins_36 : decode cX11_twins 36 = .ok (.iload_n 1, 1) := by decide +kernel
theorem dX11_twins_37 : decode cX11_twins 37 = .ok (.ireturn, 1) := by decide +kernel
theorem dX11_wrong_0 : decode cX11_wrong 0 = .ok (.iconst 0, 1) := by decide +kernel
theorem dX11_wrong_1 : decode cX11_wrong 1 = .ok (.istore_n 1, 1) := by decide +kernel
theorem dX11_wrong_2 : decode cX11_wrong 2 = .ok (.iload_n 1, 1) := by decide +kernel
theorem dX11_wrong_3 : decode cX11_wrong 3 = .ok (.aload_n 0, 1) := by decide +kernel
theorem dX11_wrong_4 : decode cX11_wrong 4 = .ok (.getfield 231, 3) := by decide +kernel
theorem dX11_wrong_7 : decode cX11_wrong 7 = .ok (.if_icmp .ge 75, 3) := by decide +kernel
theorem dX11_wrong_10 : decode cX11_wrong 10 = .ok (.aload_n 0, 1) := by decide +kernel
theorem dX11_wrong_11 : decode cX11_wrong 11 = .ok (.getfield 30, 3) := by decide +kernel
theorem dX11_wrong_14 : decode cX11_wrong 14 = .ok (.iconst 3, 1) := by decide +kernel
theorem dX11_wrong_15 : decode cX11_wrong 15 = .ok (.iload_n 1, 1) := by decide +kernel
theorem dX11_wrong_16 : decode cX11_wrong 16 = .ok (.imul, 1) := by decide +kernel
theorem dX11_wrong_17 : decode cX11_wrong 17 = .ok (.iaload, 1) := by decide +kernel
theorem dX11_wrong_18 : decode cX11_wrong 18 = .ok (.istore_n 2, 1) := by decide +kernel
theorem dX11_wrong_19 : decode cX11_wrong 19 = .ok (.aload_n 0, 1) := by decide +kernel
theorem dX11_wrong_20 : decode cX11_wrong 20 = .ok (.getfield 30, 3) := by decide +kernel
theorem dX11_wrong_23 : decode cX11_wrong 23 = .ok (.iconst 3, 1) := by decide +kernel
theorem dX11_wrong_24 : decode cX11_wrong 24 = .ok (.iload_n 1, 1) := by decide +kernel
theorem dX11_wrong_25 : decode cX11_wrong 25 = .ok (.imul, 1) := by decide +kernel
theorem dX11_wrong_26 : decode cX11_wrong 26 = .ok (.iconst 1, 1) := by decide +kernel
theorem dX11_wrong_27 : decode cX11_wrong 27 = .ok (.iadd, 1) := by decide +kernel
theorem dX11_wrong_28 : decode cX11_wrong 28 = .ok (.iaload, 1) := by decide +kernel
theorem dX11_wrong_29 : decode cX11_wrong 29 = .ok (.istore_n 3, 1) := by decide +kernel
theorem dX11_wrong_30 : decode cX11_wrong 30 = .ok (.aload_n 0, 1) := by decide +kernel
theorem dX11_wrong_31 : decode cX11_wrong 31 = .ok (.iload_n 2, 1) := by decide +kernel
theorem dX11_wrong_32 : decode cX11_wrong 32 = .ok (.invokevirtual 234, 3) := by decide +kernel
theorem dX11_wrong_35 : decode cX11_wrong 35 = .ok (.ifCond .eq 39, 3) := by decide +kernel
end
section
theorem dX11_wrong_38 : decode cX11_wrong 38 = .ok (.aload_n 0, 1) := by decide +kernel
theorem dX11_wrong_39 : decode cX11_wrong 39 = .ok (.iload_n 3, 1) := by decide +kernel
theorem dX11_wrong_40 : decode cX11_wrong 40 = .ok (.invokevirtual 234, 3) := by decide +kernel
theorem dX11_wrong_43 : decode cX11_wrong 43 = .ok (.ifCond .eq 31, 3) := by decide +kernel
theorem dX11_wrong_46 : decode cX11_wrong 46 = .ok (.aload_n 0, 1) := by decide +kernel
theorem dX11_wrong_47 : decode cX11_wrong 47 = .ok (.iload_n 2, 1) := by decide +kernel
theorem dX11_wrong_48 : decode cX11_wrong 48 = .ok (.iload_n 3, 1) := by decide +kernel
theorem dX11_wrong_49 : decode cX11_wrong 49 = .ok (.invokevirtual 237, 3) := by decide +kernel
theorem dX11_wrong_52 : decode cX11_wrong 52 = .ok (.aload_n 0, 1) := by decide +kernel
theorem dX11_wrong_53 : decode cX11_wrong 53 = .ok (.getfield 30, 3) := by decide +kernel
theorem dX11_wrong_56 : decode cX11_wrong 56 = .ok (.iconst 3, 1) := by decide +kernel
theorem dX11_wrong_57 : decode cX11_wrong 57 = .ok (.iload_n 1, 1) := by decide +kernel
theorem dX11_wrong_58 : decode cX11_wrong 58 = .ok (.imul, 1) := by decide +kernel
theorem dX11_wrong_59 : decode cX11_wrong 59 = .ok (.iconst 2, 1) := by decide +kernel
theorem dX11_wrong_60 : decode cX11_wrong 60 = .ok (.iadd, 1) := by decide +kernel
theorem dX11_wrong_61 : decode cX11_wrong 61 = .ok (.iaload, 1) := by decide +kernel
theorem dX11_wrong_62 : decode cX11_wrong 62 = .ok (.iconst 1, 1) := by decide +kernel
theorem dX11_wrong_63 : decode cX11_wrong 63 = .ok (.if_icmp .ne 7, 3) := by decide +kernel
theorem dX11_wrong_66 : decode cX11_wrong 66 = .ok (.iconst 1, 1) := by decide +kernel
theorem dX11_wrong_67 : decode cX11_wrong 67 = .ok (.goto 4, 3) := by decide +kernel
theorem dX11_wrong_70 : decode cX11_wrong 70 = .ok (.iconst 0, 1) := by decide +kernel
theorem dX11_wrong_71 : decode cX11_wrong 71 = .ok (.if_icmp .eq 5, 3) := by decide +kernel
theorem dX11_wrong_74 : decode cX11_wrong 74 = .ok (.iload_n 1, 1) := by decide +kernel
theorem dX11_wrong_75 : decode cX11_wrong 75 = .ok (.ireturn, 1) := by decide +kernel
theorem dX11_wrong_76 : decode cX11_wrong 76 = .ok (.iinc 1 1, 3) := by decide +kernel
theorem dX11_wrong_79 : decode cX11_wrong 79 = .ok (.goto (-77), 3) := by decide +kernel
theorem dX11_wrong_82 : decode cX11_wrong 82 = .ok (.iconst (-1), 1) := by decide +kernel
theorem dX11_wrong_83 : decode cX11_wrong 83 = .ok (.ireturn, 1) := by decide +kernel
theorem dX11_told_0 : decode cX11_told 0 = .ok (.iload_n 1, 1) := by decide +kernel
theorem dX11_told_1 : decode cX11_told 1 = .ok (.tableswitch 85 0 7 #[47, 54, 59, 59, 65, 70, 75, 80], 47) := by decide +kernel
theorem dX11_told_48 : decode cX11_told 48 = .ok (.aload_n 0, 1) := by decide +kernel
theorem dX11_told_49 : decode cX11_told 49 = .ok (.getfield 7, 3) := by decide +kernel
theorem dX11_told_52 : decode cX11_told 52 = .ok (.iconst 0, 1) := by decide +kernel
theorem dX11_told_53 : decode cX11_told 53 = .ok (.iaload, 1) := by decide +kernel
theorem dX11_told_54 : decode cX11_told 54 = .ok (.ireturn, 1) := by decide +kernel
theorem dX11_told_55 : decode cX11_told 55 = .ok (.aload_n 0, 1) := by decide +kernel
theorem dX11_told_56 : decode cX11_told 56 = .ok (.getfield 86, 3) := by decide +kernel
theorem dX11_told_59 : decode cX11_told 59 = .ok (.ireturn, 1) := by decide +kernel
theorem dX11_told_60 : decode cX11_told 60 = .ok (.aload_n 0, 1) := by decide +kernel
theorem dX11_told_61 : decode cX11_told 61 = .ok (.iload_n 1, 1) := by decide +kernel
theorem dX11_told_62 : decode cX11_told 62 = .ok (.invokevirtual 240, 3) := by decide +kernel
theorem dX11_told_65 : decode cX11_told 65 = .ok (.ireturn, 1) := by decide +kernel
theorem dX11_told_66 : decode cX11_told 66 = .ok (.aload_n 0, 1) := by decide +kernel
theorem dX11_told_67 : decode cX11_told 67 = .ok (.invokevirtual 243, 3) := by decide +kernel
theorem dX11_told_70 : decode cX11_told 70 = .ok (.ireturn, 1) := by decide +kernel
theorem dX11_told_71 : decode cX11_told 71 = .ok (.aload_n 0, 1) := by decide +kernel
theorem dX11_told_72 : decode cX11_told 72 = .ok (.getfield 231, 3) := by decide +kernel
theorem dX11_told_75 : decode cX11_told 75 = .ok (.ireturn, 1) := by decide +kernel
theorem dX11_told_76 : decode cX11_told 76 = .ok (.aload_n 0, 1) := by decide +kernel
theorem dX11_told_77 : decode cX11_told 77 = .ok (.invokevirtual 246, 3) := by decide +kernel
theorem dX11_told_80 : decode cX11_told 80 = .ok (.ireturn, 1) := by decide +kernel
theorem dX11_told_81 : decode cX11_told 81 = .ok (.aload_n 0, 1) := by decide +kernel
theorem dX11_told_82 : decode cX11_told 82 = .ok (.getfield 90, 3) := by decide +kernel
theorem dX11_told_85 : decode cX11_told 85 = .ok (.ireturn, 1) := by decide +kernel
theorem dX11_told_86 : decode cX11_told 86 = .ok (.ldc 85, 2) := by decide +kernel
theorem dX11_told_88 : decode cX11_told 88 = .ok (.ireturn, 1) := by decide +kernel
theorem dX11_number_0 : decode cX11_number 0 = .ok (.aload_n 0, 1) := by decide +kernel
theorem dX11_number_1 : decode cX11_number 1 = .ok (.iload_n 1, 1) := by decide +kernel
theorem dX11_number_2 : decode cX11_number 2 = .ok (.invokevirtual 234, 3) := by decide +kernel
theorem dX11_number_5 : decode cX11_number 5 = .ok (.ifCond .ne 6, 3) := by decide +kernel
theorem dX11_number_8 : decode cX11_number 8 = .ok (.ldc 249, 2) := by decide +kernel
theorem dX11_number_10 : decode cX11_number 10 = .ok (.ireturn, 1) := by decide +kernel
theorem dX11_number_11 : decode cX11_number 11 = .ok (.iload_n 2, 1) := by decide +kernel
theorem dX11_number_12 : decode cX11_number 12 = .ok (.i2l, 1) := by decide +kernel
theorem dX11_number_13 : decode cX11_number 13 = .ok (.lconst 0, 1) := by decide +kernel
theorem dX11_number_14 : decode cX11_number 14 = .ok (.ldc2_w 250, 3) := by decide +kernel
theorem dX11_number_17 : decode cX11_number 17 = .ok (.invokestatic 53, 3) := by decide +kernel
theorem dX11_number_20 : decode cX11_number 20 = .ok (.ifCond .eq 21, 3) := by decide +kernel
theorem dX11_number_23 : decode cX11_number 23 = .ok (.aload_n 0, 1) := by decide +kernel
theorem dX11_number_24 : decode cX11_number 24 = .ok (.getfield 7, 3) := by decide +kernel
theorem dX11_number_27 : decode cX11_number 27 = .ok (.iconst 1, 1) := by decide +kernel
theorem dX11_number_28 : decode cX11_number 28 = .ok (.iconst 4, 1) := by decide +kernel
theorem dX11_number_29 : decode cX11_number 29 = .ok (.iload_n 1, 1) := by decide +kernel
theorem dX11_number_30 : decode cX11_number 30 = .ok (.imul, 1) := by decide +kernel
theorem dX11_number_31 : decode cX11_number 31 = .ok (.iadd, 1) := by decide +kernel
theorem dX11_number_32 : decode cX11_number 32 = .ok (.iload_n 2, 1) := by decide +kernel
theorem dX11_number_33 : decode cX11_number 33 = .ok (.iadd, 1) := by decide +kernel
theorem dX11_number_34 : decode cX11_number 34 = .ok (.iaload, 1) := by decide +kernel
theorem dX11_number_35 : decode cX11_number 35 = .ok (.ldc 252, 2) := by decide +kernel
theorem dX11_number_37 : decode cX11_number 37 = .ok (.iadd, 1) := by decide +kernel
theorem dX11_number_38 : decode cX11_number 38 = .ok (.goto 5, 3) := by decide +kernel
theorem dX11_number_41 : decode cX11_number 41 = .ok (.ldc 85, 2) := by decide +kernel
theorem dX11_number_43 : decode cX11_number 43 = .ok (.ireturn, 1) := by decide +kernel
theorem dX11_order_0 : decode cX11_order 0 = .ok (.aload_n 0, 1) := by decide +kernel
theorem dX11_order_1 : decode cX11_order 1 = .ok (.getfield 168, 3) := by decide +kernel
theorem dX11_order_4 : decode cX11_order 4 = .ok (.ifCond .ne 18, 3) := by decide +kernel
theorem dX11_order_7 : decode cX11_order 7 = .ok (.aload_n 0, 1) := by decide +kernel
theorem dX11_order_8 : decode cX11_order 8 = .ok (.getfield 126, 3) := by decide +kernel
theorem dX11_order_11 : decode cX11_order 11 = .ok (.lconst 0, 1) := by decide +kernel
theorem dX11_order_12 : decode cX11_order 12 = .ok (.lcmp, 1) := by decide +kernel
theorem dX11_order_13 : decode cX11_order 13 = .ok (.ifCond .le 7, 3) := by decide +kernel
theorem dX11_order_16 : decode cX11_order 16 = .ok (.iconst 1, 1) := by decide +kernel
theorem dX11_order_17 : decode cX11_order 17 = .ok (.goto 4, 3) := by decide +kernel
theorem dX11_order_20 : decode cX11_order 20 = .ok (.iconst 2, 1) := by decide +kernel
theorem dX11_order_21 : decode cX11_order 21 = .ok (.ireturn, 1) := by decide +kernel
theorem dX11_order_22 : decode cX11_order 22 = .ok (.aload_n 0, 1) := by decide +kernel
theorem dX11_order_23 : decode cX11_order 23 = .ok (.getfield 168, 3) := by decide +kernel
theorem dX11_order_26 : decode cX11_order 26 = .ok (.iconst 1, 1) := by decide +kernel
theorem dX11_order_27 : decode cX11_order 27 = .ok (.if_icmp .eq 7, 3) := by decide +kernel
theorem dX11_order_30 : decode cX11_order 30 = .ok (.iconst (-1), 1) := by decide +kernel
theorem dX11_order_31 : decode cX11_order 31 = .ok (.goto 31, 3) := by decide +kernel
theorem dX11_order_34 : decode cX11_order 34 = .ok (.aload_n 0, 1) := by decide +kernel
theorem dX11_order_35 : decode cX11_order 35 = .ok (.getfield 126, 3) := by decide +kernel
theorem dX11_order_38 : decode cX11_order 38 = .ok (.lconst 0, 1) := by decide +kernel
theorem dX11_order_39 : decode cX11_order 39 = .ok (.lcmp, 1) := by decide +kernel
theorem dX11_order_40 : decode cX11_order 40 = .ok (.ifCond .ge 7, 3) := by decide +kernel
theorem dX11_order_43 : decode cX11_order 43 = .ok (.iconst 3, 1) := by decide +kernel
theorem dX11_order_44 : decode cX11_order 44 = .ok (.goto 18, 3) := by decide +kernel
theorem dX11_order_47 : decode cX11_order 47 = .ok (.aload_n 0, 1) := by decide +kernel
theorem dX11_order_48 : decode cX11_order 48 = .ok (.getfield 126, 3) := by decide +kernel
theorem dX11_order_51 : decode cX11_order 51 = .ok (.lconst 0, 1) := by decide +kernel
theorem dX11_order_52 : decode cX11_order 52 = .ok (.lcmp, 1) := by decide +kernel
theorem dX11_order_53 : decode cX11_order 53 = .ok (.ifCond .ne 7, 3) := by decide +kernel
theorem dX11_order_56 : decode cX11_order 56 = .ok (.iconst 4, 1) := by decide +kernel
theorem dX11_order_57 : decode cX11_order 57 = .ok (.goto 5, 3) := by decide +kernel
theorem dX11_order_60 : decode cX11_order 60 = .ok (.bipush 6, 2) := by decide +kernel
theorem dX11_order_62 : decode cX11_order 62 = .ok (.ireturn, 1) := by decide +kernel
theorem dX11_ofSquare_0 : decode cX11_ofSquare 0 = .ok (.aload_n 0, 1) := by decide +kernel
theorem dX11_ofSquare_1 : decode cX11_ofSquare 1 = .ok (.iload_n 1, 1) := by decide +kernel
theorem dX11_ofSquare_2 : decode cX11_ofSquare 2 = .ok (.invokevirtual 207, 3) := by decide +kernel
theorem dX11_ofSquare_5 : decode cX11_ofSquare 5 = .ok (.aload_n 0, 1) := by decide +kernel
theorem dX11_ofSquare_6 : decode cX11_ofSquare 6 = .ok (.invokevirtual 210, 3) := by decide +kernel
theorem dX11_ofSquare_9 : decode cX11_ofSquare 9 = .ok (.iload_n 2, 1) := by decide +kernel
theorem dX11_ofSquare_10 : decode cX11_ofSquare 10 = .ok (.tableswitch 108 0 6 #[42, 47, 56, 71, 76, 98, 103], 42) := by decide +kernel
theorem dX11_ofSquare_52 : decode cX11_ofSquare 52 = .ok (.aload_n 0, 1) := by decide +kernel
theorem dX11_ofSquare_53 : decode cX11_ofSquare 53 = .ok (.getfield 168, 3) := by decide +kernel
theorem dX11_ofSquare_56 : decode cX11_ofSquare 56 = .ok (.ireturn, 1) := by decide +kernel
theorem dX11_ofSquare_57 : decode cX11_ofSquare 57 = .ok (.aload_n 0, 1) := by decide +kernel
theorem dX11_ofSquare_58 : decode cX11_ofSquare 58 = .ok (.getfield 126, 3) := by decide +kernel
theorem dX11_ofSquare_61 : decode cX11_ofSquare 61 = .ok (.l2i, 1) := by decide +kernel
theorem dX11_ofSquare_62 : decode cX11_ofSquare 62 = .ok (.ldc 253, 2) := by decide +kernel
theorem dX11_ofSquare_64 : decode cX11_ofSquare 64 = .ok (.iadd, 1) := by decide +kernel
theorem dX11_ofSquare_65 : decode cX11_ofSquare 65 = .ok (.ireturn, 1) := by decide +kernel
theorem dX11_ofSquare_66 : decode cX11_ofSquare 66 = .ok (.aload_n 0, 1) := by decide +kernel
theorem dX11_ofSquare_67 : decode cX11_ofSquare 67 = .ok (.getfield 126, 3) := by decide +kernel
theorem dX11_ofSquare_70 : decode cX11_ofSquare 70 = .ok (.lconst 0, 1) := by decide +kernel
theorem dX11_ofSquare_71 : decode cX11_ofSquare 71 = .ok (.lcmp, 1) := by decide +kernel
theorem dX11_ofSquare_72 : decode cX11_ofSquare 72 = .ok (.ifCond .ge 7, 3) := by decide +kernel
theorem dX11_ofSquare_75 : decode cX11_ofSquare 75 = .ok (.iconst 0, 1) := by decide +kernel
theorem dX11_ofSquare_76 : decode cX11_ofSquare 76 = .ok (.goto 4, 3) := by decide +kernel
theorem dX11_ofSquare_79 : decode cX11_ofSquare 79 = .ok (.iconst 2, 1) := by decide +kernel
theorem dX11_ofSquare_80 : decode cX11_ofSquare 80 = .ok (.ireturn, 1) := by decide +kernel
theorem dX11_ofSquare_81 : decode cX11_ofSquare 81 = .ok (.aload_n 0, 1) := by decide +kernel
theorem dX11_ofSquare_82 : decode cX11_ofSquare 82 = .ok (.invokevirtual 254, 3) := by decide +kernel
theorem dX11_ofSquare_85 : decode cX11_ofSquare 85 = .ok (.ireturn, 1) := by decide +kernel
theorem dX11_ofSquare_86 : decode cX11_ofSquare 86 = .ok (.aload_n 0, 1) := by decide +kernel
theorem dX11_ofSquare_87 : decode cX11_ofSquare 87 = .ok (.getfield 168, 3) := by decide +kernel
theorem dX11_ofSquare_90 : decode cX11_ofSquare 90 = .ok (.iconst 2, 1) := by decide +kernel
theorem dX11_ofSquare_91 : decode cX11_ofSquare 91 = .ok (.if_icmp .ne 15, 3) := by decide +kernel
theorem dX11_ofSquare_94 : decode cX11_ofSquare 94 = .ok (.aload_n 0, 1) := by decide +kernel
theorem dX11_ofSquare_95 : decode cX11_ofSquare 95 = .ok (.getfield 160, 3) := by decide +kernel
theorem dX11_ofSquare_98 : decode cX11_ofSquare 98 = .ok (.l2i, 1) := by decide +kernel
theorem dX11_ofSquare_99 : decode cX11_ofSquare 99 = .ok (.ldc_w 257, 3) := by decide +kernel
theorem dX11_ofSquare_102 : decode cX11_ofSquare 102 = .ok (.iadd, 1) := by decide +kernel
theorem dX11_ofSquare_103 : decode cX11_ofSquare 103 = .ok (.goto 4, 3) := by decide +kernel
theorem dX11_ofSquare_106 : decode cX11_ofSquare 106 = .ok (.iconst 0, 1) := by decide +kernel
theorem dX11_ofSquare_107 : decode cX11_ofSquare 107 = .ok (.ireturn, 1) := by decide +kernel
theorem dX11_ofSquare_108 : decode cX11_ofSquare 108 = .ok (.aload_n 0, 1) := by decide +kernel
theorem dX11_ofSquare_109 : decode cX11_ofSquare 109 = .ok (.getfield 140, 3) := by decide +kernel
theorem dX11_ofSquare_112 : decode cX11_ofSquare 112 = .ok (.ireturn, 1) := by decide +kernel
theorem dX11_ofSquare_113 : decode cX11_ofSquare 113 = .ok (.aload_n 0, 1) := by decide +kernel
theorem dX11_ofSquare_114 : decode cX11_ofSquare 114 = .ok (.getfield 146, 3) := by decide +kernel
theorem dX11_ofSquare_117 : decode cX11_ofSquare 117 = .ok (.ireturn, 1) := by decide +kernel
theorem dX11_ofSquare_118 : decode cX11_ofSquare 118 = .ok (.aload_n 0, 1) := by decide +kernel
theorem dX11_ofSquare_119 : decode cX11_ofSquare 119 = .ok (.getfield 143, 3) := by decide +kernel
theorem dX11_ofSquare_122 : decode cX11_ofSquare 122 = .ok (.l2i, 1) := by decide +kernel
theorem dX11_ofSquare_123 : decode cX11_ofSquare 123 = .ok (.ireturn, 1) := by decide +kernel
theorem dX11_square_0 : decode cX11_square 0 = .ok (.aload_n 0, 1) := by decide +kernel
theorem dX11_square_1 : decode cX11_square 1 = .ok (.iload_n 1, 1) := by decide +kernel
theorem dX11_square_2 : decode cX11_square 2 = .ok (.invokevirtual 234, 3) := by decide +kernel
theorem dX11_square_5 : decode cX11_square 5 = .ok (.ifCond .ne 6, 3) := by decide +kernel
theorem dX11_square_8 : decode cX11_square 8 = .ok (.ldc 249, 2) := by decide +kernel
theorem dX11_square_10 : decode cX11_square 10 = .ok (.ireturn, 1) := by decide +kernel
theorem dX11_square_11 : decode cX11_square 11 = .ok (.iload_n 2, 1) := by decide +kernel
theorem dX11_square_12 : decode cX11_square 12 = .ok (.i2l, 1) := by decide +kernel
theorem dX11_square_13 : decode cX11_square 13 = .ok (.lconst 0, 1) := by decide +kernel
theorem dX11_square_14 : decode cX11_square 14 = .ok (.ldc2_w 258, 3) := by decide +kernel
theorem dX11_square_17 : decode cX11_square 17 = .ok (.invokestatic 53, 3) := by decide +kernel
theorem dX11_square_20 : decode cX11_square 20 = .ok (.ifCond .ne 6, 3) := by decide +kernel
theorem dX11_square_23 : decode cX11_square 23 = .ok (.ldc 85, 2) := by decide +kernel
theorem dX11_square_25 : decode cX11_square 25 = .ok (.ireturn, 1) := by decide +kernel
theorem dX11_square_26 : decode cX11_square 26 = .ok (.iload_n 2, 1) := by decide +kernel
theorem dX11_square_27 : decode cX11_square 27 = .ok (.bipush 7, 2) := by decide +kernel
theorem dX11_square_29 : decode cX11_square 29 = .ok (.if_icmp .eq 9, 3) := by decide +kernel
theorem dX11_square_32 : decode cX11_square 32 = .ok (.iload_n 2, 1) := by decide +kernel
theorem dX11_square_33 : decode cX11_square 33 = .ok (.bipush 9, 2) := by decide +kernel
theorem dX11_square_35 : decode cX11_square 35 = .ok (.if_icmp .ne 33, 3) := by decide +kernel
theorem dX11_square_38 : decode cX11_square 38 = .ok (.iload_n 2, 1) := by decide +kernel
theorem dX11_square_39 : decode cX11_square 39 = .ok (.bipush 7, 2) := by decide +kernel
theorem dX11_square_41 : decode cX11_square 41 = .ok (.if_icmp .ne 11, 3) := by decide +kernel
theorem dX11_square_44 : decode cX11_square 44 = .ok (.aload_n 0, 1) := by decide +kernel
theorem dX11_square_45 : decode cX11_square 45 = .ok (.iload_n 1, 1) := by decide +kernel
theorem dX11_square_46 : decode cX11_square 46 = .ok (.invokevirtual 228, 3) := by decide +kernel
theorem dX11_square_49 : decode cX11_square 49 = .ok (.goto 8, 3) := by decide +kernel
theorem dX11_square_52 : decode cX11_square 52 = .ok (.aload_n 0, 1) := by decide +kernel
theorem dX11_square_53 : decode cX11_square 53 = .ok (.iload_n 1, 1) := by decide +kernel
theorem dX11_square_54 : decode cX11_square 54 = .ok (.invokevirtual 260, 3) := by decide +kernel
theorem dX11_square_57 : decode cX11_square 57 = .ok (.istore_n 3, 1) := by decide +kernel
theorem dX11_square_58 : decode cX11_square 58 = .ok (.iload_n 3, 1) := by decide +kernel
theorem dX11_square_59 : decode cX11_square 59 = .ok (.ifCond .eq 7, 3) := by decide +kernel
theorem dX11_square_62 : decode cX11_square 62 = .ok (.iconst 1, 1) := by decide +kernel
theorem dX11_square_63 : decode cX11_square 63 = .ok (.goto 4, 3) := by decide +kernel
theorem dX11_square_66 : decode cX11_square 66 = .ok (.iconst 0, 1) := by decide +kernel
theorem dX11_square_67 : decode cX11_square 67 = .ok (.ireturn, 1) := by decide +kernel
theorem dX11_square_68 : decode cX11_square 68 = .ok (.iload_n 2, 1) := by decide +kernel
theorem dX11_square_69 : decode cX11_square 69 = .ok (.bipush 8, 2) := by decide +kernel
theorem dX11_square_71 : decode cX11_square 71 = .ok (.if_icmp .ne 11, 3) := by decide +kernel
theorem dX11_square_74 : decode cX11_square 74 = .ok (.aload_n 0, 1) := by decide +kernel
theorem dX11_square_75 : decode cX11_square 75 = .ok (.iload_n 1, 1) := by decide +kernel
theorem dX11_square_76 : decode cX11_square 76 = .ok (.invokevirtual 222, 3) := by decide +kernel
theorem dX11_square_79 : decode cX11_square 79 = .ok (.goto 9, 3) := by decide +kernel
theorem dX11_square_82 : decode cX11_square 82 = .ok (.aload_n 0, 1) := by decide +kernel
theorem dX11_square_83 : decode cX11_square 83 = .ok (.iload_n 1, 1) := by decide +kernel
theorem dX11_square_84 : decode cX11_square 84 = .ok (.iload_n 2, 1) := by decide +kernel
theorem dX11_square_85 : decode cX11_square 85 = .ok (.invokevirtual 263, 3) := by decide +kernel
theorem dX11_square_88 : decode cX11_square 88 = .ok (.ireturn, 1) := by decide +kernel
theorem dX11_run_0 : decode cX11_run 0 = .ok (.aload_n 0, 1) := by decide +kernel
theorem dX11_run_1 : decode cX11_run 1 = .ok (.iload_n 1, 1) := by decide +kernel
theorem dX11_run_2 : decode cX11_run 2 = .ok (.invokevirtual 234, 3) := by decide +kernel
theorem dX11_run_5 : decode cX11_run 5 = .ok (.ifCond .ne 6, 3) := by decide +kernel
theorem dX11_run_8 : decode cX11_run 8 = .ok (.ldc 249, 2) := by decide +kernel
theorem dX11_run_10 : decode cX11_run 10 = .ok (.ireturn, 1) := by decide +kernel
theorem dX11_run_11 : decode cX11_run 11 = .ok (.aload_n 0, 1) := by decide +kernel
theorem dX11_run_12 : decode cX11_run 12 = .ok (.iload_n 1, 1) := by decide +kernel
theorem dX11_run_13 : decode cX11_run 13 = .ok (.invokevirtual 207, 3) := by decide +kernel
theorem dX11_run_16 : decode cX11_run 16 = .ok (.aload_n 0, 1) := by decide +kernel
theorem dX11_run_17 : decode cX11_run 17 = .ok (.invokevirtual 210, 3) := by decide +kernel
theorem dX11_run_20 : decode cX11_run 20 = .ok (.iload_n 2, 1) := by decide +kernel
theorem dX11_run_21 : decode cX11_run 21 = .ok (.i2l, 1) := by decide +kernel
theorem dX11_run_22 : decode cX11_run 22 = .ok (.lconst 0, 1) := by decide +kernel
theorem dX11_run_23 : decode cX11_run 23 = .ok (.aload_n 0, 1) := by decide +kernel
theorem dX11_run_24 : decode cX11_run 24 = .ok (.getfield 140, 3) := by decide +kernel
theorem dX11_run_27 : decode cX11_run 27 = .ok (.iconst 1, 1) := by decide +kernel
theorem dX11_run_28 : decode cX11_run 28 = .ok (.isub, 1) := by decide +kernel
theorem dX11_run_29 : decode cX11_run 29 = .ok (.i2l, 1) := by decide +kernel
theorem dX11_run_30 : decode cX11_run 30 = .ok (.invokestatic 53, 3) := by decide +kernel
theorem dX11_run_33 : decode cX11_run 33 = .ok (.ifCond .eq 12, 3) := by decide +kernel
theorem dX11_run_36 : decode cX11_run 36 = .ok (.aload_n 0, 1) := by decide +kernel
theorem dX11_run_37 : decode cX11_run 37 = .ok (.getfield 33, 3) := by decide +kernel
theorem dX11_run_40 : decode cX11_run 40 = .ok (.iload_n 2, 1) := by decide +kernel
theorem dX11_run_41 : decode cX11_run 41 = .ok (.iaload, 1) := by decide +kernel
theorem dX11_run_42 : decode cX11_run 42 = .ok (.goto 4, 3) := by decide +kernel
theorem dX11_run_45 : decode cX11_run 45 = .ok (.iconst (-1), 1) := by decide +kernel
theorem dX11_run_46 : decode cX11_run 46 = .ok (.ireturn, 1) := by decide +kernel
theorem dX11_multiply_0 : decode cX11_multiply 0 = .ok (.aload_n 0, 1) := by decide +kernel
theorem dX11_multiply_1 : decode cX11_multiply 1 = .ok (.iload_n 1, 1) := by decide +kernel
theorem dX11_multiply_2 : decode cX11_multiply 2 = .ok (.invokevirtual 234, 3) := by decide +kernel
theorem dX11_multiply_5 : decode cX11_multiply 5 = .ok (.ifCond .eq 11, 3) := by decide +kernel
theorem dX11_multiply_8 : decode cX11_multiply 8 = .ok (.aload_n 0, 1) := by decide +kernel
theorem dX11_multiply_9 : decode cX11_multiply 9 = .ok (.iload_n 2, 1) := by decide +kernel
theorem dX11_multiply_10 : decode cX11_multiply 10 = .ok (.invokevirtual 234, 3) := by decide +kernel
theorem dX11_multiply_13 : decode cX11_multiply 13 = .ok (.ifCond .ne 6, 3) := by decide +kernel
theorem dX11_multiply_16 : decode cX11_multiply 16 = .ok (.ldc 249, 2) := by decide +kernel
theorem dX11_multiply_18 : decode cX11_multiply 18 = .ok (.ireturn, 1) := by decide +kernel
theorem dX11_multiply_19 : decode cX11_multiply 19 = .ok (.aload_n 0, 1) := by decide +kernel
theorem dX11_multiply_20 : decode cX11_multiply 20 = .ok (.getfield 7, 3) := by decide +kernel
theorem dX11_multiply_23 : decode cX11_multiply 23 = .ok (.iconst 0, 1) := by decide +kernel
theorem dX11_multiply_24 : decode cX11_multiply 24 = .ok (.iaload, 1) := by decide +kernel
theorem dX11_multiply_25 : decode cX11_multiply 25 = .ok (.bipush 12, 2) := by decide +kernel
theorem dX11_multiply_27 : decode cX11_multiply 27 = .ok (.if_icmp .ne 6, 3) := by decide +kernel
theorem dX11_multiply_30 : decode cX11_multiply 30 = .ok (.ldc 89, 2) := by decide +kernel
theorem dX11_multiply_32 : decode cX11_multiply 32 = .ok (.ireturn, 1) := by decide +kernel
theorem dX11_multiply_33 : decode cX11_multiply 33 = .ok (.aload_n 0, 1) := by decide +kernel
theorem dX11_multiply_34 : decode cX11_multiply 34 = .ok (.iload_n 1, 1) := by decide +kernel
theorem dX11_multiply_35 : decode cX11_multiply 35 = .ok (.invokevirtual 207, 3) := by decide +kernel
theorem dX11_multiply_38 : decode cX11_multiply 38 = .ok (.aload_n 0, 1) := by decide +kernel
theorem dX11_multiply_39 : decode cX11_multiply 39 = .ok (.aload_n 0, 1) := by decide +kernel
theorem dX11_multiply_40 : decode cX11_multiply 40 = .ok (.getfield 7, 3) := by decide +kernel
theorem dX11_multiply_43 : decode cX11_multiply 43 = .ok (.iconst 1, 1) := by decide +kernel
theorem dX11_multiply_44 : decode cX11_multiply 44 = .ok (.iconst 4, 1) := by decide +kernel
theorem dX11_multiply_45 : decode cX11_multiply 45 = .ok (.iload_n 2, 1) := by decide +kernel
theorem dX11_multiply_46 : decode cX11_multiply 46 = .ok (.imul, 1) := by decide +kernel
theorem dX11_multiply_47 : decode cX11_multiply 47 = .ok (.iadd, 1) := by decide +kernel
theorem dX11_multiply_48 : decode cX11_multiply 48 = .ok (.iaload, 1) := by decide +kernel
theorem dX11_multiply_49 : decode cX11_multiply 49 = .ok (.i2l, 1) := by decide +kernel
theorem dX11_multiply_50 : decode cX11_multiply 50 = .ok (.aload_n 0, 1) := by decide +kernel
theorem dX11_multiply_51 : decode cX11_multiply 51 = .ok (.getfield 7, 3) := by decide +kernel
theorem dX11_multiply_54 : decode cX11_multiply 54 = .ok (.iconst 2, 1) := by decide +kernel
theorem dX11_multiply_55 : decode cX11_multiply 55 = .ok (.iconst 4, 1) := by decide +kernel
theorem dX11_multiply_56 : decode cX11_multiply 56 = .ok (.iload_n 2, 1) := by decide +kernel
theorem dX11_multiply_57 : decode cX11_multiply 57 = .ok (.imul, 1) := by decide +kernel
theorem dX11_multiply_58 : decode cX11_multiply 58 = .ok (.iadd, 1) := by decide +kernel
theorem dX11_multiply_59 : decode cX11_multiply 59 = .ok (.iaload, 1) := by decide +kernel
theorem dX11_multiply_60 : decode cX11_multiply 60 = .ok (.i2l, 1) := by decide +kernel
theorem dX11_multiply_61 : decode cX11_multiply 61 = .ok (.aload_n 0, 1) := by decide +kernel
theorem dX11_multiply_62 : decode cX11_multiply 62 = .ok (.getfield 7, 3) := by decide +kernel
theorem dX11_multiply_65 : decode cX11_multiply 65 = .ok (.iconst 3, 1) := by decide +kernel
theorem dX11_multiply_66 : decode cX11_multiply 66 = .ok (.iconst 4, 1) := by decide +kernel
theorem dX11_multiply_67 : decode cX11_multiply 67 = .ok (.iload_n 2, 1) := by decide +kernel
theorem dX11_multiply_68 : decode cX11_multiply 68 = .ok (.imul, 1) := by decide +kernel
theorem dX11_multiply_69 : decode cX11_multiply 69 = .ok (.iadd, 1) := by decide +kernel
theorem dX11_multiply_70 : decode cX11_multiply 70 = .ok (.iaload, 1) := by decide +kernel
theorem dX11_multiply_71 : decode cX11_multiply 71 = .ok (.i2l, 1) := by decide +kernel
theorem dX11_multiply_72 : decode cX11_multiply 72 = .ok (.aload_n 0, 1) := by decide +kernel
theorem dX11_multiply_73 : decode cX11_multiply 73 = .ok (.getfield 7, 3) := by decide +kernel
theorem dX11_multiply_76 : decode cX11_multiply 76 = .ok (.iconst 4, 1) := by decide +kernel
theorem dX11_multiply_77 : decode cX11_multiply 77 = .ok (.iconst 4, 1) := by decide +kernel
theorem dX11_multiply_78 : decode cX11_multiply 78 = .ok (.iload_n 2, 1) := by decide +kernel
theorem dX11_multiply_79 : decode cX11_multiply 79 = .ok (.imul, 1) := by decide +kernel
theorem dX11_multiply_80 : decode cX11_multiply 80 = .ok (.iadd, 1) := by decide +kernel
theorem dX11_multiply_81 : decode cX11_multiply 81 = .ok (.iaload, 1) := by decide +kernel
theorem dX11_multiply_82 : decode cX11_multiply 82 = .ok (.i2l, 1) := by decide +kernel
theorem dX11_multiply_83 : decode cX11_multiply 83 = .ok (.invokevirtual 78, 3) := by decide +kernel
theorem dX11_multiply_86 : decode cX11_multiply 86 = .ok (.aload_n 0, 1) := by decide +kernel
theorem dX11_multiply_87 : decode cX11_multiply 87 = .ok (.invokevirtual 107, 3) := by decide +kernel
theorem dX11_multiply_90 : decode cX11_multiply 90 = .ok (.ifCond .eq 10, 3) := by decide +kernel
theorem dX11_multiply_93 : decode cX11_multiply 93 = .ok (.aload_n 0, 1) := by decide +kernel
theorem dX11_multiply_94 : decode cX11_multiply 94 = .ok (.invokevirtual 111, 3) := by decide +kernel
theorem dX11_multiply_97 : decode cX11_multiply 97 = .ok (.goto 5, 3) := by decide +kernel
theorem dX11_multiply_100 : decode cX11_multiply 100 = .ok (.ldc 115, 2) := by decide +kernel
theorem dX11_multiply_102 : decode cX11_multiply 102 = .ok (.ireturn, 1) := by decide +kernel
theorem dX11_becomes_0 : decode cX11_becomes 0 = .ok (.aload_n 0, 1) := by decide +kernel
theorem dX11_becomes_1 : decode cX11_becomes 1 = .ok (.invokevirtual 107, 3) := by decide +kernel
theorem dX11_becomes_4 : decode cX11_becomes 4 = .ok (.ifCond .ne 6, 3) := by decide +kernel
theorem dX11_becomes_7 : decode cX11_becomes 7 = .ok (.ldc 115, 2) := by decide +kernel
theorem dX11_becomes_9 : decode cX11_becomes 9 = .ok (.ireturn, 1) := by decide +kernel
theorem dX11_becomes_10 : decode cX11_becomes 10 = .ok (.aload_n 0, 1) := by decide +kernel
theorem dX11_becomes_11 : decode cX11_becomes 11 = .ok (.invokevirtual 93, 3) := by decide +kernel
theorem dX11_becomes_14 : decode cX11_becomes 14 = .ok (.aload_n 0, 1) := by decide +kernel
theorem dX11_becomes_15 : decode cX11_becomes 15 = .ok (.iload_n 1, 1) := by decide +kernel
theorem dX11_becomes_16 : decode cX11_becomes 16 = .ok (.invokevirtual 267, 3) := by decide +kernel
theorem dX11_becomes_19 : decode cX11_becomes 19 = .ok (.istore_n 2, 1) := by decide +kernel
theorem dX11_becomes_20 : decode cX11_becomes 20 = .ok (.aload_n 0, 1) := by decide +kernel
theorem dX11_becomes_21 : decode cX11_becomes 21 = .ok (.iload_n 1, 1) := by decide +kernel
theorem dX11_becomes_22 : decode cX11_becomes 22 = .ok (.invokevirtual 96, 3) := by decide +kernel
theorem dX11_becomes_25 : decode cX11_becomes 25 = .ok (.iload_n 2, 1) := by decide +kernel
theorem dX11_becomes_26 : decode cX11_becomes 26 = .ok (.ifCond .eq 7, 3) := by decide +kernel
theorem dX11_becomes_29 : decode cX11_becomes 29 = .ok (.iconst 0, 1) := by decide +kernel
theorem dX11_becomes_30 : decode cX11_becomes 30 = .ok (.goto 4, 3) := by decide +kernel
theorem dX11_becomes_33 : decode cX11_becomes 33 = .ok (.iconst 1, 1) := by decide +kernel
theorem dX11_becomes_34 : decode cX11_becomes 34 = .ok (.ireturn, 1) := by decide +kernel
theorem dX11_back_0 : decode cX11_back 0 = .ok (.aload_n 0, 1) := by decide +kernel
theorem dX11_back_1 : decode cX11_back 1 = .ok (.iload_n 1, 1) := by decide +kernel
theorem dX11_back_2 : decode cX11_back 2 = .ok (.invokevirtual 234, 3) := by decide +kernel
theorem dX11_back_5 : decode cX11_back 5 = .ok (.ifCond .ne 6, 3) := by decide +kernel
theorem dX11_back_8 : decode cX11_back 8 = .ok (.ldc 249, 2) := by decide +kernel
theorem dX11_back_10 : decode cX11_back 10 = .ok (.ireturn, 1) := by decide +kernel
theorem dX11_back_11 : decode cX11_back 11 = .ok (.aload_n 0, 1) := by decide +kernel
theorem dX11_back_12 : decode cX11_back 12 = .ok (.iload_n 1, 1) := by decide +kernel
theorem dX11_back_13 : decode cX11_back 13 = .ok (.invokevirtual 207, 3) := by decide +kernel
theorem dX11_back_16 : decode cX11_back 16 = .ok (.aload_n 0, 1) := by decide +kernel
theorem dX11_back_17 : decode cX11_back 17 = .ok (.aload_n 0, 1) := by decide +kernel
theorem dX11_back_18 : decode cX11_back 18 = .ok (.getfield 67, 3) := by decide +kernel
theorem dX11_back_21 : decode cX11_back 21 = .ok (.lconst 0, 1) := by decide +kernel
theorem dX11_back_22 : decode cX11_back 22 = .ok (.aload_n 0, 1) := by decide +kernel
theorem dX11_back_23 : decode cX11_back 23 = .ok (.getfield 61, 3) := by decide +kernel
theorem dX11_back_26 : decode cX11_back 26 = .ok (.lsub, 1) := by decide +kernel
theorem dX11_back_27 : decode cX11_back 27 = .ok (.lconst 0, 1) := by decide +kernel
theorem dX11_back_28 : decode cX11_back 28 = .ok (.aload_n 0, 1) := by decide +kernel
theorem dX11_back_29 : decode cX11_back 29 = .ok (.getfield 64, 3) := by decide +kernel
theorem dX11_back_32 : decode cX11_back 32 = .ok (.lsub, 1) := by decide +kernel
theorem dX11_back_33 : decode cX11_back 33 = .ok (.aload_n 0, 1) := by decide +kernel
theorem dX11_back_34 : decode cX11_back 34 = .ok (.getfield 57, 3) := by decide +kernel
theorem dX11_back_37 : decode cX11_back 37 = .ok (.invokevirtual 70, 3) := by decide +kernel
theorem dX11_back_40 : decode cX11_back 40 = .ok (.aload_n 0, 1) := by decide +kernel
theorem dX11_back_41 : decode cX11_back 41 = .ok (.iload_n 1, 1) := by decide +kernel
theorem dX11_back_42 : decode cX11_back 42 = .ok (.invokevirtual 270, 3) := by decide +kernel
theorem dX11_back_45 : decode cX11_back 45 = .ok (.ireturn, 1) := by decide +kernel
theorem dX11_carry_0 : decode cX11_carry 0 = .ok (.aload_n 0, 1) := by decide +kernel
theorem dX11_carry_1 : decode cX11_carry 1 = .ok (.iload_n 1, 1) := by decide +kernel
theorem dX11_carry_2 : decode cX11_carry 2 = .ok (.invokevirtual 234, 3) := by decide +kernel
theorem dX11_carry_5 : decode cX11_carry 5 = .ok (.ifCond .eq 11, 3) := by decide +kernel
theorem dX11_carry_8 : decode cX11_carry 8 = .ok (.aload_n 0, 1) := by decide +kernel
theorem dX11_carry_9 : decode cX11_carry 9 = .ok (.iload_n 2, 1) := by decide +kernel
theorem dX11_carry_10 : decode cX11_carry 10 = .ok (.invokevirtual 234, 3) := by decide +kernel
theorem dX11_carry_13 : decode cX11_carry 13 = .ok (.ifCond .ne 6, 3) := by decide +kernel
theorem dX11_carry_16 : decode cX11_carry 16 = .ok (.ldc 249, 2) := by decide +kernel
theorem dX11_carry_18 : decode cX11_carry 18 = .ok (.ireturn, 1) := by decide +kernel
theorem dX11_carry_19 : decode cX11_carry 19 = .ok (.aload_n 0, 1) := by decide +kernel
theorem dX11_carry_20 : decode cX11_carry 20 = .ok (.iload_n 2, 1) := by decide +kernel
theorem dX11_carry_21 : decode cX11_carry 21 = .ok (.invokevirtual 207, 3) := by decide +kernel
theorem dX11_carry_24 : decode cX11_carry 24 = .ok (.aload_n 0, 1) := by decide +kernel
theorem dX11_carry_25 : decode cX11_carry 25 = .ok (.aload_n 0, 1) := by decide +kernel
theorem dX11_carry_26 : decode cX11_carry 26 = .ok (.getfield 7, 3) := by decide +kernel
theorem dX11_carry_29 : decode cX11_carry 29 = .ok (.iconst 1, 1) := by decide +kernel
theorem dX11_carry_30 : decode cX11_carry 30 = .ok (.iconst 4, 1) := by decide +kernel
theorem dX11_carry_31 : decode cX11_carry 31 = .ok (.iload_n 1, 1) := by decide +kernel
theorem dX11_carry_32 : decode cX11_carry 32 = .ok (.imul, 1) := by decide +kernel
theorem dX11_carry_33 : decode cX11_carry 33 = .ok (.iadd, 1) := by decide +kernel
theorem dX11_carry_34 : decode cX11_carry 34 = .ok (.iaload, 1) := by decide +kernel
theorem dX11_carry_35 : decode cX11_carry 35 = .ok (.i2l, 1) := by decide +kernel
theorem dX11_carry_36 : decode cX11_carry 36 = .ok (.aload_n 0, 1) := by decide +kernel
theorem dX11_carry_37 : decode cX11_carry 37 = .ok (.getfield 7, 3) := by decide +kernel
theorem dX11_carry_40 : decode cX11_carry 40 = .ok (.iconst 2, 1) := by decide +kernel
theorem dX11_carry_41 : decode cX11_carry 41 = .ok (.iconst 4, 1) := by decide +kernel
theorem dX11_carry_42 : decode cX11_carry 42 = .ok (.iload_n 1, 1) := by decide +kernel
theorem dX11_carry_43 : decode cX11_carry 43 = .ok (.imul, 1) := by decide +kernel
theorem dX11_carry_44 : decode cX11_carry 44 = .ok (.iadd, 1) := by decide +kernel
theorem dX11_carry_45 : decode cX11_carry 45 = .ok (.iaload, 1) := by decide +kernel
theorem dX11_carry_46 : decode cX11_carry 46 = .ok (.i2l, 1) := by decide +kernel
theorem dX11_carry_47 : decode cX11_carry 47 = .ok (.aload_n 0, 1) := by decide +kernel
theorem dX11_carry_48 : decode cX11_carry 48 = .ok (.getfield 7, 3) := by decide +kernel
theorem dX11_carry_51 : decode cX11_carry 51 = .ok (.iconst 3, 1) := by decide +kernel
theorem dX11_carry_52 : decode cX11_carry 52 = .ok (.iconst 4, 1) := by decide +kernel
theorem dX11_carry_53 : decode cX11_carry 53 = .ok (.iload_n 1, 1) := by decide +kernel
theorem dX11_carry_54 : decode cX11_carry 54 = .ok (.imul, 1) := by decide +kernel
theorem dX11_carry_55 : decode cX11_carry 55 = .ok (.iadd, 1) := by decide +kernel
theorem dX11_carry_56 : decode cX11_carry 56 = .ok (.iaload, 1) := by decide +kernel
theorem dX11_carry_57 : decode cX11_carry 57 = .ok (.i2l, 1) := by decide +kernel
theorem dX11_carry_58 : decode cX11_carry 58 = .ok (.aload_n 0, 1) := by decide +kernel
theorem dX11_carry_59 : decode cX11_carry 59 = .ok (.getfield 7, 3) := by decide +kernel
theorem dX11_carry_62 : decode cX11_carry 62 = .ok (.iconst 4, 1) := by decide +kernel
theorem dX11_carry_63 : decode cX11_carry 63 = .ok (.iconst 4, 1) := by decide +kernel
theorem dX11_carry_64 : decode cX11_carry 64 = .ok (.iload_n 1, 1) := by decide +kernel
theorem dX11_carry_65 : decode cX11_carry 65 = .ok (.imul, 1) := by decide +kernel
theorem dX11_carry_66 : decode cX11_carry 66 = .ok (.iadd, 1) := by decide +kernel
theorem dX11_carry_67 : decode cX11_carry 67 = .ok (.iaload, 1) := by decide +kernel
theorem dX11_carry_68 : decode cX11_carry 68 = .ok (.i2l, 1) := by decide +kernel
theorem dX11_carry_69 : decode cX11_carry 69 = .ok (.invokevirtual 78, 3) := by decide +kernel
theorem dX11_carry_72 : decode cX11_carry 72 = .ok (.aload_n 0, 1) := by decide +kernel
theorem dX11_carry_73 : decode cX11_carry 73 = .ok (.aload_n 0, 1) := by decide +kernel
theorem dX11_carry_74 : decode cX11_carry 74 = .ok (.getfield 7, 3) := by decide +kernel
theorem dX11_carry_77 : decode cX11_carry 77 = .ok (.iconst 4, 1) := by decide +kernel
theorem dX11_carry_78 : decode cX11_carry 78 = .ok (.iconst 4, 1) := by decide +kernel
theorem dX11_carry_79 : decode cX11_carry 79 = .ok (.iload_n 2, 1) := by decide +kernel
theorem dX11_carry_80 : decode cX11_carry 80 = .ok (.imul, 1) := by decide +kernel
theorem dX11_carry_81 : decode cX11_carry 81 = .ok (.iadd, 1) := by decide +kernel
theorem dX11_carry_82 : decode cX11_carry 82 = .ok (.iaload, 1) := by decide +kernel
theorem dX11_carry_83 : decode cX11_carry 83 = .ok (.i2l, 1) := by decide +kernel
theorem dX11_carry_84 : decode cX11_carry 84 = .ok (.lconst 0, 1) := by decide +kernel
theorem dX11_carry_85 : decode cX11_carry 85 = .ok (.aload_n 0, 1) := by decide +kernel
theorem dX11_carry_86 : decode cX11_carry 86 = .ok (.getfield 7, 3) := by decide +kernel
theorem dX11_carry_89 : decode cX11_carry 89 = .ok (.iconst 2, 1) := by decide +kernel
theorem dX11_carry_90 : decode cX11_carry 90 = .ok (.iconst 4, 1) := by decide +kernel
theorem dX11_carry_91 : decode cX11_carry 91 = .ok (.iload_n 2, 1) := by decide +kernel
theorem dX11_carry_92 : decode cX11_carry 92 = .ok (.imul, 1) := by decide +kernel
theorem dX11_carry_93 : decode cX11_carry 93 = .ok (.iadd, 1) := by decide +kernel
theorem dX11_carry_94 : decode cX11_carry 94 = .ok (.iaload, 1) := by decide +kernel
theorem dX11_carry_95 : decode cX11_carry 95 = .ok (.i2l, 1) := by decide +kernel
theorem dX11_carry_96 : decode cX11_carry 96 = .ok (.lsub, 1) := by decide +kernel
theorem dX11_carry_97 : decode cX11_carry 97 = .ok (.lconst 0, 1) := by decide +kernel
theorem dX11_carry_98 : decode cX11_carry 98 = .ok (.aload_n 0, 1) := by decide +kernel
theorem dX11_carry_99 : decode cX11_carry 99 = .ok (.getfield 7, 3) := by decide +kernel
theorem dX11_carry_102 : decode cX11_carry 102 = .ok (.iconst 3, 1) := by decide +kernel
theorem dX11_carry_103 : decode cX11_carry 103 = .ok (.iconst 4, 1) := by decide +kernel
theorem dX11_carry_104 : decode cX11_carry 104 = .ok (.iload_n 2, 1) := by decide +kernel
theorem dX11_carry_105 : decode cX11_carry 105 = .ok (.imul, 1) := by decide +kernel
theorem dX11_carry_106 : decode cX11_carry 106 = .ok (.iadd, 1) := by decide +kernel
theorem dX11_carry_107 : decode cX11_carry 107 = .ok (.iaload, 1) := by decide +kernel
theorem dX11_carry_108 : decode cX11_carry 108 = .ok (.i2l, 1) := by decide +kernel
theorem dX11_carry_109 : decode cX11_carry 109 = .ok (.lsub, 1) := by decide +kernel
theorem dX11_carry_110 : decode cX11_carry 110 = .ok (.aload_n 0, 1) := by decide +kernel
theorem dX11_carry_111 : decode cX11_carry 111 = .ok (.getfield 7, 3) := by decide +kernel
theorem dX11_carry_114 : decode cX11_carry 114 = .ok (.iconst 1, 1) := by decide +kernel
theorem dX11_carry_115 : decode cX11_carry 115 = .ok (.iconst 4, 1) := by decide +kernel
theorem dX11_carry_116 : decode cX11_carry 116 = .ok (.iload_n 2, 1) := by decide +kernel
theorem dX11_carry_117 : decode cX11_carry 117 = .ok (.imul, 1) := by decide +kernel
theorem dX11_carry_118 : decode cX11_carry 118 = .ok (.iadd, 1) := by decide +kernel
theorem dX11_carry_119 : decode cX11_carry 119 = .ok (.iaload, 1) := by decide +kernel
theorem dX11_carry_120 : decode cX11_carry 120 = .ok (.i2l, 1) := by decide +kernel
theorem dX11_carry_121 : decode cX11_carry 121 = .ok (.invokevirtual 78, 3) := by decide +kernel
theorem dX11_carry_124 : decode cX11_carry 124 = .ok (.aload_n 0, 1) := by decide +kernel
theorem dX11_carry_125 : decode cX11_carry 125 = .ok (.iload_n 1, 1) := by decide +kernel
theorem dX11_carry_126 : decode cX11_carry 126 = .ok (.invokevirtual 270, 3) := by decide +kernel
theorem dX11_carry_129 : decode cX11_carry 129 = .ok (.ireturn, 1) := by decide +kernel
theorem dX11_raise_0 : decode cX11_raise 0 = .ok (.aload_n 0, 1) := by decide +kernel
theorem dX11_raise_1 : decode cX11_raise 1 = .ok (.iload_n 1, 1) := by decide +kernel
theorem dX11_raise_2 : decode cX11_raise 2 = .ok (.invokevirtual 234, 3) := by decide +kernel
theorem dX11_raise_5 : decode cX11_raise 5 = .ok (.ifCond .ne 6, 3) := by decide +kernel
theorem dX11_raise_8 : decode cX11_raise 8 = .ok (.ldc 249, 2) := by decide +kernel
theorem dX11_raise_10 : decode cX11_raise 10 = .ok (.ireturn, 1) := by decide +kernel
theorem dX11_raise_11 : decode cX11_raise 11 = .ok (.iload_n 2, 1) := by decide +kernel
theorem dX11_raise_12 : decode cX11_raise 12 = .ok (.i2l, 1) := by decide +kernel
theorem dX11_raise_13 : decode cX11_raise 13 = .ok (.lconst 0, 1) := by decide +kernel
theorem dX11_raise_14 : decode cX11_raise 14 = .ok (.ldc2_w 273, 3) := by decide +kernel
theorem dX11_raise_17 : decode cX11_raise 17 = .ok (.invokestatic 53, 3) := by decide +kernel
theorem dX11_raise_20 : decode cX11_raise 20 = .ok (.ifCond .ne 6, 3) := by decide +kernel
theorem dX11_raise_23 : decode cX11_raise 23 = .ok (.ldc 85, 2) := by decide +kernel
theorem dX11_raise_25 : decode cX11_raise 25 = .ok (.ireturn, 1) := by decide +kernel
theorem dX11_raise_26 : decode cX11_raise 26 = .ok (.aload_n 0, 1) := by decide +kernel
theorem dX11_raise_27 : decode cX11_raise 27 = .ok (.lconst 1, 1) := by decide +kernel
theorem dX11_raise_28 : decode cX11_raise 28 = .ok (.lconst 0, 1) := by decide +kernel
theorem dX11_raise_29 : decode cX11_raise 29 = .ok (.lconst 0, 1) := by decide +kernel
theorem dX11_raise_30 : decode cX11_raise 30 = .ok (.lconst 1, 1) := by decide +kernel
theorem dX11_raise_31 : decode cX11_raise 31 = .ok (.invokevirtual 70, 3) := by decide +kernel
theorem dX11_raise_34 : decode cX11_raise 34 = .ok (.iconst 0, 1) := by decide +kernel
theorem dX11_raise_35 : decode cX11_raise 35 = .ok (.istore_n 3, 1) := by decide +kernel
theorem dX11_raise_36 : decode cX11_raise 36 = .ok (.iload_n 3, 1) := by decide +kernel
theorem dX11_raise_37 : decode cX11_raise 37 = .ok (.iload_n 2, 1) := by decide +kernel
theorem dX11_raise_38 : decode cX11_raise 38 = .ok (.if_icmp .ge 64, 3) := by decide +kernel
theorem dX11_raise_41 : decode cX11_raise 41 = .ok (.aload_n 0, 1) := by decide +kernel
theorem dX11_raise_42 : decode cX11_raise 42 = .ok (.invokevirtual 107, 3) := by decide +kernel
theorem dX11_raise_45 : decode cX11_raise 45 = .ok (.ifCond .eq 57, 3) := by decide +kernel
theorem dX11_raise_48 : decode cX11_raise 48 = .ok (.aload_n 0, 1) := by decide +kernel
theorem dX11_raise_49 : decode cX11_raise 49 = .ok (.aload_n 0, 1) := by decide +kernel
theorem dX11_raise_50 : decode cX11_raise 50 = .ok (.getfield 7, 3) := by decide +kernel
theorem dX11_raise_53 : decode cX11_raise 53 = .ok (.iconst 1, 1) := by decide +kernel
theorem dX11_raise_54 : decode cX11_raise 54 = .ok (.iconst 4, 1) := by decide +kernel
theorem dX11_raise_55 : decode cX11_raise 55 = .ok (.iload_n 1, 1) := by decide +kernel
theorem dX11_raise_56 : decode cX11_raise 56 = .ok (.imul, 1) := by decide +kernel
theorem dX11_raise_57 : decode cX11_raise 57 = .ok (.iadd, 1) := by decide +kernel
theorem dX11_raise_58 : decode cX11_raise 58 = .ok (.iaload, 1) := by decide +kernel
theorem dX11_raise_59 : decode cX11_raise 59 = .ok (.i2l, 1) := by decide +kernel
theorem dX11_raise_60 : decode cX11_raise 60 = .ok (.aload_n 0, 1) := by decide +kernel
theorem dX11_raise_61 : decode cX11_raise 61 = .ok (.getfield 7, 3) := by decide +kernel
theorem dX11_raise_64 : decode cX11_raise 64 = .ok (.iconst 2, 1) := by decide +kernel
theorem dX11_raise_65 : decode cX11_raise 65 = .ok (.iconst 4, 1) := by decide +kernel
theorem dX11_raise_66 : decode cX11_raise 66 = .ok (.iload_n 1, 1) := by decide +kernel
theorem dX11_raise_67 : decode cX11_raise 67 = .ok (.imul, 1) := by decide +kernel
theorem dX11_raise_68 : decode cX11_raise 68 = .ok (.iadd, 1) := by decide +kernel
theorem dX11_raise_69 : decode cX11_raise 69 = .ok (.iaload, 1) := by decide +kernel
theorem dX11_raise_70 : decode cX11_raise 70 = .ok (.i2l, 1) := by decide +kernel
theorem dX11_raise_71 : decode cX11_raise 71 = .ok (.aload_n 0, 1) := by decide +kernel
theorem dX11_raise_72 : decode cX11_raise 72 = .ok (.getfield 7, 3) := by decide +kernel
theorem dX11_raise_75 : decode cX11_raise 75 = .ok (.iconst 3, 1) := by decide +kernel
theorem dX11_raise_76 : decode cX11_raise 76 = .ok (.iconst 4, 1) := by decide +kernel
theorem dX11_raise_77 : decode cX11_raise 77 = .ok (.iload_n 1, 1) := by decide +kernel
theorem dX11_raise_78 : decode cX11_raise 78 = .ok (.imul, 1) := by decide +kernel
theorem dX11_raise_79 : decode cX11_raise 79 = .ok (.iadd, 1) := by decide +kernel
theorem dX11_raise_80 : decode cX11_raise 80 = .ok (.iaload, 1) := by decide +kernel
theorem dX11_raise_81 : decode cX11_raise 81 = .ok (.i2l, 1) := by decide +kernel
theorem dX11_raise_82 : decode cX11_raise 82 = .ok (.aload_n 0, 1) := by decide +kernel
theorem dX11_raise_83 : decode cX11_raise 83 = .ok (.getfield 7, 3) := by decide +kernel
theorem dX11_raise_86 : decode cX11_raise 86 = .ok (.iconst 4, 1) := by decide +kernel
theorem dX11_raise_87 : decode cX11_raise 87 = .ok (.iconst 4, 1) := by decide +kernel
theorem dX11_raise_88 : decode cX11_raise 88 = .ok (.iload_n 1, 1) := by decide +kernel
theorem dX11_raise_89 : decode cX11_raise 89 = .ok (.imul, 1) := by decide +kernel
theorem dX11_raise_90 : decode cX11_raise 90 = .ok (.iadd, 1) := by decide +kernel
theorem dX11_raise_91 : decode cX11_raise 91 = .ok (.iaload, 1) := by decide +kernel
theorem dX11_raise_92 : decode cX11_raise 92 = .ok (.i2l, 1) := by decide +kernel
theorem dX11_raise_93 : decode cX11_raise 93 = .ok (.invokevirtual 78, 3) := by decide +kernel
theorem dX11_raise_96 : decode cX11_raise 96 = .ok (.iinc 3 1, 3) := by decide +kernel
theorem dX11_raise_99 : decode cX11_raise 99 = .ok (.goto (-63), 3) := by decide +kernel
theorem dX11_raise_102 : decode cX11_raise 102 = .ok (.aload_n 0, 1) := by decide +kernel
theorem dX11_raise_103 : decode cX11_raise 103 = .ok (.iload_n 1, 1) := by decide +kernel
theorem dX11_raise_104 : decode cX11_raise 104 = .ok (.invokevirtual 270, 3) := by decide +kernel
theorem dX11_raise_107 : decode cX11_raise 107 = .ok (.ireturn, 1) := by decide +kernel
theorem dX11_take_0 : decode cX11_take 0 = .ok (.aload_n 0, 1) := by decide +kernel
theorem dX11_take_1 : decode cX11_take 1 = .ok (.iload_n 1, 1) := by decide +kernel
theorem dX11_take_2 : decode cX11_take 2 = .ok (.invokevirtual 234, 3) := by decide +kernel
theorem dX11_take_5 : decode cX11_take 5 = .ok (.ifCond .ne 6, 3) := by decide +kernel
theorem dX11_take_8 : decode cX11_take 8 = .ok (.ldc 249, 2) := by decide +kernel
theorem dX11_take_10 : decode cX11_take 10 = .ok (.ireturn, 1) := by decide +kernel
theorem dX11_take_11 : decode cX11_take 11 = .ok (.aload_n 0, 1) := by decide +kernel
theorem dX11_take_12 : decode cX11_take 12 = .ok (.invokevirtual 93, 3) := by decide +kernel
theorem dX11_take_15 : decode cX11_take 15 = .ok (.iconst 1, 1) := by decide +kernel
theorem dX11_take_16 : decode cX11_take 16 = .ok (.iconst 4, 1) := by decide +kernel
theorem dX11_take_17 : decode cX11_take 17 = .ok (.iload_n 1, 1) := by decide +kernel
theorem dX11_take_18 : decode cX11_take 18 = .ok (.imul, 1) := by decide +kernel
theorem dX11_take_19 : decode cX11_take 19 = .ok (.iadd, 1) := by decide +kernel
theorem dX11_take_20 : decode cX11_take 20 = .ok (.istore_n 2, 1) := by decide +kernel
theorem dX11_take_21 : decode cX11_take 21 = .ok (.iload_n 2, 1) := by decide +kernel
theorem dX11_take_22 : decode cX11_take 22 = .ok (.iconst 4, 1) := by decide +kernel
theorem dX11_take_23 : decode cX11_take 23 = .ok (.iadd, 1) := by decide +kernel
theorem dX11_take_24 : decode cX11_take 24 = .ok (.bipush 49, 2) := by decide +kernel
theorem dX11_take_26 : decode cX11_take 26 = .ok (.if_icmp .ge 23, 3) := by decide +kernel
theorem dX11_take_29 : decode cX11_take 29 = .ok (.aload_n 0, 1) := by decide +kernel
theorem dX11_take_30 : decode cX11_take 30 = .ok (.getfield 7, 3) := by decide +kernel
theorem dX11_take_33 : decode cX11_take 33 = .ok (.iload_n 2, 1) := by decide +kernel
theorem dX11_take_34 : decode cX11_take 34 = .ok (.aload_n 0, 1) := by decide +kernel
theorem dX11_take_35 : decode cX11_take 35 = .ok (.getfield 7, 3) := by decide +kernel
theorem dX11_take_38 : decode cX11_take 38 = .ok (.iload_n 2, 1) := by decide +kernel
theorem dX11_take_39 : decode cX11_take 39 = .ok (.iconst 4, 1) := by decide +kernel
theorem dX11_take_40 : decode cX11_take 40 = .ok (.iadd, 1) := by decide +kernel
theorem dX11_take_41 : decode cX11_take 41 = .ok (.iaload, 1) := by decide +kernel
theorem dX11_take_42 : decode cX11_take 42 = .ok (.iastore, 1) := by decide +kernel
theorem dX11_take_43 : decode cX11_take 43 = .ok (.iinc 2 1, 3) := by decide +kernel
theorem dX11_take_46 : decode cX11_take 46 = .ok (.goto (-25), 3) := by decide +kernel
theorem dX11_take_49 : decode cX11_take 49 = .ok (.aload_n 0, 1) := by decide +kernel
theorem dX11_take_50 : decode cX11_take 50 = .ok (.getfield 7, 3) := by decide +kernel
theorem dX11_take_53 : decode cX11_take 53 = .ok (.iconst 0, 1) := by decide +kernel
theorem dX11_take_54 : decode cX11_take 54 = .ok (.dup2, 1) := by decide +kernel
theorem dX11_take_55 : decode cX11_take 55 = .ok (.iaload, 1) := by decide +kernel
theorem dX11_take_56 : decode cX11_take 56 = .ok (.iconst 1, 1) := by decide +kernel
theorem dX11_take_57 : decode cX11_take 57 = .ok (.isub, 1) := by decide +kernel
theorem dX11_take_58 : decode cX11_take 58 = .ok (.iastore, 1) := by decide +kernel
theorem dX11_take_59 : decode cX11_take 59 = .ok (.aload_n 0, 1) := by decide +kernel
theorem dX11_take_60 : decode cX11_take 60 = .ok (.getfield 7, 3) := by decide +kernel
theorem dX11_take_63 : decode cX11_take 63 = .ok (.iconst 0, 1) := by decide +kernel
theorem dX11_take_64 : decode cX11_take 64 = .ok (.iaload, 1) := by decide +kernel
theorem dX11_take_65 : decode cX11_take 65 = .ok (.ireturn, 1) := by decide +kernel
theorem dX11_draw_0 : decode cX11_draw 0 = .ok (.aload_n 0, 1) := by decide +kernel
theorem dX11_draw_1 : decode cX11_draw 1 = .ok (.aload_n 0, 1) := by decide +kernel
theorem dX11_draw_2 : decode cX11_draw 2 = .ok (.getfield 275, 3) := by decide +kernel
theorem dX11_draw_5 : decode cX11_draw 5 = .ok (.i2l, 1) := by decide +kernel
theorem dX11_draw_6 : decode cX11_draw 6 = .ok (.ldc2_w 278, 3) := by decide +kernel
theorem dX11_draw_9 : decode cX11_draw 9 = .ok (.lmul, 1) := by decide +kernel
theorem dX11_draw_10 : decode cX11_draw 10 = .ok (.ldc2_w 280, 3) := by decide +kernel
theorem dX11_draw_13 : decode cX11_draw 13 = .ok (.ladd, 1) := by decide +kernel
theorem dX11_draw_14 : decode cX11_draw 14 = .ok (.ldc2_w 282, 3) := by decide +kernel
theorem dX11_draw_17 : decode cX11_draw 17 = .ok (.lrem, 1) := by decide +kernel
theorem dX11_draw_18 : decode cX11_draw 18 = .ok (.l2i, 1) := by decide +kernel
theorem dX11_draw_19 : decode cX11_draw 19 = .ok (.putfield 275, 3) := by decide +kernel
theorem dX11_draw_22 : decode cX11_draw 22 = .ok (.aload_n 0, 1) := by decide +kernel
theorem dX11_draw_23 : decode cX11_draw 23 = .ok (.getfield 275, 3) := by decide +kernel
theorem dX11_draw_26 : decode cX11_draw 26 = .ok (.ldc_w 284, 3) := by decide +kernel
theorem dX11_draw_29 : decode cX11_draw 29 = .ok (.idiv, 1) := by decide +kernel
theorem dX11_draw_30 : decode cX11_draw 30 = .ok (.iload_n 1, 1) := by decide +kernel
theorem dX11_draw_31 : decode cX11_draw 31 = .ok (.irem, 1) := by decide +kernel
theorem dX11_draw_32 : decode cX11_draw 32 = .ok (.ireturn, 1) := by decide +kernel
theorem dX11_drift_0 : decode cX11_drift 0 = .ok (.iload_n 1, 1) := by decide +kernel
theorem dX11_drift_1 : decode cX11_drift 1 = .ok (.i2l, 1) := by decide +kernel
theorem dX11_drift_2 : decode cX11_drift 2 = .ok (.lconst 1, 1) := by decide +kernel
theorem dX11_drift_3 : decode cX11_drift 3 = .ok (.ldc2_w 285, 3) := by decide +kernel
theorem dX11_drift_6 : decode cX11_drift 6 = .ok (.invokestatic 53, 3) := by decide +kernel
theorem dX11_drift_9 : decode cX11_drift 9 = .ok (.ifCond .ne 6, 3) := by decide +kernel
theorem dX11_drift_12 : decode cX11_drift 12 = .ok (.ldc 85, 2) := by decide +kernel
theorem dX11_drift_14 : decode cX11_drift 14 = .ok (.ireturn, 1) := by decide +kernel
theorem dX11_drift_15 : decode cX11_drift 15 = .ok (.iconst 0, 1) := by decide +kernel
theorem dX11_drift_16 : decode cX11_drift 16 = .ok (.istore_n 2, 1) := by decide +kernel
theorem dX11_drift_17 : decode cX11_drift 17 = .ok (.iload_n 2, 1) := by decide +kernel
theorem dX11_drift_18 : decode cX11_drift 18 = .ok (.iload_n 1, 1) := by decide +kernel
theorem dX11_drift_19 : decode cX11_drift 19 = .ok (.if_icmp .ge 68, 3) := by decide +kernel
theorem dX11_drift_22 : decode cX11_drift 22 = .ok (.aload_n 0, 1) := by decide +kernel
theorem dX11_drift_23 : decode cX11_drift 23 = .ok (.getfield 7, 3) := by decide +kernel
theorem dX11_drift_26 : decode cX11_drift 26 = .ok (.iconst 0, 1) := by decide +kernel
theorem dX11_drift_27 : decode cX11_drift 27 = .ok (.iaload, 1) := by decide +kernel
theorem dX11_drift_28 : decode cX11_drift 28 = .ok (.bipush 12, 2) := by decide +kernel
theorem dX11_drift_30 : decode cX11_drift 30 = .ok (.if_icmp .ge 57, 3) := by decide +kernel
theorem dX11_drift_33 : decode cX11_drift 33 = .ok (.aload_n 0, 1) := by decide +kernel
theorem dX11_drift_34 : decode cX11_drift 34 = .ok (.bipush 8, 2) := by decide +kernel
theorem dX11_drift_36 : decode cX11_drift 36 = .ok (.invokevirtual 287, 3) := by decide +kernel
theorem dX11_drift_39 : decode cX11_drift 39 = .ok (.iconst 2, 1) := by decide +kernel
theorem dX11_drift_40 : decode cX11_drift 40 = .ok (.iadd, 1) := by decide +kernel
theorem dX11_drift_41 : decode cX11_drift 41 = .ok (.istore_n 3, 1) := by decide +kernel
theorem dX11_drift_42 : decode cX11_drift 42 = .ok (.aload_n 0, 1) := by decide +kernel
theorem dX11_drift_43 : decode cX11_drift 43 = .ok (.lconst 1, 1) := by decide +kernel
theorem dX11_drift_44 : decode cX11_drift 44 = .ok (.lconst 0, 1) := by decide +kernel
theorem dX11_drift_45 : decode cX11_drift 45 = .ok (.lconst 0, 1) := by decide +kernel
theorem dX11_drift_46 : decode cX11_drift 46 = .ok (.lconst 1, 1) := by decide +kernel
theorem dX11_drift_47 : decode cX11_drift 47 = .ok (.invokevirtual 70, 3) := by decide +kernel
theorem dX11_drift_50 : decode cX11_drift 50 = .ok (.iconst 0, 1) := by decide +kernel
theorem dX11_drift_51 : decode cX11_drift 51 = .ok (.istore 4, 2) := by decide +kernel
theorem dX11_drift_53 : decode cX11_drift 53 = .ok (.iload 4, 2) := by decide +kernel
theorem dX11_drift_55 : decode cX11_drift 55 = .ok (.iload_n 3, 1) := by decide +kernel
theorem dX11_drift_56 : decode cX11_drift 56 = .ok (.if_icmp .ge 19, 3) := by decide +kernel
theorem dX11_drift_59 : decode cX11_drift 59 = .ok (.aload_n 0, 1) := by decide +kernel
theorem dX11_drift_60 : decode cX11_drift 60 = .ok (.aload_n 0, 1) := by decide +kernel
theorem dX11_drift_61 : decode cX11_drift 61 = .ok (.bipush 6, 2) := by decide +kernel
theorem dX11_drift_63 : decode cX11_drift 63 = .ok (.invokevirtual 287, 3) := by decide +kernel
theorem dX11_drift_66 : decode cX11_drift 66 = .ok (.invokevirtual 104, 3) := by decide +kernel
theorem dX11_drift_69 : decode cX11_drift 69 = .ok (.iinc 4 1, 3) := by decide +kernel
theorem dX11_drift_72 : decode cX11_drift 72 = .ok (.goto (-19), 3) := by decide +kernel
theorem dX11_drift_75 : decode cX11_drift 75 = .ok (.aload_n 0, 1) := by decide +kernel
theorem dX11_drift_76 : decode cX11_drift 76 = .ok (.invokevirtual 111, 3) := by decide +kernel
theorem dX11_drift_79 : decode cX11_drift 79 = .ok (.istore 4, 2) := by decide +kernel
theorem dX11_drift_81 : decode cX11_drift 81 = .ok (.iinc 2 1, 3) := by decide +kernel
theorem dX11_drift_84 : decode cX11_drift 84 = .ok (.goto (-67), 3) := by decide +kernel
theorem dX11_drift_87 : decode cX11_drift 87 = .ok (.aload_n 0, 1) := by decide +kernel
theorem dX11_drift_88 : decode cX11_drift 88 = .ok (.getfield 7, 3) := by decide +kernel
theorem dX11_drift_91 : decode cX11_drift 91 = .ok (.iconst 0, 1) := by decide +kernel
theorem dX11_drift_92 : decode cX11_drift 92 = .ok (.iaload, 1) := by decide +kernel
theorem dX11_drift_93 : decode cX11_drift 93 = .ok (.ireturn, 1) := by decide +kernel
theorem dX11_undo_0 : decode cX11_undo 0 = .ok (.iload_n 1, 1) := by decide +kernel
theorem dX11_undo_1 : decode cX11_undo 1 = .ok (.i2l, 1) := by decide +kernel
theorem dX11_undo_2 : decode cX11_undo 2 = .ok (.lconst 1, 1) := by decide +kernel
theorem dX11_undo_3 : decode cX11_undo 3 = .ok (.ldc2_w 273, 3) := by decide +kernel
theorem dX11_undo_6 : decode cX11_undo 6 = .ok (.invokestatic 53, 3) := by decide +kernel
theorem dX11_undo_9 : decode cX11_undo 9 = .ok (.ifCond .ne 6, 3) := by decide +kernel
theorem dX11_undo_12 : decode cX11_undo 12 = .ok (.ldc 85, 2) := by decide +kernel
theorem dX11_undo_14 : decode cX11_undo 14 = .ok (.ireturn, 1) := by decide +kernel
theorem dX11_undo_15 : decode cX11_undo 15 = .ok (.iload_n 1, 1) := by decide +kernel
theorem dX11_undo_16 : decode cX11_undo 16 = .ok (.aload_n 0, 1) := by decide +kernel
theorem dX11_undo_17 : decode cX11_undo 17 = .ok (.getfield 90, 3) := by decide +kernel
theorem dX11_undo_20 : decode cX11_undo 20 = .ok (.if_icmp .le 6, 3) := by decide +kernel
theorem dX11_undo_23 : decode cX11_undo 23 = .ok (.ldc 115, 2) := by decide +kernel
theorem dX11_undo_25 : decode cX11_undo 25 = .ok (.ireturn, 1) := by decide +kernel
theorem dX11_undo_26 : decode cX11_undo 26 = .ok (.aload_n 0, 1) := by decide +kernel
theorem dX11_undo_27 : decode cX11_undo 27 = .ok (.dup, 1) := by decide +kernel
theorem dX11_undo_28 : decode cX11_undo 28 = .ok (.getfield 90, 3) := by decide +kernel
theorem dX11_undo_31 : decode cX11_undo 31 = .ok (.iload_n 1, 1) := by decide +kernel
theorem dX11_undo_32 : decode cX11_undo 32 = .ok (.isub, 1) := by decide +kernel
theorem dX11_undo_33 : decode cX11_undo 33 = .ok (.putfield 90, 3) := by decide +kernel
theorem dX11_undo_36 : decode cX11_undo 36 = .ok (.iconst 0, 1) := by decide +kernel
theorem dX11_undo_37 : decode cX11_undo 37 = .ok (.istore_n 2, 1) := by decide +kernel
theorem dX11_undo_38 : decode cX11_undo 38 = .ok (.iload_n 2, 1) := by decide +kernel
theorem dX11_undo_39 : decode cX11_undo 39 = .ok (.bipush 49, 2) := by decide +kernel
theorem dX11_undo_41 : decode cX11_undo 41 = .ok (.if_icmp .ge 29, 3) := by decide +kernel
theorem dX11_undo_44 : decode cX11_undo 44 = .ok (.aload_n 0, 1) := by decide +kernel
theorem dX11_undo_45 : decode cX11_undo 45 = .ok (.getfield 7, 3) := by decide +kernel
theorem dX11_undo_48 : decode cX11_undo 48 = .ok (.iload_n 2, 1) := by decide +kernel
theorem dX11_undo_49 : decode cX11_undo 49 = .ok (.aload_n 0, 1) := by decide +kernel
theorem dX11_undo_50 : decode cX11_undo 50 = .ok (.getfield 13, 3) := by decide +kernel
theorem dX11_undo_53 : decode cX11_undo 53 = .ok (.bipush 49, 2) := by decide +kernel
theorem dX11_undo_55 : decode cX11_undo 55 = .ok (.aload_n 0, 1) := by decide +kernel
theorem dX11_undo_56 : decode cX11_undo 56 = .ok (.getfield 90, 3) := by decide +kernel
theorem dX11_undo_59 : decode cX11_undo 59 = .ok (.imul, 1) := by decide +kernel
theorem dX11_undo_60 : decode cX11_undo 60 = .ok (.iload_n 2, 1) := by decide +kernel
theorem dX11_undo_61 : decode cX11_undo 61 = .ok (.iadd, 1) := by decide +kernel
theorem dX11_undo_62 : decode cX11_undo 62 = .ok (.iaload, 1) := by decide +kernel
theorem dX11_undo_63 : decode cX11_undo 63 = .ok (.iastore, 1) := by decide +kernel
theorem dX11_undo_64 : decode cX11_undo 64 = .ok (.iinc 2 1, 3) := by decide +kernel
theorem dX11_undo_67 : decode cX11_undo 67 = .ok (.goto (-29), 3) := by decide +kernel
theorem dX11_undo_70 : decode cX11_undo 70 = .ok (.aload_n 0, 1) := by decide +kernel
theorem dX11_undo_71 : decode cX11_undo 71 = .ok (.getfield 7, 3) := by decide +kernel
theorem dX11_undo_74 : decode cX11_undo 74 = .ok (.iconst 0, 1) := by decide +kernel
theorem dX11_undo_75 : decode cX11_undo 75 = .ok (.iaload, 1) := by decide +kernel
theorem dX11_undo_76 : decode cX11_undo 76 = .ok (.ireturn, 1) := by decide +kernel
theorem dX11_isProduct_0 : decode cX11_isProduct 0 = .ok (.aload_n 0, 1) := by decide +kernel
theorem dX11_isProduct_1 : decode cX11_isProduct 1 = .ok (.getfield 7, 3) := by decide +kernel
theorem dX11_isProduct_4 : decode cX11_isProduct 4 = .ok (.iconst 1, 1) := by decide +kernel
theorem dX11_isProduct_5 : decode cX11_isProduct 5 = .ok (.iconst 4, 1) := by decide +kernel
theorem dX11_isProduct_6 : decode cX11_isProduct 6 = .ok (.iload_n 1, 1) := by decide +kernel
theorem dX11_isProduct_7 : decode cX11_isProduct 7 = .ok (.imul, 1) := by decide +kernel
theorem dX11_isProduct_8 : decode cX11_isProduct 8 = .ok (.iadd, 1) := by decide +kernel
theorem dX11_isProduct_9 : decode cX11_isProduct 9 = .ok (.iaload, 1) := by decide +kernel
theorem dX11_isProduct_10 : decode cX11_isProduct 10 = .ok (.ifCond .lt 46, 3) := by decide +kernel
theorem dX11_isProduct_13 : decode cX11_isProduct 13 = .ok (.aload_n 0, 1) := by decide +kernel
theorem dX11_isProduct_14 : decode cX11_isProduct 14 = .ok (.getfield 7, 3) := by decide +kernel
theorem dX11_isProduct_17 : decode cX11_isProduct 17 = .ok (.iconst 2, 1) := by decide +kernel
theorem dX11_isProduct_18 : decode cX11_isProduct 18 = .ok (.iconst 4, 1) := by decide +kernel
theorem dX11_isProduct_19 : decode cX11_isProduct 19 = .ok (.iload_n 1, 1) := by decide +kernel
theorem dX11_isProduct_20 : decode cX11_isProduct 20 = .ok (.imul, 1) := by decide +kernel
theorem dX11_isProduct_21 : decode cX11_isProduct 21 = .ok (.iadd, 1) := by decide +kernel
theorem dX11_isProduct_22 : decode cX11_isProduct 22 = .ok (.iaload, 1) := by decide +kernel
theorem dX11_isProduct_23 : decode cX11_isProduct 23 = .ok (.ifCond .lt 33, 3) := by decide +kernel
theorem dX11_isProduct_26 : decode cX11_isProduct 26 = .ok (.aload_n 0, 1) := by decide +kernel
theorem dX11_isProduct_27 : decode cX11_isProduct 27 = .ok (.getfield 7, 3) := by decide +kernel
theorem dX11_isProduct_30 : decode cX11_isProduct 30 = .ok (.iconst 3, 1) := by decide +kernel
theorem dX11_isProduct_31 : decode cX11_isProduct 31 = .ok (.iconst 4, 1) := by decide +kernel
theorem dX11_isProduct_32 : decode cX11_isProduct 32 = .ok (.iload_n 1, 1) := by decide +kernel
theorem dX11_isProduct_33 : decode cX11_isProduct 33 = .ok (.imul, 1) := by decide +kernel
theorem dX11_isProduct_34 : decode cX11_isProduct 34 = .ok (.iadd, 1) := by decide +kernel
theorem dX11_isProduct_35 : decode cX11_isProduct 35 = .ok (.iaload, 1) := by decide +kernel
theorem dX11_isProduct_36 : decode cX11_isProduct 36 = .ok (.ifCond .lt 20, 3) := by decide +kernel
theorem dX11_isProduct_39 : decode cX11_isProduct 39 = .ok (.aload_n 0, 1) := by decide +kernel
theorem dX11_isProduct_40 : decode cX11_isProduct 40 = .ok (.getfield 7, 3) := by decide +kernel
theorem dX11_isProduct_43 : decode cX11_isProduct 43 = .ok (.iconst 4, 1) := by decide +kernel
theorem dX11_isProduct_44 : decode cX11_isProduct 44 = .ok (.iconst 4, 1) := by decide +kernel
theorem dX11_isProduct_45 : decode cX11_isProduct 45 = .ok (.iload_n 1, 1) := by decide +kernel
theorem dX11_isProduct_46 : decode cX11_isProduct 46 = .ok (.imul, 1) := by decide +kernel
theorem dX11_isProduct_47 : decode cX11_isProduct 47 = .ok (.iadd, 1) := by decide +kernel
theorem dX11_isProduct_48 : decode cX11_isProduct 48 = .ok (.iaload, 1) := by decide +kernel
theorem dX11_isProduct_49 : decode cX11_isProduct 49 = .ok (.ifCond .lt 7, 3) := by decide +kernel
theorem dX11_isProduct_52 : decode cX11_isProduct 52 = .ok (.iconst 1, 1) := by decide +kernel
theorem dX11_isProduct_53 : decode cX11_isProduct 53 = .ok (.goto 4, 3) := by decide +kernel
theorem dX11_isProduct_56 : decode cX11_isProduct 56 = .ok (.iconst 0, 1) := by decide +kernel
theorem dX11_isProduct_57 : decode cX11_isProduct 57 = .ok (.ireturn, 1) := by decide +kernel
theorem dX11_goTogether_0 : decode cX11_goTogether 0 = .ok (.aload_n 0, 1) := by decide +kernel
theorem dX11_goTogether_1 : decode cX11_goTogether 1 = .ok (.iload_n 1, 1) := by decide +kernel
theorem dX11_goTogether_2 : decode cX11_goTogether 2 = .ok (.invokevirtual 207, 3) := by decide +kernel
theorem dX11_goTogether_5 : decode cX11_goTogether 5 = .ok (.aload_n 0, 1) := by decide +kernel
theorem dX11_goTogether_6 : decode cX11_goTogether 6 = .ok (.aload_n 0, 1) := by decide +kernel
theorem dX11_goTogether_7 : decode cX11_goTogether 7 = .ok (.getfield 7, 3) := by decide +kernel
theorem dX11_goTogether_10 : decode cX11_goTogether 10 = .ok (.iconst 1, 1) := by decide +kernel
theorem dX11_goTogether_11 : decode cX11_goTogether 11 = .ok (.iconst 4, 1) := by decide +kernel
theorem dX11_goTogether_12 : decode cX11_goTogether 12 = .ok (.iload_n 2, 1) := by decide +kernel
theorem dX11_goTogether_13 : decode cX11_goTogether 13 = .ok (.imul, 1) := by decide +kernel
theorem dX11_goTogether_14 : decode cX11_goTogether 14 = .ok (.iadd, 1) := by decide +kernel
theorem dX11_goTogether_15 : decode cX11_goTogether 15 = .ok (.iaload, 1) := by decide +kernel
theorem dX11_goTogether_16 : decode cX11_goTogether 16 = .ok (.i2l, 1) := by decide +kernel
theorem dX11_goTogether_17 : decode cX11_goTogether 17 = .ok (.aload_n 0, 1) := by decide +kernel
theorem dX11_goTogether_18 : decode cX11_goTogether 18 = .ok (.getfield 7, 3) := by decide +kernel
theorem dX11_goTogether_21 : decode cX11_goTogether 21 = .ok (.iconst 2, 1) := by decide +kernel
theorem dX11_goTogether_22 : decode cX11_goTogether 22 = .ok (.iconst 4, 1) := by decide +kernel
theorem dX11_goTogether_23 : decode cX11_goTogether 23 = .ok (.iload_n 2, 1) := by decide +kernel
theorem dX11_goTogether_24 : decode cX11_goTogether 24 = .ok (.imul, 1) := by decide +kernel
theorem dX11_goTogether_25 : decode cX11_goTogether 25 = .ok (.iadd, 1) := by decide +kernel
theorem dX11_goTogether_26 : decode cX11_goTogether 26 = .ok (.iaload, 1) := by decide +kernel
theorem dX11_goTogether_27 : decode cX11_goTogether 27 = .ok (.i2l, 1) := by decide +kernel
theorem dX11_goTogether_28 : decode cX11_goTogether 28 = .ok (.aload_n 0, 1) := by decide +kernel
theorem dX11_goTogether_29 : decode cX11_goTogether 29 = .ok (.getfield 7, 3) := by decide +kernel
theorem dX11_goTogether_32 : decode cX11_goTogether 32 = .ok (.iconst 3, 1) := by decide +kernel
theorem dX11_goTogether_33 : decode cX11_goTogether 33 = .ok (.iconst 4, 1) := by decide +kernel
theorem dX11_goTogether_34 : decode cX11_goTogether 34 = .ok (.iload_n 2, 1) := by decide +kernel
theorem dX11_goTogether_35 : decode cX11_goTogether 35 = .ok (.imul, 1) := by decide +kernel
theorem dX11_goTogether_36 : decode cX11_goTogether 36 = .ok (.iadd, 1) := by decide +kernel
theorem dX11_goTogether_37 : decode cX11_goTogether 37 = .ok (.iaload, 1) := by decide +kernel
theorem dX11_goTogether_38 : decode cX11_goTogether 38 = .ok (.i2l, 1) := by decide +kernel
theorem dX11_goTogether_39 : decode cX11_goTogether 39 = .ok (.aload_n 0, 1) := by decide +kernel
theorem dX11_goTogether_40 : decode cX11_goTogether 40 = .ok (.getfield 7, 3) := by decide +kernel
theorem dX11_goTogether_43 : decode cX11_goTogether 43 = .ok (.iconst 4, 1) := by decide +kernel
theorem dX11_goTogether_44 : decode cX11_goTogether 44 = .ok (.iconst 4, 1) := by decide +kernel
theorem dX11_goTogether_45 : decode cX11_goTogether 45 = .ok (.iload_n 2, 1) := by decide +kernel
theorem dX11_goTogether_46 : decode cX11_goTogether 46 = .ok (.imul, 1) := by decide +kernel
theorem dX11_goTogether_47 : decode cX11_goTogether 47 = .ok (.iadd, 1) := by decide +kernel
theorem dX11_goTogether_48 : decode cX11_goTogether 48 = .ok (.iaload, 1) := by decide +kernel
theorem dX11_goTogether_49 : decode cX11_goTogether 49 = .ok (.i2l, 1) := by decide +kernel
theorem dX11_goTogether_50 : decode cX11_goTogether 50 = .ok (.invokevirtual 78, 3) := by decide +kernel
theorem dX11_goTogether_53 : decode cX11_goTogether 53 = .ok (.aload_n 0, 1) := by decide +kernel
theorem dX11_goTogether_54 : decode cX11_goTogether 54 = .ok (.getfield 45, 3) := by decide +kernel
theorem dX11_goTogether_57 : decode cX11_goTogether 57 = .ok (.iconst 0, 1) := by decide +kernel
theorem dX11_goTogether_58 : decode cX11_goTogether 58 = .ok (.aload_n 0, 1) := by decide +kernel
theorem dX11_goTogether_59 : decode cX11_goTogether 59 = .ok (.getfield 57, 3) := by decide +kernel
theorem dX11_goTogether_62 : decode cX11_goTogether 62 = .ok (.lastore, 1) := by decide +kernel
theorem dX11_goTogether_63 : decode cX11_goTogether 63 = .ok (.aload_n 0, 1) := by decide +kernel
theorem dX11_goTogether_64 : decode cX11_goTogether 64 = .ok (.getfield 45, 3) := by decide +kernel
theorem dX11_goTogether_67 : decode cX11_goTogether 67 = .ok (.iconst 1, 1) := by decide +kernel
theorem dX11_goTogether_68 : decode cX11_goTogether 68 = .ok (.aload_n 0, 1) := by decide +kernel
theorem dX11_goTogether_69 : decode cX11_goTogether 69 = .ok (.getfield 61, 3) := by decide +kernel
theorem dX11_goTogether_72 : decode cX11_goTogether 72 = .ok (.lastore, 1) := by decide +kernel
theorem dX11_goTogether_73 : decode cX11_goTogether 73 = .ok (.aload_n 0, 1) := by decide +kernel
theorem dX11_goTogether_74 : decode cX11_goTogether 74 = .ok (.getfield 45, 3) := by decide +kernel
theorem dX11_goTogether_77 : decode cX11_goTogether 77 = .ok (.iconst 2, 1) := by decide +kernel
theorem dX11_goTogether_78 : decode cX11_goTogether 78 = .ok (.aload_n 0, 1) := by decide +kernel
theorem dX11_goTogether_79 : decode cX11_goTogether 79 = .ok (.getfield 64, 3) := by decide +kernel
theorem dX11_goTogether_82 : decode cX11_goTogether 82 = .ok (.lastore, 1) := by decide +kernel
theorem dX11_goTogether_83 : decode cX11_goTogether 83 = .ok (.aload_n 0, 1) := by decide +kernel
theorem dX11_goTogether_84 : decode cX11_goTogether 84 = .ok (.getfield 45, 3) := by decide +kernel
theorem dX11_goTogether_87 : decode cX11_goTogether 87 = .ok (.iconst 3, 1) := by decide +kernel
theorem dX11_goTogether_88 : decode cX11_goTogether 88 = .ok (.aload_n 0, 1) := by decide +kernel
theorem dX11_goTogether_89 : decode cX11_goTogether 89 = .ok (.getfield 67, 3) := by decide +kernel
theorem dX11_goTogether_92 : decode cX11_goTogether 92 = .ok (.lastore, 1) := by decide +kernel
theorem dX11_goTogether_93 : decode cX11_goTogether 93 = .ok (.aload_n 0, 1) := by decide +kernel
theorem dX11_goTogether_94 : decode cX11_goTogether 94 = .ok (.iload_n 2, 1) := by decide +kernel
theorem dX11_goTogether_95 : decode cX11_goTogether 95 = .ok (.invokevirtual 207, 3) := by decide +kernel
theorem dX11_goTogether_98 : decode cX11_goTogether 98 = .ok (.aload_n 0, 1) := by decide +kernel
theorem dX11_goTogether_99 : decode cX11_goTogether 99 = .ok (.aload_n 0, 1) := by decide +kernel
theorem dX11_goTogether_100 : decode cX11_goTogether 100 = .ok (.getfield 7, 3) := by decide +kernel
theorem dX11_goTogether_103 : decode cX11_goTogether 103 = .ok (.iconst 1, 1) := by decide +kernel
theorem dX11_goTogether_104 : decode cX11_goTogether 104 = .ok (.iconst 4, 1) := by decide +kernel
theorem dX11_goTogether_105 : decode cX11_goTogether 105 = .ok (.iload_n 1, 1) := by decide +kernel
theorem dX11_goTogether_106 : decode cX11_goTogether 106 = .ok (.imul, 1) := by decide +kernel
theorem dX11_goTogether_107 : decode cX11_goTogether 107 = .ok (.iadd, 1) := by decide +kernel
theorem dX11_goTogether_108 : decode cX11_goTogether 108 = .ok (.iaload, 1) := by decide +kernel
theorem dX11_goTogether_109 : decode cX11_goTogether 109 = .ok (.i2l, 1) := by decide +kernel
theorem dX11_goTogether_110 : decode cX11_goTogether 110 = .ok (.aload_n 0, 1) := by decide +kernel
theorem dX11_goTogether_111 : decode cX11_goTogether 111 = .ok (.getfield 7, 3) := by decide +kernel
theorem dX11_goTogether_114 : decode cX11_goTogether 114 = .ok (.iconst 2, 1) := by decide +kernel
theorem dX11_goTogether_115 : decode cX11_goTogether 115 = .ok (.iconst 4, 1) := by decide +kernel
theorem dX11_goTogether_116 : decode cX11_goTogether 116 = .ok (.iload_n 1, 1) := by decide +kernel
theorem dX11_goTogether_117 : decode cX11_goTogether 117 = .ok (.imul, 1) := by decide +kernel
theorem dX11_goTogether_118 : decode cX11_goTogether 118 = .ok (.iadd, 1) := by decide +kernel
theorem dX11_goTogether_119 : decode cX11_goTogether 119 = .ok (.iaload, 1) := by decide +kernel
theorem dX11_goTogether_120 : decode cX11_goTogether 120 = .ok (.i2l, 1) := by decide +kernel
theorem dX11_goTogether_121 : decode cX11_goTogether 121 = .ok (.aload_n 0, 1) := by decide +kernel
theorem dX11_goTogether_122 : decode cX11_goTogether 122 = .ok (.getfield 7, 3) := by decide +kernel
theorem dX11_goTogether_125 : decode cX11_goTogether 125 = .ok (.iconst 3, 1) := by decide +kernel
theorem dX11_goTogether_126 : decode cX11_goTogether 126 = .ok (.iconst 4, 1) := by decide +kernel
theorem dX11_goTogether_127 : decode cX11_goTogether 127 = .ok (.iload_n 1, 1) := by decide +kernel
theorem dX11_goTogether_128 : decode cX11_goTogether 128 = .ok (.imul, 1) := by decide +kernel
theorem dX11_goTogether_129 : decode cX11_goTogether 129 = .ok (.iadd, 1) := by decide +kernel
theorem dX11_goTogether_130 : decode cX11_goTogether 130 = .ok (.iaload, 1) := by decide +kernel
theorem dX11_goTogether_131 : decode cX11_goTogether 131 = .ok (.i2l, 1) := by decide +kernel
theorem dX11_goTogether_132 : decode cX11_goTogether 132 = .ok (.aload_n 0, 1) := by decide +kernel
theorem dX11_goTogether_133 : decode cX11_goTogether 133 = .ok (.getfield 7, 3) := by decide +kernel
theorem dX11_goTogether_136 : decode cX11_goTogether 136 = .ok (.iconst 4, 1) := by decide +kernel
theorem dX11_goTogether_137 : decode cX11_goTogether 137 = .ok (.iconst 4, 1) := by decide +kernel
theorem dX11_goTogether_138 : decode cX11_goTogether 138 = .ok (.iload_n 1, 1) := by decide +kernel
theorem dX11_goTogether_139 : decode cX11_goTogether 139 = .ok (.imul, 1) := by decide +kernel
theorem dX11_goTogether_140 : decode cX11_goTogether 140 = .ok (.iadd, 1) := by decide +kernel
theorem dX11_goTogether_141 : decode cX11_goTogether 141 = .ok (.iaload, 1) := by decide +kernel
theorem dX11_goTogether_142 : decode cX11_goTogether 142 = .ok (.i2l, 1) := by decide +kernel
theorem dX11_goTogether_143 : decode cX11_goTogether 143 = .ok (.invokevirtual 78, 3) := by decide +kernel
theorem dX11_goTogether_146 : decode cX11_goTogether 146 = .ok (.aload_n 0, 1) := by decide +kernel
theorem dX11_goTogether_147 : decode cX11_goTogether 147 = .ok (.getfield 57, 3) := by decide +kernel
theorem dX11_goTogether_150 : decode cX11_goTogether 150 = .ok (.aload_n 0, 1) := by decide +kernel
theorem dX11_goTogether_151 : decode cX11_goTogether 151 = .ok (.getfield 45, 3) := by decide +kernel
theorem dX11_goTogether_154 : decode cX11_goTogether 154 = .ok (.iconst 0, 1) := by decide +kernel
theorem dX11_goTogether_155 : decode cX11_goTogether 155 = .ok (.laload, 1) := by decide +kernel
theorem dX11_goTogether_156 : decode cX11_goTogether 156 = .ok (.lcmp, 1) := by decide +kernel
theorem dX11_goTogether_157 : decode cX11_goTogether 157 = .ok (.ifCond .ne 49, 3) := by decide +kernel
theorem dX11_goTogether_160 : decode cX11_goTogether 160 = .ok (.aload_n 0, 1) := by decide +kernel
theorem dX11_goTogether_161 : decode cX11_goTogether 161 = .ok (.getfield 61, 3) := by decide +kernel
theorem dX11_goTogether_164 : decode cX11_goTogether 164 = .ok (.aload_n 0, 1) := by decide +kernel
theorem dX11_goTogether_165 : decode cX11_goTogether 165 = .ok (.getfield 45, 3) := by decide +kernel
theorem dX11_goTogether_168 : decode cX11_goTogether 168 = .ok (.iconst 1, 1) := by decide +kernel
theorem dX11_goTogether_169 : decode cX11_goTogether 169 = .ok (.laload, 1) := by decide +kernel
theorem dX11_goTogether_170 : decode cX11_goTogether 170 = .ok (.lcmp, 1) := by decide +kernel
theorem dX11_goTogether_171 : decode cX11_goTogether 171 = .ok (.ifCond .ne 35, 3) := by decide +kernel
theorem dX11_goTogether_174 : decode cX11_goTogether 174 = .ok (.aload_n 0, 1) := by decide +kernel
theorem dX11_goTogether_175 : decode cX11_goTogether 175 = .ok (.getfield 64, 3) := by decide +kernel
theorem dX11_goTogether_178 : decode cX11_goTogether 178 = .ok (.aload_n 0, 1) := by decide +kernel
theorem dX11_goTogether_179 : decode cX11_goTogether 179 = .ok (.getfield 45, 3) := by decide +kernel
theorem dX11_goTogether_182 : decode cX11_goTogether 182 = .ok (.iconst 2, 1) := by decide +kernel
theorem dX11_goTogether_183 : decode cX11_goTogether 183 = .ok (.laload, 1) := by decide +kernel
theorem dX11_goTogether_184 : decode cX11_goTogether 184 = .ok (.lcmp, 1) := by decide +kernel
theorem dX11_goTogether_185 : decode cX11_goTogether 185 = .ok (.ifCond .ne 21, 3) := by decide +kernel
theorem dX11_goTogether_188 : decode cX11_goTogether 188 = .ok (.aload_n 0, 1) := by decide +kernel
theorem dX11_goTogether_189 : decode cX11_goTogether 189 = .ok (.getfield 67, 3) := by decide +kernel
theorem dX11_goTogether_192 : decode cX11_goTogether 192 = .ok (.aload_n 0, 1) := by decide +kernel
theorem dX11_goTogether_193 : decode cX11_goTogether 193 = .ok (.getfield 45, 3) := by decide +kernel
theorem dX11_goTogether_196 : decode cX11_goTogether 196 = .ok (.iconst 3, 1) := by decide +kernel
theorem dX11_goTogether_197 : decode cX11_goTogether 197 = .ok (.laload, 1) := by decide +kernel
theorem dX11_goTogether_198 : decode cX11_goTogether 198 = .ok (.lcmp, 1) := by decide +kernel
theorem dX11_goTogether_199 : decode cX11_goTogether 199 = .ok (.ifCond .ne 7, 3) := by decide +kernel
theorem dX11_goTogether_202 : decode cX11_goTogether 202 = .ok (.iconst 1, 1) := by decide +kernel
theorem dX11_goTogether_203 : decode cX11_goTogether 203 = .ok (.goto 4, 3) := by decide +kernel
theorem dX11_goTogether_206 : decode cX11_goTogether 206 = .ok (.iconst 0, 1) := by decide +kernel
theorem dX11_goTogether_207 : decode cX11_goTogether 207 = .ok (.ireturn, 1) := by decide +kernel
theorem dX11_beginsOf_0 : decode cX11_beginsOf 0 = .ok (.aload_n 0, 1) := by decide +kernel
theorem dX11_beginsOf_1 : decode cX11_beginsOf 1 = .ok (.iload_n 1, 1) := by decide +kernel
theorem dX11_beginsOf_2 : decode cX11_beginsOf 2 = .ok (.iload_n 2, 1) := by decide +kernel
theorem dX11_beginsOf_3 : decode cX11_beginsOf 3 = .ok (.invokevirtual 237, 3) := by decide +kernel
theorem dX11_beginsOf_6 : decode cX11_beginsOf 6 = .ok (.ifCond .eq 31, 3) := by decide +kernel
theorem dX11_beginsOf_9 : decode cX11_beginsOf 9 = .ok (.aload_n 0, 1) := by decide +kernel
theorem dX11_beginsOf_10 : decode cX11_beginsOf 10 = .ok (.getfield 168, 3) := by decide +kernel
theorem dX11_beginsOf_13 : decode cX11_beginsOf 13 = .ok (.iconst 3, 1) := by decide +kernel
theorem dX11_beginsOf_14 : decode cX11_beginsOf 14 = .ok (.if_icmp .ne 23, 3) := by decide +kernel
theorem dX11_beginsOf_17 : decode cX11_beginsOf 17 = .ok (.aload_n 0, 1) := by decide +kernel
theorem dX11_beginsOf_18 : decode cX11_beginsOf 18 = .ok (.iload_n 1, 1) := by decide +kernel
theorem dX11_beginsOf_19 : decode cX11_beginsOf 19 = .ok (.invokevirtual 290, 3) := by decide +kernel
theorem dX11_beginsOf_22 : decode cX11_beginsOf 22 = .ok (.ifCond .eq 15, 3) := by decide +kernel
theorem dX11_beginsOf_25 : decode cX11_beginsOf 25 = .ok (.aload_n 0, 1) := by decide +kernel
theorem dX11_beginsOf_26 : decode cX11_beginsOf 26 = .ok (.iload_n 2, 1) := by decide +kernel
theorem dX11_beginsOf_27 : decode cX11_beginsOf 27 = .ok (.invokevirtual 290, 3) := by decide +kernel
theorem dX11_beginsOf_30 : decode cX11_beginsOf 30 = .ok (.ifCond .eq 7, 3) := by decide +kernel
theorem dX11_beginsOf_33 : decode cX11_beginsOf 33 = .ok (.iconst 1, 1) := by decide +kernel
theorem dX11_beginsOf_34 : decode cX11_beginsOf 34 = .ok (.goto 4, 3) := by decide +kernel
theorem dX11_beginsOf_37 : decode cX11_beginsOf 37 = .ok (.iconst 0, 1) := by decide +kernel
theorem dX11_beginsOf_38 : decode cX11_beginsOf 38 = .ok (.istore_n 3, 1) := by decide +kernel
theorem dX11_beginsOf_39 : decode cX11_beginsOf 39 = .ok (.aload_n 0, 1) := by decide +kernel
theorem dX11_beginsOf_40 : decode cX11_beginsOf 40 = .ok (.getfield 146, 3) := by decide +kernel
theorem dX11_beginsOf_43 : decode cX11_beginsOf 43 = .ok (.ifCond .ne 7, 3) := by decide +kernel
theorem dX11_beginsOf_46 : decode cX11_beginsOf 46 = .ok (.lconst 1, 1) := by decide +kernel
theorem dX11_beginsOf_47 : decode cX11_beginsOf 47 = .ok (.goto 13, 3) := by decide +kernel
theorem dX11_beginsOf_50 : decode cX11_beginsOf 50 = .ok (.aload_n 0, 1) := by decide +kernel
theorem dX11_beginsOf_51 : decode cX11_beginsOf 51 = .ok (.getfield 143, 3) := by decide +kernel
theorem dX11_beginsOf_54 : decode cX11_beginsOf 54 = .ok (.aload_n 0, 1) := by decide +kernel
theorem dX11_beginsOf_55 : decode cX11_beginsOf 55 = .ok (.getfield 146, 3) := by decide +kernel
theorem dX11_beginsOf_58 : decode cX11_beginsOf 58 = .ok (.i2l, 1) := by decide +kernel
theorem dX11_beginsOf_59 : decode cX11_beginsOf 59 = .ok (.ldiv, 1) := by decide +kernel
theorem dX11_beginsOf_60 : decode cX11_beginsOf 60 = .ok (.lstore 4, 2) := by decide +kernel
theorem dX11_beginsOf_62 : decode cX11_beginsOf 62 = .ok (.iload_n 3, 1) := by decide +kernel
theorem dX11_beginsOf_63 : decode cX11_beginsOf 63 = .ok (.ifCond .eq 22, 3) := by decide +kernel
theorem dX11_beginsOf_66 : decode cX11_beginsOf 66 = .ok (.aload_n 0, 1) := by decide +kernel
theorem dX11_beginsOf_67 : decode cX11_beginsOf 67 = .ok (.getfield 157, 3) := by decide +kernel
theorem dX11_beginsOf_70 : decode cX11_beginsOf 70 = .ok (.aload_n 0, 1) := by decide +kernel
theorem dX11_beginsOf_71 : decode cX11_beginsOf 71 = .ok (.getfield 204, 3) := by decide +kernel
theorem dX11_beginsOf_74 : decode cX11_beginsOf 74 = .ok (.lsub, 1) := by decide +kernel
theorem dX11_beginsOf_75 : decode cX11_beginsOf 75 = .ok (.lload 4, 2) := by decide +kernel
theorem dX11_beginsOf_77 : decode cX11_beginsOf 77 = .ok (.ladd, 1) := by decide +kernel
theorem dX11_beginsOf_78 : decode cX11_beginsOf 78 = .ok (.lload 4, 2) := by decide +kernel
theorem dX11_beginsOf_80 : decode cX11_beginsOf 80 = .ok (.lrem, 1) := by decide +kernel
theorem dX11_beginsOf_81 : decode cX11_beginsOf 81 = .ok (.l2i, 1) := by decide +kernel
theorem dX11_beginsOf_82 : decode cX11_beginsOf 82 = .ok (.goto 4, 3) := by decide +kernel
theorem dX11_beginsOf_85 : decode cX11_beginsOf 85 = .ok (.iconst (-1), 1) := by decide +kernel
theorem dX11_beginsOf_86 : decode cX11_beginsOf 86 = .ok (.ireturn, 1) := by decide +kernel
theorem dX11_pair_0 : decode cX11_pair 0 = .ok (.aload_n 0, 1) := by decide +kernel
theorem dX11_pair_1 : decode cX11_pair 1 = .ok (.iload_n 1, 1) := by decide +kernel
theorem dX11_pair_2 : decode cX11_pair 2 = .ok (.invokevirtual 234, 3) := by decide +kernel
theorem dX11_pair_5 : decode cX11_pair 5 = .ok (.ifCond .eq 11, 3) := by decide +kernel
theorem dX11_pair_8 : decode cX11_pair 8 = .ok (.aload_n 0, 1) := by decide +kernel
theorem dX11_pair_9 : decode cX11_pair 9 = .ok (.iload_n 2, 1) := by decide +kernel
theorem dX11_pair_10 : decode cX11_pair 10 = .ok (.invokevirtual 234, 3) := by decide +kernel
theorem dX11_pair_13 : decode cX11_pair 13 = .ok (.ifCond .ne 6, 3) := by decide +kernel
theorem dX11_pair_16 : decode cX11_pair 16 = .ok (.ldc 249, 2) := by decide +kernel
theorem dX11_pair_18 : decode cX11_pair 18 = .ok (.ireturn, 1) := by decide +kernel
theorem dX11_pair_19 : decode cX11_pair 19 = .ok (.iload_n 3, 1) := by decide +kernel
theorem dX11_pair_20 : decode cX11_pair 20 = .ok (.i2l, 1) := by decide +kernel
theorem dX11_pair_21 : decode cX11_pair 21 = .ok (.lconst 0, 1) := by decide +kernel
theorem dX11_pair_22 : decode cX11_pair 22 = .ok (.ldc2_w 134, 3) := by decide +kernel
theorem dX11_pair_25 : decode cX11_pair 25 = .ok (.invokestatic 53, 3) := by decide +kernel
theorem dX11_pair_28 : decode cX11_pair 28 = .ok (.ifCond .ne 6, 3) := by decide +kernel
theorem dX11_pair_31 : decode cX11_pair 31 = .ok (.ldc 85, 2) := by decide +kernel
theorem dX11_pair_33 : decode cX11_pair 33 = .ok (.ireturn, 1) := by decide +kernel
theorem dX11_pair_34 : decode cX11_pair 34 = .ok (.iload_n 3, 1) := by decide +kernel
theorem dX11_pair_35 : decode cX11_pair 35 = .ok (.iconst 2, 1) := by decide +kernel
theorem dX11_pair_36 : decode cX11_pair 36 = .ok (.if_icmp .ne 10, 3) := by decide +kernel
theorem dX11_pair_39 : decode cX11_pair 39 = .ok (.aload_n 0, 1) := by decide +kernel
theorem dX11_pair_40 : decode cX11_pair 40 = .ok (.iload_n 1, 1) := by decide +kernel
theorem dX11_pair_41 : decode cX11_pair 41 = .ok (.iload_n 2, 1) := by decide +kernel
theorem dX11_pair_42 : decode cX11_pair 42 = .ok (.invokevirtual 293, 3) := by decide +kernel
theorem dX11_pair_45 : decode cX11_pair 45 = .ok (.ireturn, 1) := by decide +kernel
theorem dX11_pair_46 : decode cX11_pair 46 = .ok (.iload_n 3, 1) := by decide +kernel
theorem dX11_pair_47 : decode cX11_pair 47 = .ok (.ifCond .ne 12, 3) := by decide +kernel
theorem dX11_pair_50 : decode cX11_pair 50 = .ok (.aload_n 0, 1) := by decide +kernel
theorem dX11_pair_51 : decode cX11_pair 51 = .ok (.iload_n 1, 1) := by decide +kernel
theorem dX11_pair_52 : decode cX11_pair 52 = .ok (.iload_n 2, 1) := by decide +kernel
theorem dX11_pair_53 : decode cX11_pair 53 = .ok (.invokevirtual 237, 3) := by decide +kernel
theorem dX11_pair_56 : decode cX11_pair 56 = .ok (.goto 9, 3) := by decide +kernel
theorem dX11_pair_59 : decode cX11_pair 59 = .ok (.aload_n 0, 1) := by decide +kernel
theorem dX11_pair_60 : decode cX11_pair 60 = .ok (.iload_n 1, 1) := by decide +kernel
theorem dX11_pair_61 : decode cX11_pair 61 = .ok (.iload_n 2, 1) := by decide +kernel
theorem dX11_pair_62 : decode cX11_pair 62 = .ok (.invokevirtual 296, 3) := by decide +kernel
theorem dX11_pair_65 : decode cX11_pair 65 = .ok (.istore 4, 2) := by decide +kernel
theorem dX11_pair_67 : decode cX11_pair 67 = .ok (.iload 4, 2) := by decide +kernel
theorem dX11_pair_69 : decode cX11_pair 69 = .ok (.ifCond .eq 7, 3) := by decide +kernel
theorem dX11_pair_72 : decode cX11_pair 72 = .ok (.iconst 1, 1) := by decide +kernel
theorem dX11_pair_73 : decode cX11_pair 73 = .ok (.goto 4, 3) := by decide +kernel
theorem dX11_pair_76 : decode cX11_pair 76 = .ok (.iconst 0, 1) := by decide +kernel
theorem dX11_pair_77 : decode cX11_pair 77 = .ok (.ireturn, 1) := by decide +kernel
theorem dX11_note_0 : decode cX11_note 0 = .ok (.aload_n 0, 1) := by decide +kernel
theorem dX11_note_1 : decode cX11_note 1 = .ok (.iload_n 1, 1) := by decide +kernel
theorem dX11_note_2 : decode cX11_note 2 = .ok (.invokevirtual 234, 3) := by decide +kernel
theorem dX11_note_5 : decode cX11_note 5 = .ok (.ifCond .eq 11, 3) := by decide +kernel
theorem dX11_note_8 : decode cX11_note 8 = .ok (.aload_n 0, 1) := by decide +kernel
theorem dX11_note_9 : decode cX11_note 9 = .ok (.iload_n 2, 1) := by decide +kernel
theorem dX11_note_10 : decode cX11_note 10 = .ok (.invokevirtual 234, 3) := by decide +kernel
theorem dX11_note_13 : decode cX11_note 13 = .ok (.ifCond .ne 6, 3) := by decide +kernel
theorem dX11_note_16 : decode cX11_note 16 = .ok (.ldc 249, 2) := by decide +kernel
theorem dX11_note_18 : decode cX11_note 18 = .ok (.ireturn, 1) := by decide +kernel
theorem dX11_note_19 : decode cX11_note 19 = .ok (.aload_n 0, 1) := by decide +kernel
theorem dX11_note_20 : decode cX11_note 20 = .ok (.getfield 231, 3) := by decide +kernel
theorem dX11_note_23 : decode cX11_note 23 = .ok (.bipush 20, 2) := by decide +kernel
theorem dX11_note_25 : decode cX11_note 25 = .ok (.if_icmp .ne 6, 3) := by decide +kernel
theorem dX11_note_28 : decode cX11_note 28 = .ok (.ldc 89, 2) := by decide +kernel
theorem dX11_note_30 : decode cX11_note 30 = .ok (.ireturn, 1) := by decide +kernel
theorem dX11_note_31 : decode cX11_note 31 = .ok (.aload_n 0, 1) := by decide +kernel
theorem dX11_note_32 : decode cX11_note 32 = .ok (.getfield 30, 3) := by decide +kernel
theorem dX11_note_35 : decode cX11_note 35 = .ok (.iconst 3, 1) := by decide +kernel
theorem dX11_note_36 : decode cX11_note 36 = .ok (.aload_n 0, 1) := by decide +kernel
theorem dX11_note_37 : decode cX11_note 37 = .ok (.getfield 231, 3) := by decide +kernel
theorem dX11_note_40 : decode cX11_note 40 = .ok (.imul, 1) := by decide +kernel
theorem dX11_note_41 : decode cX11_note 41 = .ok (.iload_n 1, 1) := by decide +kernel
theorem dX11_note_42 : decode cX11_note 42 = .ok (.iastore, 1) := by decide +kernel
theorem dX11_note_43 : decode cX11_note 43 = .ok (.aload_n 0, 1) := by decide +kernel
theorem dX11_note_44 : decode cX11_note 44 = .ok (.getfield 30, 3) := by decide +kernel
theorem dX11_note_47 : decode cX11_note 47 = .ok (.iconst 3, 1) := by decide +kernel
theorem dX11_note_48 : decode cX11_note 48 = .ok (.aload_n 0, 1) := by decide +kernel
theorem dX11_note_49 : decode cX11_note 49 = .ok (.getfield 231, 3) := by decide +kernel
theorem dX11_note_52 : decode cX11_note 52 = .ok (.imul, 1) := by decide +kernel
theorem dX11_note_53 : decode cX11_note 53 = .ok (.iconst 1, 1) := by decide +kernel
theorem dX11_note_54 : decode cX11_note 54 = .ok (.iadd, 1) := by decide +kernel
theorem dX11_note_55 : decode cX11_note 55 = .ok (.iload_n 2, 1) := by decide +kernel
theorem dX11_note_56 : decode cX11_note 56 = .ok (.iastore, 1) := by decide +kernel
theorem dX11_note_57 : decode cX11_note 57 = .ok (.aload_n 0, 1) := by decide +kernel
theorem dX11_note_58 : decode cX11_note 58 = .ok (.getfield 30, 3) := by decide +kernel
theorem dX11_note_61 : decode cX11_note 61 = .ok (.iconst 3, 1) := by decide +kernel
theorem dX11_note_62 : decode cX11_note 62 = .ok (.aload_n 0, 1) := by decide +kernel
theorem dX11_note_63 : decode cX11_note 63 = .ok (.getfield 231, 3) := by decide +kernel
theorem dX11_note_66 : decode cX11_note 66 = .ok (.imul, 1) := by decide +kernel
theorem dX11_note_67 : decode cX11_note 67 = .ok (.iconst 2, 1) := by decide +kernel
theorem dX11_note_68 : decode cX11_note 68 = .ok (.iadd, 1) := by decide +kernel
theorem dX11_note_69 : decode cX11_note 69 = .ok (.iload_n 3, 1) := by decide +kernel
theorem dX11_note_70 : decode cX11_note 70 = .ok (.ifCond .eq 7, 3) := by decide +kernel
theorem dX11_note_73 : decode cX11_note 73 = .ok (.iconst 1, 1) := by decide +kernel
theorem dX11_note_74 : decode cX11_note 74 = .ok (.goto 4, 3) := by decide +kernel
theorem dX11_note_77 : decode cX11_note 77 = .ok (.iconst 0, 1) := by decide +kernel
theorem dX11_note_78 : decode cX11_note 78 = .ok (.iastore, 1) := by decide +kernel
theorem dX11_note_79 : decode cX11_note 79 = .ok (.aload_n 0, 1) := by decide +kernel
theorem dX11_note_80 : decode cX11_note 80 = .ok (.dup, 1) := by decide +kernel
theorem dX11_note_81 : decode cX11_note 81 = .ok (.getfield 231, 3) := by decide +kernel
theorem dX11_note_84 : decode cX11_note 84 = .ok (.iconst 1, 1) := by decide +kernel
theorem dX11_note_85 : decode cX11_note 85 = .ok (.iadd, 1) := by decide +kernel
theorem dX11_note_86 : decode cX11_note 86 = .ok (.putfield 231, 3) := by decide +kernel
theorem dX11_note_89 : decode cX11_note 89 = .ok (.aload_n 0, 1) := by decide +kernel
theorem dX11_note_90 : decode cX11_note 90 = .ok (.getfield 231, 3) := by decide +kernel
theorem dX11_note_93 : decode cX11_note 93 = .ok (.ireturn, 1) := by decide +kernel
theorem dX11_tear_0 : decode cX11_tear 0 = .ok (.aload_n 0, 1) := by decide +kernel
theorem dX11_tear_1 : decode cX11_tear 1 = .ok (.getfield 231, 3) := by decide +kernel
theorem dX11_tear_4 : decode cX11_tear 4 = .ok (.istore_n 1, 1) := by decide +kernel
theorem dX11_tear_5 : decode cX11_tear 5 = .ok (.aload_n 0, 1) := by decide +kernel
theorem dX11_tear_6 : decode cX11_tear 6 = .ok (.iconst 0, 1) := by decide +kernel
theorem dX11_tear_7 : decode cX11_tear 7 = .ok (.putfield 231, 3) := by decide +kernel
theorem dX11_tear_10 : decode cX11_tear 10 = .ok (.iload_n 1, 1) := by decide +kernel
theorem dX11_tear_11 : decode cX11_tear 11 = .ok (.ireturn, 1) := by decide +kernel
theorem dX11_seed_0 : decode cX11_seed 0 = .ok (.iload_n 1, 1) := by decide +kernel
theorem dX11_seed_1 : decode cX11_seed 1 = .ok (.ifCond .ge 6, 3) := by decide +kernel
theorem dX11_seed_4 : decode cX11_seed 4 = .ok (.ldc 85, 2) := by decide +kernel
theorem dX11_seed_6 : decode cX11_seed 6 = .ok (.ireturn, 1) := by decide +kernel
theorem dX11_seed_7 : decode cX11_seed 7 = .ok (.aload_n 0, 1) := by decide +kernel
theorem dX11_seed_8 : decode cX11_seed 8 = .ok (.getfield 275, 3) := by decide +kernel
theorem dX11_seed_11 : decode cX11_seed 11 = .ok (.istore_n 2, 1) := by decide +kernel
theorem dX11_seed_12 : decode cX11_seed 12 = .ok (.aload_n 0, 1) := by decide +kernel
theorem dX11_seed_13 : decode cX11_seed 13 = .ok (.iload_n 1, 1) := by decide +kernel
theorem dX11_seed_14 : decode cX11_seed 14 = .ok (.putfield 275, 3) := by decide +kernel
theorem dX11_seed_17 : decode cX11_seed 17 = .ok (.iload_n 2, 1) := by decide +kernel
theorem dX11_seed_18 : decode cX11_seed 18 = .ok (.ireturn, 1) := by decide +kernel
theorem dX11_keep_0 : decode cX11_keep 0 = .ok (.iload_n 1, 1) := by decide +kernel
theorem dX11_keep_1 : decode cX11_keep 1 = .ok (.i2l, 1) := by decide +kernel
theorem dX11_keep_2 : decode cX11_keep 2 = .ok (.lconst 0, 1) := by decide +kernel
theorem dX11_keep_3 : decode cX11_keep 3 = .ok (.lconst 1, 1) := by decide +kernel
theorem dX11_keep_4 : decode cX11_keep 4 = .ok (.invokestatic 53, 3) := by decide +kernel
theorem dX11_keep_7 : decode cX11_keep 7 = .ok (.ifCond .ne 6, 3) := by decide +kernel
theorem dX11_keep_10 : decode cX11_keep 10 = .ok (.ldc 249, 2) := by decide +kernel
theorem dX11_keep_12 : decode cX11_keep 12 = .ok (.ireturn, 1) := by decide +kernel
theorem dX11_keep_13 : decode cX11_keep 13 = .ok (.iconst 0, 1) := by decide +kernel
theorem dX11_keep_14 : decode cX11_keep 14 = .ok (.istore_n 2, 1) := by decide +kernel
theorem dX11_keep_15 : decode cX11_keep 15 = .ok (.iload_n 2, 1) := by decide +kernel
theorem dX11_keep_16 : decode cX11_keep 16 = .ok (.bipush 49, 2) := by decide +kernel
theorem dX11_keep_18 : decode cX11_keep 18 = .ok (.if_icmp .ge 26, 3) := by decide +kernel
theorem dX11_keep_21 : decode cX11_keep 21 = .ok (.aload_n 0, 1) := by decide +kernel
theorem dX11_keep_22 : decode cX11_keep 22 = .ok (.getfield 16, 3) := by decide +kernel
theorem dX11_keep_25 : decode cX11_keep 25 = .ok (.bipush 50, 2) := by decide +kernel
theorem dX11_keep_27 : decode cX11_keep 27 = .ok (.iload_n 1, 1) := by decide +kernel
theorem dX11_keep_28 : decode cX11_keep 28 = .ok (.imul, 1) := by decide +kernel
theorem dX11_keep_29 : decode cX11_keep 29 = .ok (.iload_n 2, 1) := by decide +kernel
theorem dX11_keep_30 : decode cX11_keep 30 = .ok (.iadd, 1) := by decide +kernel
theorem dX11_keep_31 : decode cX11_keep 31 = .ok (.aload_n 0, 1) := by decide +kernel
theorem dX11_keep_32 : decode cX11_keep 32 = .ok (.getfield 7, 3) := by decide +kernel
theorem dX11_keep_35 : decode cX11_keep 35 = .ok (.iload_n 2, 1) := by decide +kernel
theorem dX11_keep_36 : decode cX11_keep 36 = .ok (.iaload, 1) := by decide +kernel
theorem dX11_keep_37 : decode cX11_keep 37 = .ok (.iastore, 1) := by decide +kernel
theorem dX11_keep_38 : decode cX11_keep 38 = .ok (.iinc 2 1, 3) := by decide +kernel
theorem dX11_keep_41 : decode cX11_keep 41 = .ok (.goto (-26), 3) := by decide +kernel
theorem dX11_keep_44 : decode cX11_keep 44 = .ok (.aload_n 0, 1) := by decide +kernel
theorem dX11_keep_45 : decode cX11_keep 45 = .ok (.getfield 16, 3) := by decide +kernel
theorem dX11_keep_48 : decode cX11_keep 48 = .ok (.bipush 50, 2) := by decide +kernel
theorem dX11_keep_50 : decode cX11_keep 50 = .ok (.iload_n 1, 1) := by decide +kernel
theorem dX11_keep_51 : decode cX11_keep 51 = .ok (.imul, 1) := by decide +kernel
theorem dX11_keep_52 : decode cX11_keep 52 = .ok (.bipush 49, 2) := by decide +kernel
theorem dX11_keep_54 : decode cX11_keep 54 = .ok (.iadd, 1) := by decide +kernel
theorem dX11_keep_55 : decode cX11_keep 55 = .ok (.aload_n 0, 1) := by decide +kernel
theorem dX11_keep_56 : decode cX11_keep 56 = .ok (.getfield 275, 3) := by decide +kernel
theorem dX11_keep_59 : decode cX11_keep 59 = .ok (.iastore, 1) := by decide +kernel
theorem dX11_keep_60 : decode cX11_keep 60 = .ok (.aload_n 0, 1) := by decide +kernel
theorem dX11_keep_61 : decode cX11_keep 61 = .ok (.getfield 19, 3) := by decide +kernel
theorem dX11_keep_64 : decode cX11_keep 64 = .ok (.iload_n 1, 1) := by decide +kernel
theorem dX11_keep_65 : decode cX11_keep 65 = .ok (.iconst 1, 1) := by decide +kernel
theorem dX11_keep_66 : decode cX11_keep 66 = .ok (.bastore, 1) := by decide +kernel
theorem dX11_keep_67 : decode cX11_keep 67 = .ok (.aload_n 0, 1) := by decide +kernel
theorem dX11_keep_68 : decode cX11_keep 68 = .ok (.iconst 0, 1) := by decide +kernel
theorem dX11_keep_69 : decode cX11_keep 69 = .ok (.putfield 90, 3) := by decide +kernel
theorem dX11_keep_72 : decode cX11_keep 72 = .ok (.iconst 1, 1) := by decide +kernel
theorem dX11_keep_73 : decode cX11_keep 73 = .ok (.ireturn, 1) := by decide +kernel
theorem dX11_goBack_0 : decode cX11_goBack 0 = .ok (.iload_n 1, 1) := by decide +kernel
theorem dX11_goBack_1 : decode cX11_goBack 1 = .ok (.i2l, 1) := by decide +kernel
theorem dX11_goBack_2 : decode cX11_goBack 2 = .ok (.lconst 0, 1) := by decide +kernel
theorem dX11_goBack_3 : decode cX11_goBack 3 = .ok (.lconst 1, 1) := by decide +kernel
theorem dX11_goBack_4 : decode cX11_goBack 4 = .ok (.invokestatic 53, 3) := by decide +kernel
theorem dX11_goBack_7 : decode cX11_goBack 7 = .ok (.ifCond .ne 6, 3) := by decide +kernel
theorem dX11_goBack_10 : decode cX11_goBack 10 = .ok (.ldc 249, 2) := by decide +kernel
theorem dX11_goBack_12 : decode cX11_goBack 12 = .ok (.ireturn, 1) := by decide +kernel
theorem dX11_goBack_13 : decode cX11_goBack 13 = .ok (.aload_n 0, 1) := by decide +kernel
theorem dX11_goBack_14 : decode cX11_goBack 14 = .ok (.getfield 19, 3) := by decide +kernel
theorem dX11_goBack_17 : decode cX11_goBack 17 = .ok (.iload_n 1, 1) := by decide +kernel
theorem dX11_goBack_18 : decode cX11_goBack 18 = .ok (.baload, 1) := by decide +kernel
theorem dX11_goBack_19 : decode cX11_goBack 19 = .ok (.ifCond .ne 6, 3) := by decide +kernel
theorem dX11_goBack_22 : decode cX11_goBack 22 = .ok (.ldc 115, 2) := by decide +kernel
theorem dX11_goBack_24 : decode cX11_goBack 24 = .ok (.ireturn, 1) := by decide +kernel
theorem dX11_goBack_25 : decode cX11_goBack 25 = .ok (.iconst 0, 1) := by decide +kernel
theorem dX11_goBack_26 : decode cX11_goBack 26 = .ok (.istore_n 2, 1) := by decide +kernel
theorem dX11_goBack_27 : decode cX11_goBack 27 = .ok (.iload_n 2, 1) := by decide +kernel
theorem dX11_goBack_28 : decode cX11_goBack 28 = .ok (.bipush 49, 2) := by decide +kernel
theorem dX11_goBack_30 : decode cX11_goBack 30 = .ok (.if_icmp .ge 26, 3) := by decide +kernel
theorem dX11_goBack_33 : decode cX11_goBack 33 = .ok (.aload_n 0, 1) := by decide +kernel
theorem dX11_goBack_34 : decode cX11_goBack 34 = .ok (.getfield 7, 3) := by decide +kernel
theorem dX11_goBack_37 : decode cX11_goBack 37 = .ok (.iload_n 2, 1) := by decide +kernel
theorem dX11_goBack_38 : decode cX11_goBack 38 = .ok (.aload_n 0, 1) := by decide +kernel
theorem dX11_goBack_39 : decode cX11_goBack 39 = .ok (.getfield 16, 3) := by decide +kernel
theorem dX11_goBack_42 : decode cX11_goBack 42 = .ok (.bipush 50, 2) := by decide +kernel
theorem dX11_goBack_44 : decode cX11_goBack 44 = .ok (.iload_n 1, 1) := by decide +kernel
theorem dX11_goBack_45 : decode cX11_goBack 45 = .ok (.imul, 1) := by decide +kernel
theorem dX11_goBack_46 : decode cX11_goBack 46 = .ok (.iload_n 2, 1) := by decide +kernel
theorem dX11_goBack_47 : decode cX11_goBack 47 = .ok (.iadd, 1) := by decide +kernel
theorem dX11_goBack_48 : decode cX11_goBack 48 = .ok (.iaload, 1) := by decide +kernel
theorem dX11_goBack_49 : decode cX11_goBack 49 = .ok (.iastore, 1) := by decide +kernel
theorem dX11_goBack_50 : decode cX11_goBack 50 = .ok (.iinc 2 1, 3) := by decide +kernel
theorem dX11_goBack_53 : decode cX11_goBack 53 = .ok (.goto (-26), 3) := by decide +kernel
theorem dX11_goBack_56 : decode cX11_goBack 56 = .ok (.aload_n 0, 1) := by decide +kernel
theorem dX11_goBack_57 : decode cX11_goBack 57 = .ok (.aload_n 0, 1) := by decide +kernel
theorem dX11_goBack_58 : decode cX11_goBack 58 = .ok (.getfield 16, 3) := by decide +kernel
theorem dX11_goBack_61 : decode cX11_goBack 61 = .ok (.bipush 50, 2) := by decide +kernel
theorem dX11_goBack_63 : decode cX11_goBack 63 = .ok (.iload_n 1, 1) := by decide +kernel
theorem dX11_goBack_64 : decode cX11_goBack 64 = .ok (.imul, 1) := by decide +kernel
theorem dX11_goBack_65 : decode cX11_goBack 65 = .ok (.bipush 49, 2) := by decide +kernel
theorem dX11_goBack_67 : decode cX11_goBack 67 = .ok (.iadd, 1) := by decide +kernel
theorem dX11_goBack_68 : decode cX11_goBack 68 = .ok (.iaload, 1) := by decide +kernel
theorem dX11_goBack_69 : decode cX11_goBack 69 = .ok (.putfield 275, 3) := by decide +kernel
theorem dX11_goBack_72 : decode cX11_goBack 72 = .ok (.aload_n 0, 1) := by decide +kernel
theorem dX11_goBack_73 : decode cX11_goBack 73 = .ok (.iconst 0, 1) := by decide +kernel
theorem dX11_goBack_74 : decode cX11_goBack 74 = .ok (.putfield 90, 3) := by decide +kernel
theorem dX11_goBack_77 : decode cX11_goBack 77 = .ok (.iconst 1, 1) := by decide +kernel
theorem dX11_goBack_78 : decode cX11_goBack 78 = .ok (.ireturn, 1) := by decide +kernel
theorem dJ6_numberOfTrailingZeros_0f7a4_0 : decode cJ6_numberOfTrailingZeros_0f7a4 0 = .ok (.iload_n 0, 1) := by decide +kernel
theorem dJ6_numberOfTrailingZeros_0f7a4_1 : decode cJ6_numberOfTrailingZeros_0f7a4 1 = .ok (.iconst (-1), 1) := by decide +kernel
theorem dJ6_numberOfTrailingZeros_0f7a4_2 : decode cJ6_numberOfTrailingZeros_0f7a4 2 = .ok (.ixor, 1) := by decide +kernel
theorem dJ6_numberOfTrailingZeros_0f7a4_3 : decode cJ6_numberOfTrailingZeros_0f7a4 3 = .ok (.iload_n 0, 1) := by decide +kernel
theorem dJ6_numberOfTrailingZeros_0f7a4_4 : decode cJ6_numberOfTrailingZeros_0f7a4 4 = .ok (.iconst 1, 1) := by decide +kernel
theorem dJ6_numberOfTrailingZeros_0f7a4_5 : decode cJ6_numberOfTrailingZeros_0f7a4 5 = .ok (.isub, 1) := by decide +kernel
theorem dJ6_numberOfTrailingZeros_0f7a4_6 : decode cJ6_numberOfTrailingZeros_0f7a4 6 = .ok (.iand, 1) := by decide +kernel
theorem dJ6_numberOfTrailingZeros_0f7a4_7 : decode cJ6_numberOfTrailingZeros_0f7a4 7 = .ok (.istore_n 0, 1) := by decide +kernel
theorem dJ6_numberOfTrailingZeros_0f7a4_8 : decode cJ6_numberOfTrailingZeros_0f7a4 8 = .ok (.iload_n 0, 1) := by decide +kernel
theorem dJ6_numberOfTrailingZeros_0f7a4_9 : decode cJ6_numberOfTrailingZeros_0f7a4 9 = .ok (.ifCond .gt 8, 3) := by decide +kernel
theorem dJ6_numberOfTrailingZeros_0f7a4_12 : decode cJ6_numberOfTrailingZeros_0f7a4 12 = .ok (.iload_n 0, 1) := by decide +kernel
theorem dJ6_numberOfTrailingZeros_0f7a4_13 : decode cJ6_numberOfTrailingZeros_0f7a4 13 = .ok (.bipush 32, 2) := by decide +kernel
theorem dJ6_numberOfTrailingZeros_0f7a4_15 : decode cJ6_numberOfTrailingZeros_0f7a4 15 = .ok (.iand, 1) := by decide +kernel
theorem dJ6_numberOfTrailingZeros_0f7a4_16 : decode cJ6_numberOfTrailingZeros_0f7a4 16 = .ok (.ireturn, 1) := by decide +kernel
theorem dJ6_numberOfTrailingZeros_0f7a4_17 : decode cJ6_numberOfTrailingZeros_0f7a4 17 = .ok (.iconst 1, 1) := by decide +kernel
theorem dJ6_numberOfTrailingZeros_0f7a4_18 : decode cJ6_numberOfTrailingZeros_0f7a4 18 = .ok (.istore_n 1, 1) := by decide +kernel
theorem dJ6_numberOfTrailingZeros_0f7a4_19 : decode cJ6_numberOfTrailingZeros_0f7a4 19 = .ok (.iload_n 0, 1) := by decide +kernel
theorem dJ6_numberOfTrailingZeros_0f7a4_20 : decode cJ6_numberOfTrailingZeros_0f7a4 20 = .ok (.ldc_w 264, 3) := by decide +kernel
theorem dJ6_numberOfTrailingZeros_0f7a4_23 : decode cJ6_numberOfTrailingZeros_0f7a4 23 = .ok (.if_icmp .le 11, 3) := by decide +kernel
theorem dJ6_numberOfTrailingZeros_0f7a4_26 : decode cJ6_numberOfTrailingZeros_0f7a4 26 = .ok (.iinc 1 16, 3) := by decide +kernel
theorem dJ6_numberOfTrailingZeros_0f7a4_29 : decode cJ6_numberOfTrailingZeros_0f7a4 29 = .ok (.iload_n 0, 1) := by decide +kernel
theorem dJ6_numberOfTrailingZeros_0f7a4_30 : decode cJ6_numberOfTrailingZeros_0f7a4 30 = .ok (.bipush 16, 2) := by decide +kernel
theorem dJ6_numberOfTrailingZeros_0f7a4_32 : decode cJ6_numberOfTrailingZeros_0f7a4 32 = .ok (.iushr, 1) := by decide +kernel
theorem dJ6_numberOfTrailingZeros_0f7a4_33 : decode cJ6_numberOfTrailingZeros_0f7a4 33 = .ok (.istore_n 0, 1) := by decide +kernel
theorem dJ6_numberOfTrailingZeros_0f7a4_34 : decode cJ6_numberOfTrailingZeros_0f7a4 34 = .ok (.iload_n 0, 1) := by decide +kernel
theorem dJ6_numberOfTrailingZeros_0f7a4_35 : decode cJ6_numberOfTrailingZeros_0f7a4 35 = .ok (.sipush 256, 3) := by decide +kernel
theorem dJ6_numberOfTrailingZeros_0f7a4_38 : decode cJ6_numberOfTrailingZeros_0f7a4 38 = .ok (.if_icmp .le 11, 3) := by decide +kernel
theorem dJ6_numberOfTrailingZeros_0f7a4_41 : decode cJ6_numberOfTrailingZeros_0f7a4 41 = .ok (.iinc 1 8, 3) := by decide +kernel
theorem dJ6_numberOfTrailingZeros_0f7a4_44 : decode cJ6_numberOfTrailingZeros_0f7a4 44 = .ok (.iload_n 0, 1) := by decide +kernel
theorem dJ6_numberOfTrailingZeros_0f7a4_45 : decode cJ6_numberOfTrailingZeros_0f7a4 45 = .ok (.bipush 8, 2) := by decide +kernel
theorem dJ6_numberOfTrailingZeros_0f7a4_47 : decode cJ6_numberOfTrailingZeros_0f7a4 47 = .ok (.iushr, 1) := by decide +kernel
theorem dJ6_numberOfTrailingZeros_0f7a4_48 : decode cJ6_numberOfTrailingZeros_0f7a4 48 = .ok (.istore_n 0, 1) := by decide +kernel
theorem dJ6_numberOfTrailingZeros_0f7a4_49 : decode cJ6_numberOfTrailingZeros_0f7a4 49 = .ok (.iload_n 0, 1) := by decide +kernel
theorem dJ6_numberOfTrailingZeros_0f7a4_50 : decode cJ6_numberOfTrailingZeros_0f7a4 50 = .ok (.bipush 16, 2) := by decide +kernel
theorem dJ6_numberOfTrailingZeros_0f7a4_52 : decode cJ6_numberOfTrailingZeros_0f7a4 52 = .ok (.if_icmp .le 10, 3) := by decide +kernel
theorem dJ6_numberOfTrailingZeros_0f7a4_55 : decode cJ6_numberOfTrailingZeros_0f7a4 55 = .ok (.iinc 1 4, 3) := by decide +kernel
theorem dJ6_numberOfTrailingZeros_0f7a4_58 : decode cJ6_numberOfTrailingZeros_0f7a4 58 = .ok (.iload_n 0, 1) := by decide +kernel
theorem dJ6_numberOfTrailingZeros_0f7a4_59 : decode cJ6_numberOfTrailingZeros_0f7a4 59 = .ok (.iconst 4, 1) := by decide +kernel
theorem dJ6_numberOfTrailingZeros_0f7a4_60 : decode cJ6_numberOfTrailingZeros_0f7a4 60 = .ok (.iushr, 1) := by decide +kernel
theorem dJ6_numberOfTrailingZeros_0f7a4_61 : decode cJ6_numberOfTrailingZeros_0f7a4 61 = .ok (.istore_n 0, 1) := by decide +kernel
theorem dJ6_numberOfTrailingZeros_0f7a4_62 : decode cJ6_numberOfTrailingZeros_0f7a4 62 = .ok (.iload_n 0, 1) := by decide +kernel
theorem dJ6_numberOfTrailingZeros_0f7a4_63 : decode cJ6_numberOfTrailingZeros_0f7a4 63 = .ok (.iconst 4, 1) := by decide +kernel
theorem dJ6_numberOfTrailingZeros_0f7a4_64 : decode cJ6_numberOfTrailingZeros_0f7a4 64 = .ok (.if_icmp .le 10, 3) := by decide +kernel
theorem dJ6_numberOfTrailingZeros_0f7a4_67 : decode cJ6_numberOfTrailingZeros_0f7a4 67 = .ok (.iinc 1 2, 3) := by decide +kernel
theorem dJ6_numberOfTrailingZeros_0f7a4_70 : decode cJ6_numberOfTrailingZeros_0f7a4 70 = .ok (.iload_n 0, 1) := by decide +kernel
theorem dJ6_numberOfTrailingZeros_0f7a4_71 : decode cJ6_numberOfTrailingZeros_0f7a4 71 = .ok (.iconst 2, 1) := by decide +kernel
theorem dJ6_numberOfTrailingZeros_0f7a4_72 : decode cJ6_numberOfTrailingZeros_0f7a4 72 = .ok (.iushr, 1) := by decide +kernel
theorem dJ6_numberOfTrailingZeros_0f7a4_73 : decode cJ6_numberOfTrailingZeros_0f7a4 73 = .ok (.istore_n 0, 1) := by decide +kernel
theorem dJ6_numberOfTrailingZeros_0f7a4_74 : decode cJ6_numberOfTrailingZeros_0f7a4 74 = .ok (.iload_n 1, 1) := by decide +kernel
theorem dJ6_numberOfTrailingZeros_0f7a4_75 : decode cJ6_numberOfTrailingZeros_0f7a4 75 = .ok (.iload_n 0, 1) := by decide +kernel
theorem dJ6_numberOfTrailingZeros_0f7a4_76 : decode cJ6_numberOfTrailingZeros_0f7a4 76 = .ok (.iconst 1, 1) := by decide +kernel
theorem dJ6_numberOfTrailingZeros_0f7a4_77 : decode cJ6_numberOfTrailingZeros_0f7a4 77 = .ok (.iushr, 1) := by decide +kernel
theorem dJ6_numberOfTrailingZeros_0f7a4_78 : decode cJ6_numberOfTrailingZeros_0f7a4 78 = .ok (.iadd, 1) := by decide +kernel
theorem dJ6_numberOfTrailingZeros_0f7a4_79 : decode cJ6_numberOfTrailingZeros_0f7a4 79 = .ok (.ireturn, 1) := by decide +kernel
theorem dJ6_bitCount_0f7a4_0 : decode cJ6_bitCount_0f7a4 0 = .ok (.iload_n 0, 1) := by decide +kernel
theorem dJ6_bitCount_0f7a4_1 : decode cJ6_bitCount_0f7a4 1 = .ok (.iload_n 0, 1) := by decide +kernel
theorem dJ6_bitCount_0f7a4_2 : decode cJ6_bitCount_0f7a4 2 = .ok (.iconst 1, 1) := by decide +kernel
theorem dJ6_bitCount_0f7a4_3 : decode cJ6_bitCount_0f7a4 3 = .ok (.iushr, 1) := by decide +kernel
theorem dJ6_bitCount_0f7a4_4 : decode cJ6_bitCount_0f7a4 4 = .ok (.ldc_w 265, 3) := by decide +kernel
theorem dJ6_bitCount_0f7a4_7 : decode cJ6_bitCount_0f7a4 7 = .ok (.iand, 1) := by decide +kernel
theorem dJ6_bitCount_0f7a4_8 : decode cJ6_bitCount_0f7a4 8 = .ok (.isub, 1) := by decide +kernel
theorem dJ6_bitCount_0f7a4_9 : decode cJ6_bitCount_0f7a4 9 = .ok (.istore_n 0, 1) := by decide +kernel
theorem dJ6_bitCount_0f7a4_10 : decode cJ6_bitCount_0f7a4 10 = .ok (.iload_n 0, 1) := by decide +kernel
theorem dJ6_bitCount_0f7a4_11 : decode cJ6_bitCount_0f7a4 11 = .ok (.ldc_w 266, 3) := by decide +kernel
theorem dJ6_bitCount_0f7a4_14 : decode cJ6_bitCount_0f7a4 14 = .ok (.iand, 1) := by decide +kernel
end
section
theorem dJ6_bitCount_0f7a4_15 : decode cJ6_bitCount_0f7a4 15 = .ok (.iload_n 0, 1) := by decide +kernel
theorem dJ6_bitCount_0f7a4_16 : decode cJ6_bitCount_0f7a4 16 = .ok (.iconst 2, 1) := by decide +kernel
theorem dJ6_bitCount_0f7a4_17 : decode cJ6_bitCount_0f7a4 17 = .ok (.iushr, 1) := by decide +kernel
theorem dJ6_bitCount_0f7a4_18 : decode cJ6_bitCount_0f7a4 18 = .ok (.ldc_w 266, 3) := by decide +kernel
theorem dJ6_bitCount_0f7a4_21 : decode cJ6_bitCount_0f7a4 21 = .ok (.iand, 1) := by decide +kernel
theorem dJ6_bitCount_0f7a4_22 : decode cJ6_bitCount_0f7a4 22 = .ok (.iadd, 1) := by decide +kernel
theorem dJ6_bitCount_0f7a4_23 : decode cJ6_bitCount_0f7a4 23 = .ok (.istore_n 0, 1) := by decide +kernel
theorem dJ6_bitCount_0f7a4_24 : decode cJ6_bitCount_0f7a4 24 = .ok (.iload_n 0, 1) := by decide +kernel
theorem dJ6_bitCount_0f7a4_25 : decode cJ6_bitCount_0f7a4 25 = .ok (.iload_n 0, 1) := by decide +kernel
theorem dJ6_bitCount_0f7a4_26 : decode cJ6_bitCount_0f7a4 26 = .ok (.iconst 4, 1) := by decide +kernel
theorem dJ6_bitCount_0f7a4_27 : decode cJ6_bitCount_0f7a4 27 = .ok (.iushr, 1) := by decide +kernel
theorem dJ6_bitCount_0f7a4_28 : decode cJ6_bitCount_0f7a4 28 = .ok (.iadd, 1) := by decide +kernel
theorem dJ6_bitCount_0f7a4_29 : decode cJ6_bitCount_0f7a4 29 = .ok (.ldc_w 267, 3) := by decide +kernel
theorem dJ6_bitCount_0f7a4_32 : decode cJ6_bitCount_0f7a4 32 = .ok (.iand, 1) := by decide +kernel
theorem dJ6_bitCount_0f7a4_33 : decode cJ6_bitCount_0f7a4 33 = .ok (.istore_n 0, 1) := by decide +kernel
theorem dJ6_bitCount_0f7a4_34 : decode cJ6_bitCount_0f7a4 34 = .ok (.iload_n 0, 1) := by decide +kernel
theorem dJ6_bitCount_0f7a4_35 : decode cJ6_bitCount_0f7a4 35 = .ok (.iload_n 0, 1) := by decide +kernel
theorem dJ6_bitCount_0f7a4_36 : decode cJ6_bitCount_0f7a4 36 = .ok (.bipush 8, 2) := by decide +kernel
theorem dJ6_bitCount_0f7a4_38 : decode cJ6_bitCount_0f7a4 38 = .ok (.iushr, 1) := by decide +kernel
theorem dJ6_bitCount_0f7a4_39 : decode cJ6_bitCount_0f7a4 39 = .ok (.iadd, 1) := by decide +kernel
theorem dJ6_bitCount_0f7a4_40 : decode cJ6_bitCount_0f7a4 40 = .ok (.istore_n 0, 1) := by decide +kernel
theorem dJ6_bitCount_0f7a4_41 : decode cJ6_bitCount_0f7a4 41 = .ok (.iload_n 0, 1) := by decide +kernel
theorem dJ6_bitCount_0f7a4_42 : decode cJ6_bitCount_0f7a4 42 = .ok (.iload_n 0, 1) := by decide +kernel
theorem dJ6_bitCount_0f7a4_43 : decode cJ6_bitCount_0f7a4 43 = .ok (.bipush 16, 2) := by decide +kernel
theorem dJ6_bitCount_0f7a4_45 : decode cJ6_bitCount_0f7a4 45 = .ok (.iushr, 1) := by decide +kernel
theorem dJ6_bitCount_0f7a4_46 : decode cJ6_bitCount_0f7a4 46 = .ok (.iadd, 1) := by decide +kernel
theorem dJ6_bitCount_0f7a4_47 : decode cJ6_bitCount_0f7a4 47 = .ok (.istore_n 0, 1) := by decide +kernel
theorem dJ6_bitCount_0f7a4_48 : decode cJ6_bitCount_0f7a4 48 = .ok (.iload_n 0, 1) := by decide +kernel
theorem dJ6_bitCount_0f7a4_49 : decode cJ6_bitCount_0f7a4 49 = .ok (.bipush 63, 2) := by decide +kernel
theorem dJ6_bitCount_0f7a4_51 : decode cJ6_bitCount_0f7a4 51 = .ok (.iand, 1) := by decide +kernel
theorem dJ6_bitCount_0f7a4_52 : decode cJ6_bitCount_0f7a4 52 = .ok (.ireturn, 1) := by decide +kernel
theorem dJ13_signum_95d88_0 : decode cJ13_signum_95d88 0 = .ok (.lload_n 0, 1) := by decide +kernel
theorem dJ13_signum_95d88_1 : decode cJ13_signum_95d88 1 = .ok (.bipush 63, 2) := by decide +kernel
theorem dJ13_signum_95d88_3 : decode cJ13_signum_95d88 3 = .ok (.lshr, 1) := by decide +kernel
theorem dJ13_signum_95d88_4 : decode cJ13_signum_95d88 4 = .ok (.lload_n 0, 1) := by decide +kernel
theorem dJ13_signum_95d88_5 : decode cJ13_signum_95d88 5 = .ok (.lneg, 1) := by decide +kernel
theorem dJ13_signum_95d88_6 : decode cJ13_signum_95d88 6 = .ok (.bipush 63, 2) := by decide +kernel
theorem dJ13_signum_95d88_8 : decode cJ13_signum_95d88 8 = .ok (.lushr, 1) := by decide +kernel
theorem dJ13_signum_95d88_9 : decode cJ13_signum_95d88 9 = .ok (.lor, 1) := by decide +kernel
theorem dJ13_signum_95d88_10 : decode cJ13_signum_95d88 10 = .ok (.l2i, 1) := by decide +kernel
theorem dJ13_signum_95d88_11 : decode cJ13_signum_95d88 11 = .ok (.ireturn, 1) := by decide +kernel
theorem dJ9_floorDiv_f86c9_0 : decode cJ9_floorDiv_f86c9 0 = .ok (.lload_n 0, 1) := by decide +kernel
theorem dJ9_floorDiv_f86c9_1 : decode cJ9_floorDiv_f86c9 1 = .ok (.lload_n 2, 1) := by decide +kernel
theorem dJ9_floorDiv_f86c9_2 : decode cJ9_floorDiv_f86c9 2 = .ok (.ldiv, 1) := by decide +kernel
theorem dJ9_floorDiv_f86c9_3 : decode cJ9_floorDiv_f86c9 3 = .ok (.lstore 4, 2) := by decide +kernel
theorem dJ9_floorDiv_f86c9_5 : decode cJ9_floorDiv_f86c9 5 = .ok (.lload_n 0, 1) := by decide +kernel
theorem dJ9_floorDiv_f86c9_6 : decode cJ9_floorDiv_f86c9 6 = .ok (.lload_n 2, 1) := by decide +kernel
theorem dJ9_floorDiv_f86c9_7 : decode cJ9_floorDiv_f86c9 7 = .ok (.lxor, 1) := by decide +kernel
theorem dJ9_floorDiv_f86c9_8 : decode cJ9_floorDiv_f86c9 8 = .ok (.lconst 0, 1) := by decide +kernel
theorem dJ9_floorDiv_f86c9_9 : decode cJ9_floorDiv_f86c9 9 = .ok (.lcmp, 1) := by decide +kernel
theorem dJ9_floorDiv_f86c9_10 : decode cJ9_floorDiv_f86c9 10 = .ok (.ifCond .ge 17, 3) := by decide +kernel
theorem dJ9_floorDiv_f86c9_13 : decode cJ9_floorDiv_f86c9 13 = .ok (.lload 4, 2) := by decide +kernel
theorem dJ9_floorDiv_f86c9_15 : decode cJ9_floorDiv_f86c9 15 = .ok (.lload_n 2, 1) := by decide +kernel
theorem dJ9_floorDiv_f86c9_16 : decode cJ9_floorDiv_f86c9 16 = .ok (.lmul, 1) := by decide +kernel
theorem dJ9_floorDiv_f86c9_17 : decode cJ9_floorDiv_f86c9 17 = .ok (.lload_n 0, 1) := by decide +kernel
theorem dJ9_floorDiv_f86c9_18 : decode cJ9_floorDiv_f86c9 18 = .ok (.lcmp, 1) := by decide +kernel
theorem dJ9_floorDiv_f86c9_19 : decode cJ9_floorDiv_f86c9 19 = .ok (.ifCond .eq 8, 3) := by decide +kernel
theorem dJ9_floorDiv_f86c9_22 : decode cJ9_floorDiv_f86c9 22 = .ok (.lload 4, 2) := by decide +kernel
theorem dJ9_floorDiv_f86c9_24 : decode cJ9_floorDiv_f86c9 24 = .ok (.lconst 1, 1) := by decide +kernel
theorem dJ9_floorDiv_f86c9_25 : decode cJ9_floorDiv_f86c9 25 = .ok (.lsub, 1) := by decide +kernel
theorem dJ9_floorDiv_f86c9_26 : decode cJ9_floorDiv_f86c9 26 = .ok (.lreturn, 1) := by decide +kernel
theorem dJ9_floorDiv_f86c9_27 : decode cJ9_floorDiv_f86c9 27 = .ok (.lload 4, 2) := by decide +kernel
theorem dJ9_floorDiv_f86c9_29 : decode cJ9_floorDiv_f86c9 29 = .ok (.lreturn, 1) := by decide +kernel
theorem dJ9_floorMod_7cf53_0 : decode cJ9_floorMod_7cf53 0 = .ok (.iload_n 0, 1) := by decide +kernel
theorem dJ9_floorMod_7cf53_1 : decode cJ9_floorMod_7cf53 1 = .ok (.iload_n 1, 1) := by decide +kernel
theorem dJ9_floorMod_7cf53_2 : decode cJ9_floorMod_7cf53 2 = .ok (.irem, 1) := by decide +kernel
theorem dJ9_floorMod_7cf53_3 : decode cJ9_floorMod_7cf53 3 = .ok (.istore_n 2, 1) := by decide +kernel
theorem dJ9_floorMod_7cf53_4 : decode cJ9_floorMod_7cf53 4 = .ok (.iload_n 0, 1) := by decide +kernel
theorem dJ9_floorMod_7cf53_5 : decode cJ9_floorMod_7cf53 5 = .ok (.iload_n 1, 1) := by decide +kernel
theorem dJ9_floorMod_7cf53_6 : decode cJ9_floorMod_7cf53 6 = .ok (.ixor, 1) := by decide +kernel
theorem dJ9_floorMod_7cf53_7 : decode cJ9_floorMod_7cf53 7 = .ok (.ifCond .ge 11, 3) := by decide +kernel
theorem dJ9_floorMod_7cf53_10 : decode cJ9_floorMod_7cf53 10 = .ok (.iload_n 2, 1) := by decide +kernel
theorem dJ9_floorMod_7cf53_11 : decode cJ9_floorMod_7cf53 11 = .ok (.ifCond .eq 7, 3) := by decide +kernel
theorem dJ9_floorMod_7cf53_14 : decode cJ9_floorMod_7cf53 14 = .ok (.iload_n 2, 1) := by decide +kernel
theorem dJ9_floorMod_7cf53_15 : decode cJ9_floorMod_7cf53 15 = .ok (.iload_n 1, 1) := by decide +kernel
theorem dJ9_floorMod_7cf53_16 : decode cJ9_floorMod_7cf53 16 = .ok (.iadd, 1) := by decide +kernel
theorem dJ9_floorMod_7cf53_17 : decode cJ9_floorMod_7cf53 17 = .ok (.ireturn, 1) := by decide +kernel
theorem dJ9_floorMod_7cf53_18 : decode cJ9_floorMod_7cf53 18 = .ok (.iload_n 2, 1) := by decide +kernel
theorem dJ9_floorMod_7cf53_19 : decode cJ9_floorMod_7cf53 19 = .ok (.ireturn, 1) := by decide +kernel
theorem dJ9_abs_067f4_0 : decode cJ9_abs_067f4 0 = .ok (.lload_n 0, 1) := by decide +kernel
theorem dJ9_abs_067f4_1 : decode cJ9_abs_067f4 1 = .ok (.lconst 0, 1) := by decide +kernel
theorem dJ9_abs_067f4_2 : decode cJ9_abs_067f4 2 = .ok (.lcmp, 1) := by decide +kernel
theorem dJ9_abs_067f4_3 : decode cJ9_abs_067f4 3 = .ok (.ifCond .ge 8, 3) := by decide +kernel
theorem dJ9_abs_067f4_6 : decode cJ9_abs_067f4 6 = .ok (.lload_n 0, 1) := by decide +kernel
theorem dJ9_abs_067f4_7 : decode cJ9_abs_067f4 7 = .ok (.lneg, 1) := by decide +kernel
theorem dJ9_abs_067f4_8 : decode cJ9_abs_067f4 8 = .ok (.goto 4, 3) := by decide +kernel
theorem dJ9_abs_067f4_11 : decode cJ9_abs_067f4 11 = .ok (.lload_n 0, 1) := by decide +kernel
theorem dJ9_abs_067f4_12 : decode cJ9_abs_067f4 12 = .ok (.lreturn, 1) := by decide +kernel
theorem dJ9_min_7cf53_0 : decode cJ9_min_7cf53 0 = .ok (.iload_n 0, 1) := by decide +kernel
theorem dJ9_min_7cf53_1 : decode cJ9_min_7cf53 1 = .ok (.iload_n 1, 1) := by decide +kernel
theorem dJ9_min_7cf53_2 : decode cJ9_min_7cf53 2 = .ok (.if_icmp .gt 7, 3) := by decide +kernel
theorem dJ9_min_7cf53_5 : decode cJ9_min_7cf53 5 = .ok (.iload_n 0, 1) := by decide +kernel
theorem dJ9_min_7cf53_6 : decode cJ9_min_7cf53 6 = .ok (.goto 4, 3) := by decide +kernel
theorem dJ9_min_7cf53_9 : decode cJ9_min_7cf53 9 = .ok (.iload_n 1, 1) := by decide +kernel
theorem dJ9_min_7cf53_10 : decode cJ9_min_7cf53 10 = .ok (.ireturn, 1) := by decide +kernel
theorem dJ9_min_f86c9_0 : decode cJ9_min_f86c9 0 = .ok (.lload_n 0, 1) := by decide +kernel
theorem dJ9_min_f86c9_1 : decode cJ9_min_f86c9 1 = .ok (.lload_n 2, 1) := by decide +kernel
theorem dJ9_min_f86c9_2 : decode cJ9_min_f86c9 2 = .ok (.lcmp, 1) := by decide +kernel
theorem dJ9_min_f86c9_3 : decode cJ9_min_f86c9 3 = .ok (.ifCond .gt 7, 3) := by decide +kernel
theorem dJ9_min_f86c9_6 : decode cJ9_min_f86c9 6 = .ok (.lload_n 0, 1) := by decide +kernel
theorem dJ9_min_f86c9_7 : decode cJ9_min_f86c9 7 = .ok (.goto 4, 3) := by decide +kernel
theorem dJ9_min_f86c9_10 : decode cJ9_min_f86c9 10 = .ok (.lload_n 2, 1) := by decide +kernel
theorem dJ9_min_f86c9_11 : decode cJ9_min_f86c9 11 = .ok (.lreturn, 1) := by decide +kernel
theorem dJ0_charAt_5068e_0 : decode cJ0_charAt_5068e 0 = .ok (.aload_n 0, 1) := by decide +kernel
theorem dJ0_charAt_5068e_1 : decode cJ0_charAt_5068e 1 = .ok (.invokevirtual 492, 3) := by decide +kernel
theorem dJ0_charAt_5068e_4 : decode cJ0_charAt_5068e 4 = .ok (.ifCond .eq 12, 3) := by decide +kernel
theorem dJ0_charAt_5068e_7 : decode cJ0_charAt_5068e 7 = .ok (.aload_n 0, 1) := by decide +kernel
theorem dJ0_charAt_5068e_8 : decode cJ0_charAt_5068e 8 = .ok (.getfield 9, 3) := by decide +kernel
theorem dJ0_charAt_5068e_11 : decode cJ0_charAt_5068e 11 = .ok (.iload_n 1, 1) := by decide +kernel
theorem dJ0_charAt_5068e_12 : decode cJ0_charAt_5068e 12 = .ok (.invokestatic 495, 3) := by decide +kernel
theorem dJ0_charAt_5068e_15 : decode cJ0_charAt_5068e 15 = .ok (.ireturn, 1) := by decide +kernel
theorem dJ0_charAt_5068e_16 : decode cJ0_charAt_5068e 16 = .ok (.aload_n 0, 1) := by decide +kernel
theorem dJ0_charAt_5068e_17 : decode cJ0_charAt_5068e 17 = .ok (.getfield 9, 3) := by decide +kernel
theorem dJ0_charAt_5068e_20 : decode cJ0_charAt_5068e 20 = .ok (.iload_n 1, 1) := by decide +kernel
theorem dJ0_charAt_5068e_21 : decode cJ0_charAt_5068e 21 = .ok (.invokestatic 498, 3) := by decide +kernel
theorem dJ0_charAt_5068e_24 : decode cJ0_charAt_5068e 24 = .ok (.ireturn, 1) := by decide +kernel
theorem dJ0_isLatin1_aae02_0 : decode cJ0_isLatin1_aae02 0 = .ok (.getstatic 38, 3) := by decide +kernel
theorem dJ0_isLatin1_aae02_3 : decode cJ0_isLatin1_aae02 3 = .ok (.ifCond .eq 14, 3) := by decide +kernel
theorem dJ0_isLatin1_aae02_6 : decode cJ0_isLatin1_aae02 6 = .ok (.aload_n 0, 1) := by decide +kernel
theorem dJ0_isLatin1_aae02_7 : decode cJ0_isLatin1_aae02 7 = .ok (.getfield 15, 3) := by decide +kernel
theorem dJ0_isLatin1_aae02_10 : decode cJ0_isLatin1_aae02 10 = .ok (.ifCond .ne 7, 3) := by decide +kernel
theorem dJ0_isLatin1_aae02_13 : decode cJ0_isLatin1_aae02 13 = .ok (.iconst 1, 1) := by decide +kernel
theorem dJ0_isLatin1_aae02_14 : decode cJ0_isLatin1_aae02 14 = .ok (.goto 4, 3) := by decide +kernel
theorem dJ0_isLatin1_aae02_17 : decode cJ0_isLatin1_aae02 17 = .ok (.iconst 0, 1) := by decide +kernel
theorem dJ0_isLatin1_aae02_18 : decode cJ0_isLatin1_aae02 18 = .ok (.ireturn, 1) := by decide +kernel
theorem dJ0_checkIndex_df160_0 : decode cJ0_checkIndex_df160 0 = .ok (.iload_n 0, 1) := by decide +kernel
theorem dJ0_checkIndex_df160_1 : decode cJ0_checkIndex_df160 1 = .ok (.iload_n 1, 1) := by decide +kernel
theorem dJ0_checkIndex_df160_2 : decode cJ0_checkIndex_df160 2 = .ok (.getstatic 1053, 3) := by decide +kernel
theorem dJ0_checkIndex_df160_5 : decode cJ0_checkIndex_df160 5 = .ok (.invokestatic 1059, 3) := by decide +kernel
theorem dJ0_checkIndex_df160_8 : decode cJ0_checkIndex_df160 8 = .ok (.pop, 1) := by decide +kernel
theorem dJ0_checkIndex_df160_9 : decode cJ0_checkIndex_df160 9 = .ok (.return_, 1) := by decide +kernel
theorem dJ1_charAt_3b067_0 : decode cJ1_charAt_3b067 0 = .ok (.iload_n 1, 1) := by decide +kernel
theorem dJ1_charAt_3b067_1 : decode cJ1_charAt_3b067 1 = .ok (.aload_n 0, 1) := by decide +kernel
theorem dJ1_charAt_3b067_2 : decode cJ1_charAt_3b067 2 = .ok (.arraylength, 1) := by decide +kernel
theorem dJ1_charAt_3b067_3 : decode cJ1_charAt_3b067 3 = .ok (.invokestatic 9, 3) := by decide +kernel
theorem dJ1_charAt_3b067_6 : decode cJ1_charAt_3b067 6 = .ok (.aload_n 0, 1) := by decide +kernel
theorem dJ1_charAt_3b067_7 : decode cJ1_charAt_3b067 7 = .ok (.iload_n 1, 1) := by decide +kernel
theorem dJ1_charAt_3b067_8 : decode cJ1_charAt_3b067 8 = .ok (.baload, 1) := by decide +kernel
theorem dJ1_charAt_3b067_9 : decode cJ1_charAt_3b067 9 = .ok (.sipush 255, 3) := by decide +kernel
theorem dJ1_charAt_3b067_12 : decode cJ1_charAt_3b067 12 = .ok (.iand, 1) := by decide +kernel
theorem dJ1_charAt_3b067_13 : decode cJ1_charAt_3b067 13 = .ok (.i2c, 1) := by decide +kernel
theorem dJ1_charAt_3b067_14 : decode cJ1_charAt_3b067 14 = .ok (.ireturn, 1) := by decide +kernel
theorem dJ2_getChar_3b067_0 : decode cJ2_getChar_3b067 0 = .ok (.getstatic 44, 3) := by decide +kernel
theorem dJ2_getChar_3b067_3 : decode cJ2_getChar_3b067 3 = .ok (.ifCond .ne 25, 3) := by decide +kernel
theorem dJ2_getChar_3b067_6 : decode cJ2_getChar_3b067 6 = .ok (.iload_n 1, 1) := by decide +kernel
theorem dJ2_getChar_3b067_7 : decode cJ2_getChar_3b067 7 = .ok (.ifCond .lt 11, 3) := by decide +kernel
theorem dJ2_getChar_3b067_10 : decode cJ2_getChar_3b067 10 = .ok (.iload_n 1, 1) := by decide +kernel
theorem dJ2_getChar_3b067_11 : decode cJ2_getChar_3b067 11 = .ok (.aload_n 0, 1) := by decide +kernel
theorem dJ2_getChar_3b067_12 : decode cJ2_getChar_3b067 12 = .ok (.invokestatic 48, 3) := by decide +kernel
theorem dJ2_getChar_3b067_15 : decode cJ2_getChar_3b067 15 = .ok (.if_icmp .lt 13, 3) := by decide +kernel
theorem dJ2_getChar_3b067_18 : decode cJ2_getChar_3b067 18 = .ok (.new 52, 3) := by decide +kernel
theorem dJ2_getChar_3b067_21 : decode cJ2_getChar_3b067 21 = .ok (.dup, 1) := by decide +kernel
theorem dJ2_getChar_3b067_22 : decode cJ2_getChar_3b067 22 = .ok (.ldc 54, 2) := by decide +kernel
theorem dJ2_getChar_3b067_24 : decode cJ2_getChar_3b067 24 = .ok (.invokespecial 56, 3) := by decide +kernel
theorem dJ2_getChar_3b067_27 : decode cJ2_getChar_3b067 27 = .ok (.athrow, 1) := by decide +kernel
theorem dJ2_getChar_3b067_28 : decode cJ2_getChar_3b067 28 = .ok (.iload_n 1, 1) := by decide +kernel
theorem dJ2_getChar_3b067_29 : decode cJ2_getChar_3b067 29 = .ok (.iconst 1, 1) := by decide +kernel
theorem dJ2_getChar_3b067_30 : decode cJ2_getChar_3b067 30 = .ok (.ishl, 1) := by decide +kernel
theorem dJ2_getChar_3b067_31 : decode cJ2_getChar_3b067 31 = .ok (.istore_n 1, 1) := by decide +kernel
theorem dJ2_getChar_3b067_32 : decode cJ2_getChar_3b067 32 = .ok (.aload_n 0, 1) := by decide +kernel
theorem dJ2_getChar_3b067_33 : decode cJ2_getChar_3b067 33 = .ok (.iload_n 1, 1) := by decide +kernel
theorem dJ2_getChar_3b067_34 : decode cJ2_getChar_3b067 34 = .ok (.iinc 1 1, 3) := by decide +kernel
theorem dJ2_getChar_3b067_37 : decode cJ2_getChar_3b067 37 = .ok (.baload, 1) := by decide +kernel
theorem dJ2_getChar_3b067_38 : decode cJ2_getChar_3b067 38 = .ok (.sipush 255, 3) := by decide +kernel
theorem dJ2_getChar_3b067_41 : decode cJ2_getChar_3b067 41 = .ok (.iand, 1) := by decide +kernel
theorem dJ2_getChar_3b067_42 : decode cJ2_getChar_3b067 42 = .ok (.getstatic 59, 3) := by decide +kernel
theorem dJ2_getChar_3b067_45 : decode cJ2_getChar_3b067 45 = .ok (.ishl, 1) := by decide +kernel
theorem dJ2_getChar_3b067_46 : decode cJ2_getChar_3b067 46 = .ok (.aload_n 0, 1) := by decide +kernel
theorem dJ2_getChar_3b067_47 : decode cJ2_getChar_3b067 47 = .ok (.iload_n 1, 1) := by decide +kernel
theorem dJ2_getChar_3b067_48 : decode cJ2_getChar_3b067 48 = .ok (.baload, 1) := by decide +kernel
theorem dJ2_getChar_3b067_49 : decode cJ2_getChar_3b067 49 = .ok (.sipush 255, 3) := by decide +kernel
theorem dJ2_getChar_3b067_52 : decode cJ2_getChar_3b067 52 = .ok (.iand, 1) := by decide +kernel
theorem dJ2_getChar_3b067_53 : decode cJ2_getChar_3b067 53 = .ok (.getstatic 63, 3) := by decide +kernel
theorem dJ2_getChar_3b067_56 : decode cJ2_getChar_3b067 56 = .ok (.ishl, 1) := by decide +kernel
theorem dJ2_getChar_3b067_57 : decode cJ2_getChar_3b067 57 = .ok (.ior, 1) := by decide +kernel
theorem dJ2_getChar_3b067_58 : decode cJ2_getChar_3b067 58 = .ok (.i2c, 1) := by decide +kernel
theorem dJ2_getChar_3b067_59 : decode cJ2_getChar_3b067 59 = .ok (.ireturn, 1) := by decide +kernel
theorem dJ2_length_9d52b_0 : decode cJ2_length_9d52b 0 = .ok (.aload_n 0, 1) := by decide +kernel
theorem dJ2_length_9d52b_1 : decode cJ2_length_9d52b 1 = .ok (.arraylength, 1) := by decide +kernel
theorem dJ2_length_9d52b_2 : decode cJ2_length_9d52b 2 = .ok (.iconst 1, 1) := by decide +kernel
theorem dJ2_length_9d52b_3 : decode cJ2_length_9d52b 3 = .ok (.ishr, 1) := by decide +kernel
theorem dJ2_length_9d52b_4 : decode cJ2_length_9d52b 4 = .ok (.ireturn, 1) := by decide +kernel
theorem dJ2_charAt_3b067_0 : decode cJ2_charAt_3b067 0 = .ok (.iload_n 1, 1) := by decide +kernel
theorem dJ2_charAt_3b067_1 : decode cJ2_charAt_3b067 1 = .ok (.aload_n 0, 1) := by decide +kernel
theorem dJ2_charAt_3b067_2 : decode cJ2_charAt_3b067 2 = .ok (.invokestatic 67, 3) := by decide +kernel
theorem dJ2_charAt_3b067_5 : decode cJ2_charAt_3b067 5 = .ok (.aload_n 0, 1) := by decide +kernel
theorem dJ2_charAt_3b067_6 : decode cJ2_charAt_3b067 6 = .ok (.iload_n 1, 1) := by decide +kernel
theorem dJ2_charAt_3b067_7 : decode cJ2_charAt_3b067 7 = .ok (.invokestatic 71, 3) := by decide +kernel
theorem dJ2_charAt_3b067_10 : decode cJ2_charAt_3b067 10 = .ok (.ireturn, 1) := by decide +kernel
theorem dJ2_checkIndex_2214a_0 : decode cJ2_checkIndex_2214a 0 = .ok (.iload_n 0, 1) := by decide +kernel
theorem dJ2_checkIndex_2214a_1 : decode cJ2_checkIndex_2214a 1 = .ok (.aload_n 1, 1) := by decide +kernel
theorem dJ2_checkIndex_2214a_2 : decode cJ2_checkIndex_2214a 2 = .ok (.invokestatic 48, 3) := by decide +kernel
theorem dJ2_checkIndex_2214a_5 : decode cJ2_checkIndex_2214a 5 = .ok (.invokestatic 414, 3) := by decide +kernel
theorem dJ2_checkIndex_2214a_8 : decode cJ2_checkIndex_2214a 8 = .ok (.return_, 1) := by decide +kernel
theorem dJ3_checkIndex_8e157_0 : decode cJ3_checkIndex_8e157 0 = .ok (.iload_n 0, 1) := by decide +kernel
theorem dJ3_checkIndex_8e157_1 : decode cJ3_checkIndex_8e157 1 = .ok (.ifCond .lt 8, 3) := by decide +kernel
theorem dJ3_checkIndex_8e157_4 : decode cJ3_checkIndex_8e157 4 = .ok (.iload_n 0, 1) := by decide +kernel
theorem dJ3_checkIndex_8e157_5 : decode cJ3_checkIndex_8e157 5 = .ok (.iload_n 1, 1) := by decide +kernel
theorem dJ3_checkIndex_8e157_6 : decode cJ3_checkIndex_8e157 6 = .ok (.if_icmp .lt 10, 3) := by decide +kernel
theorem dJ3_checkIndex_8e157_9 : decode cJ3_checkIndex_8e157 9 = .ok (.aload_n 2, 1) := by decide +kernel
theorem dJ3_checkIndex_8e157_10 : decode cJ3_checkIndex_8e157 10 = .ok (.iload_n 0, 1) := by decide +kernel
theorem dJ3_checkIndex_8e157_11 : decode cJ3_checkIndex_8e157 11 = .ok (.iload_n 1, 1) := by decide +kernel
theorem dJ3_checkIndex_8e157_12 : decode cJ3_checkIndex_8e157 12 = .ok (.invokestatic 95, 3) := by decide +kernel
theorem dJ3_checkIndex_8e157_15 : decode cJ3_checkIndex_8e157 15 = .ok (.athrow, 1) := by decide +kernel
theorem dJ3_checkIndex_8e157_16 : decode cJ3_checkIndex_8e157 16 = .ok (.iload_n 0, 1) := by decide +kernel
theorem dJ3_checkIndex_8e157_17 : decode cJ3_checkIndex_8e157 17 = .ok (.ireturn, 1) := by decide +kernel
theorem dL_law_0 : decode cL_law 0 = .ok (.new 7, 3) := by decide +kernel
theorem dL_law_3 : decode cL_law 3 = .ok (.dup, 1) := by decide +kernel
theorem dL_law_4 : decode cL_law 4 = .ok (.invokespecial 9, 3) := by decide +kernel
theorem dL_law_7 : decode cL_law 7 = .ok (.astore_n 1, 1) := by decide +kernel
theorem dL_law_8 : decode cL_law 8 = .ok (.new 10, 3) := by decide +kernel
theorem dL_law_11 : decode cL_law 11 = .ok (.dup, 1) := by decide +kernel
theorem dL_law_12 : decode cL_law 12 = .ok (.invokespecial 12, 3) := by decide +kernel
theorem dL_law_15 : decode cL_law 15 = .ok (.astore_n 2, 1) := by decide +kernel
theorem dL_law_16 : decode cL_law 16 = .ok (.iconst 0, 1) := by decide +kernel
theorem dL_law_17 : decode cL_law 17 = .ok (.istore_n 3, 1) := by decide +kernel
theorem dL_law_18 : decode cL_law 18 = .ok (.iload_n 3, 1) := by decide +kernel
theorem dL_law_19 : decode cL_law 19 = .ok (.aload_n 0, 1) := by decide +kernel
theorem dL_law_20 : decode cL_law 20 = .ok (.arraylength, 1) := by decide +kernel
theorem dL_law_21 : decode cL_law 21 = .ok (.iconst 5, 1) := by decide +kernel
theorem dL_law_22 : decode cL_law 22 = .ok (.isub, 1) := by decide +kernel
theorem dL_law_23 : decode cL_law 23 = .ok (.if_icmp .gt 714, 3) := by decide +kernel
theorem dL_law_26 : decode cL_law 26 = .ok (.aload_n 0, 1) := by decide +kernel
theorem dL_law_27 : decode cL_law 27 = .ok (.iload_n 3, 1) := by decide +kernel
theorem dL_law_28 : decode cL_law 28 = .ok (.iaload, 1) := by decide +kernel
theorem dL_law_29 : decode cL_law 29 = .ok (.bipush 31, 2) := by decide +kernel
theorem dL_law_31 : decode cL_law 31 = .ok (.iand, 1) := by decide +kernel
theorem dL_law_32 : decode cL_law 32 = .ok (.tableswitch 699 0 20 #[100, 123, 136, 149, 202, 225, 258, 291, 324, 357, 380, 413, 446, 469, 492, 515, 558, 617, 630, 653, 676], 100) := by decide +kernel
theorem dL_law_132 : decode cL_law 132 = .ok (.aload_n 1, 1) := by decide +kernel
theorem dL_law_133 : decode cL_law 133 = .ok (.aload_n 0, 1) := by decide +kernel
theorem dL_law_134 : decode cL_law 134 = .ok (.iload_n 3, 1) := by decide +kernel
theorem dL_law_135 : decode cL_law 135 = .ok (.iconst 1, 1) := by decide +kernel
theorem dL_law_136 : decode cL_law 136 = .ok (.iadd, 1) := by decide +kernel
theorem dL_law_137 : decode cL_law 137 = .ok (.iaload, 1) := by decide +kernel
theorem dL_law_138 : decode cL_law 138 = .ok (.invokevirtual 13, 3) := by decide +kernel
theorem dL_law_141 : decode cL_law 141 = .ok (.aload_n 2, 1) := by decide +kernel
theorem dL_law_142 : decode cL_law 142 = .ok (.aload_n 0, 1) := by decide +kernel
theorem dL_law_143 : decode cL_law 143 = .ok (.iload_n 3, 1) := by decide +kernel
theorem dL_law_144 : decode cL_law 144 = .ok (.iconst 1, 1) := by decide +kernel
theorem dL_law_145 : decode cL_law 145 = .ok (.iadd, 1) := by decide +kernel
theorem dL_law_146 : decode cL_law 146 = .ok (.iaload, 1) := by decide +kernel
theorem dL_law_147 : decode cL_law 147 = .ok (.invokevirtual 17, 3) := by decide +kernel
theorem dL_law_150 : decode cL_law 150 = .ok (.if_icmp .eq 581, 3) := by decide +kernel
theorem dL_law_153 : decode cL_law 153 = .ok (.iconst 0, 1) := by decide +kernel
theorem dL_law_154 : decode cL_law 154 = .ok (.ireturn, 1) := by decide +kernel
theorem dL_law_155 : decode cL_law 155 = .ok (.aload_n 1, 1) := by decide +kernel
theorem dL_law_156 : decode cL_law 156 = .ok (.invokevirtual 18, 3) := by decide +kernel
theorem dL_law_159 : decode cL_law 159 = .ok (.aload_n 2, 1) := by decide +kernel
theorem dL_law_160 : decode cL_law 160 = .ok (.invokevirtual 22, 3) := by decide +kernel
theorem dL_law_163 : decode cL_law 163 = .ok (.if_icmp .eq 568, 3) := by decide +kernel
theorem dL_law_166 : decode cL_law 166 = .ok (.iconst 0, 1) := by decide +kernel
theorem dL_law_167 : decode cL_law 167 = .ok (.ireturn, 1) := by decide +kernel
theorem dL_law_168 : decode cL_law 168 = .ok (.aload_n 1, 1) := by decide +kernel
theorem dL_law_169 : decode cL_law 169 = .ok (.invokevirtual 23, 3) := by decide +kernel
theorem dL_law_172 : decode cL_law 172 = .ok (.aload_n 2, 1) := by decide +kernel
theorem dL_law_173 : decode cL_law 173 = .ok (.invokevirtual 26, 3) := by decide +kernel
theorem dL_law_176 : decode cL_law 176 = .ok (.if_icmp .eq 555, 3) := by decide +kernel
theorem dL_law_179 : decode cL_law 179 = .ok (.iconst 0, 1) := by decide +kernel
theorem dL_law_180 : decode cL_law 180 = .ok (.ireturn, 1) := by decide +kernel
theorem dL_law_181 : decode cL_law 181 = .ok (.aload_n 1, 1) := by decide +kernel
theorem dL_law_182 : decode cL_law 182 = .ok (.aload_n 0, 1) := by decide +kernel
theorem dL_law_183 : decode cL_law 183 = .ok (.iload_n 3, 1) := by decide +kernel
theorem dL_law_184 : decode cL_law 184 = .ok (.iconst 1, 1) := by decide +kernel
theorem dL_law_185 : decode cL_law 185 = .ok (.iadd, 1) := by decide +kernel
theorem dL_law_186 : decode cL_law 186 = .ok (.iaload, 1) := by decide +kernel
theorem dL_law_187 : decode cL_law 187 = .ok (.aload_n 0, 1) := by decide +kernel
theorem dL_law_188 : decode cL_law 188 = .ok (.iload_n 3, 1) := by decide +kernel
theorem dL_law_189 : decode cL_law 189 = .ok (.iconst 2, 1) := by decide +kernel
theorem dL_law_190 : decode cL_law 190 = .ok (.iadd, 1) := by decide +kernel
theorem dL_law_191 : decode cL_law 191 = .ok (.iaload, 1) := by decide +kernel
theorem dL_law_192 : decode cL_law 192 = .ok (.aload_n 0, 1) := by decide +kernel
theorem dL_law_193 : decode cL_law 193 = .ok (.iload_n 3, 1) := by decide +kernel
theorem dL_law_194 : decode cL_law 194 = .ok (.iconst 3, 1) := by decide +kernel
theorem dL_law_195 : decode cL_law 195 = .ok (.iadd, 1) := by decide +kernel
theorem dL_law_196 : decode cL_law 196 = .ok (.iaload, 1) := by decide +kernel
theorem dL_law_197 : decode cL_law 197 = .ok (.aload_n 0, 1) := by decide +kernel
theorem dL_law_198 : decode cL_law 198 = .ok (.iload_n 3, 1) := by decide +kernel
theorem dL_law_199 : decode cL_law 199 = .ok (.iconst 4, 1) := by decide +kernel
theorem dL_law_200 : decode cL_law 200 = .ok (.iadd, 1) := by decide +kernel
theorem dL_law_201 : decode cL_law 201 = .ok (.iaload, 1) := by decide +kernel
theorem dL_law_202 : decode cL_law 202 = .ok (.invokevirtual 27, 3) := by decide +kernel
theorem dL_law_205 : decode cL_law 205 = .ok (.aload_n 2, 1) := by decide +kernel
theorem dL_law_206 : decode cL_law 206 = .ok (.aload_n 0, 1) := by decide +kernel
theorem dL_law_207 : decode cL_law 207 = .ok (.iload_n 3, 1) := by decide +kernel
theorem dL_law_208 : decode cL_law 208 = .ok (.iconst 1, 1) := by decide +kernel
theorem dL_law_209 : decode cL_law 209 = .ok (.iadd, 1) := by decide +kernel
theorem dL_law_210 : decode cL_law 210 = .ok (.iaload, 1) := by decide +kernel
theorem dL_law_211 : decode cL_law 211 = .ok (.aload_n 0, 1) := by decide +kernel
theorem dL_law_212 : decode cL_law 212 = .ok (.iload_n 3, 1) := by decide +kernel
theorem dL_law_213 : decode cL_law 213 = .ok (.iconst 2, 1) := by decide +kernel
theorem dL_law_214 : decode cL_law 214 = .ok (.iadd, 1) := by decide +kernel
theorem dL_law_215 : decode cL_law 215 = .ok (.iaload, 1) := by decide +kernel
theorem dL_law_216 : decode cL_law 216 = .ok (.aload_n 0, 1) := by decide +kernel
theorem dL_law_217 : decode cL_law 217 = .ok (.iload_n 3, 1) := by decide +kernel
theorem dL_law_218 : decode cL_law 218 = .ok (.iconst 3, 1) := by decide +kernel
theorem dL_law_219 : decode cL_law 219 = .ok (.iadd, 1) := by decide +kernel
theorem dL_law_220 : decode cL_law 220 = .ok (.iaload, 1) := by decide +kernel
theorem dL_law_221 : decode cL_law 221 = .ok (.aload_n 0, 1) := by decide +kernel
theorem dL_law_222 : decode cL_law 222 = .ok (.iload_n 3, 1) := by decide +kernel
theorem dL_law_223 : decode cL_law 223 = .ok (.iconst 4, 1) := by decide +kernel
theorem dL_law_224 : decode cL_law 224 = .ok (.iadd, 1) := by decide +kernel
theorem dL_law_225 : decode cL_law 225 = .ok (.iaload, 1) := by decide +kernel
theorem dL_law_226 : decode cL_law 226 = .ok (.invokevirtual 31, 3) := by decide +kernel
theorem dL_law_229 : decode cL_law 229 = .ok (.if_icmp .eq 502, 3) := by decide +kernel
theorem dL_law_232 : decode cL_law 232 = .ok (.iconst 0, 1) := by decide +kernel
theorem dL_law_233 : decode cL_law 233 = .ok (.ireturn, 1) := by decide +kernel
theorem dL_law_234 : decode cL_law 234 = .ok (.aload_n 1, 1) := by decide +kernel
theorem dL_law_235 : decode cL_law 235 = .ok (.aload_n 0, 1) := by decide +kernel
theorem dL_law_236 : decode cL_law 236 = .ok (.iload_n 3, 1) := by decide +kernel
theorem dL_law_237 : decode cL_law 237 = .ok (.iconst 1, 1) := by decide +kernel
theorem dL_law_238 : decode cL_law 238 = .ok (.iadd, 1) := by decide +kernel
theorem dL_law_239 : decode cL_law 239 = .ok (.iaload, 1) := by decide +kernel
theorem dL_law_240 : decode cL_law 240 = .ok (.invokevirtual 32, 3) := by decide +kernel
theorem dL_law_243 : decode cL_law 243 = .ok (.aload_n 2, 1) := by decide +kernel
theorem dL_law_244 : decode cL_law 244 = .ok (.aload_n 0, 1) := by decide +kernel
theorem dL_law_245 : decode cL_law 245 = .ok (.iload_n 3, 1) := by decide +kernel
theorem dL_law_246 : decode cL_law 246 = .ok (.iconst 1, 1) := by decide +kernel
theorem dL_law_247 : decode cL_law 247 = .ok (.iadd, 1) := by decide +kernel
theorem dL_law_248 : decode cL_law 248 = .ok (.iaload, 1) := by decide +kernel
theorem dL_law_249 : decode cL_law 249 = .ok (.invokevirtual 35, 3) := by decide +kernel
theorem dL_law_252 : decode cL_law 252 = .ok (.if_icmp .eq 479, 3) := by decide +kernel
theorem dL_law_255 : decode cL_law 255 = .ok (.iconst 0, 1) := by decide +kernel
theorem dL_law_256 : decode cL_law 256 = .ok (.ireturn, 1) := by decide +kernel
theorem dL_law_257 : decode cL_law 257 = .ok (.aload_n 1, 1) := by decide +kernel
theorem dL_law_258 : decode cL_law 258 = .ok (.aload_n 0, 1) := by decide +kernel
theorem dL_law_259 : decode cL_law 259 = .ok (.iload_n 3, 1) := by decide +kernel
theorem dL_law_260 : decode cL_law 260 = .ok (.iconst 1, 1) := by decide +kernel
theorem dL_law_261 : decode cL_law 261 = .ok (.iadd, 1) := by decide +kernel
theorem dL_law_262 : decode cL_law 262 = .ok (.iaload, 1) := by decide +kernel
theorem dL_law_263 : decode cL_law 263 = .ok (.aload_n 0, 1) := by decide +kernel
theorem dL_law_264 : decode cL_law 264 = .ok (.iload_n 3, 1) := by decide +kernel
theorem dL_law_265 : decode cL_law 265 = .ok (.iconst 2, 1) := by decide +kernel
theorem dL_law_266 : decode cL_law 266 = .ok (.iadd, 1) := by decide +kernel
theorem dL_law_267 : decode cL_law 267 = .ok (.iaload, 1) := by decide +kernel
theorem dL_law_268 : decode cL_law 268 = .ok (.invokevirtual 36, 3) := by decide +kernel
theorem dL_law_271 : decode cL_law 271 = .ok (.aload_n 2, 1) := by decide +kernel
theorem dL_law_272 : decode cL_law 272 = .ok (.aload_n 0, 1) := by decide +kernel
theorem dL_law_273 : decode cL_law 273 = .ok (.iload_n 3, 1) := by decide +kernel
theorem dL_law_274 : decode cL_law 274 = .ok (.iconst 1, 1) := by decide +kernel
theorem dL_law_275 : decode cL_law 275 = .ok (.iadd, 1) := by decide +kernel
theorem dL_law_276 : decode cL_law 276 = .ok (.iaload, 1) := by decide +kernel
theorem dL_law_277 : decode cL_law 277 = .ok (.aload_n 0, 1) := by decide +kernel
theorem dL_law_278 : decode cL_law 278 = .ok (.iload_n 3, 1) := by decide +kernel
theorem dL_law_279 : decode cL_law 279 = .ok (.iconst 2, 1) := by decide +kernel
theorem dL_law_280 : decode cL_law 280 = .ok (.iadd, 1) := by decide +kernel
theorem dL_law_281 : decode cL_law 281 = .ok (.iaload, 1) := by decide +kernel
theorem dL_law_282 : decode cL_law 282 = .ok (.invokevirtual 40, 3) := by decide +kernel
theorem dL_law_285 : decode cL_law 285 = .ok (.if_icmp .eq 446, 3) := by decide +kernel
theorem dL_law_288 : decode cL_law 288 = .ok (.iconst 0, 1) := by decide +kernel
theorem dL_law_289 : decode cL_law 289 = .ok (.ireturn, 1) := by decide +kernel
theorem dL_law_290 : decode cL_law 290 = .ok (.aload_n 1, 1) := by decide +kernel
theorem dL_law_291 : decode cL_law 291 = .ok (.aload_n 0, 1) := by decide +kernel
theorem dL_law_292 : decode cL_law 292 = .ok (.iload_n 3, 1) := by decide +kernel
theorem dL_law_293 : decode cL_law 293 = .ok (.iconst 1, 1) := by decide +kernel
theorem dL_law_294 : decode cL_law 294 = .ok (.iadd, 1) := by decide +kernel
theorem dL_law_295 : decode cL_law 295 = .ok (.iaload, 1) := by decide +kernel
theorem dL_law_296 : decode cL_law 296 = .ok (.aload_n 0, 1) := by decide +kernel
theorem dL_law_297 : decode cL_law 297 = .ok (.iload_n 3, 1) := by decide +kernel
theorem dL_law_298 : decode cL_law 298 = .ok (.iconst 2, 1) := by decide +kernel
theorem dL_law_299 : decode cL_law 299 = .ok (.iadd, 1) := by decide +kernel
theorem dL_law_300 : decode cL_law 300 = .ok (.iaload, 1) := by decide +kernel
theorem dL_law_301 : decode cL_law 301 = .ok (.invokevirtual 41, 3) := by decide +kernel
theorem dL_law_304 : decode cL_law 304 = .ok (.aload_n 2, 1) := by decide +kernel
theorem dL_law_305 : decode cL_law 305 = .ok (.aload_n 0, 1) := by decide +kernel
theorem dL_law_306 : decode cL_law 306 = .ok (.iload_n 3, 1) := by decide +kernel
theorem dL_law_307 : decode cL_law 307 = .ok (.iconst 1, 1) := by decide +kernel
theorem dL_law_308 : decode cL_law 308 = .ok (.iadd, 1) := by decide +kernel
theorem dL_law_309 : decode cL_law 309 = .ok (.iaload, 1) := by decide +kernel
theorem dL_law_310 : decode cL_law 310 = .ok (.aload_n 0, 1) := by decide +kernel
theorem dL_law_311 : decode cL_law 311 = .ok (.iload_n 3, 1) := by decide +kernel
theorem dL_law_312 : decode cL_law 312 = .ok (.iconst 2, 1) := by decide +kernel
theorem dL_law_313 : decode cL_law 313 = .ok (.iadd, 1) := by decide +kernel
theorem dL_law_314 : decode cL_law 314 = .ok (.iaload, 1) := by decide +kernel
theorem dL_law_315 : decode cL_law 315 = .ok (.invokevirtual 44, 3) := by decide +kernel
theorem dL_law_318 : decode cL_law 318 = .ok (.if_icmp .eq 413, 3) := by decide +kernel
theorem dL_law_321 : decode cL_law 321 = .ok (.iconst 0, 1) := by decide +kernel
theorem dL_law_322 : decode cL_law 322 = .ok (.ireturn, 1) := by decide +kernel
theorem dL_law_323 : decode cL_law 323 = .ok (.aload_n 1, 1) := by decide +kernel
theorem dL_law_324 : decode cL_law 324 = .ok (.aload_n 0, 1) := by decide +kernel
theorem dL_law_325 : decode cL_law 325 = .ok (.iload_n 3, 1) := by decide +kernel
theorem dL_law_326 : decode cL_law 326 = .ok (.iconst 1, 1) := by decide +kernel
theorem dL_law_327 : decode cL_law 327 = .ok (.iadd, 1) := by decide +kernel
theorem dL_law_328 : decode cL_law 328 = .ok (.iaload, 1) := by decide +kernel
theorem dL_law_329 : decode cL_law 329 = .ok (.aload_n 0, 1) := by decide +kernel
theorem dL_law_330 : decode cL_law 330 = .ok (.iload_n 3, 1) := by decide +kernel
theorem dL_law_331 : decode cL_law 331 = .ok (.iconst 2, 1) := by decide +kernel
theorem dL_law_332 : decode cL_law 332 = .ok (.iadd, 1) := by decide +kernel
theorem dL_law_333 : decode cL_law 333 = .ok (.iaload, 1) := by decide +kernel
theorem dL_law_334 : decode cL_law 334 = .ok (.invokevirtual 45, 3) := by decide +kernel
theorem dL_law_337 : decode cL_law 337 = .ok (.aload_n 2, 1) := by decide +kernel
theorem dL_law_338 : decode cL_law 338 = .ok (.aload_n 0, 1) := by decide +kernel
theorem dL_law_339 : decode cL_law 339 = .ok (.iload_n 3, 1) := by decide +kernel
theorem dL_law_340 : decode cL_law 340 = .ok (.iconst 1, 1) := by decide +kernel
theorem dL_law_341 : decode cL_law 341 = .ok (.iadd, 1) := by decide +kernel
theorem dL_law_342 : decode cL_law 342 = .ok (.iaload, 1) := by decide +kernel
theorem dL_law_343 : decode cL_law 343 = .ok (.aload_n 0, 1) := by decide +kernel
theorem dL_law_344 : decode cL_law 344 = .ok (.iload_n 3, 1) := by decide +kernel
theorem dL_law_345 : decode cL_law 345 = .ok (.iconst 2, 1) := by decide +kernel
theorem dL_law_346 : decode cL_law 346 = .ok (.iadd, 1) := by decide +kernel
theorem dL_law_347 : decode cL_law 347 = .ok (.iaload, 1) := by decide +kernel
theorem dL_law_348 : decode cL_law 348 = .ok (.invokevirtual 48, 3) := by decide +kernel
theorem dL_law_351 : decode cL_law 351 = .ok (.if_icmp .eq 380, 3) := by decide +kernel
theorem dL_law_354 : decode cL_law 354 = .ok (.iconst 0, 1) := by decide +kernel
theorem dL_law_355 : decode cL_law 355 = .ok (.ireturn, 1) := by decide +kernel
theorem dL_law_356 : decode cL_law 356 = .ok (.aload_n 1, 1) := by decide +kernel
theorem dL_law_357 : decode cL_law 357 = .ok (.aload_n 0, 1) := by decide +kernel
theorem dL_law_358 : decode cL_law 358 = .ok (.iload_n 3, 1) := by decide +kernel
theorem dL_law_359 : decode cL_law 359 = .ok (.iconst 1, 1) := by decide +kernel
theorem dL_law_360 : decode cL_law 360 = .ok (.iadd, 1) := by decide +kernel
theorem dL_law_361 : decode cL_law 361 = .ok (.iaload, 1) := by decide +kernel
theorem dL_law_362 : decode cL_law 362 = .ok (.aload_n 0, 1) := by decide +kernel
theorem dL_law_363 : decode cL_law 363 = .ok (.iload_n 3, 1) := by decide +kernel
theorem dL_law_364 : decode cL_law 364 = .ok (.iconst 2, 1) := by decide +kernel
theorem dL_law_365 : decode cL_law 365 = .ok (.iadd, 1) := by decide +kernel
theorem dL_law_366 : decode cL_law 366 = .ok (.iaload, 1) := by decide +kernel
theorem dL_law_367 : decode cL_law 367 = .ok (.invokevirtual 49, 3) := by decide +kernel
theorem dL_law_370 : decode cL_law 370 = .ok (.aload_n 2, 1) := by decide +kernel
theorem dL_law_371 : decode cL_law 371 = .ok (.aload_n 0, 1) := by decide +kernel
theorem dL_law_372 : decode cL_law 372 = .ok (.iload_n 3, 1) := by decide +kernel
theorem dL_law_373 : decode cL_law 373 = .ok (.iconst 1, 1) := by decide +kernel
theorem dL_law_374 : decode cL_law 374 = .ok (.iadd, 1) := by decide +kernel
theorem dL_law_375 : decode cL_law 375 = .ok (.iaload, 1) := by decide +kernel
theorem dL_law_376 : decode cL_law 376 = .ok (.aload_n 0, 1) := by decide +kernel
theorem dL_law_377 : decode cL_law 377 = .ok (.iload_n 3, 1) := by decide +kernel
theorem dL_law_378 : decode cL_law 378 = .ok (.iconst 2, 1) := by decide +kernel
theorem dL_law_379 : decode cL_law 379 = .ok (.iadd, 1) := by decide +kernel
theorem dL_law_380 : decode cL_law 380 = .ok (.iaload, 1) := by decide +kernel
theorem dL_law_381 : decode cL_law 381 = .ok (.invokevirtual 52, 3) := by decide +kernel
theorem dL_law_384 : decode cL_law 384 = .ok (.if_icmp .eq 347, 3) := by decide +kernel
theorem dL_law_387 : decode cL_law 387 = .ok (.iconst 0, 1) := by decide +kernel
theorem dL_law_388 : decode cL_law 388 = .ok (.ireturn, 1) := by decide +kernel
theorem dL_law_389 : decode cL_law 389 = .ok (.aload_n 1, 1) := by decide +kernel
theorem dL_law_390 : decode cL_law 390 = .ok (.aload_n 0, 1) := by decide +kernel
theorem dL_law_391 : decode cL_law 391 = .ok (.iload_n 3, 1) := by decide +kernel
theorem dL_law_392 : decode cL_law 392 = .ok (.iconst 1, 1) := by decide +kernel
theorem dL_law_393 : decode cL_law 393 = .ok (.iadd, 1) := by decide +kernel
theorem dL_law_394 : decode cL_law 394 = .ok (.iaload, 1) := by decide +kernel
theorem dL_law_395 : decode cL_law 395 = .ok (.invokevirtual 53, 3) := by decide +kernel
theorem dL_law_398 : decode cL_law 398 = .ok (.aload_n 2, 1) := by decide +kernel
theorem dL_law_399 : decode cL_law 399 = .ok (.aload_n 0, 1) := by decide +kernel
theorem dL_law_400 : decode cL_law 400 = .ok (.iload_n 3, 1) := by decide +kernel
theorem dL_law_401 : decode cL_law 401 = .ok (.iconst 1, 1) := by decide +kernel
theorem dL_law_402 : decode cL_law 402 = .ok (.iadd, 1) := by decide +kernel
theorem dL_law_403 : decode cL_law 403 = .ok (.iaload, 1) := by decide +kernel
theorem dL_law_404 : decode cL_law 404 = .ok (.invokevirtual 56, 3) := by decide +kernel
theorem dL_law_407 : decode cL_law 407 = .ok (.if_icmp .eq 324, 3) := by decide +kernel
theorem dL_law_410 : decode cL_law 410 = .ok (.iconst 0, 1) := by decide +kernel
theorem dL_law_411 : decode cL_law 411 = .ok (.ireturn, 1) := by decide +kernel
theorem dL_law_412 : decode cL_law 412 = .ok (.aload_n 1, 1) := by decide +kernel
theorem dL_law_413 : decode cL_law 413 = .ok (.aload_n 0, 1) := by decide +kernel
theorem dL_law_414 : decode cL_law 414 = .ok (.iload_n 3, 1) := by decide +kernel
theorem dL_law_415 : decode cL_law 415 = .ok (.iconst 1, 1) := by decide +kernel
theorem dL_law_416 : decode cL_law 416 = .ok (.iadd, 1) := by decide +kernel
theorem dL_law_417 : decode cL_law 417 = .ok (.iaload, 1) := by decide +kernel
theorem dL_law_418 : decode cL_law 418 = .ok (.aload_n 0, 1) := by decide +kernel
theorem dL_law_419 : decode cL_law 419 = .ok (.iload_n 3, 1) := by decide +kernel
theorem dL_law_420 : decode cL_law 420 = .ok (.iconst 2, 1) := by decide +kernel
theorem dL_law_421 : decode cL_law 421 = .ok (.iadd, 1) := by decide +kernel
theorem dL_law_422 : decode cL_law 422 = .ok (.iaload, 1) := by decide +kernel
theorem dL_law_423 : decode cL_law 423 = .ok (.invokevirtual 57, 3) := by decide +kernel
theorem dL_law_426 : decode cL_law 426 = .ok (.aload_n 2, 1) := by decide +kernel
theorem dL_law_427 : decode cL_law 427 = .ok (.aload_n 0, 1) := by decide +kernel
theorem dL_law_428 : decode cL_law 428 = .ok (.iload_n 3, 1) := by decide +kernel
theorem dL_law_429 : decode cL_law 429 = .ok (.iconst 1, 1) := by decide +kernel
theorem dL_law_430 : decode cL_law 430 = .ok (.iadd, 1) := by decide +kernel
theorem dL_law_431 : decode cL_law 431 = .ok (.iaload, 1) := by decide +kernel
theorem dL_law_432 : decode cL_law 432 = .ok (.aload_n 0, 1) := by decide +kernel
theorem dL_law_433 : decode cL_law 433 = .ok (.iload_n 3, 1) := by decide +kernel
theorem dL_law_434 : decode cL_law 434 = .ok (.iconst 2, 1) := by decide +kernel
theorem dL_law_435 : decode cL_law 435 = .ok (.iadd, 1) := by decide +kernel
theorem dL_law_436 : decode cL_law 436 = .ok (.iaload, 1) := by decide +kernel
theorem dL_law_437 : decode cL_law 437 = .ok (.invokevirtual 60, 3) := by decide +kernel
theorem dL_law_440 : decode cL_law 440 = .ok (.if_icmp .eq 291, 3) := by decide +kernel
theorem dL_law_443 : decode cL_law 443 = .ok (.iconst 0, 1) := by decide +kernel
theorem dL_law_444 : decode cL_law 444 = .ok (.ireturn, 1) := by decide +kernel
theorem dL_law_445 : decode cL_law 445 = .ok (.aload_n 1, 1) := by decide +kernel
theorem dL_law_446 : decode cL_law 446 = .ok (.aload_n 0, 1) := by decide +kernel
theorem dL_law_447 : decode cL_law 447 = .ok (.iload_n 3, 1) := by decide +kernel
theorem dL_law_448 : decode cL_law 448 = .ok (.iconst 1, 1) := by decide +kernel
theorem dL_law_449 : decode cL_law 449 = .ok (.iadd, 1) := by decide +kernel
theorem dL_law_450 : decode cL_law 450 = .ok (.iaload, 1) := by decide +kernel
theorem dL_law_451 : decode cL_law 451 = .ok (.aload_n 0, 1) := by decide +kernel
theorem dL_law_452 : decode cL_law 452 = .ok (.iload_n 3, 1) := by decide +kernel
theorem dL_law_453 : decode cL_law 453 = .ok (.iconst 2, 1) := by decide +kernel
theorem dL_law_454 : decode cL_law 454 = .ok (.iadd, 1) := by decide +kernel
theorem dL_law_455 : decode cL_law 455 = .ok (.iaload, 1) := by decide +kernel
theorem dL_law_456 : decode cL_law 456 = .ok (.invokevirtual 61, 3) := by decide +kernel
theorem dL_law_459 : decode cL_law 459 = .ok (.aload_n 2, 1) := by decide +kernel
theorem dL_law_460 : decode cL_law 460 = .ok (.aload_n 0, 1) := by decide +kernel
theorem dL_law_461 : decode cL_law 461 = .ok (.iload_n 3, 1) := by decide +kernel
theorem dL_law_462 : decode cL_law 462 = .ok (.iconst 1, 1) := by decide +kernel
theorem dL_law_463 : decode cL_law 463 = .ok (.iadd, 1) := by decide +kernel
theorem dL_law_464 : decode cL_law 464 = .ok (.iaload, 1) := by decide +kernel
theorem dL_law_465 : decode cL_law 465 = .ok (.aload_n 0, 1) := by decide +kernel
theorem dL_law_466 : decode cL_law 466 = .ok (.iload_n 3, 1) := by decide +kernel
theorem dL_law_467 : decode cL_law 467 = .ok (.iconst 2, 1) := by decide +kernel
theorem dL_law_468 : decode cL_law 468 = .ok (.iadd, 1) := by decide +kernel
theorem dL_law_469 : decode cL_law 469 = .ok (.iaload, 1) := by decide +kernel
theorem dL_law_470 : decode cL_law 470 = .ok (.invokevirtual 64, 3) := by decide +kernel
theorem dL_law_473 : decode cL_law 473 = .ok (.if_icmp .eq 258, 3) := by decide +kernel
theorem dL_law_476 : decode cL_law 476 = .ok (.iconst 0, 1) := by decide +kernel
theorem dL_law_477 : decode cL_law 477 = .ok (.ireturn, 1) := by decide +kernel
theorem dL_law_478 : decode cL_law 478 = .ok (.aload_n 1, 1) := by decide +kernel
theorem dL_law_479 : decode cL_law 479 = .ok (.aload_n 0, 1) := by decide +kernel
theorem dL_law_480 : decode cL_law 480 = .ok (.iload_n 3, 1) := by decide +kernel
theorem dL_law_481 : decode cL_law 481 = .ok (.iconst 1, 1) := by decide +kernel
theorem dL_law_482 : decode cL_law 482 = .ok (.iadd, 1) := by decide +kernel
theorem dL_law_483 : decode cL_law 483 = .ok (.iaload, 1) := by decide +kernel
theorem dL_law_484 : decode cL_law 484 = .ok (.invokevirtual 65, 3) := by decide +kernel
theorem dL_law_487 : decode cL_law 487 = .ok (.aload_n 2, 1) := by decide +kernel
theorem dL_law_488 : decode cL_law 488 = .ok (.aload_n 0, 1) := by decide +kernel
theorem dL_law_489 : decode cL_law 489 = .ok (.iload_n 3, 1) := by decide +kernel
theorem dL_law_490 : decode cL_law 490 = .ok (.iconst 1, 1) := by decide +kernel
theorem dL_law_491 : decode cL_law 491 = .ok (.iadd, 1) := by decide +kernel
theorem dL_law_492 : decode cL_law 492 = .ok (.iaload, 1) := by decide +kernel
theorem dL_law_493 : decode cL_law 493 = .ok (.invokevirtual 68, 3) := by decide +kernel
theorem dL_law_496 : decode cL_law 496 = .ok (.if_icmp .eq 235, 3) := by decide +kernel
theorem dL_law_499 : decode cL_law 499 = .ok (.iconst 0, 1) := by decide +kernel
theorem dL_law_500 : decode cL_law 500 = .ok (.ireturn, 1) := by decide +kernel
theorem dL_law_501 : decode cL_law 501 = .ok (.aload_n 1, 1) := by decide +kernel
theorem dL_law_502 : decode cL_law 502 = .ok (.aload_n 0, 1) := by decide +kernel
theorem dL_law_503 : decode cL_law 503 = .ok (.iload_n 3, 1) := by decide +kernel
theorem dL_law_504 : decode cL_law 504 = .ok (.iconst 1, 1) := by decide +kernel
theorem dL_law_505 : decode cL_law 505 = .ok (.iadd, 1) := by decide +kernel
theorem dL_law_506 : decode cL_law 506 = .ok (.iaload, 1) := by decide +kernel
theorem dL_law_507 : decode cL_law 507 = .ok (.invokevirtual 69, 3) := by decide +kernel
theorem dL_law_510 : decode cL_law 510 = .ok (.aload_n 2, 1) := by decide +kernel
theorem dL_law_511 : decode cL_law 511 = .ok (.aload_n 0, 1) := by decide +kernel
theorem dL_law_512 : decode cL_law 512 = .ok (.iload_n 3, 1) := by decide +kernel
theorem dL_law_513 : decode cL_law 513 = .ok (.iconst 1, 1) := by decide +kernel
theorem dL_law_514 : decode cL_law 514 = .ok (.iadd, 1) := by decide +kernel
theorem dL_law_515 : decode cL_law 515 = .ok (.iaload, 1) := by decide +kernel
theorem dL_law_516 : decode cL_law 516 = .ok (.invokevirtual 72, 3) := by decide +kernel
theorem dL_law_519 : decode cL_law 519 = .ok (.if_icmp .eq 212, 3) := by decide +kernel
theorem dL_law_522 : decode cL_law 522 = .ok (.iconst 0, 1) := by decide +kernel
theorem dL_law_523 : decode cL_law 523 = .ok (.ireturn, 1) := by decide +kernel
theorem dL_law_524 : decode cL_law 524 = .ok (.aload_n 1, 1) := by decide +kernel
theorem dL_law_525 : decode cL_law 525 = .ok (.aload_n 0, 1) := by decide +kernel
theorem dL_law_526 : decode cL_law 526 = .ok (.iload_n 3, 1) := by decide +kernel
theorem dL_law_527 : decode cL_law 527 = .ok (.iconst 1, 1) := by decide +kernel
theorem dL_law_528 : decode cL_law 528 = .ok (.iadd, 1) := by decide +kernel
theorem dL_law_529 : decode cL_law 529 = .ok (.iaload, 1) := by decide +kernel
theorem dL_law_530 : decode cL_law 530 = .ok (.invokevirtual 73, 3) := by decide +kernel
theorem dL_law_533 : decode cL_law 533 = .ok (.aload_n 2, 1) := by decide +kernel
theorem dL_law_534 : decode cL_law 534 = .ok (.aload_n 0, 1) := by decide +kernel
theorem dL_law_535 : decode cL_law 535 = .ok (.iload_n 3, 1) := by decide +kernel
theorem dL_law_536 : decode cL_law 536 = .ok (.iconst 1, 1) := by decide +kernel
theorem dL_law_537 : decode cL_law 537 = .ok (.iadd, 1) := by decide +kernel
theorem dL_law_538 : decode cL_law 538 = .ok (.iaload, 1) := by decide +kernel
theorem dL_law_539 : decode cL_law 539 = .ok (.invokevirtual 76, 3) := by decide +kernel
theorem dL_law_542 : decode cL_law 542 = .ok (.if_icmp .eq 189, 3) := by decide +kernel
theorem dL_law_545 : decode cL_law 545 = .ok (.iconst 0, 1) := by decide +kernel
theorem dL_law_546 : decode cL_law 546 = .ok (.ireturn, 1) := by decide +kernel
theorem dL_law_547 : decode cL_law 547 = .ok (.aload_n 1, 1) := by decide +kernel
theorem dL_law_548 : decode cL_law 548 = .ok (.aload_n 0, 1) := by decide +kernel
theorem dL_law_549 : decode cL_law 549 = .ok (.iload_n 3, 1) := by decide +kernel
theorem dL_law_550 : decode cL_law 550 = .ok (.iconst 1, 1) := by decide +kernel
theorem dL_law_551 : decode cL_law 551 = .ok (.iadd, 1) := by decide +kernel
theorem dL_law_552 : decode cL_law 552 = .ok (.iaload, 1) := by decide +kernel
theorem dL_law_553 : decode cL_law 553 = .ok (.aload_n 0, 1) := by decide +kernel
theorem dL_law_554 : decode cL_law 554 = .ok (.iload_n 3, 1) := by decide +kernel
theorem dL_law_555 : decode cL_law 555 = .ok (.iconst 2, 1) := by decide +kernel
theorem dL_law_556 : decode cL_law 556 = .ok (.iadd, 1) := by decide +kernel
theorem dL_law_557 : decode cL_law 557 = .ok (.iaload, 1) := by decide +kernel
theorem dL_law_558 : decode cL_law 558 = .ok (.aload_n 0, 1) := by decide +kernel
theorem dL_law_559 : decode cL_law 559 = .ok (.iload_n 3, 1) := by decide +kernel
theorem dL_law_560 : decode cL_law 560 = .ok (.iconst 3, 1) := by decide +kernel
theorem dL_law_561 : decode cL_law 561 = .ok (.iadd, 1) := by decide +kernel
theorem dL_law_562 : decode cL_law 562 = .ok (.iaload, 1) := by decide +kernel
theorem dL_law_563 : decode cL_law 563 = .ok (.invokevirtual 77, 3) := by decide +kernel
theorem dL_law_566 : decode cL_law 566 = .ok (.aload_n 2, 1) := by decide +kernel
theorem dL_law_567 : decode cL_law 567 = .ok (.aload_n 0, 1) := by decide +kernel
theorem dL_law_568 : decode cL_law 568 = .ok (.iload_n 3, 1) := by decide +kernel
theorem dL_law_569 : decode cL_law 569 = .ok (.iconst 1, 1) := by decide +kernel
theorem dL_law_570 : decode cL_law 570 = .ok (.iadd, 1) := by decide +kernel
theorem dL_law_571 : decode cL_law 571 = .ok (.iaload, 1) := by decide +kernel
theorem dL_law_572 : decode cL_law 572 = .ok (.aload_n 0, 1) := by decide +kernel
theorem dL_law_573 : decode cL_law 573 = .ok (.iload_n 3, 1) := by decide +kernel
theorem dL_law_574 : decode cL_law 574 = .ok (.iconst 2, 1) := by decide +kernel
theorem dL_law_575 : decode cL_law 575 = .ok (.iadd, 1) := by decide +kernel
theorem dL_law_576 : decode cL_law 576 = .ok (.iaload, 1) := by decide +kernel
theorem dL_law_577 : decode cL_law 577 = .ok (.aload_n 0, 1) := by decide +kernel
theorem dL_law_578 : decode cL_law 578 = .ok (.iload_n 3, 1) := by decide +kernel
theorem dL_law_579 : decode cL_law 579 = .ok (.iconst 3, 1) := by decide +kernel
theorem dL_law_580 : decode cL_law 580 = .ok (.iadd, 1) := by decide +kernel
theorem dL_law_581 : decode cL_law 581 = .ok (.iaload, 1) := by decide +kernel
theorem dL_law_582 : decode cL_law 582 = .ok (.invokevirtual 81, 3) := by decide +kernel
theorem dL_law_585 : decode cL_law 585 = .ok (.if_icmp .eq 146, 3) := by decide +kernel
theorem dL_law_588 : decode cL_law 588 = .ok (.iconst 0, 1) := by decide +kernel
theorem dL_law_589 : decode cL_law 589 = .ok (.ireturn, 1) := by decide +kernel
theorem dL_law_590 : decode cL_law 590 = .ok (.aload_n 1, 1) := by decide +kernel
theorem dL_law_591 : decode cL_law 591 = .ok (.aload_n 0, 1) := by decide +kernel
theorem dL_law_592 : decode cL_law 592 = .ok (.iload_n 3, 1) := by decide +kernel
theorem dL_law_593 : decode cL_law 593 = .ok (.iconst 1, 1) := by decide +kernel
theorem dL_law_594 : decode cL_law 594 = .ok (.iadd, 1) := by decide +kernel
theorem dL_law_595 : decode cL_law 595 = .ok (.iaload, 1) := by decide +kernel
theorem dL_law_596 : decode cL_law 596 = .ok (.aload_n 0, 1) := by decide +kernel
theorem dL_law_597 : decode cL_law 597 = .ok (.iload_n 3, 1) := by decide +kernel
theorem dL_law_598 : decode cL_law 598 = .ok (.iconst 2, 1) := by decide +kernel
theorem dL_law_599 : decode cL_law 599 = .ok (.iadd, 1) := by decide +kernel
theorem dL_law_600 : decode cL_law 600 = .ok (.iaload, 1) := by decide +kernel
theorem dL_law_601 : decode cL_law 601 = .ok (.aload_n 0, 1) := by decide +kernel
theorem dL_law_602 : decode cL_law 602 = .ok (.iload_n 3, 1) := by decide +kernel
theorem dL_law_603 : decode cL_law 603 = .ok (.iconst 3, 1) := by decide +kernel
theorem dL_law_604 : decode cL_law 604 = .ok (.iadd, 1) := by decide +kernel
theorem dL_law_605 : decode cL_law 605 = .ok (.iaload, 1) := by decide +kernel
theorem dL_law_606 : decode cL_law 606 = .ok (.ifCond .eq 7, 3) := by decide +kernel
theorem dL_law_609 : decode cL_law 609 = .ok (.iconst 1, 1) := by decide +kernel
theorem dL_law_610 : decode cL_law 610 = .ok (.goto 4, 3) := by decide +kernel
theorem dL_law_613 : decode cL_law 613 = .ok (.iconst 0, 1) := by decide +kernel
theorem dL_law_614 : decode cL_law 614 = .ok (.invokevirtual 82, 3) := by decide +kernel
theorem dL_law_617 : decode cL_law 617 = .ok (.aload_n 2, 1) := by decide +kernel
theorem dL_law_618 : decode cL_law 618 = .ok (.aload_n 0, 1) := by decide +kernel
theorem dL_law_619 : decode cL_law 619 = .ok (.iload_n 3, 1) := by decide +kernel
theorem dL_law_620 : decode cL_law 620 = .ok (.iconst 1, 1) := by decide +kernel
theorem dL_law_621 : decode cL_law 621 = .ok (.iadd, 1) := by decide +kernel
theorem dL_law_622 : decode cL_law 622 = .ok (.iaload, 1) := by decide +kernel
theorem dL_law_623 : decode cL_law 623 = .ok (.aload_n 0, 1) := by decide +kernel
theorem dL_law_624 : decode cL_law 624 = .ok (.iload_n 3, 1) := by decide +kernel
theorem dL_law_625 : decode cL_law 625 = .ok (.iconst 2, 1) := by decide +kernel
theorem dL_law_626 : decode cL_law 626 = .ok (.iadd, 1) := by decide +kernel
theorem dL_law_627 : decode cL_law 627 = .ok (.iaload, 1) := by decide +kernel
theorem dL_law_628 : decode cL_law 628 = .ok (.aload_n 0, 1) := by decide +kernel
theorem dL_law_629 : decode cL_law 629 = .ok (.iload_n 3, 1) := by decide +kernel
theorem dL_law_630 : decode cL_law 630 = .ok (.iconst 3, 1) := by decide +kernel
theorem dL_law_631 : decode cL_law 631 = .ok (.iadd, 1) := by decide +kernel
theorem dL_law_632 : decode cL_law 632 = .ok (.iaload, 1) := by decide +kernel
theorem dL_law_633 : decode cL_law 633 = .ok (.ifCond .eq 7, 3) := by decide +kernel
theorem dL_law_636 : decode cL_law 636 = .ok (.iconst 1, 1) := by decide +kernel
theorem dL_law_637 : decode cL_law 637 = .ok (.goto 4, 3) := by decide +kernel
theorem dL_law_640 : decode cL_law 640 = .ok (.iconst 0, 1) := by decide +kernel
theorem dL_law_641 : decode cL_law 641 = .ok (.invokevirtual 86, 3) := by decide +kernel
theorem dL_law_644 : decode cL_law 644 = .ok (.if_icmp .eq 87, 3) := by decide +kernel
theorem dL_law_647 : decode cL_law 647 = .ok (.iconst 0, 1) := by decide +kernel
theorem dL_law_648 : decode cL_law 648 = .ok (.ireturn, 1) := by decide +kernel
theorem dL_law_649 : decode cL_law 649 = .ok (.aload_n 1, 1) := by decide +kernel
theorem dL_law_650 : decode cL_law 650 = .ok (.invokevirtual 87, 3) := by decide +kernel
theorem dL_law_653 : decode cL_law 653 = .ok (.aload_n 2, 1) := by decide +kernel
theorem dL_law_654 : decode cL_law 654 = .ok (.invokevirtual 90, 3) := by decide +kernel
theorem dL_law_657 : decode cL_law 657 = .ok (.if_icmp .eq 74, 3) := by decide +kernel
theorem dL_law_660 : decode cL_law 660 = .ok (.iconst 0, 1) := by decide +kernel
theorem dL_law_661 : decode cL_law 661 = .ok (.ireturn, 1) := by decide +kernel
theorem dL_law_662 : decode cL_law 662 = .ok (.aload_n 1, 1) := by decide +kernel
theorem dL_law_663 : decode cL_law 663 = .ok (.aload_n 0, 1) := by decide +kernel
theorem dL_law_664 : decode cL_law 664 = .ok (.iload_n 3, 1) := by decide +kernel
theorem dL_law_665 : decode cL_law 665 = .ok (.iconst 1, 1) := by decide +kernel
theorem dL_law_666 : decode cL_law 666 = .ok (.iadd, 1) := by decide +kernel
theorem dL_law_667 : decode cL_law 667 = .ok (.iaload, 1) := by decide +kernel
theorem dL_law_668 : decode cL_law 668 = .ok (.invokevirtual 91, 3) := by decide +kernel
theorem dL_law_671 : decode cL_law 671 = .ok (.aload_n 2, 1) := by decide +kernel
theorem dL_law_672 : decode cL_law 672 = .ok (.aload_n 0, 1) := by decide +kernel
theorem dL_law_673 : decode cL_law 673 = .ok (.iload_n 3, 1) := by decide +kernel
theorem dL_law_674 : decode cL_law 674 = .ok (.iconst 1, 1) := by decide +kernel
theorem dL_law_675 : decode cL_law 675 = .ok (.iadd, 1) := by decide +kernel
theorem dL_law_676 : decode cL_law 676 = .ok (.iaload, 1) := by decide +kernel
theorem dL_law_677 : decode cL_law 677 = .ok (.invokevirtual 94, 3) := by decide +kernel
theorem dL_law_680 : decode cL_law 680 = .ok (.if_icmp .eq 51, 3) := by decide +kernel
theorem dL_law_683 : decode cL_law 683 = .ok (.iconst 0, 1) := by decide +kernel
theorem dL_law_684 : decode cL_law 684 = .ok (.ireturn, 1) := by decide +kernel
theorem dL_law_685 : decode cL_law 685 = .ok (.aload_n 1, 1) := by decide +kernel
theorem dL_law_686 : decode cL_law 686 = .ok (.aload_n 0, 1) := by decide +kernel
theorem dL_law_687 : decode cL_law 687 = .ok (.iload_n 3, 1) := by decide +kernel
theorem dL_law_688 : decode cL_law 688 = .ok (.iconst 1, 1) := by decide +kernel
theorem dL_law_689 : decode cL_law 689 = .ok (.iadd, 1) := by decide +kernel
theorem dL_law_690 : decode cL_law 690 = .ok (.iaload, 1) := by decide +kernel
theorem dL_law_691 : decode cL_law 691 = .ok (.invokevirtual 95, 3) := by decide +kernel
theorem dL_law_694 : decode cL_law 694 = .ok (.aload_n 2, 1) := by decide +kernel
theorem dL_law_695 : decode cL_law 695 = .ok (.aload_n 0, 1) := by decide +kernel
theorem dL_law_696 : decode cL_law 696 = .ok (.iload_n 3, 1) := by decide +kernel
theorem dL_law_697 : decode cL_law 697 = .ok (.iconst 1, 1) := by decide +kernel
theorem dL_law_698 : decode cL_law 698 = .ok (.iadd, 1) := by decide +kernel
theorem dL_law_699 : decode cL_law 699 = .ok (.iaload, 1) := by decide +kernel
theorem dL_law_700 : decode cL_law 700 = .ok (.invokevirtual 98, 3) := by decide +kernel
theorem dL_law_703 : decode cL_law 703 = .ok (.if_icmp .eq 28, 3) := by decide +kernel
theorem dL_law_706 : decode cL_law 706 = .ok (.iconst 0, 1) := by decide +kernel
theorem dL_law_707 : decode cL_law 707 = .ok (.ireturn, 1) := by decide +kernel
theorem dL_law_708 : decode cL_law 708 = .ok (.aload_n 1, 1) := by decide +kernel
theorem dL_law_709 : decode cL_law 709 = .ok (.aload_n 0, 1) := by decide +kernel
theorem dL_law_710 : decode cL_law 710 = .ok (.iload_n 3, 1) := by decide +kernel
theorem dL_law_711 : decode cL_law 711 = .ok (.iconst 1, 1) := by decide +kernel
theorem dL_law_712 : decode cL_law 712 = .ok (.iadd, 1) := by decide +kernel
theorem dL_law_713 : decode cL_law 713 = .ok (.iaload, 1) := by decide +kernel
theorem dL_law_714 : decode cL_law 714 = .ok (.invokevirtual 99, 3) := by decide +kernel
theorem dL_law_717 : decode cL_law 717 = .ok (.aload_n 2, 1) := by decide +kernel
theorem dL_law_718 : decode cL_law 718 = .ok (.aload_n 0, 1) := by decide +kernel
theorem dL_law_719 : decode cL_law 719 = .ok (.iload_n 3, 1) := by decide +kernel
theorem dL_law_720 : decode cL_law 720 = .ok (.iconst 1, 1) := by decide +kernel
theorem dL_law_721 : decode cL_law 721 = .ok (.iadd, 1) := by decide +kernel
theorem dL_law_722 : decode cL_law 722 = .ok (.iaload, 1) := by decide +kernel
theorem dL_law_723 : decode cL_law 723 = .ok (.invokevirtual 102, 3) := by decide +kernel
theorem dL_law_726 : decode cL_law 726 = .ok (.if_icmp .eq 5, 3) := by decide +kernel
theorem dL_law_729 : decode cL_law 729 = .ok (.iconst 0, 1) := by decide +kernel
theorem dL_law_730 : decode cL_law 730 = .ok (.ireturn, 1) := by decide +kernel
theorem dL_law_731 : decode cL_law 731 = .ok (.iinc 3 5, 3) := by decide +kernel
theorem dL_law_734 : decode cL_law 734 = .ok (.goto (-716), 3) := by decide +kernel
theorem dL_law_737 : decode cL_law 737 = .ok (.iconst 1, 1) := by decide +kernel
theorem dL_law_738 : decode cL_law 738 = .ok (.ireturn, 1) := by decide +kernel
end
section
/-! The one world: n cells from address b on, by their shapes (sh), their ints and longs (σ). -/
/-- the words that stay good at a call -/
def gt : List Cond := lw_tbl.filter goodWord
theorem gt_mem {w : Cond} (i : Nat) (h : lw_tbl[i]? = some w) (g : goodWord w = true) : w ∈ gt := List.mem_filter.mpr ⟨List.mem_of_getElem? h, g⟩
theorem gt_good {w : Cond} (h : w ∈ gt) : goodWord w = true := (List.mem_filter.mp h).2
abbrev Sg : Type := (Nat → Nat → Int32) × (Nat → Nat → Int64)
def u2 {α : Type} (f : Nat → Nat → α) (k j : Nat) (v : α) : Nat → Nat → α := fun a i => if a = k ∧ i = j then v else f a i
theorem u2_eq {α : Type} (f : Nat → Nat → α) (k j : Nat) (v : α) : u2 f k j v k j = v := if_pos ⟨rfl, rfl⟩
theorem u2_k {α : Type} {f : Nat → Nat → α} {k j a i : Nat} {v : α} (h : a ≠ k) : u2 f k j v a i = f a i := if_neg (fun q => h q.1)
theorem u2_j {α : Type} {f : Nat → Nat → α} {k j a i : Nat} {v : α} (h : i ≠ j) : u2 f k j v a i = f a i := if_neg (fun q => h q.2)
/-- an object: its number among the kinds, and for each slot 0 int, 1 long, 2 null, p + 3 the cell at place p; a row: kind, length, for rows of cells 0 null, p + 1 the cell at place p -/
abbrev Shp : Type := (Nat × List Nat) ⊕ (Nat × Nat × List Nat)
def cv (b : Nat) (σ : Sg) (k : Nat) (j q : Nat) : Value := if q = 0 then .int (σ.1 k j) else if q = 1 then .long (σ.2 k j) else if q = 2 then .null else .ref (b + (q - 3))
def rfs (b : Nat) (rs : List Nat) (j : Nat) : Option Nat := if rs.getD j 0 = 0 then none else some (b + (rs.getD j 0 - 1))
def ra (b : Nat) (σ : Sg) (k t : Nat) (rs : List Nat) : (Nat → Int32) ⊕ (Nat → Int64) ⊕ (Nat → UInt32) ⊕ (Nat → UInt64) ⊕ (Nat → Option Nat) :=
  if t = 0 ∨ t = 2 then .inl (σ.1 k) else if t = 1 then .inr (.inl (σ.2 k)) else .inr (.inr (.inr (.inr (rfs b rs))))
def ce (b : Nat) (cy : Nat → ClassId) (sh : Nat → Shp) (σ : Sg) (k : Nat) : va_E := match sh k with
  | .inl o => .inr (o.1, o.2.mapIdx (cv b σ k))
  | .inr r => .inl (cy r.1, r.2.1, ra b σ k r.1 r.2.2)
def wl (b : Nat) (cy : Nat → ClassId) (sh : Nat → Shp) (n : Nat) (σ : Sg) : va_W := (List.range n).map (fun k => (b + k, ce b cy sh σ k))
theorem wl_at {b : Nat} {cy : Nat → ClassId} {sh : Nat → Shp} {n : Nat} {σ : Sg} {k : Nat} (h : k < n) : (wl b cy sh n σ)[k]? = some (b + k, ce b cy sh σ k) := by
  simp [wl, h]
theorem wl_len {b : Nat} {cy : Nat → ClassId} {sh : Nat → Shp} {n : Nat} {σ : Sg} : (wl b cy sh n σ).length = n := by simp [wl]
theorem wl_D {b : Nat} {cy : Nat → ClassId} {sh : Nat → Shp} {n : Nat} {σ : Sg} : va_D (fun q => b ≤ q) (wl b cy sh n σ) := by
  have key : ∀ (i : Nat) (p : Nat × va_E), (wl b cy sh n σ)[i]? = some p → p.1 = b + i := by
    intro i p h
    have hl : i < n := by
      have := (List.getElem?_eq_some_iff.mp h).1
      rwa [wl_len] at this
    rw [wl_at hl] at h
    rw [← Option.some.inj h]
  refine ⟨fun i j p q h1 h2 e => ?_, fun k q h => ?_⟩
  · have e1 := key i p h1
    have e2 := key j q h2
    omega
  · have e1 := key k q h
    show b ≤ q.1
    omega
theorem wl_set {b : Nat} {cy : Nat → ClassId} {sh sh' : Nat → Shp} {n : Nat} {σ σ' : Sg} {k : Nat} {e : va_E} (h : k < n) (he : ce b cy sh' σ' k = e) (ho : ∀ a, a ≠ k → ce b cy sh' σ' a = ce b cy sh σ a) : (wl b cy sh n σ).set k (b + k, e) = wl b cy sh' n σ' := by
  apply List.ext_getElem?
  intro i
  rw [List.getElem?_set]
  by_cases hi : i < n
  · rw [wl_at hi, wl_at hi]
    by_cases hk : k = i
    · subst hk
      rw [if_pos rfl, if_pos (by rw [wl_len]; exact h), he]
    · rw [if_neg hk, ho i (fun q => hk q.symm)]
  · have h1 : (wl b cy sh n σ)[i]? = none := by rw [List.getElem?_eq_none_iff, wl_len]; omega
    have h2 : (wl b cy sh' n σ')[i]? = none := by rw [List.getElem?_eq_none_iff, wl_len]; omega
    rw [h1, h2, if_neg (by omega)]
theorem wl_push {b : Nat} {cy : Nat → ClassId} {sh sh' : Nat → Shp} {n : Nat} {σ σ' : Sg} {e : va_E} (he : ce b cy sh' σ' n = e) (ho : ∀ a, a < n → ce b cy sh' σ' a = ce b cy sh σ a) : wl b cy sh n σ ++ [(b + n, e)] = wl b cy sh' (n + 1) σ' := by
  apply List.ext_getElem?
  intro i
  by_cases hi : i < n
  · rw [List.getElem?_append_left (by rw [wl_len]; exact hi), wl_at hi, wl_at (by omega), ho i hi]
  · rw [List.getElem?_append_right (by rw [wl_len]; omega), wl_len]
    by_cases h2 : i = n
    · subst h2
      rw [wl_at (by omega), he]
      simp
    · have h3 : (wl b cy sh' (n + 1) σ')[i]? = none := by rw [List.getElem?_eq_none_iff, wl_len]; omega
      rw [h3, List.getElem?_eq_none_iff]
      simp
      omega
/-- the kinds of rows -/
def tyl (cy : Nat → ClassId) : List (ClassId × FieldType) := [(cy 0, .int), (cy 1, .long), (cy 2, .boolean), (cy 3, .object RX5), (cy 4, .object RX3), (cy 5, .object RX1)]
/-- links to private fields of another one of the nest -/
def nestW : List Cond := lw_tbl.filter (fun w => match w with | .fieldLinkNest .. => true | _ => false)
def nestM : List Cond := lw_tbl.filter (fun w => match w with | .methodLinkNest .. => true | _ => false)
abbrev sTx : List (List Int32) := [[82, 76, 114, 108, 83, 115]]
def Kst (b : Nat) (U : State) : Prop := ∃ aS aV : Nat, vk_S 1 [6] sTx (fun _ => aS) (fun _ => aV) (fun q => b ≤ q) U U.heap ∧ vk_R RX10 245 "RLrlSs" aS U ∧
  va_Z "java/lang/String" "COMPACT_STRINGS" "Z" (.int 1) (fun q => b ≤ q) U U.heap ∧ va_Zq "jdk/internal/util/Preconditions" "SIOOBE_FORMATTER" "Ljava/util/function/BiFunction;" (fun q => b ≤ q) U U.heap
def Kx (b : Nat) (cy : Nat → ClassId) (D : va_G) (U : State) : Prop := va_K D vwCl (tyl cy) U ∧ (∀ w ∈ nestW, va_Nw w U) ∧ (∀ w ∈ nestM, va_Nw w U) ∧ (va_AO RX5 U ∧ va_AO RX3 U ∧ va_AO RX1 U) ∧ Kst b U
/-- how many cells there are once all is made; until then the heap ends with the last one -/
def NP : Nat := 172
def Wd (b : Nat) (cy : Nat → ClassId) (D : va_G) (sh : Nat → Shp) (n : Nat) (σ : Sg) (H : Heap) : Prop := (n < NP → H.size = b + n) ∧ va_P D vwCl (wl b cy sh n σ) H
theorem Wd.le {b : Nat} {cy : Nat → ClassId} {D : va_G} {sh : Nat → Shp} {n : Nat} {σ : Sg} {H : Heap} (h : Wd b cy D sh n σ H) : b ≤ H.size := by
  by_cases h0 : n = 0
  · have := h.1 (by rw [h0]; decide)
    omega
  · have := (h.2 0 _ (wl_at (by omega))).lt
    have h2 : b + 0 < H.size := this
    omega
theorem Kst.go {b : Nat} {s U : State} (hW : s.WarmedH U.vm) (hq : ∀ a : Nat, a < s.heap.size → ¬ b ≤ a → U.heap[a]? = s.heap[a]?) (h : Kst b s) : Kst b U := by
  obtain ⟨aS, aV, h1, h2, h3, h4⟩ := h
  exact ⟨aS, aV, (h1.moved hW.alike).kept hq, h2.warm hW, (h3.moved hW.alike).kept hq, (h4.moved hW.alike).kept hq⟩
theorem Kst.same {b : Nat} {s U : State} (hv : s.vm = U.vm) (hh : U.heap = s.heap) (h : Kst b s) : Kst b U := by
  obtain ⟨aS, aV, h1, h2, h3, h4⟩ := h
  have ha : s.vm.Alike U.vm := hv ▸ Vm.Alike.refl s.vm
  refine ⟨aS, aV, ?_, vk_R.same hv.symm h2, ?_, ?_⟩
  · rw [hh]; exact h1.moved ha
  · rw [hh]; exact h3.moved ha
  · rw [hh]; exact h4.moved ha
theorem Kx.go {b : Nat} {cy : Nat → ClassId} {D : va_G} {s U : State} (hW : s.WarmedH U.vm) (hq : ∀ a : Nat, a < s.heap.size → ¬ b ≤ a → U.heap[a]? = s.heap[a]?) (h : Kx b cy D s) : Kx b cy D U := by
  obtain ⟨h1, h2, h3, ⟨h4, h5, h6⟩, h7⟩ := h
  refine ⟨h1.moved hW.alike, fun w hw => ?_, fun w hw => ?_, ⟨h4.moved hW.alike, h5.moved hW.alike, h6.moved hW.alike⟩, h7.go hW hq⟩
  · have hz := h2 w hw
    have hk := (List.mem_filter.mp hw).2
    cases w <;> first | exact hz.warmF hW | exact absurd hk Bool.false_ne_true
  · have hz := h3 w hw
    have hk := (List.mem_filter.mp hw).2
    cases w <;> first | exact hz.warmM hW | exact absurd hk Bool.false_ne_true
theorem Kx.same {b : Nat} {cy : Nat → ClassId} {D : va_G} {s U : State} (hv : s.vm = U.vm) (hh : U.heap = s.heap) (h : Kx b cy D s) : Kx b cy D U := by
  obtain ⟨h1, h2, h3, ⟨h4, h5, h6⟩, h7⟩ := h
  have ha : s.vm.Alike U.vm := hv ▸ Vm.Alike.refl s.vm
  refine ⟨h1.moved ha, fun w hw => ?_, fun w hw => ?_, ⟨h4.moved ha, h5.moved ha, h6.moved ha⟩, h7.same hv hh⟩
  · have hz := h2 w hw
    have hk := (List.mem_filter.mp hw).2
    exact va_Nw.same (by cases w <;> first | rfl | exact absurd hk Bool.false_ne_true) hv hz
  · have hz := h3 w hw
    have hk := (List.mem_filter.mp hw).2
    exact va_Nw.same (by cases w <;> first | rfl | exact absurd hk Bool.false_ne_true) hv hz
/-- the end of a method: its answer, the world behind it -/
abbrev Zt : Type := Option Value × (Nat → Shp) × Nat × Sg
def Qx (b : Nat) (cy : Nat → ClassId) (D : va_G) (Z : Zt) : Array Value → State → Outcome → State → Prop := fun _ st oc t => oc = .returned Z.1 ∧ Wd b cy D Z.2.1 Z.2.2.1 Z.2.2.2 t.heap ∧ va_F (fun q => b ≤ q) st t
def Px (b : Nat) (cy : Nat → ClassId) (D : va_G) (av : List Value) (sh : Nat → Shp) (n : Nat) (σ : Sg) : Array Value → State → Prop := fun v U => v = av.toArray ∧ Kx b cy D U ∧ Wd b cy D sh n σ U.heap
/-- a method called with av in the world sh, n, σ ends as Z says -/
def Ev (l : Launch) (b : Nat) (cy : Nat → ClassId) (D : va_G) (R : Room) (y : MethodName) (cc : ByteArray) (ret : Option FieldType) (nL mc ms : Nat) (av : List Value) (sh : Nat → Shp) (n : Nat) (σ : Sg) (Z : Zt) : Prop :=
  Met l y (Cond.code y cc nL ret :: gt) R (Px b cy D av sh n σ) (Qx b cy D Z) mc ms (fun q => b ≤ q)
/-- the method y, at pc with locals lv and stack st in the world sh, n, σ, comes to the end Z -/
def G (l : Launch) (b : Nat) (cy : Nat → ClassId) (D : va_G) (R : Room) (y : MethodName) (cc : ByteArray) (ret : Option FieldType) (nL mc ms : Nat) (Z : Zt) (pc : Nat) (lv : List (Nat × Value)) (st : List Value) (kc ks : Nat) (sh : Nat → Shp) (n : Nat) (σ : Sg) : Prop :=
  ∀ ⦃p : Program⦄ ⦃e : Env⦄ ⦃s : State⦄ ⦃m : MethodId⦄ ⦃args : Array Value⦄ ⦃below : List Frame⦄ ⦃meth : Method⦄ ⦃c : Code⦄ ⦃H : Heap⦄ ⦃locs : List Loc⦄ ⦃ls : Array Slot⦄,
    p.tables.exec = Jvm.exec → c.code = cc → meth.sig.returnType = ret → c.maxLocals = nL → s.vm.findClass y.cls = some m.cls → (∀ w ∈ gt, w.before args s = true) → meth.locks = false → meth.name = y.name → Kx b cy D s → b ≤ s.heap.size →
    Wd b cy D sh n σ H → va_S (fun q => b ≤ q) s.heap H locs → lv_has ls nL lv →
    W p l e R s m args below meth c H locs kc ks (MQ below (Qx b cy D Z) args s mc ms (fun q => b ≤ q)) (F0 m pc ls st)
set_option maxRecDepth 20000 in
theorem Ev.of {l : Launch} {b : Nat} {cy : Nat → ClassId} {D : va_G} {R : Room} {y : MethodName} {cc : ByteArray} {ret : Option FieldType} {nL mc ms : Nat} {av : List Value} {lv : List (Nat × Value)} {sh : Nat → Shp} {n : Nat} {σ : Sg} {Z : Zt} (hy : plainName y.cls = true) (hav : (lg_sl av).length ≤ nL) (hlv : lv_args 0 av = lv)
    (g : G l b cy D R y cc ret nL mc ms Z 0 lv [] 0 0 sh n σ) : Ev l b cy D R y cc ret nL mc ms av sh n σ Z := by
  refine Met.ofW (cc := cc) (maxL := nL) (ret := ret) hy rfl ?_
  intro p e s m args below meth c s₁ B hml hv
  obtain ⟨rfl, hK, hW⟩ := hv
  have hts := atoms_spec (ws := Cond.code y cc nL ret :: gt) B.pre
  have hl := lv_entry av (n := nL) hav
  rw [hlv] at hl
  rw [lg_entry_eq]
  generalize (lg_sl av ++ List.replicate (nL - (lg_sl av).length) Slot.unset).toArray = ls at hl ⊢
  exact g B.exec B.bytes B.returns hml (findClass_of_methodNamed B.named) (fun w hw => hts w (List.mem_cons_of_mem _ hw)) B.notSynchronized (name_of_methodNamed B.named B.method).1 hK hW.le hW va_S.rf hl
/-- a place that holds an object, a row -/
def isO (sh : Nat → Shp) (n k ci : Nat) (q : List Nat) : Prop := k < n ∧ sh k = .inl (ci, q)
def isR (sh : Nat → Shp) (n k t z : Nat) (q : List Nat) : Prop := k < n ∧ sh k = .inr (t, z, q)
theorem ce_o {b : Nat} {cy : Nat → ClassId} {sh : Nat → Shp} {n k ci : Nat} {q : List Nat} (σ : Sg) (h : isO sh n k ci q) : ce b cy sh σ k = .inr (ci, q.mapIdx (cv b σ k)) := by
  unfold ce; rw [h.2]
theorem ce_r {b : Nat} {cy : Nat → ClassId} {sh : Nat → Shp} {n k t z : Nat} {q : List Nat} (σ : Sg) (h : isR sh n k t z q) : ce b cy sh σ k = .inl (cy t, z, ra b σ k t q) := by
  unfold ce; rw [h.2]
theorem wl_o {b : Nat} {cy : Nat → ClassId} {sh : Nat → Shp} {n k ci : Nat} {q : List Nat} (σ : Sg) (h : isO sh n k ci q) : (wl b cy sh n σ)[k]? = some (b + k, .inr (ci, q.mapIdx (cv b σ k))) := by rw [wl_at h.1, ce_o σ h]
theorem wl_r {b : Nat} {cy : Nat → ClassId} {sh : Nat → Shp} {n k t z : Nat} {q : List Nat} (σ : Sg) (h : isR sh n k t z q) : (wl b cy sh n σ)[k]? = some (b + k, .inl (cy t, z, ra b σ k t q)) := by rw [wl_at h.1, ce_r σ h]
/-- another place is not touched by a change at place k -/
theorem ce_ne1 {b : Nat} {cy : Nat → ClassId} {sh : Nat → Shp} {σ : Sg} {k j a : Nat} {v : Int32} (h : a ≠ k) : ce b cy sh (u2 σ.1 k j v, σ.2) a = ce b cy sh σ a := by
  have e : u2 σ.1 k j v a = σ.1 a := funext fun i => u2_k h
  unfold ce
  cases sh a with
  | inl o =>
    have : cv b (u2 σ.1 k j v, σ.2) a = cv b σ a := by funext i q; simp only [cv, e]
    simp only [this]
  | inr r => simp only [ra, e]
theorem ce_ne2 {b : Nat} {cy : Nat → ClassId} {sh : Nat → Shp} {σ : Sg} {k j a : Nat} {v : Int64} (h : a ≠ k) : ce b cy sh (σ.1, u2 σ.2 k j v) a = ce b cy sh σ a := by
  have e : u2 σ.2 k j v a = σ.2 a := funext fun i => u2_k h
  unfold ce
  cases sh a with
  | inl o =>
    have : cv b (σ.1, u2 σ.2 k j v) a = cv b σ a := by funext i q; simp only [cv, e]
    simp only [this]
  | inr r => simp only [ra, e]
theorem mi_get {b : Nat} {σ : Sg} {k j c : Nat} {q : List Nat} (h : q[j]? = some c) : (q.mapIdx (cv b σ k))[j]? = some (cv b σ k j c) := by rw [List.getElem?_mapIdx, h]; rfl
theorem mi_set1 {b : Nat} {σ : Sg} {k j : Nat} {q : List Nat} {v : Int32} (h : q[j]? = some 0) : (q.mapIdx (cv b σ k)).set j (.int v) = q.mapIdx (cv b (u2 σ.1 k j v, σ.2) k) := by
  apply List.ext_getElem?
  intro i
  rw [List.getElem?_set, List.getElem?_mapIdx, List.getElem?_mapIdx, List.length_mapIdx]
  by_cases e : j = i
  · subst e
    rw [if_pos rfl, if_pos (List.getElem?_eq_some_iff.mp h).1, h]
    simp [cv, u2]
  · rw [if_neg e]
    cases hq : q[i]? with
    | none => rfl
    | some c =>
      have e' : ¬ i = j := fun z => e z.symm
      simp [cv, u2, e']
theorem mi_set2 {b : Nat} {σ : Sg} {k j : Nat} {q : List Nat} {v : Int64} (h : q[j]? = some 1) : (q.mapIdx (cv b σ k)).set j (.long v) = q.mapIdx (cv b (σ.1, u2 σ.2 k j v) k) := by
  apply List.ext_getElem?
  intro i
  rw [List.getElem?_set, List.getElem?_mapIdx, List.getElem?_mapIdx, List.length_mapIdx]
  by_cases e : j = i
  · subst e
    rw [if_pos rfl, if_pos (List.getElem?_eq_some_iff.mp h).1, h]
    simp [cv, u2]
  · rw [if_neg e]
    cases hq : q[i]? with
    | none => rfl
    | some c =>
      have e' : ¬ i = j := fun z => e z.symm
      simp [cv, u2, e']
/-- what the tables say of the kinds -/
def tyOf (ci : Nat) : Nat → FieldType := [tyX0, tyX1, tyX2, tyX3, tyX4, tyX5, tyX6, tyX7, tyX8, tyX9, tyX10, tyX11].getD ci tyX0
theorem cl_in : ∀ q ∈ vwCl, ∀ w ∈ u_ws q.1 q.2.1 q.2.2, w ∈ gt := by
  have h : ∀ q ∈ vwCl, (u_ws q.1 q.2.1 q.2.2).all (fun w => lw_tbl.contains w && goodWord w) = true := by decide +kernel
  intro q hq w hw
  have h1 := List.all_eq_true.mp (h q hq) w hw
  rw [Bool.and_eq_true] at h1
  exact List.mem_filter.mpr ⟨List.contains_iff_mem.mp h1.1, h1.2⟩
theorem cl_ty : ∀ ci, ci < 12 → ∀ q, vwCl[ci]? = some q → ∀ k, k < q.2.2 → parseFieldDescriptor (q.2.1 k).2.2.1 = some (tyOf ci k) := by
  have h : (List.range 12).all (fun ci => match vwCl[ci]? with | some q => (List.range q.2.2).all (fun k => decide (parseFieldDescriptor (q.2.1 k).2.2.1 = some (tyOf ci k))) | none => true) = true := by decide +kernel
  intro ci hc q hq k hk
  have h1 := List.all_eq_true.mp h ci (List.mem_range.mpr hc)
  rw [hq] at h1
  exact of_decide_eq_true (List.all_eq_true.mp h1 k (List.mem_range.mpr hk))
theorem cl_nm : ∀ q ∈ vwCl, ∀ a, a < q.2.2 → ∀ b, b < q.2.2 → a ≠ b → (q.2.1 a).2.1 ≠ (q.2.1 b).2.1 := by decide +kernel
theorem cl_lt {ci : Nat} {q : vw_C} (h : vwCl[ci]? = some q) : ci < 12 := (List.getElem?_eq_some_iff.mp h).1
end
section
section
variable {l : Launch} {b : Nat} {cy : Nat → ClassId} {D : va_G} {R : Room} {y : MethodName} {cc : ByteArray} {ret : Option FieldType} {nL mc ms : Nat} {Z : Zt} {pc pc' tgt : Nat} {lv lv' : List (Nat × Value)} {st : List Value} {kc ks : Nat} {sh : Nat → Shp} {n : Nat} {σ : Sg} {off : Int}

theorem g_iconst {z : Int} {v : Int32} (hd : decode cc pc = .ok (.iconst z, 1)) (hp : pc + 1 = pc') (hv : Int32.ofInt z = v) (k : G l b cy D R y cc ret nL mc ms Z pc' lv (.int v :: st) kc ks sh n σ) : G l b cy D R y cc ret nL mc ms Z pc lv (st) kc ks sh n σ := by
  subst hp
  intro p e s m args below meth c H locs ls hx hb hr hml hown hts hlk hmn hK hbs hW hS hl
  exact lv_iconst hx hb hd hv (k hx hb hr hml hown hts hlk hmn hK hbs hW hS hl)
theorem g_bipush {z : Int} {v : Int32} (hd : decode cc pc = .ok (.bipush z, 2)) (hp : pc + 2 = pc') (hv : (Int8.ofInt z).toInt32 = v) (k : G l b cy D R y cc ret nL mc ms Z pc' lv (.int v :: st) kc ks sh n σ) : G l b cy D R y cc ret nL mc ms Z pc lv (st) kc ks sh n σ := by
  subst hp
  intro p e s m args below meth c H locs ls hx hb hr hml hown hts hlk hmn hK hbs hW hS hl
  exact lv_bipush hx hb hd hv (k hx hb hr hml hown hts hlk hmn hK hbs hW hS hl)
theorem g_sipush {z : Int} {v : Int32} (hd : decode cc pc = .ok (.sipush z, 3)) (hp : pc + 3 = pc') (hv : (Int16.ofInt z).toInt32 = v) (k : G l b cy D R y cc ret nL mc ms Z pc' lv (.int v :: st) kc ks sh n σ) : G l b cy D R y cc ret nL mc ms Z pc lv (st) kc ks sh n σ := by
  subst hp
  intro p e s m args below meth c H locs ls hx hb hr hml hown hts hlk hmn hK hbs hW hS hl
  exact lv_sipush hx hb hd hv (k hx hb hr hml hown hts hlk hmn hK hbs hW hS hl)
theorem g_lconst {z : Fin 2} {v : Int64} (hd : decode cc pc = .ok (.lconst z, 1)) (hp : pc + 1 = pc') (hv : Int64.ofNat (z : Nat) = v) (k : G l b cy D R y cc ret nL mc ms Z pc' lv (.long v :: st) kc ks sh n σ) : G l b cy D R y cc ret nL mc ms Z pc lv (st) kc ks sh n σ := by
  subst hp
  intro p e s m args below meth c H locs ls hx hb hr hml hown hts hlk hmn hK hbs hW hS hl
  exact lv_lconst hx hb hd hv (k hx hb hr hml hown hts hlk hmn hK hbs hW hS hl)
theorem g_iload_n {z : Fin 4} {x : Int32} (hd : decode cc pc = .ok (.iload_n z, 1)) (hp : pc + 1 = pc') (i : Nat) {j : Nat} (hz : (z : Nat) = j) (hi : lv[i]? = some (j, .int x)) (k : G l b cy D R y cc ret nL mc ms Z pc' lv (.int x :: st) kc ks sh n σ) : G l b cy D R y cc ret nL mc ms Z pc lv (st) kc ks sh n σ := by
  subst hp
  intro p e s m args below meth c H locs ls hx hb hr hml hown hts hlk hmn hK hbs hW hS hl
  exact lv_iload_n hx hb hd hz (lv_at hl i hi) (k hx hb hr hml hown hts hlk hmn hK hbs hW hS hl)
theorem g_iload {j : Nat} {x : Int32} (hd : decode cc pc = .ok (.iload j, 2)) (hp : pc + 2 = pc') (i : Nat) (hi : lv[i]? = some (j, .int x)) (k : G l b cy D R y cc ret nL mc ms Z pc' lv (.int x :: st) kc ks sh n σ) : G l b cy D R y cc ret nL mc ms Z pc lv (st) kc ks sh n σ := by
  subst hp
  intro p e s m args below meth c H locs ls hx hb hr hml hown hts hlk hmn hK hbs hW hS hl
  exact lv_iload hx hb hd (lv_at hl i hi) (k hx hb hr hml hown hts hlk hmn hK hbs hW hS hl)
theorem g_istore_n {z : Fin 4} {j : Nat} {x : Int32} (hd : decode cc pc = .ok (.istore_n z, 1)) (hp : pc + 1 = pc') (hz : (z : Nat) = j) (hn : j < nL) (hl' : (j, Value.int x) :: lv.filter (fun q => !(q.1 == j) && !(q.1 + 1 == j && q.2.category == 2)) = lv') (k : G l b cy D R y cc ret nL mc ms Z pc' lv' st kc ks sh n σ) : G l b cy D R y cc ret nL mc ms Z pc lv (.int x :: st) kc ks sh n σ := by
  subst hp
  intro p e s m args below meth c H locs ls hx hb hr hml hown hts hlk hmn hK hbs hW hS hl
  exact lv_istore_n hx hb hd hz hl hn hl' (fun ls hl => k hx hb hr hml hown hts hlk hmn hK hbs hW hS hl)
theorem g_istore {j : Nat} {x : Int32} (hd : decode cc pc = .ok (.istore j, 2)) (hp : pc + 2 = pc') (hn : j < nL) (hl' : (j, Value.int x) :: lv.filter (fun q => !(q.1 == j) && !(q.1 + 1 == j && q.2.category == 2)) = lv') (k : G l b cy D R y cc ret nL mc ms Z pc' lv' st kc ks sh n σ) : G l b cy D R y cc ret nL mc ms Z pc lv (.int x :: st) kc ks sh n σ := by
  subst hp
  intro p e s m args below meth c H locs ls hx hb hr hml hown hts hlk hmn hK hbs hW hS hl
  exact lv_istore hx hb hd hl hn hl' (fun ls hl => k hx hb hr hml hown hts hlk hmn hK hbs hW hS hl)
theorem g_lload_n {z : Fin 4} {x : Int64} (hd : decode cc pc = .ok (.lload_n z, 1)) (hp : pc + 1 = pc') (i : Nat) {j : Nat} (hz : (z : Nat) = j) (hi : lv[i]? = some (j, .long x)) (k : G l b cy D R y cc ret nL mc ms Z pc' lv (.long x :: st) kc ks sh n σ) : G l b cy D R y cc ret nL mc ms Z pc lv (st) kc ks sh n σ := by
  subst hp
  intro p e s m args below meth c H locs ls hx hb hr hml hown hts hlk hmn hK hbs hW hS hl
  exact lv_lload_n hx hb hd hz (lv_at hl i hi) (k hx hb hr hml hown hts hlk hmn hK hbs hW hS hl)
theorem g_lload {j : Nat} {x : Int64} (hd : decode cc pc = .ok (.lload j, 2)) (hp : pc + 2 = pc') (i : Nat) (hi : lv[i]? = some (j, .long x)) (k : G l b cy D R y cc ret nL mc ms Z pc' lv (.long x :: st) kc ks sh n σ) : G l b cy D R y cc ret nL mc ms Z pc lv (st) kc ks sh n σ := by
  subst hp
  intro p e s m args below meth c H locs ls hx hb hr hml hown hts hlk hmn hK hbs hW hS hl
  exact lv_lload hx hb hd (lv_at hl i hi) (k hx hb hr hml hown hts hlk hmn hK hbs hW hS hl)
theorem g_lstore_n {z : Fin 4} {j : Nat} {x : Int64} (hd : decode cc pc = .ok (.lstore_n z, 1)) (hp : pc + 1 = pc') (hz : (z : Nat) = j) (hn : j + 1 < nL) (hl' : (j, Value.long x) :: lv.filter (fun q => !(q.1 == j) && (!(q.1 == j + 1) && !(q.1 + 1 == j && q.2.category == 2))) = lv') (k : G l b cy D R y cc ret nL mc ms Z pc' lv' st kc ks sh n σ) : G l b cy D R y cc ret nL mc ms Z pc lv (.long x :: st) kc ks sh n σ := by
  subst hp
  intro p e s m args below meth c H locs ls hx hb hr hml hown hts hlk hmn hK hbs hW hS hl
  exact lv_lstore_n hx hb hd hz hl hn hl' (fun ls hl => k hx hb hr hml hown hts hlk hmn hK hbs hW hS hl)
theorem g_lstore {j : Nat} {x : Int64} (hd : decode cc pc = .ok (.lstore j, 2)) (hp : pc + 2 = pc') (hn : j + 1 < nL) (hl' : (j, Value.long x) :: lv.filter (fun q => !(q.1 == j) && (!(q.1 == j + 1) && !(q.1 + 1 == j && q.2.category == 2))) = lv') (k : G l b cy D R y cc ret nL mc ms Z pc' lv' st kc ks sh n σ) : G l b cy D R y cc ret nL mc ms Z pc lv (.long x :: st) kc ks sh n σ := by
  subst hp
  intro p e s m args below meth c H locs ls hx hb hr hml hown hts hlk hmn hK hbs hW hS hl
  exact lv_lstore hx hb hd hl hn hl' (fun ls hl => k hx hb hr hml hown hts hlk hmn hK hbs hW hS hl)
theorem g_aload_n {z : Fin 4} {x : Nat} (hd : decode cc pc = .ok (.aload_n z, 1)) (hp : pc + 1 = pc') (i : Nat) {j : Nat} (hz : (z : Nat) = j) (hi : lv[i]? = some (j, .ref x)) (k : G l b cy D R y cc ret nL mc ms Z pc' lv (.ref x :: st) kc ks sh n σ) : G l b cy D R y cc ret nL mc ms Z pc lv (st) kc ks sh n σ := by
  subst hp
  intro p e s m args below meth c H locs ls hx hb hr hml hown hts hlk hmn hK hbs hW hS hl
  exact lv_aload_n hx hb hd hz (lv_at hl i hi) (k hx hb hr hml hown hts hlk hmn hK hbs hW hS hl)
theorem g_aload {j : Nat} {x : Nat} (hd : decode cc pc = .ok (.aload j, 2)) (hp : pc + 2 = pc') (i : Nat) (hi : lv[i]? = some (j, .ref x)) (k : G l b cy D R y cc ret nL mc ms Z pc' lv (.ref x :: st) kc ks sh n σ) : G l b cy D R y cc ret nL mc ms Z pc lv (st) kc ks sh n σ := by
  subst hp
  intro p e s m args below meth c H locs ls hx hb hr hml hown hts hlk hmn hK hbs hW hS hl
  exact lv_aload hx hb hd (lv_at hl i hi) (k hx hb hr hml hown hts hlk hmn hK hbs hW hS hl)
theorem g_astore_n {z : Fin 4} {j : Nat} {x : Nat} (hd : decode cc pc = .ok (.astore_n z, 1)) (hp : pc + 1 = pc') (hz : (z : Nat) = j) (hn : j < nL) (hl' : (j, Value.ref x) :: lv.filter (fun q => !(q.1 == j) && !(q.1 + 1 == j && q.2.category == 2)) = lv') (k : G l b cy D R y cc ret nL mc ms Z pc' lv' st kc ks sh n σ) : G l b cy D R y cc ret nL mc ms Z pc lv (.ref x :: st) kc ks sh n σ := by
  subst hp
  intro p e s m args below meth c H locs ls hx hb hr hml hown hts hlk hmn hK hbs hW hS hl
  exact lv_astore_n hx hb hd hz hl hn hl' (fun ls hl => k hx hb hr hml hown hts hlk hmn hK hbs hW hS hl)
theorem g_astore {j : Nat} {x : Nat} (hd : decode cc pc = .ok (.astore j, 2)) (hp : pc + 2 = pc') (hn : j < nL) (hl' : (j, Value.ref x) :: lv.filter (fun q => !(q.1 == j) && !(q.1 + 1 == j && q.2.category == 2)) = lv') (k : G l b cy D R y cc ret nL mc ms Z pc' lv' st kc ks sh n σ) : G l b cy D R y cc ret nL mc ms Z pc lv (.ref x :: st) kc ks sh n σ := by
  subst hp
  intro p e s m args below meth c H locs ls hx hb hr hml hown hts hlk hmn hK hbs hW hS hl
  exact lv_astore hx hb hd hl hn hl' (fun ls hl => k hx hb hr hml hown hts hlk hmn hK hbs hW hS hl)
theorem g_iinc {j : Nat} {z : Int} {x v : Int32} (hd : decode cc pc = .ok (.iinc j z, 3)) (hp : pc + 3 = pc') (i : Nat) (hi : lv[i]? = some (j, .int x)) (hv : x + Int32.ofInt z = v) (hn : j < nL) (hl' : (j, Value.int v) :: lv.filter (fun q => !(q.1 == j) && !(q.1 + 1 == j && q.2.category == 2)) = lv') (k : G l b cy D R y cc ret nL mc ms Z pc' lv' st kc ks sh n σ) : G l b cy D R y cc ret nL mc ms Z pc lv st kc ks sh n σ := by
  subst hp
  intro p e s m args below meth c H locs ls hx hb hr hml hown hts hlk hmn hK hbs hW hS hl
  exact lv_iinc hx hb hd hl hi hv hn hl' (fun ls hl => k hx hb hr hml hown hts hlk hmn hK hbs hW hS hl)
theorem g_iadd {x w : Int32} (hd : decode cc pc = .ok (.iadd, 1)) (hp : pc + 1 = pc') (k : G l b cy D R y cc ret nL mc ms Z pc' lv (.int (x + w) :: st) kc ks sh n σ) : G l b cy D R y cc ret nL mc ms Z pc lv (.int w :: .int x :: st) kc ks sh n σ := by
  subst hp
  intro p e s m args below meth c H locs ls hx hb hr hml hown hts hlk hmn hK hbs hW hS hl
  exact lv_iadd hx hb hd (k hx hb hr hml hown hts hlk hmn hK hbs hW hS hl)
theorem g_isub {x w : Int32} (hd : decode cc pc = .ok (.isub, 1)) (hp : pc + 1 = pc') (k : G l b cy D R y cc ret nL mc ms Z pc' lv (.int (x - w) :: st) kc ks sh n σ) : G l b cy D R y cc ret nL mc ms Z pc lv (.int w :: .int x :: st) kc ks sh n σ := by
  subst hp
  intro p e s m args below meth c H locs ls hx hb hr hml hown hts hlk hmn hK hbs hW hS hl
  exact lv_isub hx hb hd (k hx hb hr hml hown hts hlk hmn hK hbs hW hS hl)
theorem g_imul {x w : Int32} (hd : decode cc pc = .ok (.imul, 1)) (hp : pc + 1 = pc') (k : G l b cy D R y cc ret nL mc ms Z pc' lv (.int (x * w) :: st) kc ks sh n σ) : G l b cy D R y cc ret nL mc ms Z pc lv (.int w :: .int x :: st) kc ks sh n σ := by
  subst hp
  intro p e s m args below meth c H locs ls hx hb hr hml hown hts hlk hmn hK hbs hW hS hl
  exact lv_imul hx hb hd (k hx hb hr hml hown hts hlk hmn hK hbs hW hS hl)
theorem g_iand {x w : Int32} (hd : decode cc pc = .ok (.iand, 1)) (hp : pc + 1 = pc') (k : G l b cy D R y cc ret nL mc ms Z pc' lv (.int (x &&& w) :: st) kc ks sh n σ) : G l b cy D R y cc ret nL mc ms Z pc lv (.int w :: .int x :: st) kc ks sh n σ := by
  subst hp
  intro p e s m args below meth c H locs ls hx hb hr hml hown hts hlk hmn hK hbs hW hS hl
  exact lv_iand hx hb hd (k hx hb hr hml hown hts hlk hmn hK hbs hW hS hl)
theorem g_ior {x w : Int32} (hd : decode cc pc = .ok (.ior, 1)) (hp : pc + 1 = pc') (k : G l b cy D R y cc ret nL mc ms Z pc' lv (.int (x ||| w) :: st) kc ks sh n σ) : G l b cy D R y cc ret nL mc ms Z pc lv (.int w :: .int x :: st) kc ks sh n σ := by
  subst hp
  intro p e s m args below meth c H locs ls hx hb hr hml hown hts hlk hmn hK hbs hW hS hl
  exact lv_ior hx hb hd (k hx hb hr hml hown hts hlk hmn hK hbs hW hS hl)
theorem g_ixor {x w : Int32} (hd : decode cc pc = .ok (.ixor, 1)) (hp : pc + 1 = pc') (k : G l b cy D R y cc ret nL mc ms Z pc' lv (.int (x ^^^ w) :: st) kc ks sh n σ) : G l b cy D R y cc ret nL mc ms Z pc lv (.int w :: .int x :: st) kc ks sh n σ := by
  subst hp
  intro p e s m args below meth c H locs ls hx hb hr hml hown hts hlk hmn hK hbs hW hS hl
  exact lv_ixor hx hb hd (k hx hb hr hml hown hts hlk hmn hK hbs hW hS hl)
theorem g_ishl {x w : Int32} (hd : decode cc pc = .ok (.ishl, 1)) (hp : pc + 1 = pc') (k : G l b cy D R y cc ret nL mc ms Z pc' lv (.int (x <<< (w &&& 31)) :: st) kc ks sh n σ) : G l b cy D R y cc ret nL mc ms Z pc lv (.int w :: .int x :: st) kc ks sh n σ := by
  subst hp
  intro p e s m args below meth c H locs ls hx hb hr hml hown hts hlk hmn hK hbs hW hS hl
  exact lv_ishl hx hb hd (k hx hb hr hml hown hts hlk hmn hK hbs hW hS hl)
theorem g_idiv {x w : Int32} (hd : decode cc pc = .ok (.idiv, 1)) (hp : pc + 1 = pc') (h0 : ¬ w = 0) (k : G l b cy D R y cc ret nL mc ms Z pc' lv (.int (x / w) :: st) kc ks sh n σ) : G l b cy D R y cc ret nL mc ms Z pc lv (.int w :: .int x :: st) kc ks sh n σ := by
  subst hp
  intro p e s m args below meth c H locs ls hx hb hr hml hown hts hlk hmn hK hbs hW hS hl
  exact lv_idiv hx hb hd h0 (k hx hb hr hml hown hts hlk hmn hK hbs hW hS hl)
theorem g_irem {x w : Int32} (hd : decode cc pc = .ok (.irem, 1)) (hp : pc + 1 = pc') (h0 : ¬ w = 0) (k : G l b cy D R y cc ret nL mc ms Z pc' lv (.int (x - x / w * w) :: st) kc ks sh n σ) : G l b cy D R y cc ret nL mc ms Z pc lv (.int w :: .int x :: st) kc ks sh n σ := by
  subst hp
  intro p e s m args below meth c H locs ls hx hb hr hml hown hts hlk hmn hK hbs hW hS hl
  exact lv_irem hx hb hd h0 (k hx hb hr hml hown hts hlk hmn hK hbs hW hS hl)
theorem g_iushr {x w : Int32} (hd : decode cc pc = .ok (.iushr, 1)) (hp : pc + 1 = pc') (k : G l b cy D R y cc ret nL mc ms Z pc' lv (.int (x.toUInt32 >>> (w.toUInt32 &&& Int32.toUInt32 31)).toInt32 :: st) kc ks sh n σ) : G l b cy D R y cc ret nL mc ms Z pc lv (.int w :: .int x :: st) kc ks sh n σ := by
  subst hp
  intro p e s m args below meth c H locs ls hx hb hr hml hown hts hlk hmn hK hbs hW hS hl
  exact lv_iushr hx hb hd rfl (k hx hb hr hml hown hts hlk hmn hK hbs hW hS hl)
theorem g_ladd {x w : Int64} (hd : decode cc pc = .ok (.ladd, 1)) (hp : pc + 1 = pc') (k : G l b cy D R y cc ret nL mc ms Z pc' lv (.long (x + w) :: st) kc ks sh n σ) : G l b cy D R y cc ret nL mc ms Z pc lv (.long w :: .long x :: st) kc ks sh n σ := by
  subst hp
  intro p e s m args below meth c H locs ls hx hb hr hml hown hts hlk hmn hK hbs hW hS hl
  exact lv_ladd hx hb hd (k hx hb hr hml hown hts hlk hmn hK hbs hW hS hl)
theorem g_lsub {x w : Int64} (hd : decode cc pc = .ok (.lsub, 1)) (hp : pc + 1 = pc') (k : G l b cy D R y cc ret nL mc ms Z pc' lv (.long (x - w) :: st) kc ks sh n σ) : G l b cy D R y cc ret nL mc ms Z pc lv (.long w :: .long x :: st) kc ks sh n σ := by
  subst hp
  intro p e s m args below meth c H locs ls hx hb hr hml hown hts hlk hmn hK hbs hW hS hl
  exact lv_lsub hx hb hd (k hx hb hr hml hown hts hlk hmn hK hbs hW hS hl)
theorem g_lmul {x w : Int64} (hd : decode cc pc = .ok (.lmul, 1)) (hp : pc + 1 = pc') (k : G l b cy D R y cc ret nL mc ms Z pc' lv (.long (x * w) :: st) kc ks sh n σ) : G l b cy D R y cc ret nL mc ms Z pc lv (.long w :: .long x :: st) kc ks sh n σ := by
  subst hp
  intro p e s m args below meth c H locs ls hx hb hr hml hown hts hlk hmn hK hbs hW hS hl
  exact lv_lmul hx hb hd (k hx hb hr hml hown hts hlk hmn hK hbs hW hS hl)
theorem g_land {x w : Int64} (hd : decode cc pc = .ok (.land, 1)) (hp : pc + 1 = pc') (k : G l b cy D R y cc ret nL mc ms Z pc' lv (.long (x &&& w) :: st) kc ks sh n σ) : G l b cy D R y cc ret nL mc ms Z pc lv (.long w :: .long x :: st) kc ks sh n σ := by
  subst hp
  intro p e s m args below meth c H locs ls hx hb hr hml hown hts hlk hmn hK hbs hW hS hl
  exact lv_land hx hb hd (k hx hb hr hml hown hts hlk hmn hK hbs hW hS hl)
theorem g_lor {x w : Int64} (hd : decode cc pc = .ok (.lor, 1)) (hp : pc + 1 = pc') (k : G l b cy D R y cc ret nL mc ms Z pc' lv (.long (x ||| w) :: st) kc ks sh n σ) : G l b cy D R y cc ret nL mc ms Z pc lv (.long w :: .long x :: st) kc ks sh n σ := by
  subst hp
  intro p e s m args below meth c H locs ls hx hb hr hml hown hts hlk hmn hK hbs hW hS hl
  exact lv_lor hx hb hd (k hx hb hr hml hown hts hlk hmn hK hbs hW hS hl)
theorem g_lxor {x w : Int64} (hd : decode cc pc = .ok (.lxor, 1)) (hp : pc + 1 = pc') (k : G l b cy D R y cc ret nL mc ms Z pc' lv (.long (x ^^^ w) :: st) kc ks sh n σ) : G l b cy D R y cc ret nL mc ms Z pc lv (.long w :: .long x :: st) kc ks sh n σ := by
  subst hp
  intro p e s m args below meth c H locs ls hx hb hr hml hown hts hlk hmn hK hbs hW hS hl
  exact lv_lxor hx hb hd (k hx hb hr hml hown hts hlk hmn hK hbs hW hS hl)
theorem g_ldiv {x w : Int64} (hd : decode cc pc = .ok (.ldiv, 1)) (hp : pc + 1 = pc') (h0 : ¬ w = 0) (k : G l b cy D R y cc ret nL mc ms Z pc' lv (.long (x / w) :: st) kc ks sh n σ) : G l b cy D R y cc ret nL mc ms Z pc lv (.long w :: .long x :: st) kc ks sh n σ := by
  subst hp
  intro p e s m args below meth c H locs ls hx hb hr hml hown hts hlk hmn hK hbs hW hS hl
  exact lv_ldiv hx hb hd h0 (k hx hb hr hml hown hts hlk hmn hK hbs hW hS hl)
theorem g_lrem {x w : Int64} (hd : decode cc pc = .ok (.lrem, 1)) (hp : pc + 1 = pc') (h0 : ¬ w = 0) (k : G l b cy D R y cc ret nL mc ms Z pc' lv (.long (x - x / w * w) :: st) kc ks sh n σ) : G l b cy D R y cc ret nL mc ms Z pc lv (.long w :: .long x :: st) kc ks sh n σ := by
  subst hp
  intro p e s m args below meth c H locs ls hx hb hr hml hown hts hlk hmn hK hbs hW hS hl
  exact lv_lrem hx hb hd h0 (k hx hb hr hml hown hts hlk hmn hK hbs hW hS hl)
theorem g_lneg {x : Int64} (hd : decode cc pc = .ok (.lneg, 1)) (hp : pc + 1 = pc') (k : G l b cy D R y cc ret nL mc ms Z pc' lv (.long (-x) :: st) kc ks sh n σ) : G l b cy D R y cc ret nL mc ms Z pc lv (.long x :: st) kc ks sh n σ := by
  subst hp
  intro p e s m args below meth c H locs ls hx hb hr hml hown hts hlk hmn hK hbs hW hS hl
  exact lv_lneg hx hb hd (k hx hb hr hml hown hts hlk hmn hK hbs hW hS hl)
theorem g_ineg {x : Int32} (hd : decode cc pc = .ok (.ineg, 1)) (hp : pc + 1 = pc') (k : G l b cy D R y cc ret nL mc ms Z pc' lv (.int (-x) :: st) kc ks sh n σ) : G l b cy D R y cc ret nL mc ms Z pc lv (.int x :: st) kc ks sh n σ := by
  subst hp
  intro p e s m args below meth c H locs ls hx hb hr hml hown hts hlk hmn hK hbs hW hS hl
  exact lv_ineg hx hb hd (k hx hb hr hml hown hts hlk hmn hK hbs hW hS hl)
theorem g_lshr {x : Int64} {w : Int32} (hd : decode cc pc = .ok (.lshr, 1)) (hp : pc + 1 = pc') (k : G l b cy D R y cc ret nL mc ms Z pc' lv (.long (x >>> (w.toInt64 &&& 63)) :: st) kc ks sh n σ) : G l b cy D R y cc ret nL mc ms Z pc lv (.int w :: .long x :: st) kc ks sh n σ := by
  subst hp
  intro p e s m args below meth c H locs ls hx hb hr hml hown hts hlk hmn hK hbs hW hS hl
  exact lv_lshr hx hb hd rfl (k hx hb hr hml hown hts hlk hmn hK hbs hW hS hl)
theorem g_lushr {x : Int64} {w : Int32} (hd : decode cc pc = .ok (.lushr, 1)) (hp : pc + 1 = pc') (k : G l b cy D R y cc ret nL mc ms Z pc' lv (.long (x.toUInt64 >>> (w.toInt64.toUInt64 &&& Int64.toUInt64 63)).toInt64 :: st) kc ks sh n σ) : G l b cy D R y cc ret nL mc ms Z pc lv (.int w :: .long x :: st) kc ks sh n σ := by
  subst hp
  intro p e s m args below meth c H locs ls hx hb hr hml hown hts hlk hmn hK hbs hW hS hl
  exact lv_lushr hx hb hd rfl (k hx hb hr hml hown hts hlk hmn hK hbs hW hS hl)
theorem g_i2l {x : Int32} (hd : decode cc pc = .ok (.i2l, 1)) (hp : pc + 1 = pc') (k : G l b cy D R y cc ret nL mc ms Z pc' lv (.long x.toInt64 :: st) kc ks sh n σ) : G l b cy D R y cc ret nL mc ms Z pc lv (.int x :: st) kc ks sh n σ := by
  subst hp
  intro p e s m args below meth c H locs ls hx hb hr hml hown hts hlk hmn hK hbs hW hS hl
  exact lv_i2l hx hb hd rfl (k hx hb hr hml hown hts hlk hmn hK hbs hW hS hl)
theorem g_l2i {x : Int64} (hd : decode cc pc = .ok (.l2i, 1)) (hp : pc + 1 = pc') (k : G l b cy D R y cc ret nL mc ms Z pc' lv (.int x.toInt32 :: st) kc ks sh n σ) : G l b cy D R y cc ret nL mc ms Z pc lv (.long x :: st) kc ks sh n σ := by
  subst hp
  intro p e s m args below meth c H locs ls hx hb hr hml hown hts hlk hmn hK hbs hW hS hl
  exact lv_l2i hx hb hd rfl (k hx hb hr hml hown hts hlk hmn hK hbs hW hS hl)
theorem g_i2c {x : Int32} (hd : decode cc pc = .ok (.i2c, 1)) (hp : pc + 1 = pc') (k : G l b cy D R y cc ret nL mc ms Z pc' lv (.int (x.toUInt32 % 65536).toInt32 :: st) kc ks sh n σ) : G l b cy D R y cc ret nL mc ms Z pc lv (.int x :: st) kc ks sh n σ := by
  subst hp
  intro p e s m args below meth c H locs ls hx hb hr hml hown hts hlk hmn hK hbs hW hS hl
  exact lv_i2c hx hb hd rfl (k hx hb hr hml hown hts hlk hmn hK hbs hW hS hl)
theorem g_dup {v : Value} (hd : decode cc pc = .ok (.dup, 1)) (hp : pc + 1 = pc') (hv : v.category = 1) (k : G l b cy D R y cc ret nL mc ms Z pc' lv (v :: v :: st) kc ks sh n σ) : G l b cy D R y cc ret nL mc ms Z pc lv (v :: st) kc ks sh n σ := by
  subst hp
  intro p e s m args below meth c H locs ls hx hb hr hml hown hts hlk hmn hK hbs hW hS hl
  exact lv_dup hx hb hd hv (k hx hb hr hml hown hts hlk hmn hK hbs hW hS hl)
theorem g_pop {v : Value} (hd : decode cc pc = .ok (.pop, 1)) (hp : pc + 1 = pc') (hv : v.category = 1) (k : G l b cy D R y cc ret nL mc ms Z pc' lv (st) kc ks sh n σ) : G l b cy D R y cc ret nL mc ms Z pc lv (v :: st) kc ks sh n σ := by
  subst hp
  intro p e s m args below meth c H locs ls hx hb hr hml hown hts hlk hmn hK hbs hW hS hl
  exact lv_pop hx hb hd hv (k hx hb hr hml hown hts hlk hmn hK hbs hW hS hl)
theorem g_pop2 {v : Value} (hd : decode cc pc = .ok (.pop2, 1)) (hp : pc + 1 = pc') (hv : v.category = 2) (k : G l b cy D R y cc ret nL mc ms Z pc' lv (st) kc ks sh n σ) : G l b cy D R y cc ret nL mc ms Z pc lv (v :: st) kc ks sh n σ := by
  subst hp
  intro p e s m args below meth c H locs ls hx hb hr hml hown hts hlk hmn hK hbs hW hS hl
  exact lv_pop2_2 hx hb hd hv (k hx hb hr hml hown hts hlk hmn hK hbs hW hS hl)
theorem g_dup2 {v w : Value} (hd : decode cc pc = .ok (.dup2, 1)) (hp : pc + 1 = pc') (hv : v.category = 1) (hw : w.category = 1) (k : G l b cy D R y cc ret nL mc ms Z pc' lv (v :: w :: v :: w :: st) kc ks sh n σ) : G l b cy D R y cc ret nL mc ms Z pc lv (v :: w :: st) kc ks sh n σ := by
  subst hp
  intro p e s m args below meth c H locs ls hx hb hr hml hown hts hlk hmn hK hbs hW hS hl
  exact lv_dup2_11 hx hb hd hv hw (k hx hb hr hml hown hts hlk hmn hK hbs hW hS hl)
theorem g_dup2l {v : Value} (hd : decode cc pc = .ok (.dup2, 1)) (hp : pc + 1 = pc') (hv : v.category = 2) (k : G l b cy D R y cc ret nL mc ms Z pc' lv (v :: v :: st) kc ks sh n σ) : G l b cy D R y cc ret nL mc ms Z pc lv (v :: st) kc ks sh n σ := by
  subst hp
  intro p e s m args below meth c H locs ls hx hb hr hml hown hts hlk hmn hK hbs hW hS hl
  exact lv_dup2_2 hx hb hd hv (k hx hb hr hml hown hts hlk hmn hK hbs hW hS hl)
theorem g_ldc {z : Nat} {v : Int32} (hd : decode cc pc = .ok (.ldc z, 2)) (hp : pc + 2 = pc') (hv : Cond.constant y.cls z v ∈ gt) (k : G l b cy D R y cc ret nL mc ms Z pc' lv (.int v :: st) kc ks sh n σ) : G l b cy D R y cc ret nL mc ms Z pc lv st kc ks sh n σ := by
  subst hp
  intro p e s m args below meth c H locs ls hx hb hr hml hown hts hlk hmn hK hbs hW hS hl
  exact lv_ldc hx hb hown (hts _ hv) hd (k hx hb hr hml hown hts hlk hmn hK hbs hW hS hl)
theorem g_ldcw {z : Nat} {v : Int32} (hd : decode cc pc = .ok (.ldc_w z, 3)) (hp : pc + 3 = pc') (hv : Cond.constant y.cls z v ∈ gt) (k : G l b cy D R y cc ret nL mc ms Z pc' lv (.int v :: st) kc ks sh n σ) : G l b cy D R y cc ret nL mc ms Z pc lv st kc ks sh n σ := by
  subst hp
  intro p e s m args below meth c H locs ls hx hb hr hml hown hts hlk hmn hK hbs hW hS hl
  exact lv_ldcw hx hb hown (hts _ hv) hd (k hx hb hr hml hown hts hlk hmn hK hbs hW hS hl)
theorem g_ldc2 {z : Nat} {v : Int64} (hd : decode cc pc = .ok (.ldc2_w z, 3)) (hp : pc + 3 = pc') (hv : Cond.constantLong y.cls z v ∈ gt) (k : G l b cy D R y cc ret nL mc ms Z pc' lv (.long v :: st) kc ks sh n σ) : G l b cy D R y cc ret nL mc ms Z pc lv st kc ks sh n σ := by
  subst hp
  intro p e s m args below meth c H locs ls hx hb hr hml hown hts hlk hmn hK hbs hW hS hl
  exact lv_ldc2 hx hb hown (hts _ hv) hd (k hx hb hr hml hown hts hlk hmn hK hbs hW hS hl)
theorem g_topi {x : Int32} (k : ∀ v : Int32, v = x → G l b cy D R y cc ret nL mc ms Z pc lv (.int v :: st) kc ks sh n σ) : G l b cy D R y cc ret nL mc ms Z pc lv (.int x :: st) kc ks sh n σ := k x rfl
theorem g_topl {x : Int64} (k : ∀ v : Int64, v = x → G l b cy D R y cc ret nL mc ms Z pc lv (.long v :: st) kc ks sh n σ) : G l b cy D R y cc ret nL mc ms Z pc lv (.long x :: st) kc ks sh n σ := k x rfl
theorem g_if_eq {x : Int32} (hd : decode cc pc = .ok (.ifCond .eq off, 3)) (hp : pc + 3 = pc') (ht : (pc : Int) + off = (tgt : Int)) (kt : x = 0 → G l b cy D R y cc ret nL mc ms Z tgt lv st kc ks sh n σ) (kf : ¬ x = 0 → G l b cy D R y cc ret nL mc ms Z pc' lv st kc ks sh n σ) : G l b cy D R y cc ret nL mc ms Z pc lv (.int x :: st) kc ks sh n σ := by
  subst hp
  intro p e s m args below meth c H locs ls hx hb hr hml hown hts hlk hmn hK hbs hW hS hl
  exact lv_if_eq hx hb hd ht (fun q => kt q hx hb hr hml hown hts hlk hmn hK hbs hW hS hl) (fun q => kf q hx hb hr hml hown hts hlk hmn hK hbs hW hS hl)
theorem g_icmp_eq {x w : Int32} (hd : decode cc pc = .ok (.if_icmp .eq off, 3)) (hp : pc + 3 = pc') (ht : (pc : Int) + off = (tgt : Int)) (kt : x = w → G l b cy D R y cc ret nL mc ms Z tgt lv st kc ks sh n σ) (kf : ¬ x = w → G l b cy D R y cc ret nL mc ms Z pc' lv st kc ks sh n σ) : G l b cy D R y cc ret nL mc ms Z pc lv (.int w :: .int x :: st) kc ks sh n σ := by
  subst hp
  intro p e s m args below meth c H locs ls hx hb hr hml hown hts hlk hmn hK hbs hW hS hl
  exact lv_icmp_eq hx hb hd ht (fun q => kt q hx hb hr hml hown hts hlk hmn hK hbs hW hS hl) (fun q => kf q hx hb hr hml hown hts hlk hmn hK hbs hW hS hl)
theorem g_if_ne {x : Int32} (hd : decode cc pc = .ok (.ifCond .ne off, 3)) (hp : pc + 3 = pc') (ht : (pc : Int) + off = (tgt : Int)) (kt : ¬ x = 0 → G l b cy D R y cc ret nL mc ms Z tgt lv st kc ks sh n σ) (kf : x = 0 → G l b cy D R y cc ret nL mc ms Z pc' lv st kc ks sh n σ) : G l b cy D R y cc ret nL mc ms Z pc lv (.int x :: st) kc ks sh n σ := by
  subst hp
  intro p e s m args below meth c H locs ls hx hb hr hml hown hts hlk hmn hK hbs hW hS hl
  exact lv_if_ne hx hb hd ht (fun q => kt q hx hb hr hml hown hts hlk hmn hK hbs hW hS hl) (fun q => kf q hx hb hr hml hown hts hlk hmn hK hbs hW hS hl)
theorem g_icmp_ne {x w : Int32} (hd : decode cc pc = .ok (.if_icmp .ne off, 3)) (hp : pc + 3 = pc') (ht : (pc : Int) + off = (tgt : Int)) (kt : ¬ x = w → G l b cy D R y cc ret nL mc ms Z tgt lv st kc ks sh n σ) (kf : x = w → G l b cy D R y cc ret nL mc ms Z pc' lv st kc ks sh n σ) : G l b cy D R y cc ret nL mc ms Z pc lv (.int w :: .int x :: st) kc ks sh n σ := by
  subst hp
  intro p e s m args below meth c H locs ls hx hb hr hml hown hts hlk hmn hK hbs hW hS hl
  exact lv_icmp_ne hx hb hd ht (fun q => kt q hx hb hr hml hown hts hlk hmn hK hbs hW hS hl) (fun q => kf q hx hb hr hml hown hts hlk hmn hK hbs hW hS hl)
theorem g_if_lt {x : Int32} (hd : decode cc pc = .ok (.ifCond .lt off, 3)) (hp : pc + 3 = pc') (ht : (pc : Int) + off = (tgt : Int)) (kt : x < 0 → G l b cy D R y cc ret nL mc ms Z tgt lv st kc ks sh n σ) (kf : ¬ x < 0 → G l b cy D R y cc ret nL mc ms Z pc' lv st kc ks sh n σ) : G l b cy D R y cc ret nL mc ms Z pc lv (.int x :: st) kc ks sh n σ := by
  subst hp
  intro p e s m args below meth c H locs ls hx hb hr hml hown hts hlk hmn hK hbs hW hS hl
  exact lv_if_lt hx hb hd ht (fun q => kt q hx hb hr hml hown hts hlk hmn hK hbs hW hS hl) (fun q => kf q hx hb hr hml hown hts hlk hmn hK hbs hW hS hl)
theorem g_icmp_lt {x w : Int32} (hd : decode cc pc = .ok (.if_icmp .lt off, 3)) (hp : pc + 3 = pc') (ht : (pc : Int) + off = (tgt : Int)) (kt : x < w → G l b cy D R y cc ret nL mc ms Z tgt lv st kc ks sh n σ) (kf : ¬ x < w → G l b cy D R y cc ret nL mc ms Z pc' lv st kc ks sh n σ) : G l b cy D R y cc ret nL mc ms Z pc lv (.int w :: .int x :: st) kc ks sh n σ := by
  subst hp
  intro p e s m args below meth c H locs ls hx hb hr hml hown hts hlk hmn hK hbs hW hS hl
  exact lv_icmp_lt hx hb hd ht (fun q => kt q hx hb hr hml hown hts hlk hmn hK hbs hW hS hl) (fun q => kf q hx hb hr hml hown hts hlk hmn hK hbs hW hS hl)
theorem g_if_ge {x : Int32} (hd : decode cc pc = .ok (.ifCond .ge off, 3)) (hp : pc + 3 = pc') (ht : (pc : Int) + off = (tgt : Int)) (kt : 0 ≤ x → G l b cy D R y cc ret nL mc ms Z tgt lv st kc ks sh n σ) (kf : ¬ 0 ≤ x → G l b cy D R y cc ret nL mc ms Z pc' lv st kc ks sh n σ) : G l b cy D R y cc ret nL mc ms Z pc lv (.int x :: st) kc ks sh n σ := by
  subst hp
  intro p e s m args below meth c H locs ls hx hb hr hml hown hts hlk hmn hK hbs hW hS hl
  exact lv_if_ge hx hb hd ht (fun q => kt q hx hb hr hml hown hts hlk hmn hK hbs hW hS hl) (fun q => kf q hx hb hr hml hown hts hlk hmn hK hbs hW hS hl)
theorem g_icmp_ge {x w : Int32} (hd : decode cc pc = .ok (.if_icmp .ge off, 3)) (hp : pc + 3 = pc') (ht : (pc : Int) + off = (tgt : Int)) (kt : w ≤ x → G l b cy D R y cc ret nL mc ms Z tgt lv st kc ks sh n σ) (kf : ¬ w ≤ x → G l b cy D R y cc ret nL mc ms Z pc' lv st kc ks sh n σ) : G l b cy D R y cc ret nL mc ms Z pc lv (.int w :: .int x :: st) kc ks sh n σ := by
  subst hp
  intro p e s m args below meth c H locs ls hx hb hr hml hown hts hlk hmn hK hbs hW hS hl
  exact lv_icmp_ge hx hb hd ht (fun q => kt q hx hb hr hml hown hts hlk hmn hK hbs hW hS hl) (fun q => kf q hx hb hr hml hown hts hlk hmn hK hbs hW hS hl)
theorem g_if_gt {x : Int32} (hd : decode cc pc = .ok (.ifCond .gt off, 3)) (hp : pc + 3 = pc') (ht : (pc : Int) + off = (tgt : Int)) (kt : 0 < x → G l b cy D R y cc ret nL mc ms Z tgt lv st kc ks sh n σ) (kf : ¬ 0 < x → G l b cy D R y cc ret nL mc ms Z pc' lv st kc ks sh n σ) : G l b cy D R y cc ret nL mc ms Z pc lv (.int x :: st) kc ks sh n σ := by
  subst hp
  intro p e s m args below meth c H locs ls hx hb hr hml hown hts hlk hmn hK hbs hW hS hl
  exact lv_if_gt hx hb hd ht (fun q => kt q hx hb hr hml hown hts hlk hmn hK hbs hW hS hl) (fun q => kf q hx hb hr hml hown hts hlk hmn hK hbs hW hS hl)
theorem g_icmp_gt {x w : Int32} (hd : decode cc pc = .ok (.if_icmp .gt off, 3)) (hp : pc + 3 = pc') (ht : (pc : Int) + off = (tgt : Int)) (kt : w < x → G l b cy D R y cc ret nL mc ms Z tgt lv st kc ks sh n σ) (kf : ¬ w < x → G l b cy D R y cc ret nL mc ms Z pc' lv st kc ks sh n σ) : G l b cy D R y cc ret nL mc ms Z pc lv (.int w :: .int x :: st) kc ks sh n σ := by
  subst hp
  intro p e s m args below meth c H locs ls hx hb hr hml hown hts hlk hmn hK hbs hW hS hl
  exact lv_icmp_gt hx hb hd ht (fun q => kt q hx hb hr hml hown hts hlk hmn hK hbs hW hS hl) (fun q => kf q hx hb hr hml hown hts hlk hmn hK hbs hW hS hl)
theorem g_if_le {x : Int32} (hd : decode cc pc = .ok (.ifCond .le off, 3)) (hp : pc + 3 = pc') (ht : (pc : Int) + off = (tgt : Int)) (kt : x ≤ 0 → G l b cy D R y cc ret nL mc ms Z tgt lv st kc ks sh n σ) (kf : ¬ x ≤ 0 → G l b cy D R y cc ret nL mc ms Z pc' lv st kc ks sh n σ) : G l b cy D R y cc ret nL mc ms Z pc lv (.int x :: st) kc ks sh n σ := by
  subst hp
  intro p e s m args below meth c H locs ls hx hb hr hml hown hts hlk hmn hK hbs hW hS hl
  exact lv_if_le hx hb hd ht (fun q => kt q hx hb hr hml hown hts hlk hmn hK hbs hW hS hl) (fun q => kf q hx hb hr hml hown hts hlk hmn hK hbs hW hS hl)
theorem g_icmp_le {x w : Int32} (hd : decode cc pc = .ok (.if_icmp .le off, 3)) (hp : pc + 3 = pc') (ht : (pc : Int) + off = (tgt : Int)) (kt : x ≤ w → G l b cy D R y cc ret nL mc ms Z tgt lv st kc ks sh n σ) (kf : ¬ x ≤ w → G l b cy D R y cc ret nL mc ms Z pc' lv st kc ks sh n σ) : G l b cy D R y cc ret nL mc ms Z pc lv (.int w :: .int x :: st) kc ks sh n σ := by
  subst hp
  intro p e s m args below meth c H locs ls hx hb hr hml hown hts hlk hmn hK hbs hW hS hl
  exact lv_icmp_le hx hb hd ht (fun q => kt q hx hb hr hml hown hts hlk hmn hK hbs hW hS hl) (fun q => kf q hx hb hr hml hown hts hlk hmn hK hbs hW hS hl)
theorem g_goto (hd : decode cc pc = .ok (.goto off, 3)) (ht : (pc : Int) + off = (tgt : Int)) (k : G l b cy D R y cc ret nL mc ms Z tgt lv st kc ks sh n σ) : G l b cy D R y cc ret nL mc ms Z pc lv st kc ks sh n σ := by
  intro p e s m args below meth c H locs ls hx hb hr hml hown hts hlk hmn hK hbs hW hS hl
  exact lv_goto hx hb hd ht (k hx hb hr hml hown hts hlk hmn hK hbs hW hS hl)
theorem cmp_eq {x w : Int64} : lg_cmp x w = 0 ↔ x = w := by
  unfold lg_cmp
  by_cases h1 : w < x
  · rw [if_pos h1]
    exact ⟨fun h => absurd h (by decide), fun h => absurd h1 (by rw [h]; exact Int64.lt_irrefl)⟩
  · rw [if_neg h1]
    by_cases h2 : x = w
    · rw [if_pos h2]; exact ⟨fun _ => h2, fun _ => rfl⟩
    · rw [if_neg h2]; exact ⟨fun h => absurd h (by decide), fun h => absurd h h2⟩
theorem cmp_lt {x w : Int64} : lg_cmp x w < 0 ↔ x < w := by
  unfold lg_cmp
  by_cases h1 : w < x
  · rw [if_pos h1]
    exact ⟨fun h => absurd h (by decide), fun h => by rw [Int64.lt_iff_toInt_lt] at h h1; omega⟩
  · rw [if_neg h1]
    by_cases h2 : x = w
    · rw [if_pos h2]; exact ⟨fun h => absurd h (by decide), fun h => by rw [h2] at h; exact absurd h Int64.lt_irrefl⟩
    · rw [if_neg h2]; refine ⟨fun _ => ?_, fun _ => by decide⟩
      have h3 : x.toInt ≠ w.toInt := fun q => h2 (Int64.toInt_inj.mp q)
      rw [Int64.lt_iff_toInt_lt] at h1 ⊢; omega
theorem cmp_gt {x w : Int64} : 0 < lg_cmp x w ↔ w < x := by
  unfold lg_cmp
  by_cases h1 : w < x
  · rw [if_pos h1]; exact ⟨fun _ => h1, fun _ => by decide⟩
  · rw [if_neg h1]
    by_cases h2 : x = w
    · rw [if_pos h2]; exact ⟨fun h => absurd h (by decide), fun h => absurd h h1⟩
    · rw [if_neg h2]; exact ⟨fun h => absurd h (by decide), fun h => absurd h h1⟩
theorem g_lif_eq {x w : Int64} (hd : decode cc pc = .ok (.lcmp, 1)) (hd2 : decode cc (pc + 1) = .ok (.ifCond .eq off, 3)) (hp : pc + 1 + 3 = pc') (ht : ((pc + 1 : Nat) : Int) + off = (tgt : Int)) (kt : x = w → G l b cy D R y cc ret nL mc ms Z tgt lv st kc ks sh n σ) (kf : ¬ x = w → G l b cy D R y cc ret nL mc ms Z pc' lv st kc ks sh n σ) : G l b cy D R y cc ret nL mc ms Z pc lv (.long w :: .long x :: st) kc ks sh n σ := by
  subst hp
  intro p e s m args below meth c H locs ls hx hb hr hml hown hts hlk hmn hK hbs hW hS hl
  refine W.lcmp hx hb hd ?_
  exact lv_if_eq hx hb hd2 ht (fun q => kt (cmp_eq.mp q) hx hb hr hml hown hts hlk hmn hK hbs hW hS hl) (fun q => kf (fun z => q (cmp_eq.mpr z)) hx hb hr hml hown hts hlk hmn hK hbs hW hS hl)
theorem g_lif_ne {x w : Int64} (hd : decode cc pc = .ok (.lcmp, 1)) (hd2 : decode cc (pc + 1) = .ok (.ifCond .ne off, 3)) (hp : pc + 1 + 3 = pc') (ht : ((pc + 1 : Nat) : Int) + off = (tgt : Int)) (kt : ¬ x = w → G l b cy D R y cc ret nL mc ms Z tgt lv st kc ks sh n σ) (kf : x = w → G l b cy D R y cc ret nL mc ms Z pc' lv st kc ks sh n σ) : G l b cy D R y cc ret nL mc ms Z pc lv (.long w :: .long x :: st) kc ks sh n σ := by
  subst hp
  intro p e s m args below meth c H locs ls hx hb hr hml hown hts hlk hmn hK hbs hW hS hl
  refine W.lcmp hx hb hd ?_
  exact lv_if_ne hx hb hd2 ht (fun q => kt (fun z => q (cmp_eq.mpr z)) hx hb hr hml hown hts hlk hmn hK hbs hW hS hl) (fun q => kf (cmp_eq.mp q) hx hb hr hml hown hts hlk hmn hK hbs hW hS hl)
theorem g_lif_lt {x w : Int64} (hd : decode cc pc = .ok (.lcmp, 1)) (hd2 : decode cc (pc + 1) = .ok (.ifCond .lt off, 3)) (hp : pc + 1 + 3 = pc') (ht : ((pc + 1 : Nat) : Int) + off = (tgt : Int)) (kt : x < w → G l b cy D R y cc ret nL mc ms Z tgt lv st kc ks sh n σ) (kf : ¬ x < w → G l b cy D R y cc ret nL mc ms Z pc' lv st kc ks sh n σ) : G l b cy D R y cc ret nL mc ms Z pc lv (.long w :: .long x :: st) kc ks sh n σ := by
  subst hp
  intro p e s m args below meth c H locs ls hx hb hr hml hown hts hlk hmn hK hbs hW hS hl
  refine W.lcmp hx hb hd ?_
  exact lv_if_lt hx hb hd2 ht (fun q => kt (cmp_lt.mp q) hx hb hr hml hown hts hlk hmn hK hbs hW hS hl) (fun q => kf (fun z => q (cmp_lt.mpr z)) hx hb hr hml hown hts hlk hmn hK hbs hW hS hl)
theorem g_lif_ge {x w : Int64} (hd : decode cc pc = .ok (.lcmp, 1)) (hd2 : decode cc (pc + 1) = .ok (.ifCond .ge off, 3)) (hp : pc + 1 + 3 = pc') (ht : ((pc + 1 : Nat) : Int) + off = (tgt : Int)) (kt : ¬ x < w → G l b cy D R y cc ret nL mc ms Z tgt lv st kc ks sh n σ) (kf : x < w → G l b cy D R y cc ret nL mc ms Z pc' lv st kc ks sh n σ) : G l b cy D R y cc ret nL mc ms Z pc lv (.long w :: .long x :: st) kc ks sh n σ := by
  subst hp
  intro p e s m args below meth c H locs ls hx hb hr hml hown hts hlk hmn hK hbs hW hS hl
  refine W.lcmp hx hb hd ?_
  exact lv_if_ge hx hb hd2 ht (fun q => kt (fun z => absurd (cmp_lt.mpr z) (Int32.not_lt.mpr q)) hx hb hr hml hown hts hlk hmn hK hbs hW hS hl) (fun q => kf (cmp_lt.mp (Int32.not_le.mp q)) hx hb hr hml hown hts hlk hmn hK hbs hW hS hl)
theorem g_lif_gt {x w : Int64} (hd : decode cc pc = .ok (.lcmp, 1)) (hd2 : decode cc (pc + 1) = .ok (.ifCond .gt off, 3)) (hp : pc + 1 + 3 = pc') (ht : ((pc + 1 : Nat) : Int) + off = (tgt : Int)) (kt : w < x → G l b cy D R y cc ret nL mc ms Z tgt lv st kc ks sh n σ) (kf : ¬ w < x → G l b cy D R y cc ret nL mc ms Z pc' lv st kc ks sh n σ) : G l b cy D R y cc ret nL mc ms Z pc lv (.long w :: .long x :: st) kc ks sh n σ := by
  subst hp
  intro p e s m args below meth c H locs ls hx hb hr hml hown hts hlk hmn hK hbs hW hS hl
  refine W.lcmp hx hb hd ?_
  exact lv_if_gt hx hb hd2 ht (fun q => kt (cmp_gt.mp q) hx hb hr hml hown hts hlk hmn hK hbs hW hS hl) (fun q => kf (fun z => q (cmp_gt.mpr z)) hx hb hr hml hown hts hlk hmn hK hbs hW hS hl)
theorem g_lif_le {x w : Int64} (hd : decode cc pc = .ok (.lcmp, 1)) (hd2 : decode cc (pc + 1) = .ok (.ifCond .le off, 3)) (hp : pc + 1 + 3 = pc') (ht : ((pc + 1 : Nat) : Int) + off = (tgt : Int)) (kt : ¬ w < x → G l b cy D R y cc ret nL mc ms Z tgt lv st kc ks sh n σ) (kf : w < x → G l b cy D R y cc ret nL mc ms Z pc' lv st kc ks sh n σ) : G l b cy D R y cc ret nL mc ms Z pc lv (.long w :: .long x :: st) kc ks sh n σ := by
  subst hp
  intro p e s m args below meth c H locs ls hx hb hr hml hown hts hlk hmn hK hbs hW hS hl
  refine W.lcmp hx hb hd ?_
  exact lv_if_le hx hb hd2 ht (fun q => kt (fun z => absurd (cmp_gt.mpr z) (Int32.not_lt.mpr q)) hx hb hr hml hown hts hlk hmn hK hbs hW hS hl) (fun q => kf (cmp_gt.mp (Int32.not_le.mp q)) hx hb hr hml hown hts hlk hmn hK hbs hW hS hl)
theorem g_tabIn {dflt lo hi : Int} {offs : Array Int} {len : Nat} {x : Int32} (v : Int32) (hd : decode cc pc = .ok (.tableswitch dflt lo hi offs, len)) (hv : x = v) (h1 : ¬ v.toInt < lo) (h2 : ¬ hi < v.toInt) (ho : offs[(v.toInt - lo).toNat]? = some off) (ht : (pc : Int) + off = (tgt : Int)) (k : G l b cy D R y cc ret nL mc ms Z tgt lv st kc ks sh n σ) : G l b cy D R y cc ret nL mc ms Z pc lv (.int x :: st) kc ks sh n σ := by
  subst hv
  intro p e s m args below meth c H locs ls hx hb hr hml hown hts hlk hmn hK hbs hW hS hl
  exact lv_tableIn hx hb hd h1 h2 ho ht (k hx hb hr hml hown hts hlk hmn hK hbs hW hS hl)
theorem g_tabOut {dflt lo hi : Int} {offs : Array Int} {len : Nat} {x : Int32} (hd : decode cc pc = .ok (.tableswitch dflt lo hi offs, len)) (h : x.toInt < lo ∨ hi < x.toInt) (ht : (pc : Int) + dflt = (tgt : Int)) (k : G l b cy D R y cc ret nL mc ms Z tgt lv st kc ks sh n σ) : G l b cy D R y cc ret nL mc ms Z pc lv (.int x :: st) kc ks sh n σ := by
  intro p e s m args below meth c H locs ls hx hb hr hml hown hts hlk hmn hK hbs hW hS hl
  exact lv_tableOut hx hb hd h ht (k hx hb hr hml hown hts hlk hmn hK hbs hW hS hl)
theorem g_look {dflt : Int} {ps : Array (Int × Int)} {len : Nat} {x : Int32} (hd : decode cc pc = .ok (.lookupswitch dflt ps, len)) (hq : (ps.toList.zip (ps.toList.drop 1)).all (fun (a, next) => a.1 < next.1) = true) (ho : Op.lookupswitch.offset ps.toList dflt x.toInt = off) (ht : (pc : Int) + off = (tgt : Int)) (k : G l b cy D R y cc ret nL mc ms Z tgt lv st kc ks sh n σ) : G l b cy D R y cc ret nL mc ms Z pc lv (.int x :: st) kc ks sh n σ := by
  intro p e s m args below meth c H locs ls hx hb hr hml hown hts hlk hmn hK hbs hW hS hl
  exact lv_lookup hx hb hd hq ho ht (k hx hb hr hml hown hts hlk hmn hK hbs hW hS hl)
theorem g_iret {v : Int32} (hd : decode cc pc = .ok (.ireturn, 1)) (hr' : ret = some .int) (hc : kc = mc ∧ ks = ms) (hz : Z = (some (.int v), sh, n, σ)) : G l b cy D R y cc ret nL mc ms Z pc lv [.int v] kc ks sh n σ := by
  obtain ⟨rfl, rfl⟩ := hc
  subst hz
  intro p e s m args below meth c H locs ls hx hb hr hml hown hts hlk hmn hK hbs hW hS hl
  exact W.iret hx hb (hr.trans hr') (fun t ht hw => ⟨rfl, by rw [ht]; exact hW, hS.F ht⟩) hS.2.2 hd hlk
theorem g_zret {v : Int32} (hd : decode cc pc = .ok (.ireturn, 1)) (hr' : ret = some .boolean) (hv : v = 0 ∨ v = 1) (hc : kc = mc ∧ ks = ms) (hz : Z = (some (.int v), sh, n, σ)) : G l b cy D R y cc ret nL mc ms Z pc lv [.int v] kc ks sh n σ := by
  obtain ⟨rfl, rfl⟩ := hc
  subst hz
  intro p e s m args below meth c H locs ls hx hb hr hml hown hts hlk hmn hK hbs hW hS hl
  exact W.zret hx hb (hr.trans hr') (by rcases hv with rfl | rfl <;> rfl) (fun t ht hw => ⟨rfl, by rw [ht]; exact hW, hS.F ht⟩) hS.2.2 hd hlk
theorem g_lret {v : Int64} (hd : decode cc pc = .ok (.lreturn, 1)) (hr' : ret = some .long) (hc : kc = mc ∧ ks = ms) (hz : Z = (some (.long v), sh, n, σ)) : G l b cy D R y cc ret nL mc ms Z pc lv [.long v] kc ks sh n σ := by
  obtain ⟨rfl, rfl⟩ := hc
  subst hz
  intro p e s m args below meth c H locs ls hx hb hr hml hown hts hlk hmn hK hbs hW hS hl
  exact W.lret hx hb (hr.trans hr') (fun t ht hw => ⟨rfl, by rw [ht]; exact hW, hS.F ht⟩) hS.2.2 hd hlk
theorem g_vret (hd : decode cc pc = .ok (.return_, 1)) (hr' : ret = none) (hc : kc = mc ∧ ks = ms) (hz : Z = (none, sh, n, σ)) : G l b cy D R y cc ret nL mc ms Z pc lv [] kc ks sh n σ := by
  obtain ⟨rfl, rfl⟩ := hc
  subst hz
  intro p e s m args below meth c H locs ls hx hb hr hml hown hts hlk hmn hK hbs hW hS hl
  exact W.vret hx hb (hr.trans hr') (fun t ht hw => ⟨rfl, by rw [ht]; exact hW, hS.F ht⟩) hS.2.2 hd hlk
theorem g_aret {a : Nat} {C : String} (hd : decode cc pc = .ok (.areturn, 1)) (hr' : ret = some (.object C)) (hc : kc = mc ∧ ks = ms) (hz : Z = (some (.ref a), sh, n, σ)) : G l b cy D R y cc ret nL mc ms Z pc lv [.ref a] kc ks sh n σ := by
  obtain ⟨rfl, rfl⟩ := hc
  subst hz
  intro p e s m args below meth c H locs ls hx hb hr hml hown hts hlk hmn hK hbs hW hS hl
  exact W.aret hx hb (hr.trans hr') (Or.inl ⟨_, rfl⟩) (Or.inr ⟨_, rfl⟩) (fun t ht hw => ⟨rfl, by rw [ht]; exact hW, hS.F ht⟩) hS.2.2 hd hlk
/-- the pool's entry idx of a file names slot j of the kind ci -/
def FLk (own : String) (idx ci j : Nat) : Prop := ∃ (C : String) (T : u_T) (N : Nat), vwCl[ci]? = some (C, T, N) ∧ j < N ∧ (T j).1 = C ∧ (Cond.fieldLink own idx C (T j).2.1 (T j).2.2.1 ∈ gt ∨ ∃ host : String, Cond.fieldLinkNest own idx C (T j).2.1 (T j).2.2.1 host ∈ nestW)
def PLk (own : String) (idx ci j : Nat) (ty : FieldType) (fin : Bool) : Prop := ∃ (C : String) (T : u_T) (N : Nat), vwCl[ci]? = some (C, T, N) ∧ j < N ∧ (T j).1 = C ∧ (T j).2.2.2 = fin ∧ tyOf ci j = ty ∧ (Cond.fieldLink own idx C (T j).2.1 (T j).2.2.1 ∈ gt ∨ ∃ host : String, Cond.fieldLinkNest own idx C (T j).2.1 (T j).2.2.1 host ∈ nestW)
theorem PLk.lf {own : String} {idx ci j : Nat} {ty : FieldType} {fin : Bool} (h : PLk own idx ci j ty fin) : FLk own idx ci j := by
  obtain ⟨C, T, N, h1, h2, h3, -, -, h4⟩ := h
  exact ⟨C, T, N, h1, h2, h3, h4⟩
theorem g_get {k ci j cd idx : Nat} {q : List Nat} (hd : decode cc pc = .ok (.getfield idx, 3)) (hp : pc + 3 = pc') (hf : FLk y.cls idx ci j) (hk : isO sh n k ci q) (hc : q[j]? = some cd) (g : G l b cy D R y cc ret nL mc ms Z pc' lv (cv b σ k j cd :: st) kc ks sh n σ) : G l b cy D R y cc ret nL mc ms Z pc lv (.ref (b + k) :: st) kc ks sh n σ := by
  subst hp
  intro p e s m args below meth c H locs ls hx hb hr hml hown hts hlk hmn hK hbs hW hS hl
  obtain ⟨C, T, N, h1, h2, h3, h4⟩ := hf
  have hin : ∀ w ∈ u_ws C T N, w ∈ gt := cl_in (C, T, N) (List.mem_of_getElem? h1)
  rcases h4 with h4 | ⟨host, h4⟩
  · exact va_get (D := D) (ci := ci) (C := C) (T := T) (N := N) hx hb hts hin hown hK.1 hW.2 k (wl_o σ hk) h1 j h2 (hts _ h4) (fun _ h9 => by rw [h3] at h9; exact h9) (mi_get hc) hd (g hx hb hr hml hown hts hlk hmn hK hbs hW hS hl)
  · exact va_getN (D := D) (ci := ci) (C := C) (T := T) (N := N) hx hb hts hin hown hK.1 hW.2 k (wl_o σ hk) h1 j h2 (va_Nw.use rfl (hK.2.1 _ h4)) (fun _ h9 => by rw [h3] at h9; exact h9) (mi_get hc) hd (g hx hb hr hml hown hts hlk hmn hK hbs hW hS hl)
theorem g_getI {k ci j idx : Nat} {q : List Nat} (hd : decode cc pc = .ok (.getfield idx, 3)) (hp : pc + 3 = pc') (hf : FLk y.cls idx ci j) (hk : isO sh n k ci q) (hc : q[j]? = some 0) (g : G l b cy D R y cc ret nL mc ms Z pc' lv (.int (σ.1 k j) :: st) kc ks sh n σ) : G l b cy D R y cc ret nL mc ms Z pc lv (.ref (b + k) :: st) kc ks sh n σ := g_get hd hp hf hk hc g
theorem g_getL {k ci j idx : Nat} {q : List Nat} (hd : decode cc pc = .ok (.getfield idx, 3)) (hp : pc + 3 = pc') (hf : FLk y.cls idx ci j) (hk : isO sh n k ci q) (hc : q[j]? = some 1) (g : G l b cy D R y cc ret nL mc ms Z pc' lv (.long (σ.2 k j) :: st) kc ks sh n σ) : G l b cy D R y cc ret nL mc ms Z pc lv (.ref (b + k) :: st) kc ks sh n σ := g_get hd hp hf hk hc g
theorem cv_r {b : Nat} {σ : Sg} {k j a : Nat} : cv b σ k j (a + 3) = .ref (b + a) := by
  unfold cv
  rw [if_neg (by omega), if_neg (by omega), if_neg (by omega)]
  rfl
theorem g_getR {k ci j idx a : Nat} {q : List Nat} (hd : decode cc pc = .ok (.getfield idx, 3)) (hp : pc + 3 = pc') (hf : FLk y.cls idx ci j) (hk : isO sh n k ci q) (hc : q[j]? = some (a + 3)) (g : G l b cy D R y cc ret nL mc ms Z pc' lv (.ref (b + a) :: st) kc ks sh n σ) : G l b cy D R y cc ret nL mc ms Z pc lv (.ref (b + k) :: st) kc ks sh n σ := g_get hd hp hf hk hc (by rw [cv_r]; exact g)
theorem g_put {k ci j idx cd : Nat} {q : List Nat} {ty : FieldType} {v : Value} {σ' : Sg} (hd : decode cc pc = .ok (.putfield idx, 3)) (hp : pc + 3 = pc') (hf : PLk y.cls idx ci j ty false) (hk : isO sh n k ci q) (hc : q[j]? = some cd) (hn : narrow ty v = v) (hfit : fits ty v = true) (hs : (q.mapIdx (cv b σ k)).set j v = q.mapIdx (cv b σ' k)) (ho : ∀ a, a ≠ k → ce b cy sh σ' a = ce b cy sh σ a) (g : G l b cy D R y cc ret nL mc ms Z pc' lv st kc ks sh n σ') : G l b cy D R y cc ret nL mc ms Z pc lv (v :: .ref (b + k) :: st) kc ks sh n σ := by
  subst hp
  intro p e s m args below meth c H locs ls hx hb hr hml hown hts hlk hmn hK hbs hW hS hl
  obtain ⟨C, T, N, h1, h2, h3, h5, h6, h4⟩ := hf
  have hm : (C, T, N) ∈ vwCl := List.mem_of_getElem? h1
  have hin : ∀ w ∈ u_ws C T N, w ∈ gt := cl_in (C, T, N) hm
  have hlen : j < (q.mapIdx (cv b σ k)).length := by rw [List.length_mapIdx]; exact (List.getElem?_eq_some_iff.mp hc).1
  have hty : parseFieldDescriptor (T j).2.2.1 = some ty := by rw [← h6]; exact cl_ty ci (cl_lt h1) (C, T, N) h1 j h2
  have fin : ∀ (H1 : Heap) (locs1 : List Loc), H1.size = H.size → va_P D vwCl ((wl b cy sh n σ).set k (b + k, .inr (ci, (q.mapIdx (cv b σ k)).set j v))) H1 → va_S (fun q => b ≤ q) s.heap H1 locs1 → W p l e R s m args below meth c H1 locs1 kc ks (MQ below (Qx b cy D Z) args s mc ms (fun q => b ≤ q)) (F0 m (pc + 3) ls st) := by
    intro H1 locs1 hz hP hS1
    rw [wl_set hk.1 (by rw [ce_o σ' hk, hs]) ho] at hP
    exact g hx hb hr hml hown hts hlk hmn hK hbs ⟨fun h => hz.trans (hW.1 h), hP⟩ hS1 hl
  have hap := va_apart (own := y.cls) hts hin (tyOf ci) (fun k hk => cl_ty ci (cl_lt h1) (C, T, N) h1 k hk) (cl_nm (C, T, N) hm) hK.1 h1
  obtain ⟨r, g1, cell, q1, q2, q3, q4⟩ := hW.2 k _ (wl_o σ hk)
  have hr' : r = (C, T, N) := Option.some.inj (g1.symm.trans h1)
  subst hr'
  obtain ⟨hSl, hfc, kC, hkC, hkind⟩ := hK.1.1 ci _ h1
  obtain ⟨cf, kf, fi, f, hi, hsl⟩ := hSl j h2
  have hlay := hts _ (hin _ (u_in_lay h2))
  unfold u_lay at hlay
  rw [if_neg (by rw [h5]; decide)] at hlay
  have hst := (u_facts hfc hkC (u_lays hts hin h2) hi).1
  have h6' := u_store hfc hkC hkind hlay hi hty hn hfit
  have hsame : ∀ x, s.fieldFound? (T j).1 (T j).2.1 (T j).2.2.1 = some x → s.fieldFound? C (T j).2.1 (T j).2.2.1 = some x := fun _ h9 => by rw [h3] at h9; exact h9
  have done : ∀ (H' : Heap) (L : List Loc), H'[b + k]? = some (cell.setSlot f.slot v) → H'.size = H.size → (∀ q, q ≠ b + k → H'[q]? = H[q]?) → L = locs ++ [⟨b + k, f.slot⟩] → W p l e R s m args below meth c H' L kc ks (MQ below (Qx b cy D Z) args s mc ms (fun q => b ≤ q)) (F0 m (pc + 3) ls st) := by
    intro H' L e1 e2 e3 eL
    subst eL
    rw [hsl] at e1
    exact fin H' _ e2 (hW.2.set wl_D (wl_o σ hk) ⟨_, h1, t_OB.to (V := updV (vp_V (q.mapIdx (cv b σ k))) j v) ⟨_, e1, q2, q3, t_set q4 hap h2 v⟩ (fun i _ => vp_updV_set hlen v i)⟩ e3) (hS.put e2 e3 (Nat.le_add_right b k))
  rcases h4 with h4 | ⟨host, h4⟩
  · exact W.putK hx hb (f := f) ⟨hown, hts _ h4, ⟨_, _, _, hsame _ hi⟩, hst⟩ (by rw [q2]; exact h6') q1 q3 (by rw [hsl]; exact k2_hasslot (q4 j h2)) rfl rfl hd fun H' e1 e2 e3 => done H' _ e1 e2 e3 rfl
  · exact va_WputK hx hb hown (va_Nw.use rfl (hK.2.1 _ h4)) (hsame _ hi) hst (by rw [q2]; exact h6') q1 q3 (by rw [hsl]; exact k2_hasslot (q4 j h2)) rfl rfl hd fun H' e1 e2 e3 => done H' _ e1 e2 e3 rfl
theorem g_putI {k ci j idx : Nat} {q : List Nat} {v : Int32} (hd : decode cc pc = .ok (.putfield idx, 3)) (hp : pc + 3 = pc') (hf : PLk y.cls idx ci j .int false) (hk : isO sh n k ci q) (hc : q[j]? = some 0) (g : G l b cy D R y cc ret nL mc ms Z pc' lv st kc ks sh n (u2 σ.1 k j v, σ.2)) : G l b cy D R y cc ret nL mc ms Z pc lv (.int v :: .ref (b + k) :: st) kc ks sh n σ := g_put hd hp hf hk hc rfl rfl (mi_set1 hc) (fun _ h => ce_ne1 h) g
theorem g_putZ {k ci j idx : Nat} {q : List Nat} {v : Int32} (hd : decode cc pc = .ok (.putfield idx, 3)) (hp : pc + 3 = pc') (hf : PLk y.cls idx ci j .boolean false) (hv : v = 0 ∨ v = 1) (hk : isO sh n k ci q) (hc : q[j]? = some 0) (g : G l b cy D R y cc ret nL mc ms Z pc' lv st kc ks sh n (u2 σ.1 k j v, σ.2)) : G l b cy D R y cc ret nL mc ms Z pc lv (.int v :: .ref (b + k) :: st) kc ks sh n σ := g_put hd hp hf hk hc (by rcases hv with rfl | rfl <;> rfl) (by rcases hv with rfl | rfl <;> rfl) (mi_set1 hc) (fun _ h => ce_ne1 h) g
theorem g_putL {k ci j idx : Nat} {q : List Nat} {v : Int64} (hd : decode cc pc = .ok (.putfield idx, 3)) (hp : pc + 3 = pc') (hf : PLk y.cls idx ci j .long false) (hk : isO sh n k ci q) (hc : q[j]? = some 1) (g : G l b cy D R y cc ret nL mc ms Z pc' lv st kc ks sh n (σ.1, u2 σ.2 k j v)) : G l b cy D R y cc ret nL mc ms Z pc lv (.long v :: .ref (b + k) :: st) kc ks sh n σ := g_put hd hp hf hk hc rfl rfl (mi_set2 hc) (fun _ h => ce_ne2 h) g
theorem upd_u2 {f : Nat → Nat → Int32} {k j : Nat} {v : Int32} : u2 f k j v k = upd (f k) j v := by
  funext i
  simp [u2, upd]
theorem updL_u2 {f : Nat → Nat → Int64} {k j : Nat} {v : Int64} : u2 f k j v k = vp_updL (f k) j v := by
  funext i
  simp [u2, vp_updL]
theorem g_iald {k z j : Nat} {q : List Nat} {i : Int32} (hd : decode cc pc = .ok (.iaload, 1)) (hp : pc + 1 = pc') (hk : isR sh n k 0 z q) (hz : z < 2 ^ 31) (hi : i = nI j) (hj : j < z) (g : G l b cy D R y cc ret nL mc ms Z pc' lv (.int (σ.1 k j) :: st) kc ks sh n σ) : G l b cy D R y cc ret nL mc ms Z pc lv (.int i :: .ref (b + k) :: st) kc ks sh n σ := by
  subst hp; subst hi
  intro p e s m args below meth c H locs ls hx hb hr hml hown hts hlk hmn hK hbs hW hS hl
  refine va_iald hx hb hK.1 hW.2 k 0 (wl_r σ hk) rfl (vp_in_nI hj hz) hd ?_
  rw [nI_clamp (by omega)]
  exact g hx hb hr hml hown hts hlk hmn hK hbs hW hS hl
theorem g_zald {k z j : Nat} {q : List Nat} {i : Int32} (hd : decode cc pc = .ok (.baload, 1)) (hp : pc + 1 = pc') (hk : isR sh n k 2 z q) (hz : z < 2 ^ 31) (hi : i = nI j) (hj : j < z) (g : G l b cy D R y cc ret nL mc ms Z pc' lv (.int (σ.1 k j) :: st) kc ks sh n σ) : G l b cy D R y cc ret nL mc ms Z pc lv (.int i :: .ref (b + k) :: st) kc ks sh n σ := by
  subst hp; subst hi
  intro p e s m args below meth c H locs ls hx hb hr hml hown hts hlk hmn hK hbs hW hS hl
  refine va_zald hx hb hK.1 hW.2 k 2 (wl_r σ hk) rfl (vp_in_nI hj hz) hd ?_
  rw [nI_clamp (by omega)]
  exact g hx hb hr hml hown hts hlk hmn hK hbs hW hS hl
theorem g_lald {k z j : Nat} {q : List Nat} {i : Int32} (hd : decode cc pc = .ok (.laload, 1)) (hp : pc + 1 = pc') (hk : isR sh n k 1 z q) (hz : z < 2 ^ 31) (hi : i = nI j) (hj : j < z) (g : G l b cy D R y cc ret nL mc ms Z pc' lv (.long (σ.2 k j) :: st) kc ks sh n σ) : G l b cy D R y cc ret nL mc ms Z pc lv (.int i :: .ref (b + k) :: st) kc ks sh n σ := by
  subst hp; subst hi
  intro p e s m args below meth c H locs ls hx hb hr hml hown hts hlk hmn hK hbs hW hS hl
  refine va_lald hx hb hK.1 hW.2 k 1 (wl_r σ hk) rfl (vp_in_nI hj hz) hd ?_
  rw [nI_clamp (by omega)]
  exact g hx hb hr hml hown hts hlk hmn hK hbs hW hS hl
theorem rfs_at {b a j : Nat} {q : List Nat} (h : q[j]? = some (a + 1)) : rfs b q j = some (b + a) := by
  have e : q.getD j 0 = a + 1 := by rw [List.getD_eq_getElem?_getD, h]; rfl
  unfold rfs
  rw [e, if_neg (by omega)]
  rfl
theorem g_aald {k t z j a : Nat} {q : List Nat} {i : Int32} {C : String} (hd : decode cc pc = .ok (.aaload, 1)) (hp : pc + 1 = pc') (hk : isR sh n k t z q) (ht : 3 ≤ t) (hty : (tyl cy)[t]? = some (cy t, .object C)) (hz : z < 2 ^ 31) (hi : i = nI j) (hj : j < z) (hq : q[j]? = some (a + 1)) (g : G l b cy D R y cc ret nL mc ms Z pc' lv (.ref (b + a) :: st) kc ks sh n σ) : G l b cy D R y cc ret nL mc ms Z pc lv (.int i :: .ref (b + k) :: st) kc ks sh n σ := by
  subst hp; subst hi
  intro p e s m args below meth c H locs ls hx hb hr hml hown hts hlk hmn hK hbs hW hS hl
  refine va_aldq (f := rfs b q) hx hb hK.1 hW.2 k t (by rw [wl_r σ hk]; unfold ra; rw [if_neg (by omega), if_neg (by omega)]) hty (vp_in_nI hj hz) hd ?_
  rw [nI_clamp (by omega), rfs_at hq]
  exact g hx hb hr hml hown hts hlk hmn hK hbs hW hS hl
theorem g_iast {k z j : Nat} {q : List Nat} {i v : Int32} (hd : decode cc pc = .ok (.iastore, 1)) (hp : pc + 1 = pc') (hn : NP ≤ n) (hk : isR sh n k 0 z q) (hz : z < 2 ^ 31) (hi : i = nI j) (hj : j < z) (g : G l b cy D R y cc ret nL mc ms Z pc' lv st kc ks sh n (u2 σ.1 k j v, σ.2)) : G l b cy D R y cc ret nL mc ms Z pc lv (.int v :: .int i :: .ref (b + k) :: st) kc ks sh n σ := by
  subst hp; subst hi
  intro p e s m args below meth c H locs ls hx hb hr hml hown hts hlk hmn hK hbs hW hS hl
  refine va_iast hx hb hK.1 hW.2 wl_D hS k 0 (wl_r σ hk) rfl (vp_in_nI hj hz) hd (fun H1 locs1 hP _ hS1 => ?_)
  rw [nI_clamp (by omega)] at hP
  rw [wl_set (σ' := (u2 σ.1 k j v, σ.2)) hk.1 (by rw [ce_r _ hk]; show Sum.inl (cy 0, z, Sum.inl (u2 σ.1 k j v k)) = _; rw [upd_u2]) (fun _ h => ce_ne1 h)] at hP
  exact g hx hb hr hml hown hts hlk hmn hK hbs ⟨fun h => absurd h (by omega), hP⟩ hS1 hl
theorem g_zast {k z j : Nat} {q : List Nat} {i v : Int32} (hd : decode cc pc = .ok (.bastore, 1)) (hp : pc + 1 = pc') (hn : NP ≤ n) (hv : v = 0 ∨ v = 1) (hk : isR sh n k 2 z q) (hz : z < 2 ^ 31) (hi : i = nI j) (hj : j < z) (g : G l b cy D R y cc ret nL mc ms Z pc' lv st kc ks sh n (u2 σ.1 k j v, σ.2)) : G l b cy D R y cc ret nL mc ms Z pc lv (.int v :: .int i :: .ref (b + k) :: st) kc ks sh n σ := by
  subst hp; subst hi
  intro p e s m args below meth c H locs ls hx hb hr hml hown hts hlk hmn hK hbs hW hS hl
  refine va_zast hx hb hK.1 hW.2 wl_D hS k 2 (wl_r σ hk) rfl (vp_in_nI hj hz) hd (fun H1 locs1 hP _ hS1 => ?_)
  rw [nI_clamp (by omega), show vp_nar .boolean v = v by rcases hv with rfl | rfl <;> rfl] at hP
  rw [wl_set (σ' := (u2 σ.1 k j v, σ.2)) hk.1 (by rw [ce_r _ hk]; show Sum.inl (cy 2, z, Sum.inl (u2 σ.1 k j v k)) = _; rw [upd_u2]) (fun _ h => ce_ne1 h)] at hP
  exact g hx hb hr hml hown hts hlk hmn hK hbs ⟨fun h => absurd h (by omega), hP⟩ hS1 hl
theorem g_last {k z j : Nat} {q : List Nat} {i : Int32} {v : Int64} (hd : decode cc pc = .ok (.lastore, 1)) (hp : pc + 1 = pc') (hn : NP ≤ n) (hk : isR sh n k 1 z q) (hz : z < 2 ^ 31) (hi : i = nI j) (hj : j < z) (g : G l b cy D R y cc ret nL mc ms Z pc' lv st kc ks sh n (σ.1, u2 σ.2 k j v)) : G l b cy D R y cc ret nL mc ms Z pc lv (.long v :: .int i :: .ref (b + k) :: st) kc ks sh n σ := by
  subst hp; subst hi
  intro p e s m args below meth c H locs ls hx hb hr hml hown hts hlk hmn hK hbs hW hS hl
  refine va_last hx hb hK.1 hW.2 wl_D hS k 1 (wl_r σ hk) rfl (vp_in_nI hj hz) hd (fun H1 locs1 hP _ hS1 => ?_)
  rw [nI_clamp (by omega)] at hP
  rw [wl_set (σ' := (σ.1, u2 σ.2 k j v)) hk.1 (by rw [ce_r _ hk]; show Sum.inl (cy 1, z, Sum.inr (Sum.inl (u2 σ.2 k j v k))) = _; rw [updL_u2]) (fun _ h => ce_ne2 h)] at hP
  exact g hx hb hr hml hown hts hlk hmn hK hbs ⟨fun h => absurd h (by omega), hP⟩ hS1 hl
/-- the row at place k with the n ints from sp of the row at place k0 laid into it from dp on -/
def cpy (f : Nat → Nat → Int32) (k0 k sp dp m : Nat) : Nat → Nat → Int32 := fun a i => if a = k then va_cpy (f k0) (f k) sp dp m i else f a i
theorem ce_cpy {b : Nat} {cy : Nat → ClassId} {sh : Nat → Shp} {σ : Sg} {k0 k sp dp m a : Nat} (h : a ≠ k) : ce b cy sh (cpy σ.1 k0 k sp dp m, σ.2) a = ce b cy sh σ a := by
  have e : cpy σ.1 k0 k sp dp m a = σ.1 a := funext fun i => if_neg h
  unfold ce
  cases sh a with
  | inl o =>
    have : cv b (cpy σ.1 k0 k sp dp m, σ.2) a = cv b σ a := by funext i q; simp only [cv, e]
    simp only [this]
  | inr r => simp only [ra, e]
theorem g_copy {k0 k z0 z sp dp cn idx : Nat} {q0 q : List Nat} {isp idp im : Int32} (hd : decode cc pc = .ok (.invokestatic idx, 3)) (hp : pc + 3 = pc') (hn : NP ≤ n) (hlk' : Cond.methodLink y.cls idx arraycopyName ∈ gt) (hnat : Cond.native arraycopyName ∈ gt) (hsta : Cond.static arraycopyName ∈ gt) (hini : Cond.initialized "java/lang/System" ∈ gt) (hk0 : isR sh n k0 0 z0 q0) (hk : isR sh n k 0 z q) (h1 : isp = nI sp) (h2 : idp = nI dp) (h3 : im = nI cn) (h4 : sp + cn ≤ z0) (h5 : dp + cn ≤ z) (hz0 : z0 < 2 ^ 31) (hz : z < 2 ^ 31) (hR : 1 ≤ R.frames ∧ (st.map fun v => v.category).sum + (nativeFrameWords "java/lang/System" "arraycopy" 5 + 11) ≤ R.locals) (g : G l b cy D R y cc ret nL mc ms Z pc' lv st kc ks sh n (cpy σ.1 k0 k sp dp cn, σ.2)) : G l b cy D R y cc ret nL mc ms Z pc lv (.int im :: .int idp :: .ref (b + k) :: .int isp :: .ref (b + k0) :: st) kc ks sh n σ := by
  subst hp; subst h1; subst h2; subst h3
  intro p e s m args below meth c H locs ls hx hb hr hml hown hts hlk hmn hK hbs hW hS hl
  refine va_copyi hx hb (hml.trans hl.1.symm) hown (hts _ hlk') (hts _ hnat) (hts _ hsta) (hts _ hini) hK.1 hW.2 wl_D hS k0 k 0 0 (wl_r σ hk0) (wl_r σ hk) rfl rfl rfl (nI_pos (by omega)) (nI_pos (by omega)) (nI_pos (by omega)) (by rw [nI_clamp (by omega), nI_clamp (by omega)]; exact h4) (by rw [nI_clamp (by omega), nI_clamp (by omega)]; exact h5) (fun _ _ => rfl) hR.1 hR.2 hd (fun H1 locs1 hP _ hS1 => ?_)
  rw [nI_clamp (by omega), nI_clamp (by omega), nI_clamp (by omega)] at hP
  rw [wl_set (σ' := (cpy σ.1 k0 k sp dp cn, σ.2)) hk.1 (by rw [ce_r _ hk]; show Sum.inl (cy 0, z, Sum.inl (cpy σ.1 k0 k sp dp cn k)) = _; rw [show cpy σ.1 k0 k sp dp cn k = va_cpy (σ.1 k0) (σ.1 k) sp dp cn from funext fun i => if_pos rfl]) (fun _ h => ce_cpy h)] at hP
  exact g hx hb hr hml hown hts hlk hmn hK hbs ⟨fun h => absurd h (by omega), hP⟩ hS1 hl
/-- a call of a method of an object, and of a static one, by the pool's entry -/
def VLk (own : String) (idx : Nat) (y : MethodName) (cc : ByteArray) (nL : Nat) (ret : Option FieldType) (na : Nat) : Prop := Cond.methodLink own idx y ∈ gt ∧ Cond.instanceMethod y ∈ gt ∧ Cond.selects y.cls y y ∈ gt ∧ Cond.initialized y.cls ∈ gt ∧ Cond.code y cc nL ret ∈ gt ∧ (y.cls ≠ "java/lang/invoke/MethodHandle" ∧ y.cls ≠ "java/lang/invoke/VarHandle" ∧ (parseMethodDescriptor y.desc).map (fun d => d.parameters.length) = some na)
def SLk (own : String) (idx : Nat) (y : MethodName) (cc : ByteArray) (nL : Nat) (ret : Option FieldType) (na : Nat) : Prop := Cond.methodLink own idx y ∈ gt ∧ Cond.static y ∈ gt ∧ Cond.initialized y.cls ∈ gt ∧ Cond.code y cc nL ret ∈ gt ∧ (y.cls ≠ "java/lang/invoke/MethodHandle" ∧ y.cls ≠ "java/lang/invoke/VarHandle" ∧ (parseMethodDescriptor y.desc).map (fun d => d.parameters.length) = some na)
theorem gt_ws {y : MethodName} {cc : ByteArray} {nL : Nat} {ret : Option FieldType} (h : Cond.code y cc nL ret ∈ gt) : GoodIn gt (Cond.code y cc nL ret :: gt) := by
  intro w hw
  rcases List.mem_cons.mp hw with rfl | hw
  · exact ⟨h, good_of_word (gt_good h)⟩
  · exact ⟨hw, good_of_word (gt_good hw)⟩
theorem px_blind {b : Nat} {cy : Nat → ClassId} {D : va_G} {av : List Value} {sh : Nat → Shp} {n : Nat} {σ : Sg} : FrameBlind (Px b cy D av sh n σ) := fun a U gf mk h => ⟨h.1, Kx.same (s := U) (U := U.calling gf mk a) rfl rfl h.2.1, h.2.2⟩
theorem px_at {b : Nat} {cy : Nat → ClassId} {D : va_G} {av : List Value} {sh : Nat → Shp} {n : Nat} {σ : Sg} {s : State} {H : Heap} {locs : List Loc} (hK : Kx b cy D s) (hW : Wd b cy D sh n σ H) (hS : va_S (fun q => b ≤ q) s.heap H locs) : ∀ U : State, U.heap = H → s.WarmedH U.vm → Px b cy D av sh n σ av.toArray U := fun U hU hw => ⟨rfl, hK.go hw (fun a h1 h2 => by rw [hU]; exact hS.2.1 a h1 h2), by rw [hU]; exact hW⟩
theorem w_back {p : Program} {e : Env} {s : State} {m : MethodId} {args : Array Value} {below : List Frame} {meth : Method} {c : Code} {H : Heap} {locs : List Loc} {ls : Array Slot} {mc' ms' : Nat} {Z' : Zt} {st0 rest : List Value} {a : Array Value} {Q : State → Prop} (hr : va_Run p l e R s m args below meth c H locs kc ks mc' ms' (F0 m pc ls st0) rest (Qx b cy D Z' a) (fun q => b ≤ q)) (hS : va_S (fun q => b ≤ q) s.heap H locs)
    (kk : ∀ (H1 : Heap) (locs1 : List Loc), Wd b cy D Z'.2.1 Z'.2.2.1 Z'.2.2.2 H1 → va_S (fun q => b ≤ q) s.heap H1 locs1 → W p l e R s m args below meth c H1 locs1 (kc + mc') (ks + ms') Q (F0 m (pc + 3) ls (Z'.1.toList ++ rest))) : W p l e R s m args below meth c H locs kc ks Q (F0 m pc ls st0) := by
  intro T hT X
  obtain ⟨v, st₀, t, T', L, h0, X', hL, e1, e2, ⟨hv, hw, hz, hk⟩, stp⟩ := hr T hT X
  cases hv
  rw [h0] at hz hk
  obtain ⟨t2, a1, b1⟩ := kk T'.heap (locs ++ L) (by rw [e1]; exact hw) ⟨Nat.le_trans hS.1 (by rw [e1]; exact hz), fun q h1 h2 => by rw [e1, hk q (Nat.lt_of_lt_of_le h1 hS.1) h2]; exact hS.2.1 q h1 h2, fun q hq => by
      rcases List.mem_append.mp hq with h | h
      · exact hS.2.2 q h
      · exact hL q h⟩ T' rfl X'
  exact ⟨t2, stp t2 a1, b1⟩
/-- one room holds another one and its frame -/
def RmO (R R' : Room) (nL' : Nat) : Prop := R'.frames + 1 ≤ R.frames ∧ 8 + (nL' + 11) + R'.locals ≤ R.locals
theorem g_call {y' : MethodName} {cc' : ByteArray} {ret' : Option FieldType} {nL' na k ci idx : Nat} {q : List Nat} {R' : Room} {As st0 : List Value} {Z' : Zt} (hd : decode cc pc = .ok (.invokevirtual idx, 3)) (hp : pc + 3 = pc') (hL : VLk y.cls idx y' cc' nL' ret' na) (hM : Ev l b cy D R' y' cc' ret' nL' 0 0 (.ref (b + k) :: As) sh n σ Z') (hk : isO sh n k ci q) (hci : (vwCl[ci]?).map (fun c => c.1) = some y'.cls) (hR : RmO R R' nL') (hR0 : R'.cells = 0 ∧ R'.slots = 0) (hcs : kc ≤ R.cells ∧ ks ≤ R.slots) (hna : As.length = na) (hst : st0 = As.reverse ++ .ref (b + k) :: st) (hrm : (st.map fun v => v.category).sum ≤ 8) (g : G l b cy D R y cc ret nL mc ms Z pc' lv (Z'.1.toList ++ st) kc ks Z'.2.1 Z'.2.2.1 Z'.2.2.2) : G l b cy D R y cc ret nL mc ms Z pc lv st0 kc ks sh n σ := by
  subst hp
  intro p e s m args below meth c H locs ls hx hb hr hml hown hts hlk hmn hK hbs hW hS hl
  obtain ⟨h1, h2, h3, h4, h5, h6⟩ := hL
  obtain ⟨r, hr1, hr2⟩ : ∃ r, vwCl[ci]? = some r ∧ r.1 = y'.cls := by
    cases hq : vwCl[ci]? with
    | none => rw [hq] at hci; cases hci
    | some r => rw [hq] at hci; exact ⟨r, rfl, Option.some.inj hci⟩
  have hrec := va_recv hK.1 hW.2 hr1 (wl_o σ hk)
  rw [hr2] at hrec
  refine w_back (va_runV (As := As) (rest := st) (C := y'.cls) (n := na) ⟨hx, hb, hml, hown, hts⟩ hM ⟨callB_of na hts (gt_ws h5) rfl hR0.1 hR0.2 (hts _ h4) (hts _ h1) h6 hR, hts _ h2, hts _ h3⟩ ⟨px_blind, hrec, px_at hK hW hS⟩ rfl hna hl.1 hst (lv_room hrm) hd ⟨hcs.1, hcs.2⟩) hS (fun H1 locs1 hW1 hS1 => ?_)
  exact g hx hb hr hml hown hts hlk hmn hK hbs hW1 hS1 hl
theorem g_calls {y' : MethodName} {cc' : ByteArray} {ret' : Option FieldType} {nL' na idx : Nat} {R' : Room} {As st0 : List Value} {Z' : Zt} (hd : decode cc pc = .ok (.invokestatic idx, 3)) (hp : pc + 3 = pc') (hL : SLk y.cls idx y' cc' nL' ret' na) (hM : Ev l b cy D R' y' cc' ret' nL' 0 0 As sh n σ Z') (hR : RmO R R' nL') (hR0 : R'.cells = 0 ∧ R'.slots = 0) (hcs : kc ≤ R.cells ∧ ks ≤ R.slots) (hna : As.length = na) (hst : st0 = As.reverse ++ st) (hrm : (st.map fun v => v.category).sum ≤ 8) (g : G l b cy D R y cc ret nL mc ms Z pc' lv (Z'.1.toList ++ st) kc ks Z'.2.1 Z'.2.2.1 Z'.2.2.2) : G l b cy D R y cc ret nL mc ms Z pc lv st0 kc ks sh n σ := by
  subst hp
  intro p e s m args below meth c H locs ls hx hb hr hml hown hts hlk hmn hK hbs hW hS hl
  obtain ⟨h1, h2, h4, h5, h6⟩ := hL
  refine w_back (va_runS (As := As) (rest := st) (n := na) ⟨hx, hb, hml, hown, hts⟩ hM ⟨callB_of na hts (gt_ws h5) rfl hR0.1 hR0.2 (hts _ h4) (hts _ h1) h6 hR, hts _ h2⟩ ⟨px_blind, px_at hK hW hS⟩ rfl hna hl.1 hst (lv_room hrm) hd ⟨hcs.1, hcs.2⟩) hS (fun H1 locs1 hW1 hS1 => ?_)
  exact g hx hb hr hml hown hts hlk hmn hK hbs hW1 hS1 hl
theorem g_callr {y' : MethodName} {cc' : ByteArray} {ret' : Option FieldType} {nL' na k ci idx : Nat} {q : List Nat} {R' : Room} {As st0 : List Value} {v : Value} {sh' : Nat → Shp} {n' : Nat} {σ' : Sg} (hd : decode cc pc = .ok (.invokevirtual idx, 3)) (hp : pc + 3 = pc') (hL : VLk y.cls idx y' cc' nL' ret' na) (hM : Ev l b cy D R' y' cc' ret' nL' 0 0 (.ref (b + k) :: As) sh n σ (some v, sh', n', σ')) (hk : isO sh n k ci q) (hci : (vwCl[ci]?).map (fun c => c.1) = some y'.cls) (hR : RmO R R' nL') (hR0 : R'.cells = 0 ∧ R'.slots = 0) (hcs : kc ≤ R.cells ∧ ks ≤ R.slots) (hna : As.length = na) (hst : st0 = As.reverse ++ .ref (b + k) :: st) (hrm : (st.map fun v => v.category).sum ≤ 8) (g : G l b cy D R y cc ret nL mc ms Z pc' lv (v :: st) kc ks sh' n' σ') : G l b cy D R y cc ret nL mc ms Z pc lv st0 kc ks sh n σ := g_call hd hp hL hM hk hci hR hR0 hcs hna hst hrm g
theorem g_callv {y' : MethodName} {cc' : ByteArray} {ret' : Option FieldType} {nL' na k ci idx : Nat} {q : List Nat} {R' : Room} {As st0 : List Value} {sh' : Nat → Shp} {n' : Nat} {σ' : Sg} (hd : decode cc pc = .ok (.invokevirtual idx, 3)) (hp : pc + 3 = pc') (hL : VLk y.cls idx y' cc' nL' ret' na) (hM : Ev l b cy D R' y' cc' ret' nL' 0 0 (.ref (b + k) :: As) sh n σ (none, sh', n', σ')) (hk : isO sh n k ci q) (hci : (vwCl[ci]?).map (fun c => c.1) = some y'.cls) (hR : RmO R R' nL') (hR0 : R'.cells = 0 ∧ R'.slots = 0) (hcs : kc ≤ R.cells ∧ ks ≤ R.slots) (hna : As.length = na) (hst : st0 = As.reverse ++ .ref (b + k) :: st) (hrm : (st.map fun v => v.category).sum ≤ 8) (g : G l b cy D R y cc ret nL mc ms Z pc' lv st kc ks sh' n' σ') : G l b cy D R y cc ret nL mc ms Z pc lv st0 kc ks sh n σ := g_call hd hp hL hM hk hci hR hR0 hcs hna hst hrm g
theorem g_callsr {y' : MethodName} {cc' : ByteArray} {ret' : Option FieldType} {nL' na idx : Nat} {R' : Room} {As st0 : List Value} {v : Value} {sh' : Nat → Shp} {n' : Nat} {σ' : Sg} (hd : decode cc pc = .ok (.invokestatic idx, 3)) (hp : pc + 3 = pc') (hL : SLk y.cls idx y' cc' nL' ret' na) (hM : Ev l b cy D R' y' cc' ret' nL' 0 0 As sh n σ (some v, sh', n', σ')) (hR : RmO R R' nL') (hR0 : R'.cells = 0 ∧ R'.slots = 0) (hcs : kc ≤ R.cells ∧ ks ≤ R.slots) (hna : As.length = na) (hst : st0 = As.reverse ++ st) (hrm : (st.map fun v => v.category).sum ≤ 8) (g : G l b cy D R y cc ret nL mc ms Z pc' lv (v :: st) kc ks sh' n' σ') : G l b cy D R y cc ret nL mc ms Z pc lv st0 kc ks sh n σ := g_calls hd hp hL hM hR hR0 hcs hna hst hrm g
/-- the rooms of methods that make nothing, by how deep they call -/
def rm (d : Nat) : Room := { frames := d, cells := 0, slots := 0, locals := 40 * d }
theorem rm_ok {d d' nL : Nat} (h : d' + 1 ≤ d) (h2 : nL ≤ 21) : RmO (rm d) (rm d') nL := ⟨h, by show 8 + (nL + 11) + 40 * d' ≤ 40 * d; omega⟩

end
end
section
theorem gt_t {t : List Cond} (ht : ∀ w ∈ t, w ∈ lw_tbl) {w : Cond} (i : Nat) (h : t[i]? = some w) (g : goodWord w = true) : w ∈ gt := List.mem_filter.mpr ⟨ht w (List.mem_of_getElem? h), g⟩
theorem it1 : ∀ w ∈ tables_1_1, w ∈ lw_tbl := fun _ h => List.mem_append_right _ (List.mem_append_left _ h)
theorem it2 : ∀ w ∈ tables_1_2, w ∈ lw_tbl := fun _ h => List.mem_append_right _ (List.mem_append_right _ (List.mem_append_left _ h))
theorem it3 : ∀ w ∈ tables_1_3, w ∈ lw_tbl := fun _ h => List.mem_append_right _ (List.mem_append_right _ (List.mem_append_right _ (List.mem_append_left _ h)))
theorem it4 : ∀ w ∈ tables_1_4, w ∈ lw_tbl := fun _ h => List.mem_append_right _ (List.mem_append_right _ (List.mem_append_right _ (List.mem_append_right _ (List.mem_append_left _ h))))
theorem it5 : ∀ w ∈ tables_1_5, w ∈ lw_tbl := fun _ h => List.mem_append_right _ (List.mem_append_right _ (List.mem_append_right _ (List.mem_append_right _ (List.mem_append_right _ (List.mem_append_left _ h)))))
theorem it6 : ∀ w ∈ tables_1_6, w ∈ lw_tbl := fun _ h => List.mem_append_right _ (List.mem_append_right _ (List.mem_append_right _ (List.mem_append_right _ (List.mem_append_right _ (List.mem_append_right _ h)))))
theorem fX5_11 : PLk RX5 11 5 0 (.array .int) true := ⟨_, _, _, rfl, by decide, rfl, rfl, rfl, Or.inl (gt_t it1 35 rfl rfl)⟩
theorem fX5_15 : PLk RX5 15 5 1 .int false := ⟨_, _, _, rfl, by decide, rfl, rfl, rfl, Or.inl (gt_t it1 36 rfl rfl)⟩
theorem fX4_11 : PLk RX4 11 4 0 (.array (.object "MatrixKin$Shelf")) true := ⟨_, _, _, rfl, by decide, rfl, rfl, rfl, Or.inl (gt_t it1 52 rfl rfl)⟩
theorem fX4_17 : PLk RX4 17 4 1 .int false := ⟨_, _, _, rfl, by decide, rfl, rfl, rfl, Or.inl (gt_t it1 53 rfl rfl)⟩
theorem fX4_21 : PLk RX4 21 4 2 .int false := ⟨_, _, _, rfl, by decide, rfl, rfl, rfl, Or.inl (gt_t it1 54 rfl rfl)⟩
theorem fX7_9 : PLk RX7 9 7 0 (.array .int) true := ⟨_, _, _, rfl, by decide, rfl, rfl, rfl, Or.inl (gt_t it1 68 rfl rfl)⟩
theorem fX7_15 : PLk RX7 15 7 1 .int false := ⟨_, _, _, rfl, by decide, rfl, rfl, rfl, Or.inl (gt_t it1 69 rfl rfl)⟩
theorem fX7_19 : PLk RX7 19 7 2 .int false := ⟨_, _, _, rfl, by decide, rfl, rfl, rfl, Or.inl (gt_t it1 70 rfl rfl)⟩
theorem fX0_9 : PLk RX0 9 0 0 (.array .int) true := ⟨_, _, _, rfl, by decide, rfl, rfl, rfl, Or.inl (gt_t it1 84 rfl rfl)⟩
theorem fX0_15 : PLk RX0 15 0 1 (.array .int) true := ⟨_, _, _, rfl, by decide, rfl, rfl, rfl, Or.inl (gt_t it1 85 rfl rfl)⟩
theorem fX0_18 : PLk RX0 18 0 2 (.array .boolean) true := ⟨_, _, _, rfl, by decide, rfl, rfl, rfl, Or.inl (gt_t it1 86 rfl rfl)⟩
theorem fX0_22 : PLk RX0 22 0 3 .int false := ⟨_, _, _, rfl, by decide, rfl, rfl, rfl, Or.inl (gt_t it1 87 rfl rfl)⟩
theorem fX6_9 : PLk RX6 9 6 0 .long false := ⟨_, _, _, rfl, by decide, rfl, rfl, rfl, Or.inl (gt_t it1 117 rfl rfl)⟩
theorem fX9_26 : PLk RX9 26 6 0 .long false := ⟨_, _, _, rfl, by decide, rfl, rfl, rfl, Or.inr ⟨"MatrixKin", List.mem_filter.mpr ⟨it1 _ (List.mem_of_getElem? (i := 118) rfl), rfl⟩⟩⟩
theorem fX5_29 : PLk RX5 29 6 0 .long false := ⟨_, _, _, rfl, by decide, rfl, rfl, rfl, Or.inr ⟨"MatrixKin", List.mem_filter.mpr ⟨it1 _ (List.mem_of_getElem? (i := 119) rfl), rfl⟩⟩⟩
theorem fX6_15 : PLk RX6 15 6 1 .long false := ⟨_, _, _, rfl, by decide, rfl, rfl, rfl, Or.inl (gt_t it1 120 rfl rfl)⟩
theorem fX3_65 : PLk RX3 65 6 1 .long false := ⟨_, _, _, rfl, by decide, rfl, rfl, rfl, Or.inr ⟨"MatrixKin", List.mem_filter.mpr ⟨it1 _ (List.mem_of_getElem? (i := 121) rfl), rfl⟩⟩⟩
theorem fX9_33 : PLk RX9 33 6 1 .long false := ⟨_, _, _, rfl, by decide, rfl, rfl, rfl, Or.inr ⟨"MatrixKin", List.mem_filter.mpr ⟨it1 _ (List.mem_of_getElem? (i := 122) rfl), rfl⟩⟩⟩
theorem fX5_33 : PLk RX5 33 6 1 .long false := ⟨_, _, _, rfl, by decide, rfl, rfl, rfl, Or.inr ⟨"MatrixKin", List.mem_filter.mpr ⟨it1 _ (List.mem_of_getElem? (i := 123) rfl), rfl⟩⟩⟩
theorem fX6_18 : PLk RX6 18 6 2 .long false := ⟨_, _, _, rfl, by decide, rfl, rfl, rfl, Or.inl (gt_t it1 124 rfl rfl)⟩
theorem fX3_69 : PLk RX3 69 6 2 .long false := ⟨_, _, _, rfl, by decide, rfl, rfl, rfl, Or.inr ⟨"MatrixKin", List.mem_filter.mpr ⟨it1 _ (List.mem_of_getElem? (i := 125) rfl), rfl⟩⟩⟩
theorem fX9_30 : PLk RX9 30 6 2 .long false := ⟨_, _, _, rfl, by decide, rfl, rfl, rfl, Or.inr ⟨"MatrixKin", List.mem_filter.mpr ⟨it1 _ (List.mem_of_getElem? (i := 126) rfl), rfl⟩⟩⟩
theorem fX5_36 : PLk RX5 36 6 2 .long false := ⟨_, _, _, rfl, by decide, rfl, rfl, rfl, Or.inr ⟨"MatrixKin", List.mem_filter.mpr ⟨it1 _ (List.mem_of_getElem? (i := 127) rfl), rfl⟩⟩⟩
theorem fX6_21 : PLk RX6 21 6 3 .long false := ⟨_, _, _, rfl, by decide, rfl, rfl, rfl, Or.inl (gt_t it1 128 rfl rfl)⟩
theorem fX9_36 : PLk RX9 36 6 3 .long false := ⟨_, _, _, rfl, by decide, rfl, rfl, rfl, Or.inr ⟨"MatrixKin", List.mem_filter.mpr ⟨it1 _ (List.mem_of_getElem? (i := 129) rfl), rfl⟩⟩⟩
theorem fX5_39 : PLk RX5 39 6 3 .long false := ⟨_, _, _, rfl, by decide, rfl, rfl, rfl, Or.inr ⟨"MatrixKin", List.mem_filter.mpr ⟨it1 _ (List.mem_of_getElem? (i := 130) rfl), rfl⟩⟩⟩
theorem fX9_12 : PLk RX9 12 9 0 (.object "MatrixKin$Square") true := ⟨_, _, _, rfl, by decide, rfl, rfl, rfl, Or.inl (gt_t it1 156 rfl rfl)⟩
theorem fX8_9 : PLk RX8 9 8 0 (.array .int) true := ⟨_, _, _, rfl, by decide, rfl, rfl, rfl, Or.inl (gt_t it1 160 rfl rfl)⟩
theorem fX8_18 : PLk RX8 18 8 1 (.object "MatrixKin$Square") true := ⟨_, _, _, rfl, by decide, rfl, rfl, rfl, Or.inl (gt_t it1 161 rfl rfl)⟩
theorem fX8_25 : PLk RX8 25 8 2 (.object "MatrixKin$Word") true := ⟨_, _, _, rfl, by decide, rfl, rfl, rfl, Or.inl (gt_t it1 162 rfl rfl)⟩
theorem fX8_29 : PLk RX8 29 8 3 .int false := ⟨_, _, _, rfl, by decide, rfl, rfl, rfl, Or.inl (gt_t it1 163 rfl rfl)⟩
theorem fX8_33 : PLk RX8 33 8 4 .int false := ⟨_, _, _, rfl, by decide, rfl, rfl, rfl, Or.inl (gt_t it1 164 rfl rfl)⟩
theorem fX3_12 : PLk RX3 12 3 0 (.object "MatrixKin$Square") true := ⟨_, _, _, rfl, by decide, rfl, rfl, rfl, Or.inl (gt_t it1 176 rfl rfl)⟩
theorem fX3_21 : PLk RX3 21 3 1 (.object "MatrixKin$Wheel") true := ⟨_, _, _, rfl, by decide, rfl, rfl, rfl, Or.inl (gt_t it1 177 rfl rfl)⟩
theorem fX3_25 : PLk RX3 25 3 2 .int false := ⟨_, _, _, rfl, by decide, rfl, rfl, rfl, Or.inl (gt_t it1 178 rfl rfl)⟩
theorem fX3_29 : PLk RX3 29 3 3 .int false := ⟨_, _, _, rfl, by decide, rfl, rfl, rfl, Or.inl (gt_t it1 179 rfl rfl)⟩
theorem fX2_45 : PLk RX2 45 2 0 (.object "MatrixKin$Shelf") true := ⟨_, _, _, rfl, by decide, rfl, rfl, rfl, Or.inl (gt_t it1 193 rfl rfl)⟩
theorem fX2_11 : PLk RX2 11 2 1 (.array (.object "MatrixKin$Kin")) true := ⟨_, _, _, rfl, by decide, rfl, rfl, rfl, Or.inl (gt_t it1 194 rfl rfl)⟩
theorem fX2_18 : PLk RX2 18 2 2 (.object "MatrixKin$Kin") true := ⟨_, _, _, rfl, by decide, rfl, rfl, rfl, Or.inl (gt_t it1 195 rfl rfl)⟩
theorem fX2_25 : PLk RX2 25 2 3 (.object "MatrixKin$Square") true := ⟨_, _, _, rfl, by decide, rfl, rfl, rfl, Or.inl (gt_t it1 196 rfl rfl)⟩
theorem fX2_29 : PLk RX2 29 2 4 (.object "MatrixKin$Square") true := ⟨_, _, _, rfl, by decide, rfl, rfl, rfl, Or.inl (gt_t it1 197 rfl rfl)⟩
theorem fX2_32 : PLk RX2 32 2 5 (.object "MatrixKin$Square") true := ⟨_, _, _, rfl, by decide, rfl, rfl, rfl, Or.inl (gt_t it1 198 rfl rfl)⟩
theorem fX2_35 : PLk RX2 35 2 6 (.object "MatrixKin$Square") true := ⟨_, _, _, rfl, by decide, rfl, rfl, rfl, Or.inl (gt_t it1 199 rfl rfl)⟩
theorem fX2_41 : PLk RX2 41 2 7 (.object "MatrixKin$Word") true := ⟨_, _, _, rfl, by decide, rfl, rfl, rfl, Or.inl (gt_t it1 200 rfl rfl)⟩
theorem fX1_10 : PLk RX1 10 1 0 (.object "MatrixKin$Shelf") true := ⟨_, _, _, rfl, by decide, rfl, rfl, rfl, Or.inl (gt_t it1 229 rfl rfl)⟩
theorem fX1_16 : PLk RX1 16 1 1 .int false := ⟨_, _, _, rfl, by decide, rfl, rfl, rfl, Or.inl (gt_t it1 230 rfl rfl)⟩
theorem fX1_20 : PLk RX1 20 1 2 .boolean false := ⟨_, _, _, rfl, by decide, rfl, rfl, rfl, Or.inl (gt_t it1 231 rfl rfl)⟩
theorem fX10_10 : PLk RX10 10 10 0 (.object "MatrixKin$Shelf") true := ⟨_, _, _, rfl, by decide, rfl, rfl, rfl, Or.inl (gt_t it1 239 rfl rfl)⟩
theorem fX10_19 : PLk RX10 19 10 1 (.object "MatrixKin$Past") true := ⟨_, _, _, rfl, by decide, rfl, rfl, rfl, Or.inl (gt_t it2 0 rfl rfl)⟩
theorem fX10_26 : PLk RX10 26 10 2 (.object "MatrixKin$Text") true := ⟨_, _, _, rfl, by decide, rfl, rfl, rfl, Or.inl (gt_t it2 1 rfl rfl)⟩
theorem fX10_33 : PLk RX10 33 10 3 (.object "MatrixKin$Book") true := ⟨_, _, _, rfl, by decide, rfl, rfl, rfl, Or.inl (gt_t it2 2 rfl rfl)⟩
theorem fX10_42 : PLk RX10 42 10 4 (.object "MatrixKin$Judge") true := ⟨_, _, _, rfl, by decide, rfl, rfl, rfl, Or.inl (gt_t it2 3 rfl rfl)⟩
theorem fX10_48 : PLk RX10 48 10 5 (.array (.object "MatrixKin$Image")) true := ⟨_, _, _, rfl, by decide, rfl, rfl, rfl, Or.inl (gt_t it2 4 rfl rfl)⟩
theorem fX10_55 : PLk RX10 55 10 6 (.object "MatrixKin$Square") true := ⟨_, _, _, rfl, by decide, rfl, rfl, rfl, Or.inl (gt_t it2 5 rfl rfl)⟩
theorem fX10_59 : PLk RX10 59 10 7 (.object "MatrixKin$Square") true := ⟨_, _, _, rfl, by decide, rfl, rfl, rfl, Or.inl (gt_t it2 6 rfl rfl)⟩
theorem fX10_62 : PLk RX10 62 10 8 (.object "MatrixKin$Square") true := ⟨_, _, _, rfl, by decide, rfl, rfl, rfl, Or.inl (gt_t it2 7 rfl rfl)⟩
theorem fX10_65 : PLk RX10 65 10 9 .int false := ⟨_, _, _, rfl, by decide, rfl, rfl, rfl, Or.inl (gt_t it2 8 rfl rfl)⟩
theorem mL_13 : VLk RL 13 yX10_feed cX10_feed 2 (Option.some Jvm.ClassFile.FieldType.int) 1 := ⟨gt_t it2 30 rfl rfl, gt_t it2 31 rfl rfl, gt_t it2 32 rfl rfl, gt_t it1 1 rfl rfl, gt_t it2 33 rfl rfl, by decide +kernel⟩
theorem kX10_70 : Cond.constant RX10 70 (-1000000002) ∈ gt := gt_t it2 34 rfl rfl
theorem mX10_71 : VLk RX10 71 yX7_isFull cX7_isFull 1 (Option.some Jvm.ClassFile.FieldType.boolean) 0 := ⟨gt_t it2 35 rfl rfl, gt_t it2 36 rfl rfl, gt_t it2 37 rfl rfl, gt_t it1 4 rfl rfl, gt_t it2 38 rfl rfl, by decide +kernel⟩
theorem kX10_75 : Cond.constant RX10 75 (-1000000004) ∈ gt := gt_t it2 39 rfl rfl
theorem mX10_76 : VLk RX10 76 yX7_append cX7_append 2 (Option.none : Option Jvm.ClassFile.FieldType) 1 := ⟨gt_t it2 40 rfl rfl, gt_t it2 41 rfl rfl, gt_t it2 42 rfl rfl, gt_t it1 4 rfl rfl, gt_t it2 43 rfl rfl, by decide +kernel⟩
theorem mX7_22 : VLk RX7 22 yX7_isFull cX7_isFull 1 (Option.some Jvm.ClassFile.FieldType.boolean) 0 := ⟨gt_t it2 44 rfl rfl, gt_t it2 36 rfl rfl, gt_t it2 37 rfl rfl, gt_t it1 4 rfl rfl, gt_t it2 38 rfl rfl, by decide +kernel⟩
theorem mX10_80 : VLk RX10 80 yX7_length cX7_length 1 (Option.some Jvm.ClassFile.FieldType.int) 0 := ⟨gt_t it2 45 rfl rfl, gt_t it2 46 rfl rfl, gt_t it2 47 rfl rfl, gt_t it1 4 rfl rfl, gt_t it2 48 rfl rfl, by decide +kernel⟩
theorem mL_18 : VLk RL 18 yX10_write cX10_write 2 (Option.some Jvm.ClassFile.FieldType.int) 0 := ⟨gt_t it2 49 rfl rfl, gt_t it2 50 rfl rfl, gt_t it2 51 rfl rfl, gt_t it1 1 rfl rfl, gt_t it2 52 rfl rfl, by decide +kernel⟩
theorem mX10_84 : VLk RX10 84 yX5_isFull cX5_isFull 1 (Option.some Jvm.ClassFile.FieldType.boolean) 0 := ⟨gt_t it2 53 rfl rfl, gt_t it2 54 rfl rfl, gt_t it2 55 rfl rfl, gt_t it1 2 rfl rfl, gt_t it2 56 rfl rfl, by decide +kernel⟩
theorem mX10_85 : VLk RX10 85 yX7_spell cX7_spell 3 (Option.some Jvm.ClassFile.FieldType.int) 1 := ⟨gt_t it2 57 rfl rfl, gt_t it2 58 rfl rfl, gt_t it2 59 rfl rfl, gt_t it1 4 rfl rfl, gt_t it2 60 rfl rfl, by decide +kernel⟩
theorem mX7_26 : VLk RX7 26 yX6_setOne cX6_setOne 1 (Option.none : Option Jvm.ClassFile.FieldType) 0 := ⟨gt_t it2 61 rfl rfl, gt_t it2 62 rfl rfl, gt_t it2 63 rfl rfl, gt_t it1 8 rfl rfl, gt_t it2 64 rfl rfl, by decide +kernel⟩
theorem mX6_24 : VLk RX6 24 yX6_set cX6_set 9 (Option.none : Option Jvm.ClassFile.FieldType) 4 := ⟨gt_t it2 65 rfl rfl, gt_t it2 66 rfl rfl, gt_t it2 67 rfl rfl, gt_t it1 8 rfl rfl, gt_t it2 68 rfl rfl, by decide +kernel⟩
theorem mX7_31 : VLk RX7 31 yX6_multiplyByLetter cX6_multiplyByLetter 2 (Option.some Jvm.ClassFile.FieldType.boolean) 1 := ⟨gt_t it2 69 rfl rfl, gt_t it2 70 rfl rfl, gt_t it2 71 rfl rfl, gt_t it1 8 rfl rfl, gt_t it2 72 rfl rfl, by decide +kernel⟩
theorem mX7_35 : VLk RX7 35 yX6_isWithinBounds cX6_isWithinBounds 1 (Option.some Jvm.ClassFile.FieldType.boolean) 0 := ⟨gt_t it2 73 rfl rfl, gt_t it2 74 rfl rfl, gt_t it2 75 rfl rfl, gt_t it1 8 rfl rfl, gt_t it2 76 rfl rfl, by decide +kernel⟩
theorem mX6_55 : SLk RX6 55 yX6_isNumber cX6_isNumber 2 (Option.some Jvm.ClassFile.FieldType.boolean) 1 := ⟨gt_t it2 77 rfl rfl, gt_t it2 78 rfl rfl, gt_t it1 8 rfl rfl, gt_t it2 79 rfl rfl, by decide +kernel⟩
theorem kX6_59 : Cond.constantLong RX6 59 (-1000000) ∈ gt := gt_t it2 80 rfl rfl
theorem kX6_61 : Cond.constantLong RX6 61 (1000000) ∈ gt := gt_t it2 81 rfl rfl
theorem mX10_89 : VLk RX10 89 yX7_clear cX7_clear 1 (Option.none : Option Jvm.ClassFile.FieldType) 0 := ⟨gt_t it2 82 rfl rfl, gt_t it2 83 rfl rfl, gt_t it2 84 rfl rfl, gt_t it1 4 rfl rfl, gt_t it2 85 rfl rfl, by decide +kernel⟩
theorem mX10_92 : VLk RX10 92 yX10_place cX10_place 2 (Option.some Jvm.ClassFile.FieldType.int) 1 := ⟨gt_t it2 86 rfl rfl, gt_t it2 88 rfl rfl, gt_mem 0 rfl rfl, gt_t it1 1 rfl rfl, gt_t it2 89 rfl rfl, by decide +kernel⟩
theorem mX10_221 : VLk RX10 221 yX4_remember cX4_remember 2 (Option.none : Option Jvm.ClassFile.FieldType) 1 := ⟨gt_t it2 90 rfl rfl, gt_t it2 91 rfl rfl, gt_t it2 92 rfl rfl, gt_t it1 3 rfl rfl, gt_t it2 93 rfl rfl, by decide +kernel⟩
theorem mX4_25 : VLk RX4 25 yX5_copyFrom cX5_copyFrom 2 (Option.none : Option Jvm.ClassFile.FieldType) 1 := ⟨gt_t it2 94 rfl rfl, gt_t it2 95 rfl rfl, gt_t it2 96 rfl rfl, gt_t it1 2 rfl rfl, gt_t it2 97 rfl rfl, by decide +kernel⟩
theorem mX4_29 : SLk RX4 29 yJ9_min_7cf53 cJ9_min_7cf53 2 (Option.some Jvm.ClassFile.FieldType.int) 2 := ⟨gt_t it2 101 rfl rfl, gt_t it2 102 rfl rfl, gt_t it1 14 rfl rfl, gt_t it2 103 rfl rfl, by decide +kernel⟩
theorem mX10_235 : VLk RX10 235 yX5_add cX5_add 2 (Option.some Jvm.ClassFile.FieldType.int) 1 := ⟨gt_t it2 104 rfl rfl, gt_t it2 105 rfl rfl, gt_t it2 106 rfl rfl, gt_t it1 2 rfl rfl, gt_t it2 107 rfl rfl, by decide +kernel⟩
theorem mX5_42 : VLk RX5 42 yX5_isFull cX5_isFull 1 (Option.some Jvm.ClassFile.FieldType.boolean) 0 := ⟨gt_t it2 108 rfl rfl, gt_t it2 54 rfl rfl, gt_t it2 55 rfl rfl, gt_t it1 2 rfl rfl, gt_t it2 56 rfl rfl, by decide +kernel⟩
theorem kX5_46 : Cond.constant RX5 46 (-1000000004) ∈ gt := gt_t it2 109 rfl rfl
theorem mX5_47 : VLk RX5 47 yX5_store cX5_store 5 (Option.some Jvm.ClassFile.FieldType.boolean) 2 := ⟨gt_t it2 110 rfl rfl, gt_t it2 111 rfl rfl, gt_t it2 112 rfl rfl, gt_t it1 2 rfl rfl, gt_t it2 113 rfl rfl, by decide +kernel⟩
theorem mX5_25 : VLk RX5 25 yX5_cell cX5_cell 3 (Option.some Jvm.ClassFile.FieldType.int) 2 := ⟨gt_t it2 114 rfl rfl, gt_t it2 115 rfl rfl, gt_t it2 116 rfl rfl, gt_t it1 2 rfl rfl, gt_t it2 117 rfl rfl, by decide +kernel⟩
theorem mL_23 : VLk RL 23 yX10_fault cX10_fault 1 (Option.some Jvm.ClassFile.FieldType.int) 0 := ⟨gt_t it2 118 rfl rfl, gt_t it2 119 rfl rfl, gt_t it2 120 rfl rfl, gt_t it1 1 rfl rfl, gt_t it2 121 rfl rfl, by decide +kernel⟩
theorem mX10_95 : VLk RX10 95 yX7_faultPlace cX7_faultPlace 1 (Option.some Jvm.ClassFile.FieldType.int) 0 := ⟨gt_t it2 122 rfl rfl, gt_t it2 123 rfl rfl, gt_t it2 124 rfl rfl, gt_t it1 4 rfl rfl, gt_t it2 125 rfl rfl, by decide +kernel⟩
theorem mL_27 : VLk RL 27 yX10_put cX10_put 5 (Option.some Jvm.ClassFile.FieldType.int) 4 := ⟨gt_t it2 126 rfl rfl, gt_t it2 127 rfl rfl, gt_t it2 128 rfl rfl, gt_t it1 1 rfl rfl, gt_t it2 129 rfl rfl, by decide +kernel⟩
theorem mX10_98 : VLk RX10 98 yX6_set cX6_set 9 (Option.none : Option Jvm.ClassFile.FieldType) 4 := ⟨gt_t it2 130 rfl rfl, gt_t it2 66 rfl rfl, gt_t it2 67 rfl rfl, gt_t it1 8 rfl rfl, gt_t it2 68 rfl rfl, by decide +kernel⟩
theorem mX10_102 : VLk RX10 102 yX6_isWithinBounds cX6_isWithinBounds 1 (Option.some Jvm.ClassFile.FieldType.boolean) 0 := ⟨gt_t it2 131 rfl rfl, gt_t it2 74 rfl rfl, gt_t it2 75 rfl rfl, gt_t it1 8 rfl rfl, gt_t it2 76 rfl rfl, by decide +kernel⟩
theorem mX10_105 : VLk RX10 105 yX6_hasAreaOne cX6_hasAreaOne 1 (Option.some Jvm.ClassFile.FieldType.boolean) 0 := ⟨gt_t it2 132 rfl rfl, gt_t it2 133 rfl rfl, gt_t it2 134 rfl rfl, gt_t it1 8 rfl rfl, gt_t it2 135 rfl rfl, by decide +kernel⟩
theorem kX10_108 : Cond.constant RX10 108 (-1000000003) ∈ gt := gt_t it2 136 rfl rfl
theorem mL_32 : VLk RL 32 yX10_told cX10_told 2 (Option.some Jvm.ClassFile.FieldType.int) 1 := ⟨gt_t it2 137 rfl rfl, gt_t it2 138 rfl rfl, gt_t it2 139 rfl rfl, gt_t it1 1 rfl rfl, gt_t it2 140 rfl rfl, by decide +kernel⟩
theorem mX10_109 : VLk RX10 109 yX5_size cX5_size 1 (Option.some Jvm.ClassFile.FieldType.int) 0 := ⟨gt_t it2 141 rfl rfl, gt_t it2 142 rfl rfl, gt_t it2 143 rfl rfl, gt_t it1 2 rfl rfl, gt_t it2 144 rfl rfl, by decide +kernel⟩
theorem mX10_112 : VLk RX10 112 yX2_lookAround cX2_lookAround 2 (Option.none : Option Jvm.ClassFile.FieldType) 0 := ⟨gt_t it2 145 rfl rfl, gt_t it2 146 rfl rfl, gt_t it2 147 rfl rfl, gt_t it1 6 rfl rfl, gt_t it2 148 rfl rfl, by decide +kernel⟩
theorem mX2_49 : VLk RX2 49 yX5_size cX5_size 1 (Option.some Jvm.ClassFile.FieldType.int) 0 := ⟨gt_t it2 149 rfl rfl, gt_t it2 142 rfl rfl, gt_t it2 143 rfl rfl, gt_t it1 2 rfl rfl, gt_t it2 144 rfl rfl, by decide +kernel⟩
theorem mX2_55 : VLk RX2 55 yX5_load cX5_load 4 (Option.none : Option Jvm.ClassFile.FieldType) 2 := ⟨gt_t it2 150 rfl rfl, gt_t it2 151 rfl rfl, gt_t it2 152 rfl rfl, gt_t it1 2 rfl rfl, gt_t it2 153 rfl rfl, by decide +kernel⟩
theorem mX5_19 : VLk RX5 19 yX6_set cX6_set 9 (Option.none : Option Jvm.ClassFile.FieldType) 4 := ⟨gt_t it2 154 rfl rfl, gt_t it2 66 rfl rfl, gt_t it2 67 rfl rfl, gt_t it1 8 rfl rfl, gt_t it2 68 rfl rfl, by decide +kernel⟩
theorem mX2_59 : VLk RX2 59 yX3_lookAt cX3_lookAt 2 (Option.none : Option Jvm.ClassFile.FieldType) 1 := ⟨gt_t it2 155 rfl rfl, gt_t it2 156 rfl rfl, gt_t it2 157 rfl rfl, gt_t it1 7 rfl rfl, gt_t it2 158 rfl rfl, by decide +kernel⟩
theorem mX3_32 : VLk RX3 32 yX6_isSameAs cX6_isSameAs 2 (Option.some Jvm.ClassFile.FieldType.boolean) 1 := ⟨gt_t it2 159 rfl rfl, gt_t it2 160 rfl rfl, gt_t it2 161 rfl rfl, gt_t it1 8 rfl rfl, gt_t it2 162 rfl rfl, by decide +kernel⟩
theorem mX3_36 : VLk RX3 36 yX6_copyFrom cX6_copyFrom 2 (Option.none : Option Jvm.ClassFile.FieldType) 1 := ⟨gt_t it2 163 rfl rfl, gt_t it2 164 rfl rfl, gt_t it2 165 rfl rfl, gt_t it1 8 rfl rfl, gt_t it2 166 rfl rfl, by decide +kernel⟩
theorem mX3_40 : SLk RX3 40 yX3_kindOf cX3_kindOf 3 (Option.some Jvm.ClassFile.FieldType.int) 1 := ⟨gt_t it2 167 rfl rfl, gt_t it2 168 rfl rfl, gt_t it1 7 rfl rfl, gt_t it2 169 rfl rfl, by decide +kernel⟩
theorem mX3_53 : VLk RX3 53 yX6_trace cX6_trace 1 (Option.some Jvm.ClassFile.FieldType.long) 0 := ⟨gt_t it2 170 rfl rfl, gt_t it2 171 rfl rfl, gt_t it2 172 rfl rfl, gt_t it1 8 rfl rfl, gt_t it2 173 rfl rfl, by decide +kernel⟩
theorem mX3_57 : SLk RX3 57 yJ9_abs_067f4 cJ9_abs_067f4 2 (Option.some Jvm.ClassFile.FieldType.long) 1 := ⟨gt_t it2 174 rfl rfl, gt_t it2 175 rfl rfl, gt_t it1 14 rfl rfl, gt_t it2 176 rfl rfl, by decide +kernel⟩
theorem kX3_63 : Cond.constantLong RX3 63 (2) ∈ gt := gt_t it2 177 rfl rfl
theorem mX3_44 : VLk RX3 44 yX3_markOf cX3_markOf 2 (Option.some Jvm.ClassFile.FieldType.int) 1 := ⟨gt_t it2 178 rfl rfl, gt_t it2 180 rfl rfl, gt_mem 1 rfl rfl, gt_t it1 7 rfl rfl, gt_t it2 181 rfl rfl, by decide +kernel⟩
theorem mX3_72 : SLk RX3 72 yJ13_signum_95d88 cJ13_signum_95d88 2 (Option.some Jvm.ClassFile.FieldType.int) 1 := ⟨gt_t it2 182 rfl rfl, gt_t it2 183 rfl rfl, gt_t it1 15 rfl rfl, gt_t it2 184 rfl rfl, by decide +kernel⟩
theorem mX3_78 : SLk RX3 78 yX3_measureShift cX3_measureShift 5 (Option.some Jvm.ClassFile.FieldType.int) 1 := ⟨gt_t it2 185 rfl rfl, gt_t it2 186 rfl rfl, gt_t it1 7 rfl rfl, gt_t it2 187 rfl rfl, by decide +kernel⟩
theorem mX3_81 : SLk RX3 81 yX3_commonPart cX3_commonPart 11 (Option.some Jvm.ClassFile.FieldType.long) 2 := ⟨gt_t it2 188 rfl rfl, gt_t it2 189 rfl rfl, gt_t it1 7 rfl rfl, gt_t it2 190 rfl rfl, by decide +kernel⟩
theorem mX3_47 : VLk RX3 47 yX8_read cX8_read 2 (Option.none : Option Jvm.ClassFile.FieldType) 1 := ⟨gt_t it2 191 rfl rfl, gt_t it2 192 rfl rfl, gt_t it2 193 rfl rfl, gt_t it1 9 rfl rfl, gt_t it2 194 rfl rfl, by decide +kernel⟩
theorem mX8_36 : VLk RX8 36 yX6_copyFrom cX6_copyFrom 2 (Option.none : Option Jvm.ClassFile.FieldType) 1 := ⟨gt_t it2 195 rfl rfl, gt_t it2 164 rfl rfl, gt_t it2 165 rfl rfl, gt_t it1 8 rfl rfl, gt_t it2 166 rfl rfl, by decide +kernel⟩
theorem mX8_40 : VLk RX8 40 yX6_trace cX6_trace 1 (Option.some Jvm.ClassFile.FieldType.long) 0 := ⟨gt_t it2 196 rfl rfl, gt_t it2 171 rfl rfl, gt_t it2 172 rfl rfl, gt_t it1 8 rfl rfl, gt_t it2 173 rfl rfl, by decide +kernel⟩
theorem mX8_44 : VLk RX8 44 yX6_changeSigns cX6_changeSigns 1 (Option.none : Option Jvm.ClassFile.FieldType) 0 := ⟨gt_t it2 197 rfl rfl, gt_t it2 198 rfl rfl, gt_t it2 199 rfl rfl, gt_t it1 8 rfl rfl, gt_t it2 200 rfl rfl, by decide +kernel⟩
theorem mX8_47 : VLk RX8 47 yX6_carryToProduct cX6_carryToProduct 2 (Option.none : Option Jvm.ClassFile.FieldType) 0 := ⟨gt_t it2 201 rfl rfl, gt_t it2 202 rfl rfl, gt_t it2 203 rfl rfl, gt_t it1 8 rfl rfl, gt_t it2 204 rfl rfl, by decide +kernel⟩
theorem mX6_28 : VLk RX6 28 yX6_hasLikeSides cX6_hasLikeSides 1 (Option.some Jvm.ClassFile.FieldType.boolean) 0 := ⟨gt_t it2 205 rfl rfl, gt_t it2 207 rfl rfl, gt_mem 2 rfl rfl, gt_t it1 8 rfl rfl, gt_t it2 208 rfl rfl, by decide +kernel⟩
theorem mX6_32 : VLk RX6 32 yX6_stepsToEvenOut cX6_stepsToEvenOut 5 (Option.some Jvm.ClassFile.FieldType.long) 0 := ⟨gt_t it2 209 rfl rfl, gt_t it2 211 rfl rfl, gt_mem 3 rfl rfl, gt_t it1 8 rfl rfl, gt_t it2 212 rfl rfl, by decide +kernel⟩
theorem kX6_43 : Cond.constantLong RX6 43 (2) ∈ gt := gt_t it2 213 rfl rfl
theorem mX6_45 : SLk RX6 45 yJ9_abs_067f4 cJ9_abs_067f4 2 (Option.some Jvm.ClassFile.FieldType.long) 1 := ⟨gt_t it2 214 rfl rfl, gt_t it2 175 rfl rfl, gt_t it1 14 rfl rfl, gt_t it2 176 rfl rfl, by decide +kernel⟩
theorem mX6_51 : SLk RX6 51 yJ9_floorDiv_f86c9 cJ9_floorDiv_f86c9 6 (Option.some Jvm.ClassFile.FieldType.long) 2 := ⟨gt_t it2 215 rfl rfl, gt_t it2 216 rfl rfl, gt_t it1 14 rfl rfl, gt_t it2 217 rfl rfl, by decide +kernel⟩
theorem mX6_36 : VLk RX6 36 yX6_carryByR cX6_carryByR 3 (Option.none : Option Jvm.ClassFile.FieldType) 1 := ⟨gt_t it2 218 rfl rfl, gt_t it2 219 rfl rfl, gt_t it2 220 rfl rfl, gt_t it1 8 rfl rfl, gt_t it2 221 rfl rfl, by decide +kernel⟩
theorem mX6_40 : VLk RX6 40 yX6_carryByS cX6_carryByS 5 (Option.none : Option Jvm.ClassFile.FieldType) 0 := ⟨gt_t it2 222 rfl rfl, gt_t it2 223 rfl rfl, gt_t it2 224 rfl rfl, gt_t it1 8 rfl rfl, gt_t it2 225 rfl rfl, by decide +kernel⟩
theorem mX8_50 : VLk RX8 50 yX9_copyFrom cX9_copyFrom 2 (Option.none : Option Jvm.ClassFile.FieldType) 1 := ⟨gt_t it2 226 rfl rfl, gt_t it2 227 rfl rfl, gt_t it2 228 rfl rfl, gt_t it1 10 rfl rfl, gt_t it2 229 rfl rfl, by decide +kernel⟩
theorem mX9_18 : VLk RX9 18 yX6_copyFrom cX6_copyFrom 2 (Option.none : Option Jvm.ClassFile.FieldType) 1 := ⟨gt_t it2 230 rfl rfl, gt_t it2 164 rfl rfl, gt_t it2 165 rfl rfl, gt_t it1 8 rfl rfl, gt_t it2 166 rfl rfl, by decide +kernel⟩
theorem mX8_51 : VLk RX8 51 yX9_turnFirstRun cX9_turnFirstRun 4 (Option.some Jvm.ClassFile.FieldType.long) 0 := ⟨gt_t it2 231 rfl rfl, gt_t it2 232 rfl rfl, gt_t it2 233 rfl rfl, gt_t it1 10 rfl rfl, gt_t it2 234 rfl rfl, by decide +kernel⟩
theorem mX9_49 : VLk RX9 49 yX9_beginsWithR cX9_beginsWithR 1 (Option.some Jvm.ClassFile.FieldType.boolean) 0 := ⟨gt_t it2 235 rfl rfl, gt_t it2 236 rfl rfl, gt_t it2 237 rfl rfl, gt_t it1 10 rfl rfl, gt_t it2 238 rfl rfl, by decide +kernel⟩
theorem mX9_52 : VLk RX9 52 yX9_firstRun cX9_firstRun 12 (Option.some Jvm.ClassFile.FieldType.long) 1 := ⟨gt_t it2 239 rfl rfl, gt_t it3 1 rfl rfl, gt_mem 4 rfl rfl, gt_t it1 10 rfl rfl, gt_t it3 2 rfl rfl, by decide +kernel⟩
theorem kX9_41 : Cond.constantLong RX9 41 (9223372036854775807) ∈ gt := gt_t it3 3 rfl rfl
theorem mX9_43 : SLk RX9 43 yJ9_min_f86c9 cJ9_min_f86c9 4 (Option.some Jvm.ClassFile.FieldType.long) 2 := ⟨gt_t it3 4 rfl rfl, gt_t it3 5 rfl rfl, gt_t it1 14 rfl rfl, gt_t it3 6 rfl rfl, by decide +kernel⟩
theorem mX9_56 : VLk RX9 56 yX6_carryByR cX6_carryByR 3 (Option.none : Option Jvm.ClassFile.FieldType) 1 := ⟨gt_t it3 7 rfl rfl, gt_t it2 219 rfl rfl, gt_t it2 220 rfl rfl, gt_t it1 8 rfl rfl, gt_t it2 221 rfl rfl, by decide +kernel⟩
theorem mX9_60 : VLk RX9 60 yX6_carryByL cX6_carryByL 3 (Option.none : Option Jvm.ClassFile.FieldType) 1 := ⟨gt_t it3 8 rfl rfl, gt_t it3 9 rfl rfl, gt_t it3 10 rfl rfl, gt_t it1 8 rfl rfl, gt_t it3 11 rfl rfl, by decide +kernel⟩
theorem mX8_54 : VLk RX8 54 yX9_beginsWithR cX9_beginsWithR 1 (Option.some Jvm.ClassFile.FieldType.boolean) 0 := ⟨gt_t it3 12 rfl rfl, gt_t it2 236 rfl rfl, gt_t it2 237 rfl rfl, gt_t it1 10 rfl rfl, gt_t it2 238 rfl rfl, by decide +kernel⟩
theorem mX8_58 : VLk RX8 58 yX8_clear cX8_clear 1 (Option.none : Option Jvm.ClassFile.FieldType) 0 := ⟨gt_t it3 13 rfl rfl, gt_t it3 14 rfl rfl, gt_t it3 15 rfl rfl, gt_t it1 9 rfl rfl, gt_t it3 16 rfl rfl, by decide +kernel⟩
theorem mX8_61 : VLk RX8 61 yX9_isEmpty cX9_isEmpty 1 (Option.some Jvm.ClassFile.FieldType.boolean) 0 := ⟨gt_t it3 17 rfl rfl, gt_t it3 18 rfl rfl, gt_t it3 19 rfl rfl, gt_t it1 10 rfl rfl, gt_t it3 20 rfl rfl, by decide +kernel⟩
theorem mX9_22 : VLk RX9 22 yX6_isOne cX6_isOne 1 (Option.some Jvm.ClassFile.FieldType.boolean) 0 := ⟨gt_t it3 21 rfl rfl, gt_t it3 22 rfl rfl, gt_t it3 23 rfl rfl, gt_t it1 8 rfl rfl, gt_t it3 24 rfl rfl, by decide +kernel⟩
theorem mX8_64 : VLk RX8 64 yX9_dropFirstRun cX9_dropFirstRun 4 (Option.some Jvm.ClassFile.FieldType.long) 0 := ⟨gt_t it3 25 rfl rfl, gt_t it3 26 rfl rfl, gt_t it3 27 rfl rfl, gt_t it1 10 rfl rfl, gt_t it3 28 rfl rfl, by decide +kernel⟩
theorem mX8_67 : VLk RX8 67 yX8_findLeastStart cX8_findLeastStart 2 (Option.none : Option Jvm.ClassFile.FieldType) 0 := ⟨gt_t it3 29 rfl rfl, gt_t it3 31 rfl rfl, gt_mem 5 rfl rfl, gt_t it1 9 rfl rfl, gt_t it3 32 rfl rfl, by decide +kernel⟩
theorem mX8_70 : VLk RX8 70 yX8_isLessFrom cX8_isLessFrom 6 (Option.some Jvm.ClassFile.FieldType.boolean) 2 := ⟨gt_t it3 33 rfl rfl, gt_t it3 35 rfl rfl, gt_mem 6 rfl rfl, gt_t it1 9 rfl rfl, gt_t it3 36 rfl rfl, by decide +kernel⟩
theorem mX3_50 : VLk RX3 50 yX8_clear cX8_clear 1 (Option.none : Option Jvm.ClassFile.FieldType) 0 := ⟨gt_t it3 37 rfl rfl, gt_t it3 14 rfl rfl, gt_t it3 15 rfl rfl, gt_t it1 9 rfl rfl, gt_t it3 16 rfl rfl, by decide +kernel⟩
theorem mX10_115 : VLk RX10 115 yX2_countFamilies cX2_countFamilies 3 (Option.some Jvm.ClassFile.FieldType.int) 0 := ⟨gt_t it3 38 rfl rfl, gt_t it3 39 rfl rfl, gt_t it3 40 rfl rfl, gt_t it1 6 rfl rfl, gt_t it3 41 rfl rfl, by decide +kernel⟩
theorem mX2_81 : VLk RX2 81 yX2_familyOf cX2_familyOf 4 (Option.some Jvm.ClassFile.FieldType.int) 1 := ⟨gt_t it3 42 rfl rfl, gt_t it3 43 rfl rfl, gt_t it3 44 rfl rfl, gt_t it1 6 rfl rfl, gt_t it3 45 rfl rfl, by decide +kernel⟩
theorem mX2_77 : VLk RX2 77 yX2_areAlike cX2_areAlike 3 (Option.some Jvm.ClassFile.FieldType.boolean) 2 := ⟨gt_t it3 46 rfl rfl, gt_t it3 47 rfl rfl, gt_t it3 48 rfl rfl, gt_t it1 6 rfl rfl, gt_t it3 49 rfl rfl, by decide +kernel⟩
theorem mX2_63 : VLk RX2 63 yX3_isLike cX3_isLike 2 (Option.some Jvm.ClassFile.FieldType.boolean) 1 := ⟨gt_t it3 50 rfl rfl, gt_t it3 51 rfl rfl, gt_t it3 52 rfl rfl, gt_t it1 7 rfl rfl, gt_t it3 53 rfl rfl, by decide +kernel⟩
theorem mX3_85 : VLk RX3 85 yX3_trace cX3_trace 1 (Option.some Jvm.ClassFile.FieldType.int) 0 := ⟨gt_t it3 54 rfl rfl, gt_t it3 55 rfl rfl, gt_t it3 56 rfl rfl, gt_t it1 7 rfl rfl, gt_t it3 57 rfl rfl, by decide +kernel⟩
theorem mX3_88 : VLk RX3 88 yX8_isSameAs cX8_isSameAs 3 (Option.some Jvm.ClassFile.FieldType.boolean) 1 := ⟨gt_t it3 58 rfl rfl, gt_t it3 59 rfl rfl, gt_t it3 60 rfl rfl, gt_t it1 9 rfl rfl, gt_t it3 61 rfl rfl, by decide +kernel⟩
theorem mX8_78 : VLk RX8 78 yX8_runAt cX8_runAt 2 (Option.some Jvm.ClassFile.FieldType.int) 1 := ⟨gt_t it3 62 rfl rfl, gt_t it3 63 rfl rfl, gt_t it3 64 rfl rfl, gt_t it1 9 rfl rfl, gt_t it3 65 rfl rfl, by decide +kernel⟩
theorem mX2_85 : SLk RX2 85 yJ6_numberOfTrailingZeros_0f7a4 cJ6_numberOfTrailingZeros_0f7a4 2 (Option.some Jvm.ClassFile.FieldType.int) 1 := ⟨gt_t it3 66 rfl rfl, gt_t it3 67 rfl rfl, gt_t it1 16 rfl rfl, gt_t it3 68 rfl rfl, by decide +kernel⟩
theorem kJ6_264 : Cond.constant RJ6 264 (65536) ∈ gt := gt_t it3 69 rfl rfl
theorem mX10_118 : VLk RX10 118 yX2_greatestFamily cX2_greatestFamily 4 (Option.some Jvm.ClassFile.FieldType.int) 0 := ⟨gt_t it3 70 rfl rfl, gt_t it3 71 rfl rfl, gt_t it3 72 rfl rfl, gt_t it1 6 rfl rfl, gt_t it3 73 rfl rfl, by decide +kernel⟩
theorem mX2_90 : SLk RX2 90 yJ6_bitCount_0f7a4 cJ6_bitCount_0f7a4 1 (Option.some Jvm.ClassFile.FieldType.int) 1 := ⟨gt_t it3 74 rfl rfl, gt_t it3 75 rfl rfl, gt_t it1 16 rfl rfl, gt_t it3 76 rfl rfl, by decide +kernel⟩
theorem kJ6_265 : Cond.constant RJ6 265 (1431655765) ∈ gt := gt_t it3 77 rfl rfl
theorem kJ6_266 : Cond.constant RJ6 266 (858993459) ∈ gt := gt_t it3 78 rfl rfl
theorem kJ6_267 : Cond.constant RJ6 267 (252645135) ∈ gt := gt_t it3 79 rfl rfl
theorem mX10_121 : VLk RX10 121 yX2_countTwins cX2_countTwins 3 (Option.some Jvm.ClassFile.FieldType.int) 0 := ⟨gt_t it3 80 rfl rfl, gt_t it3 81 rfl rfl, gt_t it3 82 rfl rfl, gt_t it1 6 rfl rfl, gt_t it3 83 rfl rfl, by decide +kernel⟩
theorem mX2_73 : VLk RX2 73 yX2_isTwin cX2_isTwin 2 (Option.some Jvm.ClassFile.FieldType.boolean) 1 := ⟨gt_t it3 84 rfl rfl, gt_t it3 85 rfl rfl, gt_t it3 86 rfl rfl, gt_t it1 6 rfl rfl, gt_t it3 87 rfl rfl, by decide +kernel⟩
theorem mX2_67 : VLk RX2 67 yX6_turnBack cX6_turnBack 1 (Option.none : Option Jvm.ClassFile.FieldType) 0 := ⟨gt_t it3 88 rfl rfl, gt_t it3 89 rfl rfl, gt_t it3 90 rfl rfl, gt_t it1 8 rfl rfl, gt_t it3 91 rfl rfl, by decide +kernel⟩
theorem mX10_124 : VLk RX10 124 yX0_length cX0_length 1 (Option.some Jvm.ClassFile.FieldType.int) 0 := ⟨gt_t it3 92 rfl rfl, gt_t it3 93 rfl rfl, gt_t it3 94 rfl rfl, gt_t it1 5 rfl rfl, gt_t it3 95 rfl rfl, by decide +kernel⟩
theorem mX10_125 : VLk RX10 125 yX10_firstWrong cX10_firstWrong 5 (Option.some Jvm.ClassFile.FieldType.int) 0 := ⟨gt_t it3 96 rfl rfl, gt_t it3 98 rfl rfl, gt_mem 7 rfl rfl, gt_t it1 1 rfl rfl, gt_t it3 99 rfl rfl, by decide +kernel⟩
theorem mX10_129 : VLk RX10 129 yX0_one cX0_one 2 (Option.some Jvm.ClassFile.FieldType.int) 1 := ⟨gt_t it3 100 rfl rfl, gt_t it3 101 rfl rfl, gt_t it3 102 rfl rfl, gt_t it1 5 rfl rfl, gt_t it3 103 rfl rfl, by decide +kernel⟩
theorem mX10_133 : VLk RX10 133 yX0_other cX0_other 2 (Option.some Jvm.ClassFile.FieldType.int) 1 := ⟨gt_t it3 104 rfl rfl, gt_t it3 105 rfl rfl, gt_t it3 106 rfl rfl, gt_t it1 5 rfl rfl, gt_t it3 107 rfl rfl, by decide +kernel⟩
theorem mX10_136 : VLk RX10 136 yX5_has cX5_has 2 (Option.some Jvm.ClassFile.FieldType.boolean) 1 := ⟨gt_t it3 108 rfl rfl, gt_t it3 109 rfl rfl, gt_t it3 110 rfl rfl, gt_t it1 2 rfl rfl, gt_t it3 111 rfl rfl, by decide +kernel⟩
theorem mX10_140 : VLk RX10 140 yX2_areAlike cX2_areAlike 3 (Option.some Jvm.ClassFile.FieldType.boolean) 2 := ⟨gt_t it3 112 rfl rfl, gt_t it3 47 rfl rfl, gt_t it3 48 rfl rfl, gt_t it1 6 rfl rfl, gt_t it3 49 rfl rfl, by decide +kernel⟩
theorem mX10_144 : VLk RX10 144 yX0_saidAlike cX0_saidAlike 2 (Option.some Jvm.ClassFile.FieldType.boolean) 1 := ⟨gt_t it3 113 rfl rfl, gt_t it3 114 rfl rfl, gt_t it3 115 rfl rfl, gt_t it1 5 rfl rfl, gt_t it3 116 rfl rfl, by decide +kernel⟩
theorem mX10_128 : VLk RX10 128 yX4_length cX4_length 1 (Option.some Jvm.ClassFile.FieldType.int) 0 := ⟨gt_t it3 117 rfl rfl, gt_t it3 118 rfl rfl, gt_t it3 119 rfl rfl, gt_t it1 3 rfl rfl, gt_t it3 120 rfl rfl, by decide +kernel⟩
theorem mL_36 : VLk RL 36 yX10_number cX10_number 3 (Option.some Jvm.ClassFile.FieldType.int) 2 := ⟨gt_t it3 121 rfl rfl, gt_t it3 122 rfl rfl, gt_t it3 123 rfl rfl, gt_t it1 1 rfl rfl, gt_t it3 124 rfl rfl, by decide +kernel⟩
theorem kX10_147 : Cond.constant RX10 147 (-1000000001) ∈ gt := gt_t it3 125 rfl rfl
theorem mX10_148 : VLk RX10 148 yX5_cell cX5_cell 3 (Option.some Jvm.ClassFile.FieldType.int) 2 := ⟨gt_t it3 126 rfl rfl, gt_t it2 115 rfl rfl, gt_t it2 116 rfl rfl, gt_t it1 2 rfl rfl, gt_t it2 117 rfl rfl, by decide +kernel⟩
theorem kX10_152 : Cond.constant RX10 152 (1000000) ∈ gt := gt_t it3 127 rfl rfl
theorem mL_41 : VLk RL 41 yX10_square cX10_square 4 (Option.some Jvm.ClassFile.FieldType.int) 2 := ⟨gt_t it3 128 rfl rfl, gt_t it3 129 rfl rfl, gt_t it3 130 rfl rfl, gt_t it1 1 rfl rfl, gt_t it3 131 rfl rfl, by decide +kernel⟩
theorem mX10_153 : VLk RX10 153 yX2_kinOf cX2_kinOf 2 (Option.some (Jvm.ClassFile.FieldType.object "MatrixKin$Kin")) 1 := ⟨gt_t it3 132 rfl rfl, gt_t it3 133 rfl rfl, gt_t it3 134 rfl rfl, gt_t it1 6 rfl rfl, gt_t it3 135 rfl rfl, by decide +kernel⟩
theorem mX10_157 : VLk RX10 157 yX3_kind cX3_kind 1 (Option.some Jvm.ClassFile.FieldType.int) 0 := ⟨gt_t it3 136 rfl rfl, gt_t it3 137 rfl rfl, gt_t it3 138 rfl rfl, gt_t it1 7 rfl rfl, gt_t it3 139 rfl rfl, by decide +kernel⟩
theorem mX10_162 : VLk RX10 162 yX3_trace cX3_trace 1 (Option.some Jvm.ClassFile.FieldType.int) 0 := ⟨gt_t it3 140 rfl rfl, gt_t it3 55 rfl rfl, gt_t it3 56 rfl rfl, gt_t it1 7 rfl rfl, gt_t it3 57 rfl rfl, by decide +kernel⟩
theorem kX10_165 : Cond.constant RX10 165 (2000000) ∈ gt := gt_t it3 141 rfl rfl
theorem mX10_166 : VLk RX10 166 yX3_sign cX3_sign 1 (Option.some Jvm.ClassFile.FieldType.int) 0 := ⟨gt_t it3 142 rfl rfl, gt_t it3 143 rfl rfl, gt_t it3 144 rfl rfl, gt_t it1 7 rfl rfl, gt_t it3 145 rfl rfl, by decide +kernel⟩
theorem mX10_169 : VLk RX10 169 yX3_order cX3_order 1 (Option.some Jvm.ClassFile.FieldType.int) 0 := ⟨gt_t it3 146 rfl rfl, gt_t it3 147 rfl rfl, gt_t it3 148 rfl rfl, gt_t it1 7 rfl rfl, gt_t it3 149 rfl rfl, by decide +kernel⟩
theorem mX10_172 : VLk RX10 172 yX3_mark cX3_mark 1 (Option.some Jvm.ClassFile.FieldType.int) 0 := ⟨gt_t it3 150 rfl rfl, gt_t it3 151 rfl rfl, gt_t it3 152 rfl rfl, gt_t it1 7 rfl rfl, gt_t it3 153 rfl rfl, by decide +kernel⟩
theorem kX10_175 : Cond.constant RX10 175 (3000000) ∈ gt := gt_t it3 154 rfl rfl
theorem mX10_176 : VLk RX10 176 yX3_wheel cX3_wheel 1 (Option.some (Jvm.ClassFile.FieldType.object "MatrixKin$Wheel")) 0 := ⟨gt_t it3 155 rfl rfl, gt_t it3 156 rfl rfl, gt_t it3 157 rfl rfl, gt_t it1 7 rfl rfl, gt_t it3 158 rfl rfl, by decide +kernel⟩
theorem mX10_180 : VLk RX10 180 yX8_count cX8_count 1 (Option.some Jvm.ClassFile.FieldType.int) 0 := ⟨gt_t it3 159 rfl rfl, gt_t it3 160 rfl rfl, gt_t it3 161 rfl rfl, gt_t it1 9 rfl rfl, gt_t it3 162 rfl rfl, by decide +kernel⟩
theorem mX10_185 : VLk RX10 185 yX8_times cX8_times 2 (Option.some Jvm.ClassFile.FieldType.int) 0 := ⟨gt_t it3 163 rfl rfl, gt_t it3 164 rfl rfl, gt_t it3 165 rfl rfl, gt_t it1 9 rfl rfl, gt_t it3 166 rfl rfl, by decide +kernel⟩
theorem mX8_74 : VLk RX8 74 yX8_comesAgainAfter cX8_comesAgainAfter 3 (Option.some Jvm.ClassFile.FieldType.boolean) 1 := ⟨gt_t it3 167 rfl rfl, gt_t it3 169 rfl rfl, gt_mem 8 rfl rfl, gt_t it1 9 rfl rfl, gt_t it3 170 rfl rfl, by decide +kernel⟩
theorem mX10_188 : VLk RX10 188 yX2_isTwin cX2_isTwin 2 (Option.some Jvm.ClassFile.FieldType.boolean) 1 := ⟨gt_t it3 171 rfl rfl, gt_t it3 85 rfl rfl, gt_t it3 86 rfl rfl, gt_t it1 6 rfl rfl, gt_t it3 87 rfl rfl, by decide +kernel⟩
theorem mX10_191 : VLk RX10 191 yX2_familyOf cX2_familyOf 4 (Option.some Jvm.ClassFile.FieldType.int) 1 := ⟨gt_t it3 172 rfl rfl, gt_t it3 43 rfl rfl, gt_t it3 44 rfl rfl, gt_t it1 6 rfl rfl, gt_t it3 45 rfl rfl, by decide +kernel⟩
theorem mX10_194 : VLk RX10 194 yX2_isLikeMirrored cX2_isLikeMirrored 2 (Option.some Jvm.ClassFile.FieldType.boolean) 1 := ⟨gt_t it3 173 rfl rfl, gt_t it3 174 rfl rfl, gt_t it3 175 rfl rfl, gt_t it1 6 rfl rfl, gt_t it3 176 rfl rfl, by decide +kernel⟩
theorem mX2_70 : VLk RX2 70 yX6_mirror cX6_mirror 1 (Option.none : Option Jvm.ClassFile.FieldType) 0 := ⟨gt_t it3 177 rfl rfl, gt_t it3 178 rfl rfl, gt_t it3 179 rfl rfl, gt_t it1 8 rfl rfl, gt_t it3 180 rfl rfl, by decide +kernel⟩
theorem mX10_197 : VLk RX10 197 yX8_letters cX8_letters 3 (Option.some Jvm.ClassFile.FieldType.int) 0 := ⟨gt_t it3 181 rfl rfl, gt_t it3 182 rfl rfl, gt_t it3 183 rfl rfl, gt_t it1 9 rfl rfl, gt_t it3 184 rfl rfl, by decide +kernel⟩
theorem mL_45 : VLk RL 45 yX10_run cX10_run 3 (Option.some Jvm.ClassFile.FieldType.int) 2 := ⟨gt_t it3 185 rfl rfl, gt_t it3 186 rfl rfl, gt_t it3 187 rfl rfl, gt_t it1 1 rfl rfl, gt_t it3 188 rfl rfl, by decide +kernel⟩
theorem mX10_200 : VLk RX10 200 yX8_runAt cX8_runAt 2 (Option.some Jvm.ClassFile.FieldType.int) 1 := ⟨gt_t it3 189 rfl rfl, gt_t it3 63 rfl rfl, gt_t it3 64 rfl rfl, gt_t it1 9 rfl rfl, gt_t it3 65 rfl rfl, by decide +kernel⟩
theorem mL_49 : VLk RL 49 yX10_multiply cX10_multiply 3 (Option.some Jvm.ClassFile.FieldType.int) 2 := ⟨gt_t it3 190 rfl rfl, gt_t it3 191 rfl rfl, gt_t it3 192 rfl rfl, gt_t it1 1 rfl rfl, gt_t it3 193 rfl rfl, by decide +kernel⟩
theorem mX10_203 : VLk RX10 203 yX5_load cX5_load 4 (Option.none : Option Jvm.ClassFile.FieldType) 2 := ⟨gt_t it3 194 rfl rfl, gt_t it2 151 rfl rfl, gt_t it2 152 rfl rfl, gt_t it1 2 rfl rfl, gt_t it2 153 rfl rfl, by decide +kernel⟩
theorem mX10_207 : VLk RX10 207 yX6_setProduct cX6_setProduct 3 (Option.none : Option Jvm.ClassFile.FieldType) 2 := ⟨gt_t it3 195 rfl rfl, gt_t it3 196 rfl rfl, gt_t it3 197 rfl rfl, gt_t it1 8 rfl rfl, gt_t it3 198 rfl rfl, by decide +kernel⟩
theorem mL_53 : VLk RL 53 yX10_back cX10_back 2 (Option.some Jvm.ClassFile.FieldType.int) 1 := ⟨gt_t it3 199 rfl rfl, gt_t it3 200 rfl rfl, gt_t it3 201 rfl rfl, gt_t it1 1 rfl rfl, gt_t it3 202 rfl rfl, by decide +kernel⟩
theorem mX10_211 : VLk RX10 211 yX6_turnBack cX6_turnBack 1 (Option.none : Option Jvm.ClassFile.FieldType) 0 := ⟨gt_t it3 203 rfl rfl, gt_t it3 89 rfl rfl, gt_t it3 90 rfl rfl, gt_t it1 8 rfl rfl, gt_t it3 91 rfl rfl, by decide +kernel⟩
theorem mX10_214 : VLk RX10 214 yX10_exchange cX10_exchange 3 (Option.some Jvm.ClassFile.FieldType.int) 2 := ⟨gt_t it3 204 rfl rfl, gt_t it3 206 rfl rfl, gt_mem 9 rfl rfl, gt_t it1 1 rfl rfl, gt_t it3 207 rfl rfl, by decide +kernel⟩
theorem mX10_238 : VLk RX10 238 yX5_store cX5_store 5 (Option.some Jvm.ClassFile.FieldType.boolean) 2 := ⟨gt_t it3 208 rfl rfl, gt_t it2 111 rfl rfl, gt_t it2 112 rfl rfl, gt_t it1 2 rfl rfl, gt_t it2 113 rfl rfl, by decide +kernel⟩
theorem mL_57 : VLk RL 57 yX10_carry cX10_carry 3 (Option.some Jvm.ClassFile.FieldType.int) 2 := ⟨gt_t it3 209 rfl rfl, gt_t it3 210 rfl rfl, gt_t it3 211 rfl rfl, gt_t it1 1 rfl rfl, gt_t it3 212 rfl rfl, by decide +kernel⟩
theorem mL_61 : VLk RL 61 yX10_raise cX10_raise 4 (Option.some Jvm.ClassFile.FieldType.int) 2 := ⟨gt_t it3 213 rfl rfl, gt_t it3 214 rfl rfl, gt_t it3 215 rfl rfl, gt_t it1 1 rfl rfl, gt_t it3 216 rfl rfl, by decide +kernel⟩
theorem mX10_218 : VLk RX10 218 yX6_setOne cX6_setOne 1 (Option.none : Option Jvm.ClassFile.FieldType) 0 := ⟨gt_t it3 217 rfl rfl, gt_t it2 62 rfl rfl, gt_t it2 63 rfl rfl, gt_t it1 8 rfl rfl, gt_t it2 64 rfl rfl, by decide +kernel⟩
theorem mL_65 : VLk RL 65 yX10_take cX10_take 2 (Option.some Jvm.ClassFile.FieldType.int) 1 := ⟨gt_t it3 218 rfl rfl, gt_t it3 219 rfl rfl, gt_t it3 220 rfl rfl, gt_t it1 1 rfl rfl, gt_t it3 221 rfl rfl, by decide +kernel⟩
theorem mX10_224 : VLk RX10 224 yX5_remove cX5_remove 3 (Option.none : Option Jvm.ClassFile.FieldType) 1 := ⟨gt_t it3 222 rfl rfl, gt_t it3 223 rfl rfl, gt_t it3 224 rfl rfl, gt_t it1 2 rfl rfl, gt_t it3 225 rfl rfl, by decide +kernel⟩
theorem mL_69 : VLk RL 69 yX10_drift cX10_drift 3 (Option.some Jvm.ClassFile.FieldType.int) 1 := ⟨gt_t it3 226 rfl rfl, gt_t it3 227 rfl rfl, gt_t it3 228 rfl rfl, gt_t it1 1 rfl rfl, gt_t it3 229 rfl rfl, by decide +kernel⟩
theorem mX10_227 : VLk RX10 227 yX10_drawSquare cX10_drawSquare 4 (Option.none : Option Jvm.ClassFile.FieldType) 1 := ⟨gt_t it3 230 rfl rfl, gt_t it3 232 rfl rfl, gt_mem 10 rfl rfl, gt_t it1 1 rfl rfl, gt_t it3 233 rfl rfl, by decide +kernel⟩
theorem mX10_242 : VLk RX10 242 yX10_draw cX10_draw 4 (Option.some Jvm.ClassFile.FieldType.int) 1 := ⟨gt_t it3 234 rfl rfl, gt_t it3 236 rfl rfl, gt_mem 11 rfl rfl, gt_t it1 1 rfl rfl, gt_t it3 237 rfl rfl, by decide +kernel⟩
theorem kX10_256 : Cond.constantLong RX10 256 (1103515245) ∈ gt := gt_t it3 238 rfl rfl
theorem kX10_258 : Cond.constantLong RX10 258 (12345) ∈ gt := gt_t it3 239 rfl rfl
theorem kX10_260 : Cond.constantLong RX10 260 (2147483647) ∈ gt := gt_t it4 0 rfl rfl
theorem kX10_262 : Cond.constant RX10 262 (65536) ∈ gt := gt_t it4 1 rfl rfl
theorem mX10_247 : VLk RX10 247 yJ0_charAt_5068e cJ0_charAt_5068e 2 (Option.some Jvm.ClassFile.FieldType.char) 1 := ⟨gt_t it4 3 rfl rfl, gt_t it4 4 rfl rfl, gt_t it4 5 rfl rfl, gt_t it1 17 rfl rfl, gt_t it4 6 rfl rfl, by decide +kernel⟩
theorem mX10_253 : VLk RX10 253 yX6_multiplyByLetter cX6_multiplyByLetter 2 (Option.some Jvm.ClassFile.FieldType.boolean) 1 := ⟨gt_t it4 43 rfl rfl, gt_t it2 70 rfl rfl, gt_t it2 71 rfl rfl, gt_t it1 8 rfl rfl, gt_t it2 72 rfl rfl, by decide +kernel⟩
theorem mL_73 : VLk RL 73 yX10_undo cX10_undo 2 (Option.some Jvm.ClassFile.FieldType.int) 1 := ⟨gt_t it4 45 rfl rfl, gt_t it4 46 rfl rfl, gt_t it4 47 rfl rfl, gt_t it1 1 rfl rfl, gt_t it4 48 rfl rfl, by decide +kernel⟩
theorem mX10_231 : VLk RX10 231 yX4_restore cX4_restore 3 (Option.none : Option Jvm.ClassFile.FieldType) 2 := ⟨gt_t it4 49 rfl rfl, gt_t it4 50 rfl rfl, gt_t it4 51 rfl rfl, gt_t it1 3 rfl rfl, gt_t it4 52 rfl rfl, by decide +kernel⟩
theorem mX4_35 : SLk RX4 35 yJ9_floorMod_7cf53 cJ9_floorMod_7cf53 3 (Option.some Jvm.ClassFile.FieldType.int) 2 := ⟨gt_t it4 53 rfl rfl, gt_t it4 54 rfl rfl, gt_t it1 14 rfl rfl, gt_t it4 55 rfl rfl, by decide +kernel⟩
theorem mL_77 : VLk RL 77 yX10_pair cX10_pair 4 (Option.some Jvm.ClassFile.FieldType.int) 3 := ⟨gt_t it4 56 rfl rfl, gt_t it4 57 rfl rfl, gt_t it4 58 rfl rfl, gt_t it1 1 rfl rfl, gt_t it4 59 rfl rfl, by decide +kernel⟩
theorem mX10_263 : VLk RX10 263 yX2_goTogether cX2_goTogether 3 (Option.some Jvm.ClassFile.FieldType.boolean) 2 := ⟨gt_t it4 60 rfl rfl, gt_t it4 61 rfl rfl, gt_t it4 62 rfl rfl, gt_t it1 6 rfl rfl, gt_t it4 63 rfl rfl, by decide +kernel⟩
theorem mX2_93 : VLk RX2 93 yX6_setProduct cX6_setProduct 3 (Option.none : Option Jvm.ClassFile.FieldType) 2 := ⟨gt_t it4 64 rfl rfl, gt_t it3 196 rfl rfl, gt_t it3 197 rfl rfl, gt_t it1 8 rfl rfl, gt_t it3 198 rfl rfl, by decide +kernel⟩
theorem mX2_97 : VLk RX2 97 yX6_isSameAs cX6_isSameAs 2 (Option.some Jvm.ClassFile.FieldType.boolean) 1 := ⟨gt_t it4 65 rfl rfl, gt_t it2 160 rfl rfl, gt_t it2 161 rfl rfl, gt_t it1 8 rfl rfl, gt_t it2 162 rfl rfl, by decide +kernel⟩
theorem mX10_266 : VLk RX10 266 yX2_begins cX2_begins 9 (Option.some Jvm.ClassFile.FieldType.int) 2 := ⟨gt_t it4 66 rfl rfl, gt_t it4 67 rfl rfl, gt_t it4 68 rfl rfl, gt_t it1 6 rfl rfl, gt_t it4 69 rfl rfl, by decide +kernel⟩
theorem mX2_101 : VLk RX2 101 yX3_kind cX3_kind 1 (Option.some Jvm.ClassFile.FieldType.int) 0 := ⟨gt_t it4 70 rfl rfl, gt_t it3 137 rfl rfl, gt_t it3 138 rfl rfl, gt_t it1 7 rfl rfl, gt_t it3 139 rfl rfl, by decide +kernel⟩
theorem mX2_104 : VLk RX2 104 yX6_hasNoneBelowZero cX6_hasNoneBelowZero 1 (Option.some Jvm.ClassFile.FieldType.boolean) 0 := ⟨gt_t it4 71 rfl rfl, gt_t it4 72 rfl rfl, gt_t it4 73 rfl rfl, gt_t it1 8 rfl rfl, gt_t it4 74 rfl rfl, by decide +kernel⟩
theorem mX2_108 : VLk RX2 108 yX9_copyFrom cX9_copyFrom 2 (Option.none : Option Jvm.ClassFile.FieldType) 1 := ⟨gt_t it4 75 rfl rfl, gt_t it2 227 rfl rfl, gt_t it2 228 rfl rfl, gt_t it1 10 rfl rfl, gt_t it2 229 rfl rfl, by decide +kernel⟩
theorem mX2_111 : VLk RX2 111 yX9_turnsInFirstRun cX9_turnsInFirstRun 2 (Option.some Jvm.ClassFile.FieldType.long) 1 := ⟨gt_t it4 76 rfl rfl, gt_t it4 77 rfl rfl, gt_t it4 78 rfl rfl, gt_t it1 10 rfl rfl, gt_t it4 79 rfl rfl, by decide +kernel⟩
theorem mX9_63 : VLk RX9 63 yX6_trace cX6_trace 1 (Option.some Jvm.ClassFile.FieldType.long) 0 := ⟨gt_t it4 80 rfl rfl, gt_t it2 171 rfl rfl, gt_t it2 172 rfl rfl, gt_t it1 8 rfl rfl, gt_t it2 173 rfl rfl, by decide +kernel⟩
theorem kX9_67 : Cond.constantLong RX9 67 (-1) ∈ gt := gt_t it4 81 rfl rfl
theorem mX9_69 : SLk RX9 69 yX9_stepsUpTo cX9_stepsUpTo 6 (Option.some Jvm.ClassFile.FieldType.long) 3 := ⟨gt_t it4 82 rfl rfl, gt_t it4 83 rfl rfl, gt_t it1 10 rfl rfl, gt_t it4 84 rfl rfl, by decide +kernel⟩
theorem kX2_115 : Cond.constantLong RX2 115 (-1) ∈ gt := gt_t it4 85 rfl rfl
theorem mX2_117 : VLk RX2 117 yX9_turnFirstRun cX9_turnFirstRun 4 (Option.some Jvm.ClassFile.FieldType.long) 0 := ⟨gt_t it4 86 rfl rfl, gt_t it2 232 rfl rfl, gt_t it2 233 rfl rfl, gt_t it1 10 rfl rfl, gt_t it2 234 rfl rfl, by decide +kernel⟩
theorem mL_82 : VLk RL 82 yX10_note cX10_note 4 (Option.some Jvm.ClassFile.FieldType.int) 3 := ⟨gt_t it4 87 rfl rfl, gt_t it4 88 rfl rfl, gt_t it4 89 rfl rfl, gt_t it1 1 rfl rfl, gt_t it4 90 rfl rfl, by decide +kernel⟩
theorem mX10_269 : VLk RX10 269 yX0_isFull cX0_isFull 1 (Option.some Jvm.ClassFile.FieldType.boolean) 0 := ⟨gt_t it4 91 rfl rfl, gt_t it4 92 rfl rfl, gt_t it4 93 rfl rfl, gt_t it1 5 rfl rfl, gt_t it4 94 rfl rfl, by decide +kernel⟩
theorem mX10_270 : VLk RX10 270 yX0_append cX0_append 4 (Option.none : Option Jvm.ClassFile.FieldType) 3 := ⟨gt_t it4 95 rfl rfl, gt_t it4 96 rfl rfl, gt_t it4 97 rfl rfl, gt_t it1 5 rfl rfl, gt_t it4 98 rfl rfl, by decide +kernel⟩
theorem mX0_26 : VLk RX0 26 yX0_isFull cX0_isFull 1 (Option.some Jvm.ClassFile.FieldType.boolean) 0 := ⟨gt_t it4 99 rfl rfl, gt_t it4 92 rfl rfl, gt_t it4 93 rfl rfl, gt_t it1 5 rfl rfl, gt_t it4 94 rfl rfl, by decide +kernel⟩
theorem mL_87 : VLk RL 87 yX10_tear cX10_tear 2 (Option.some Jvm.ClassFile.FieldType.int) 0 := ⟨gt_t it4 100 rfl rfl, gt_t it4 101 rfl rfl, gt_t it4 102 rfl rfl, gt_t it1 1 rfl rfl, gt_t it4 103 rfl rfl, by decide +kernel⟩
theorem mX10_273 : VLk RX10 273 yX0_clear cX0_clear 1 (Option.none : Option Jvm.ClassFile.FieldType) 0 := ⟨gt_t it4 104 rfl rfl, gt_t it4 105 rfl rfl, gt_t it4 106 rfl rfl, gt_t it1 5 rfl rfl, gt_t it4 107 rfl rfl, by decide +kernel⟩
theorem mL_91 : VLk RL 91 yX10_seed cX10_seed 3 (Option.some Jvm.ClassFile.FieldType.int) 1 := ⟨gt_t it4 108 rfl rfl, gt_t it4 109 rfl rfl, gt_t it4 110 rfl rfl, gt_t it1 1 rfl rfl, gt_t it4 111 rfl rfl, by decide +kernel⟩
theorem mL_95 : VLk RL 95 yX10_keep cX10_keep 2 (Option.some Jvm.ClassFile.FieldType.int) 1 := ⟨gt_t it4 112 rfl rfl, gt_t it4 113 rfl rfl, gt_t it4 114 rfl rfl, gt_t it1 1 rfl rfl, gt_t it4 115 rfl rfl, by decide +kernel⟩
theorem mX10_274 : VLk RX10 274 yX1_fill cX1_fill 3 (Option.none : Option Jvm.ClassFile.FieldType) 2 := ⟨gt_t it4 116 rfl rfl, gt_t it4 117 rfl rfl, gt_t it4 118 rfl rfl, gt_t it1 11 rfl rfl, gt_t it4 119 rfl rfl, by decide +kernel⟩
theorem mX1_24 : VLk RX1 24 yX5_copyFrom cX5_copyFrom 2 (Option.none : Option Jvm.ClassFile.FieldType) 1 := ⟨gt_t it4 120 rfl rfl, gt_t it2 95 rfl rfl, gt_t it2 96 rfl rfl, gt_t it1 2 rfl rfl, gt_t it2 97 rfl rfl, by decide +kernel⟩
theorem mX10_278 : VLk RX10 278 yX4_forget cX4_forget 1 (Option.none : Option Jvm.ClassFile.FieldType) 0 := ⟨gt_t it4 121 rfl rfl, gt_t it4 122 rfl rfl, gt_t it4 123 rfl rfl, gt_t it1 3 rfl rfl, gt_t it4 124 rfl rfl, by decide +kernel⟩
theorem mL_99 : VLk RL 99 yX10_goBack cX10_goBack 2 (Option.some Jvm.ClassFile.FieldType.int) 1 := ⟨gt_t it4 125 rfl rfl, gt_t it4 126 rfl rfl, gt_t it4 127 rfl rfl, gt_t it1 1 rfl rfl, gt_t it4 128 rfl rfl, by decide +kernel⟩
theorem mX10_281 : VLk RX10 281 yX1_isKept cX1_isKept 1 (Option.some Jvm.ClassFile.FieldType.boolean) 0 := ⟨gt_t it4 129 rfl rfl, gt_t it4 130 rfl rfl, gt_t it4 131 rfl rfl, gt_t it1 11 rfl rfl, gt_t it4 132 rfl rfl, by decide +kernel⟩
theorem mX10_284 : VLk RX10 284 yX1_shelf cX1_shelf 1 (Option.some (Jvm.ClassFile.FieldType.object "MatrixKin$Shelf")) 0 := ⟨gt_t it4 133 rfl rfl, gt_t it4 134 rfl rfl, gt_t it4 135 rfl rfl, gt_t it1 11 rfl rfl, gt_t it4 136 rfl rfl, by decide +kernel⟩
theorem mX10_287 : VLk RX10 287 yX5_copyFrom cX5_copyFrom 2 (Option.none : Option Jvm.ClassFile.FieldType) 1 := ⟨gt_t it4 137 rfl rfl, gt_t it2 95 rfl rfl, gt_t it2 96 rfl rfl, gt_t it1 2 rfl rfl, gt_t it2 97 rfl rfl, by decide +kernel⟩
theorem mX10_290 : VLk RX10 290 yX1_seedThen cX1_seedThen 1 (Option.some Jvm.ClassFile.FieldType.int) 0 := ⟨gt_t it4 138 rfl rfl, gt_t it4 139 rfl rfl, gt_t it4 140 rfl rfl, gt_t it1 11 rfl rfl, gt_t it4 141 rfl rfl, by decide +kernel⟩
theorem fX11_7 : PLk RX11 7 11 0 (.array .int) true := ⟨_, _, _, rfl, by decide, rfl, rfl, rfl, Or.inl (gt_t it4 148 rfl rfl)⟩
theorem fX11_13 : PLk RX11 13 11 1 (.array .int) true := ⟨_, _, _, rfl, by decide, rfl, rfl, rfl, Or.inl (gt_t it4 149 rfl rfl)⟩
theorem fX11_90 : PLk RX11 90 11 2 .int false := ⟨_, _, _, rfl, by decide, rfl, rfl, rfl, Or.inl (gt_t it4 150 rfl rfl)⟩
theorem fX11_16 : PLk RX11 16 11 3 (.array .int) true := ⟨_, _, _, rfl, by decide, rfl, rfl, rfl, Or.inl (gt_t it4 151 rfl rfl)⟩
theorem fX11_19 : PLk RX11 19 11 4 (.array .boolean) true := ⟨_, _, _, rfl, by decide, rfl, rfl, rfl, Or.inl (gt_t it4 152 rfl rfl)⟩
theorem fX11_275 : PLk RX11 275 11 5 .int false := ⟨_, _, _, rfl, by decide, rfl, rfl, rfl, Or.inl (gt_t it4 153 rfl rfl)⟩
theorem fX11_23 : PLk RX11 23 11 6 (.array .int) true := ⟨_, _, _, rfl, by decide, rfl, rfl, rfl, Or.inl (gt_t it4 154 rfl rfl)⟩
theorem fX11_86 : PLk RX11 86 11 7 .int false := ⟨_, _, _, rfl, by decide, rfl, rfl, rfl, Or.inl (gt_t it4 155 rfl rfl)⟩
theorem fX11_26 : PLk RX11 26 11 8 .int false := ⟨_, _, _, rfl, by decide, rfl, rfl, rfl, Or.inl (gt_t it4 156 rfl rfl)⟩
theorem fX11_30 : PLk RX11 30 11 9 (.array .int) true := ⟨_, _, _, rfl, by decide, rfl, rfl, rfl, Or.inl (gt_t it4 157 rfl rfl)⟩
theorem fX11_231 : PLk RX11 231 11 10 .int false := ⟨_, _, _, rfl, by decide, rfl, rfl, rfl, Or.inl (gt_t it4 158 rfl rfl)⟩
theorem fX11_57 : PLk RX11 57 11 11 .long false := ⟨_, _, _, rfl, by decide, rfl, rfl, rfl, Or.inl (gt_t it4 159 rfl rfl)⟩
theorem fX11_61 : PLk RX11 61 11 12 .long false := ⟨_, _, _, rfl, by decide, rfl, rfl, rfl, Or.inl (gt_t it4 160 rfl rfl)⟩
theorem fX11_64 : PLk RX11 64 11 13 .long false := ⟨_, _, _, rfl, by decide, rfl, rfl, rfl, Or.inl (gt_t it4 161 rfl rfl)⟩
theorem fX11_67 : PLk RX11 67 11 14 .long false := ⟨_, _, _, rfl, by decide, rfl, rfl, rfl, Or.inl (gt_t it4 162 rfl rfl)⟩
theorem fX11_168 : PLk RX11 168 11 15 .int false := ⟨_, _, _, rfl, by decide, rfl, rfl, rfl, Or.inl (gt_t it4 163 rfl rfl)⟩
theorem fX11_126 : PLk RX11 126 11 16 .long false := ⟨_, _, _, rfl, by decide, rfl, rfl, rfl, Or.inl (gt_t it4 164 rfl rfl)⟩
theorem fX11_160 : PLk RX11 160 11 17 .long false := ⟨_, _, _, rfl, by decide, rfl, rfl, rfl, Or.inl (gt_t it4 165 rfl rfl)⟩
theorem fX11_33 : PLk RX11 33 11 18 (.array .int) true := ⟨_, _, _, rfl, by decide, rfl, rfl, rfl, Or.inl (gt_t it4 166 rfl rfl)⟩
theorem fX11_140 : PLk RX11 140 11 19 .int false := ⟨_, _, _, rfl, by decide, rfl, rfl, rfl, Or.inl (gt_t it4 167 rfl rfl)⟩
theorem fX11_146 : PLk RX11 146 11 20 .int false := ⟨_, _, _, rfl, by decide, rfl, rfl, rfl, Or.inl (gt_t it4 168 rfl rfl)⟩
theorem fX11_143 : PLk RX11 143 11 21 .long false := ⟨_, _, _, rfl, by decide, rfl, rfl, rfl, Or.inl (gt_t it4 169 rfl rfl)⟩
theorem fX11_157 : PLk RX11 157 11 22 .long false := ⟨_, _, _, rfl, by decide, rfl, rfl, rfl, Or.inl (gt_t it4 170 rfl rfl)⟩
theorem fX11_36 : PLk RX11 36 11 23 (.array .int) true := ⟨_, _, _, rfl, by decide, rfl, rfl, rfl, Or.inl (gt_t it4 171 rfl rfl)⟩
theorem fX11_39 : PLk RX11 39 11 24 (.array .int) true := ⟨_, _, _, rfl, by decide, rfl, rfl, rfl, Or.inl (gt_t it4 172 rfl rfl)⟩
theorem fX11_171 : PLk RX11 171 11 25 .int false := ⟨_, _, _, rfl, by decide, rfl, rfl, rfl, Or.inl (gt_t it4 173 rfl rfl)⟩
theorem fX11_189 : PLk RX11 189 11 26 .int false := ⟨_, _, _, rfl, by decide, rfl, rfl, rfl, Or.inl (gt_t it4 174 rfl rfl)⟩
theorem fX11_192 : PLk RX11 192 11 27 .long false := ⟨_, _, _, rfl, by decide, rfl, rfl, rfl, Or.inl (gt_t it4 175 rfl rfl)⟩
theorem fX11_195 : PLk RX11 195 11 28 .long false := ⟨_, _, _, rfl, by decide, rfl, rfl, rfl, Or.inl (gt_t it4 176 rfl rfl)⟩
theorem fX11_198 : PLk RX11 198 11 29 .int false := ⟨_, _, _, rfl, by decide, rfl, rfl, rfl, Or.inl (gt_t it4 177 rfl rfl)⟩
theorem fX11_201 : PLk RX11 201 11 30 .int false := ⟨_, _, _, rfl, by decide, rfl, rfl, rfl, Or.inl (gt_t it4 178 rfl rfl)⟩
theorem fX11_204 : PLk RX11 204 11 31 .long false := ⟨_, _, _, rfl, by decide, rfl, rfl, rfl, Or.inl (gt_t it4 179 rfl rfl)⟩
theorem fX11_42 : PLk RX11 42 11 32 (.array .int) true := ⟨_, _, _, rfl, by decide, rfl, rfl, rfl, Or.inl (gt_t it4 180 rfl rfl)⟩
theorem fX11_45 : PLk RX11 45 11 33 (.array .long) true := ⟨_, _, _, rfl, by decide, rfl, rfl, rfl, Or.inl (gt_t it4 181 rfl rfl)⟩
theorem mL_17 : VLk RL 17 yX11_feed cX11_feed 2 (Option.some Jvm.ClassFile.FieldType.int) 1 := ⟨gt_t it5 12 rfl rfl, gt_t it5 13 rfl rfl, gt_t it5 14 rfl rfl, gt_t it1 12 rfl rfl, gt_t it5 15 rfl rfl, by decide +kernel⟩
theorem kX11_83 : Cond.constantLong RX11 83 (255) ∈ gt := gt_t it5 16 rfl rfl
theorem mX11_53 : SLk RX11 53 yX11_in cX11_in 6 (Option.some Jvm.ClassFile.FieldType.boolean) 3 := ⟨gt_t it5 17 rfl rfl, gt_t it5 18 rfl rfl, gt_t it1 12 rfl rfl, gt_t it5 19 rfl rfl, by decide +kernel⟩
theorem kX11_85 : Cond.constant RX11 85 (-1000000002) ∈ gt := gt_t it5 20 rfl rfl
theorem kX11_89 : Cond.constant RX11 89 (-1000000004) ∈ gt := gt_t it5 21 rfl rfl
theorem mL_22 : VLk RL 22 yX11_write cX11_write 4 (Option.some Jvm.ClassFile.FieldType.int) 0 := ⟨gt_t it5 22 rfl rfl, gt_t it5 23 rfl rfl, gt_t it5 24 rfl rfl, gt_t it1 12 rfl rfl, gt_t it5 25 rfl rfl, by decide +kernel⟩
theorem mX11_70 : VLk RX11 70 yX11_takes cX11_takes 9 (Option.none : Option Jvm.ClassFile.FieldType) 4 := ⟨gt_t it5 26 rfl rfl, gt_t it5 28 rfl rfl, gt_mem 12 rfl rfl, gt_t it1 12 rfl rfl, gt_t it5 29 rfl rfl, by decide +kernel⟩
theorem mX11_100 : SLk RX11 100 yX11_letterOf cX11_letterOf 1 (Option.some Jvm.ClassFile.FieldType.int) 1 := ⟨gt_t it5 30 rfl rfl, gt_t it5 31 rfl rfl, gt_t it1 12 rfl rfl, gt_t it5 32 rfl rfl, by decide +kernel⟩
theorem mX11_104 : VLk RX11 104 yX11_comes cX11_comes 2 (Option.none : Option Jvm.ClassFile.FieldType) 1 := ⟨gt_t it5 33 rfl rfl, gt_t it5 35 rfl rfl, gt_mem 13 rfl rfl, gt_t it1 12 rfl rfl, gt_t it5 36 rfl rfl, by decide +kernel⟩
theorem mX11_78 : VLk RX11 78 yX11_multiplies cX11_multiplies 9 (Option.none : Option Jvm.ClassFile.FieldType) 4 := ⟨gt_t it5 37 rfl rfl, gt_t it5 39 rfl rfl, gt_mem 14 rfl rfl, gt_t it1 12 rfl rfl, gt_t it5 40 rfl rfl, by decide +kernel⟩
theorem kX11_81 : Cond.constantLong RX11 81 (-1) ∈ gt := gt_t it5 41 rfl rfl
theorem mX11_107 : VLk RX11 107 yX11_isWell cX11_isWell 1 (Option.some Jvm.ClassFile.FieldType.boolean) 0 := ⟨gt_t it5 42 rfl rfl, gt_t it5 44 rfl rfl, gt_mem 15 rfl rfl, gt_t it1 12 rfl rfl, gt_t it5 45 rfl rfl, by decide +kernel⟩
theorem mX11_74 : SLk RX11 74 yX11_isBound cX11_isBound 2 (Option.some Jvm.ClassFile.FieldType.boolean) 1 := ⟨gt_t it5 46 rfl rfl, gt_t it5 47 rfl rfl, gt_t it1 12 rfl rfl, gt_t it5 48 rfl rfl, by decide +kernel⟩
theorem kX11_49 : Cond.constantLong RX11 49 (-1000000) ∈ gt := gt_t it5 49 rfl rfl
theorem kX11_51 : Cond.constantLong RX11 51 (1000000) ∈ gt := gt_t it5 50 rfl rfl
theorem mX11_111 : VLk RX11 111 yX11_puts cX11_puts 1 (Option.some Jvm.ClassFile.FieldType.int) 0 := ⟨gt_t it5 51 rfl rfl, gt_t it5 53 rfl rfl, gt_mem 16 rfl rfl, gt_t it1 12 rfl rfl, gt_t it5 54 rfl rfl, by decide +kernel⟩
theorem mX11_93 : VLk RX11 93 yX11_notes cX11_notes 2 (Option.none : Option Jvm.ClassFile.FieldType) 0 := ⟨gt_t it5 55 rfl rfl, gt_t it5 57 rfl rfl, gt_mem 17 rfl rfl, gt_t it1 12 rfl rfl, gt_t it5 58 rfl rfl, by decide +kernel⟩
theorem mX11_96 : VLk RX11 96 yX11_laysAt cX11_laysAt 2 (Option.none : Option Jvm.ClassFile.FieldType) 1 := ⟨gt_t it5 59 rfl rfl, gt_t it5 61 rfl rfl, gt_mem 18 rfl rfl, gt_t it1 12 rfl rfl, gt_t it5 62 rfl rfl, by decide +kernel⟩
theorem mL_26 : VLk RL 26 yX11_fault cX11_fault 1 (Option.some Jvm.ClassFile.FieldType.int) 0 := ⟨gt_t it5 63 rfl rfl, gt_t it5 64 rfl rfl, gt_t it5 65 rfl rfl, gt_t it1 12 rfl rfl, gt_t it5 66 rfl rfl, by decide +kernel⟩
theorem mL_31 : VLk RL 31 yX11_put cX11_put 5 (Option.some Jvm.ClassFile.FieldType.int) 4 := ⟨gt_t it5 67 rfl rfl, gt_t it5 68 rfl rfl, gt_t it5 69 rfl rfl, gt_t it1 12 rfl rfl, gt_t it5 70 rfl rfl, by decide +kernel⟩
theorem kX11_115 : Cond.constant RX11 115 (-1000000003) ∈ gt := gt_t it5 71 rfl rfl
theorem mL_35 : VLk RL 35 yX11_told cX11_told 2 (Option.some Jvm.ClassFile.FieldType.int) 1 := ⟨gt_t it5 72 rfl rfl, gt_t it5 73 rfl rfl, gt_t it5 74 rfl rfl, gt_t it1 12 rfl rfl, gt_t it5 75 rfl rfl, by decide +kernel⟩
theorem mX11_240 : VLk RX11 240 yX11_families cX11_families 6 (Option.some Jvm.ClassFile.FieldType.int) 1 := ⟨gt_t it5 76 rfl rfl, gt_t it5 78 rfl rfl, gt_mem 19 rfl rfl, gt_t it1 12 rfl rfl, gt_t it5 79 rfl rfl, by decide +kernel⟩
theorem mX11_222 : VLk RX11 222 yX11_family cX11_family 4 (Option.some Jvm.ClassFile.FieldType.int) 1 := ⟨gt_t it5 80 rfl rfl, gt_t it5 82 rfl rfl, gt_mem 20 rfl rfl, gt_t it1 12 rfl rfl, gt_t it5 83 rfl rfl, by decide +kernel⟩
theorem mX11_216 : VLk RX11 216 yX11_asides cX11_asides 2 (Option.none : Option Jvm.ClassFile.FieldType) 1 := ⟨gt_t it5 84 rfl rfl, gt_t it5 86 rfl rfl, gt_mem 21 rfl rfl, gt_t it1 12 rfl rfl, gt_t it5 87 rfl rfl, by decide +kernel⟩
theorem mX11_207 : VLk RX11 207 yX11_takesFrom cX11_takesFrom 2 (Option.none : Option Jvm.ClassFile.FieldType) 1 := ⟨gt_t it5 88 rfl rfl, gt_t it5 90 rfl rfl, gt_mem 22 rfl rfl, gt_t it1 12 rfl rfl, gt_t it5 91 rfl rfl, by decide +kernel⟩
theorem mX11_210 : VLk RX11 210 yX11_knows cX11_knows 3 (Option.none : Option Jvm.ClassFile.FieldType) 0 := ⟨gt_t it5 92 rfl rfl, gt_t it5 94 rfl rfl, gt_mem 23 rfl rfl, gt_t it1 12 rfl rfl, gt_t it5 95 rfl rfl, by decide +kernel⟩
theorem mX11_163 : VLk RX11 163 yX11_isOne cX11_isOne 1 (Option.some Jvm.ClassFile.FieldType.boolean) 0 := ⟨gt_t it5 96 rfl rfl, gt_t it5 98 rfl rfl, gt_mem 24 rfl rfl, gt_t it1 12 rfl rfl, gt_t it5 99 rfl rfl, by decide +kernel⟩
theorem kX11_166 : Cond.constantLong RX11 166 (-2) ∈ gt := gt_t it5 100 rfl rfl
theorem kX11_134 : Cond.constantLong RX11 134 (2) ∈ gt := gt_t it5 101 rfl rfl
theorem mX11_174 : VLk RX11 174 yX11_changes cX11_changes 1 (Option.none : Option Jvm.ClassFile.FieldType) 0 := ⟨gt_t it5 102 rfl rfl, gt_t it5 104 rfl rfl, gt_mem 25 rfl rfl, gt_t it1 12 rfl rfl, gt_t it5 105 rfl rfl, by decide +kernel⟩
theorem mX11_177 : SLk RX11 177 yX11_divisor cX11_divisor 10 (Option.some Jvm.ClassFile.FieldType.long) 2 := ⟨gt_t it5 106 rfl rfl, gt_t it5 107 rfl rfl, gt_t it1 12 rfl rfl, gt_t it5 108 rfl rfl, by decide +kernel⟩
theorem mX11_116 : SLk RX11 116 yX11_far cX11_far 2 (Option.some Jvm.ClassFile.FieldType.long) 1 := ⟨gt_t it5 109 rfl rfl, gt_t it5 110 rfl rfl, gt_t it1 12 rfl rfl, gt_t it5 111 rfl rfl, by decide +kernel⟩
theorem mX11_180 : VLk RX11 180 yX11_carries cX11_carries 10 (Option.none : Option Jvm.ClassFile.FieldType) 0 := ⟨gt_t it5 112 rfl rfl, gt_t it5 114 rfl rfl, gt_mem 26 rfl rfl, gt_t it1 12 rfl rfl, gt_t it5 115 rfl rfl, by decide +kernel⟩
theorem kX11_129 : Cond.constantLong RX11 129 (4) ∈ gt := gt_t it5 116 rfl rfl
theorem mX11_131 : SLk RX11 131 yX11_root cX11_root 8 (Option.some Jvm.ClassFile.FieldType.long) 1 := ⟨gt_t it5 117 rfl rfl, gt_t it5 118 rfl rfl, gt_t it1 12 rfl rfl, gt_t it5 119 rfl rfl, by decide +kernel⟩
theorem kX11_120 : Cond.constantLong RX11 120 (2097152) ∈ gt := gt_t it5 120 rfl rfl
theorem mX11_136 : SLk RX11 136 yX11_part cX11_part 6 (Option.some Jvm.ClassFile.FieldType.long) 3 := ⟨gt_t it5 121 rfl rfl, gt_t it5 122 rfl rfl, gt_t it1 12 rfl rfl, gt_t it5 123 rfl rfl, by decide +kernel⟩
theorem mX11_122 : SLk RX11 122 yX11_floor cX11_floor 6 (Option.some Jvm.ClassFile.FieldType.long) 2 := ⟨gt_t it5 124 rfl rfl, gt_t it5 125 rfl rfl, gt_t it1 12 rfl rfl, gt_t it5 126 rfl rfl, by decide +kernel⟩
theorem mX11_183 : VLk RX11 183 yX11_spells cX11_spells 4 (Option.none : Option Jvm.ClassFile.FieldType) 0 := ⟨gt_t it5 127 rfl rfl, gt_t it5 129 rfl rfl, gt_mem 27 rfl rfl, gt_t it1 12 rfl rfl, gt_t it5 130 rfl rfl, by decide +kernel⟩
theorem mX11_186 : VLk RX11 186 yX11_turns cX11_turns 10 (Option.none : Option Jvm.ClassFile.FieldType) 0 := ⟨gt_t it5 131 rfl rfl, gt_t it5 133 rfl rfl, gt_mem 28 rfl rfl, gt_t it1 12 rfl rfl, gt_t it5 134 rfl rfl, by decide +kernel⟩
theorem mX11_149 : VLk RX11 149 yX11_isLess cX11_isLess 6 (Option.some Jvm.ClassFile.FieldType.boolean) 2 := ⟨gt_t it5 135 rfl rfl, gt_t it5 137 rfl rfl, gt_mem 29 rfl rfl, gt_t it1 12 rfl rfl, gt_t it5 138 rfl rfl, by decide +kernel⟩
theorem mX11_153 : VLk RX11 153 yX11_isLike cX11_isLike 4 (Option.some Jvm.ClassFile.FieldType.boolean) 1 := ⟨gt_t it5 139 rfl rfl, gt_t it5 141 rfl rfl, gt_mem 30 rfl rfl, gt_t it1 12 rfl rfl, gt_t it5 142 rfl rfl, by decide +kernel⟩
theorem mX11_213 : VLk RX11 213 yX11_putsAside cX11_putsAside 2 (Option.none : Option Jvm.ClassFile.FieldType) 0 := ⟨gt_t it5 143 rfl rfl, gt_t it5 145 rfl rfl, gt_mem 31 rfl rfl, gt_t it1 12 rfl rfl, gt_t it5 146 rfl rfl, by decide +kernel⟩
theorem mX11_219 : VLk RX11 219 yX11_isAlike cX11_isAlike 3 (Option.some Jvm.ClassFile.FieldType.boolean) 0 := ⟨gt_t it5 147 rfl rfl, gt_t it5 149 rfl rfl, gt_mem 32 rfl rfl, gt_t it1 12 rfl rfl, gt_t it5 150 rfl rfl, by decide +kernel⟩
theorem mX11_225 : SLk RX11 225 yX11_bits cX11_bits 3 (Option.some Jvm.ClassFile.FieldType.int) 1 := ⟨gt_t it5 151 rfl rfl, gt_t it5 152 rfl rfl, gt_t it1 12 rfl rfl, gt_t it5 153 rfl rfl, by decide +kernel⟩
theorem mX11_243 : VLk RX11 243 yX11_twins cX11_twins 3 (Option.some Jvm.ClassFile.FieldType.int) 0 := ⟨gt_t it5 154 rfl rfl, gt_t it5 156 rfl rfl, gt_mem 33 rfl rfl, gt_t it1 12 rfl rfl, gt_t it5 157 rfl rfl, by decide +kernel⟩
theorem mX11_228 : VLk RX11 228 yX11_isTwin cX11_isTwin 2 (Option.some Jvm.ClassFile.FieldType.boolean) 1 := ⟨gt_t it5 158 rfl rfl, gt_t it5 160 rfl rfl, gt_mem 34 rfl rfl, gt_t it1 12 rfl rfl, gt_t it5 161 rfl rfl, by decide +kernel⟩
theorem mX11_246 : VLk RX11 246 yX11_wrong cX11_wrong 4 (Option.some Jvm.ClassFile.FieldType.int) 0 := ⟨gt_t it5 162 rfl rfl, gt_t it5 164 rfl rfl, gt_mem 35 rfl rfl, gt_t it1 12 rfl rfl, gt_t it5 165 rfl rfl, by decide +kernel⟩
theorem mX11_234 : VLk RX11 234 yX11_isSquare cX11_isSquare 2 (Option.some Jvm.ClassFile.FieldType.boolean) 1 := ⟨gt_t it5 166 rfl rfl, gt_t it5 168 rfl rfl, gt_mem 36 rfl rfl, gt_t it1 12 rfl rfl, gt_t it5 169 rfl rfl, by decide +kernel⟩
theorem mX11_237 : VLk RX11 237 yX11_areAlike cX11_areAlike 3 (Option.some Jvm.ClassFile.FieldType.boolean) 2 := ⟨gt_t it5 170 rfl rfl, gt_t it5 172 rfl rfl, gt_mem 37 rfl rfl, gt_t it1 12 rfl rfl, gt_t it5 173 rfl rfl, by decide +kernel⟩
theorem mL_40 : VLk RL 40 yX11_number cX11_number 3 (Option.some Jvm.ClassFile.FieldType.int) 2 := ⟨gt_t it5 174 rfl rfl, gt_t it5 175 rfl rfl, gt_t it5 176 rfl rfl, gt_t it1 12 rfl rfl, gt_t it5 177 rfl rfl, by decide +kernel⟩
theorem kX11_249 : Cond.constant RX11 249 (-1000000001) ∈ gt := gt_t it5 178 rfl rfl
theorem kX11_250 : Cond.constantLong RX11 250 (3) ∈ gt := gt_t it5 179 rfl rfl
theorem kX11_252 : Cond.constant RX11 252 (1000000) ∈ gt := gt_t it5 180 rfl rfl
theorem mL_44 : VLk RL 44 yX11_square cX11_square 4 (Option.some Jvm.ClassFile.FieldType.int) 2 := ⟨gt_t it5 181 rfl rfl, gt_t it5 182 rfl rfl, gt_t it5 183 rfl rfl, gt_t it1 12 rfl rfl, gt_t it5 184 rfl rfl, by decide +kernel⟩
theorem kX11_258 : Cond.constantLong RX11 258 (10) ∈ gt := gt_t it5 185 rfl rfl
theorem mX11_260 : VLk RX11 260 yX11_isMirrored cX11_isMirrored 2 (Option.some Jvm.ClassFile.FieldType.boolean) 1 := ⟨gt_t it5 186 rfl rfl, gt_t it5 188 rfl rfl, gt_mem 38 rfl rfl, gt_t it1 12 rfl rfl, gt_t it5 189 rfl rfl, by decide +kernel⟩
theorem mX11_263 : VLk RX11 263 yX11_ofSquare cX11_ofSquare 3 (Option.some Jvm.ClassFile.FieldType.int) 2 := ⟨gt_t it5 190 rfl rfl, gt_t it5 192 rfl rfl, gt_mem 39 rfl rfl, gt_t it1 12 rfl rfl, gt_t it5 193 rfl rfl, by decide +kernel⟩
theorem kX11_253 : Cond.constant RX11 253 (2000000) ∈ gt := gt_t it5 194 rfl rfl
theorem mX11_254 : VLk RX11 254 yX11_order cX11_order 1 (Option.some Jvm.ClassFile.FieldType.int) 0 := ⟨gt_t it5 195 rfl rfl, gt_t it5 197 rfl rfl, gt_mem 40 rfl rfl, gt_t it1 12 rfl rfl, gt_t it5 198 rfl rfl, by decide +kernel⟩
theorem kX11_257 : Cond.constant RX11 257 (3000000) ∈ gt := gt_t it5 199 rfl rfl
theorem mL_48 : VLk RL 48 yX11_run cX11_run 3 (Option.some Jvm.ClassFile.FieldType.int) 2 := ⟨gt_t it5 200 rfl rfl, gt_t it5 201 rfl rfl, gt_t it5 202 rfl rfl, gt_t it1 12 rfl rfl, gt_t it5 203 rfl rfl, by decide +kernel⟩
theorem mL_52 : VLk RL 52 yX11_multiply cX11_multiply 3 (Option.some Jvm.ClassFile.FieldType.int) 2 := ⟨gt_t it5 204 rfl rfl, gt_t it5 205 rfl rfl, gt_t it5 206 rfl rfl, gt_t it1 12 rfl rfl, gt_t it5 207 rfl rfl, by decide +kernel⟩
theorem mL_56 : VLk RL 56 yX11_back cX11_back 2 (Option.some Jvm.ClassFile.FieldType.int) 1 := ⟨gt_t it5 208 rfl rfl, gt_t it5 209 rfl rfl, gt_t it5 210 rfl rfl, gt_t it1 12 rfl rfl, gt_t it5 211 rfl rfl, by decide +kernel⟩
theorem mX11_270 : VLk RX11 270 yX11_becomes cX11_becomes 3 (Option.some Jvm.ClassFile.FieldType.int) 1 := ⟨gt_t it5 212 rfl rfl, gt_t it5 214 rfl rfl, gt_mem 41 rfl rfl, gt_t it1 12 rfl rfl, gt_t it5 215 rfl rfl, by decide +kernel⟩
theorem mX11_267 : VLk RX11 267 yX11_isAt cX11_isAt 2 (Option.some Jvm.ClassFile.FieldType.boolean) 1 := ⟨gt_t it5 216 rfl rfl, gt_t it5 218 rfl rfl, gt_mem 42 rfl rfl, gt_t it1 12 rfl rfl, gt_t it5 219 rfl rfl, by decide +kernel⟩
theorem mL_60 : VLk RL 60 yX11_carry cX11_carry 3 (Option.some Jvm.ClassFile.FieldType.int) 2 := ⟨gt_t it5 220 rfl rfl, gt_t it5 221 rfl rfl, gt_t it5 222 rfl rfl, gt_t it1 12 rfl rfl, gt_t it5 223 rfl rfl, by decide +kernel⟩
theorem mL_64 : VLk RL 64 yX11_raise cX11_raise 4 (Option.some Jvm.ClassFile.FieldType.int) 2 := ⟨gt_t it5 224 rfl rfl, gt_t it5 225 rfl rfl, gt_t it5 226 rfl rfl, gt_t it1 12 rfl rfl, gt_t it5 227 rfl rfl, by decide +kernel⟩
theorem kX11_273 : Cond.constantLong RX11 273 (20) ∈ gt := gt_t it5 228 rfl rfl
theorem mL_68 : VLk RL 68 yX11_take cX11_take 3 (Option.some Jvm.ClassFile.FieldType.int) 1 := ⟨gt_t it5 229 rfl rfl, gt_t it5 230 rfl rfl, gt_t it5 231 rfl rfl, gt_t it1 12 rfl rfl, gt_t it5 232 rfl rfl, by decide +kernel⟩
theorem mL_72 : VLk RL 72 yX11_drift cX11_drift 5 (Option.some Jvm.ClassFile.FieldType.int) 1 := ⟨gt_t it5 233 rfl rfl, gt_t it5 234 rfl rfl, gt_t it5 235 rfl rfl, gt_t it1 12 rfl rfl, gt_t it5 236 rfl rfl, by decide +kernel⟩
theorem kX11_285 : Cond.constantLong RX11 285 (12) ∈ gt := gt_t it5 237 rfl rfl
theorem mX11_287 : VLk RX11 287 yX11_draw cX11_draw 2 (Option.some Jvm.ClassFile.FieldType.int) 1 := ⟨gt_t it5 238 rfl rfl, gt_t it6 0 rfl rfl, gt_mem 43 rfl rfl, gt_t it1 12 rfl rfl, gt_t it6 1 rfl rfl, by decide +kernel⟩
theorem kX11_278 : Cond.constantLong RX11 278 (1103515245) ∈ gt := gt_t it6 2 rfl rfl
theorem kX11_280 : Cond.constantLong RX11 280 (12345) ∈ gt := gt_t it6 3 rfl rfl
theorem kX11_282 : Cond.constantLong RX11 282 (2147483648) ∈ gt := gt_t it6 4 rfl rfl
theorem kX11_284 : Cond.constant RX11 284 (65536) ∈ gt := gt_t it6 5 rfl rfl
theorem mL_76 : VLk RL 76 yX11_undo cX11_undo 3 (Option.some Jvm.ClassFile.FieldType.int) 1 := ⟨gt_t it6 6 rfl rfl, gt_t it6 7 rfl rfl, gt_t it6 8 rfl rfl, gt_t it1 12 rfl rfl, gt_t it6 9 rfl rfl, by decide +kernel⟩
theorem mL_81 : VLk RL 81 yX11_pair cX11_pair 5 (Option.some Jvm.ClassFile.FieldType.int) 3 := ⟨gt_t it6 10 rfl rfl, gt_t it6 11 rfl rfl, gt_t it6 12 rfl rfl, gt_t it1 12 rfl rfl, gt_t it6 13 rfl rfl, by decide +kernel⟩
theorem mX11_293 : VLk RX11 293 yX11_beginsOf cX11_beginsOf 6 (Option.some Jvm.ClassFile.FieldType.int) 2 := ⟨gt_t it6 14 rfl rfl, gt_t it6 16 rfl rfl, gt_mem 44 rfl rfl, gt_t it1 12 rfl rfl, gt_t it6 17 rfl rfl, by decide +kernel⟩
theorem mX11_290 : VLk RX11 290 yX11_isProduct cX11_isProduct 2 (Option.some Jvm.ClassFile.FieldType.boolean) 1 := ⟨gt_t it6 18 rfl rfl, gt_t it6 20 rfl rfl, gt_mem 45 rfl rfl, gt_t it1 12 rfl rfl, gt_t it6 21 rfl rfl, by decide +kernel⟩
theorem mX11_296 : VLk RX11 296 yX11_goTogether cX11_goTogether 3 (Option.some Jvm.ClassFile.FieldType.boolean) 2 := ⟨gt_t it6 22 rfl rfl, gt_t it6 24 rfl rfl, gt_mem 46 rfl rfl, gt_t it1 12 rfl rfl, gt_t it6 25 rfl rfl, by decide +kernel⟩
theorem mL_86 : VLk RL 86 yX11_note cX11_note 4 (Option.some Jvm.ClassFile.FieldType.int) 3 := ⟨gt_t it6 26 rfl rfl, gt_t it6 27 rfl rfl, gt_t it6 28 rfl rfl, gt_t it1 12 rfl rfl, gt_t it6 29 rfl rfl, by decide +kernel⟩
theorem mL_90 : VLk RL 90 yX11_tear cX11_tear 2 (Option.some Jvm.ClassFile.FieldType.int) 0 := ⟨gt_t it6 30 rfl rfl, gt_t it6 31 rfl rfl, gt_t it6 32 rfl rfl, gt_t it1 12 rfl rfl, gt_t it6 33 rfl rfl, by decide +kernel⟩
theorem mL_94 : VLk RL 94 yX11_seed cX11_seed 3 (Option.some Jvm.ClassFile.FieldType.int) 1 := ⟨gt_t it6 34 rfl rfl, gt_t it6 35 rfl rfl, gt_t it6 36 rfl rfl, gt_t it1 12 rfl rfl, gt_t it6 37 rfl rfl, by decide +kernel⟩
theorem mL_98 : VLk RL 98 yX11_keep cX11_keep 3 (Option.some Jvm.ClassFile.FieldType.int) 1 := ⟨gt_t it6 38 rfl rfl, gt_t it6 39 rfl rfl, gt_t it6 40 rfl rfl, gt_t it1 12 rfl rfl, gt_t it6 41 rfl rfl, by decide +kernel⟩
theorem mL_102 : VLk RL 102 yX11_goBack cX11_goBack 3 (Option.some Jvm.ClassFile.FieldType.int) 1 := ⟨gt_t it6 42 rfl rfl, gt_t it6 43 rfl rfl, gt_t it6 44 rfl rfl, gt_t it1 12 rfl rfl, gt_t it6 45 rfl rfl, by decide +kernel⟩
theorem acX5_51 : Cond.methodLink RX5 51 arraycopyName ∈ gt := gt_t it2 98 rfl rfl
theorem ac_sta : Cond.static arraycopyName ∈ gt := gt_t it2 99 rfl rfl
theorem ac_nat : Cond.native arraycopyName ∈ gt := gt_t it2 100 rfl rfl
theorem ac_ini : Cond.initialized "java/lang/System" ∈ gt := gt_t it1 13 rfl rfl
end
section
/-- the cells once all is made, in the order in which they are made -/
def shL : List Shp := [.inl (10, [4, 6, 48, 50, 54, 153, 154, 155, 156, 0]), .inl (5, [5, 0]), .inr (0, 48, []), .inl (4, [7, 0, 0]), .inr (3, 20, [6, 8, 10, 12, 14, 16, 18, 20, 22, 24, 26, 28, 30, 32, 34, 36, 38, 40, 42, 44]), .inl (5, [9, 0]), .inr (0, 48, []), .inl (5, [11, 0]), .inr (0, 48, []), .inl (5, [13, 0]), .inr (0, 48, []), .inl (5, [15, 0]), .inr (0, 48, []), .inl (5, [17, 0]), .inr (0, 48, []), .inl (5, [19, 0]), .inr (0, 48, []), .inl (5, [21, 0]), .inr (0, 48, []), .inl (5, [23, 0]), .inr (0, 48, []), .inl (5, [25, 0]), .inr (0, 48, []), .inl (5, [27, 0]), .inr (0, 48, []), .inl (5, [29, 0]), .inr (0, 48, []), .inl (5, [31, 0]), .inr (0, 48, []), .inl (5, [33, 0]), .inr (0, 48, []), .inl (5, [35, 0]), .inr (0, 48, []), .inl (5, [37, 0]), .inr (0, 48, []), .inl (5, [39, 0]), .inr (0, 48, []), .inl (5, [41, 0]), .inr (0, 48, []), .inl (5, [43, 0]), .inr (0, 48, []), .inl (5, [45, 0]), .inr (0, 48, []), .inl (5, [47, 0]), .inr (0, 48, []), .inl (7, [49, 0, 0]), .inr (0, 60, []), .inl (0, [51, 52, 53, 0]), .inr (0, 20, []), .inr (0, 20, []), .inr (2, 20, []), .inl (2, [4, 55, 56, 63, 64, 65, 66, 67]), .inr (4, 12, [67, 74, 81, 88, 95, 102, 109, 116, 123, 130, 137, 144]), .inl (3, [57, 58, 0, 0]), .inl (6, [1, 1, 1, 1]), .inl (8, [59, 60, 61, 0, 0]), .inr (0, 40, []), .inl (6, [1, 1, 1, 1]), .inl (9, [62]), .inl (6, [1, 1, 1, 1]), .inl (6, [1, 1, 1, 1]), .inl (6, [1, 1, 1, 1]), .inl (6, [1, 1, 1, 1]), .inl (6, [1, 1, 1, 1]), .inl (9, [68]), .inl (6, [1, 1, 1, 1]), .inl (3, [70, 71, 0, 0]), .inl (6, [1, 1, 1, 1]), .inl (8, [72, 73, 74, 0, 0]), .inr (0, 40, []), .inl (6, [1, 1, 1, 1]), .inl (9, [75]), .inl (6, [1, 1, 1, 1]), .inl (3, [77, 78, 0, 0]), .inl (6, [1, 1, 1, 1]), .inl (8, [79, 80, 81, 0, 0]), .inr (0, 40, []), .inl (6, [1, 1, 1, 1]), .inl (9, [82]), .inl (6, [1, 1, 1, 1]), .inl (3, [84, 85, 0, 0]), .inl (6, [1, 1, 1, 1]), .inl (8, [86, 87, 88, 0, 0]), .inr (0, 40, []), .inl (6, [1, 1, 1, 1]), .inl (9, [89]), .inl (6, [1, 1, 1, 1]), .inl (3, [91, 92, 0, 0]), .inl (6, [1, 1, 1, 1]), .inl (8, [93, 94, 95, 0, 0]), .inr (0, 40, []), .inl (6, [1, 1, 1, 1]), .inl (9, [96]), .inl (6, [1, 1, 1, 1]), .inl (3, [98, 99, 0, 0]), .inl (6, [1, 1, 1, 1]), .inl (8, [100, 101, 102, 0, 0]), .inr (0, 40, []), .inl (6, [1, 1, 1, 1]), .inl (9, [103]), .inl (6, [1, 1, 1, 1]), .inl (3, [105, 106, 0, 0]), .inl (6, [1, 1, 1, 1]), .inl (8, [107, 108, 109, 0, 0]), .inr (0, 40, []), .inl (6, [1, 1, 1, 1]), .inl (9, [110]), .inl (6, [1, 1, 1, 1]), .inl (3, [112, 113, 0, 0]), .inl (6, [1, 1, 1, 1]), .inl (8, [114, 115, 116, 0, 0]), .inr (0, 40, []), .inl (6, [1, 1, 1, 1]), .inl (9, [117]), .inl (6, [1, 1, 1, 1]), .inl (3, [119, 120, 0, 0]), .inl (6, [1, 1, 1, 1]), .inl (8, [121, 122, 123, 0, 0]), .inr (0, 40, []), .inl (6, [1, 1, 1, 1]), .inl (9, [124]), .inl (6, [1, 1, 1, 1]), .inl (3, [126, 127, 0, 0]), .inl (6, [1, 1, 1, 1]), .inl (8, [128, 129, 130, 0, 0]), .inr (0, 40, []), .inl (6, [1, 1, 1, 1]), .inl (9, [131]), .inl (6, [1, 1, 1, 1]), .inl (3, [133, 134, 0, 0]), .inl (6, [1, 1, 1, 1]), .inl (8, [135, 136, 137, 0, 0]), .inr (0, 40, []), .inl (6, [1, 1, 1, 1]), .inl (9, [138]), .inl (6, [1, 1, 1, 1]), .inl (3, [140, 141, 0, 0]), .inl (6, [1, 1, 1, 1]), .inl (8, [142, 143, 144, 0, 0]), .inr (0, 40, []), .inl (6, [1, 1, 1, 1]), .inl (9, [145]), .inl (6, [1, 1, 1, 1]), .inl (3, [147, 148, 0, 0]), .inl (6, [1, 1, 1, 1]), .inl (8, [149, 150, 151, 0, 0]), .inr (0, 40, []), .inl (6, [1, 1, 1, 1]), .inl (9, [152]), .inl (6, [1, 1, 1, 1]), .inr (5, 2, [155, 158]), .inl (6, [1, 1, 1, 1]), .inl (6, [1, 1, 1, 1]), .inl (6, [1, 1, 1, 1]), .inl (1, [158, 0, 0]), .inl (5, [159, 0]), .inr (0, 48, []), .inl (1, [161, 0, 0]), .inl (5, [162, 0]), .inr (0, 48, []), .inl (11, [164, 165, 0, 166, 167, 0, 168, 0, 0, 169, 0, 1, 1, 1, 1, 0, 1, 1, 170, 0, 0, 1, 1, 171, 172, 0, 0, 1, 1, 0, 0, 1, 173, 174]), .inr (0, 49, []), .inr (0, 980, []), .inr (0, 100, []), .inr (2, 2, []), .inr (0, 60, []), .inr (0, 60, []), .inr (0, 64, []), .inr (0, 64, []), .inr (0, 64, []), .inr (0, 64, []), .inr (1, 4, [])]
def shF (k : Nat) : Shp := shL.getD k (.inl (0, []))
abbrev Es (l : Launch) (b : Nat) (cy : Nat → ClassId) (D : va_G) (d : Nat) (y : MethodName) (cc : ByteArray) (ret : Option FieldType) (nL : Nat) (av : List Value) (σ : Sg) (r : Option Value) (σ' : Sg) : Prop := Ev l b cy D (rm d) y cc ret nL 0 0 av shF NP σ (r, shF, NP, σ')
abbrev Gs (l : Launch) (b : Nat) (cy : Nat → ClassId) (D : va_G) (d : Nat) (y : MethodName) (cc : ByteArray) (ret : Option FieldType) (nL : Nat) (r : Option Value) (σ' : Sg) (pc : Nat) (lv : List (Nat × Value)) (st : List Value) (σ : Sg) : Prop := G l b cy D (rm d) y cc ret nL 0 0 (r, shF, NP, σ') pc lv st 0 0 shF NP σ
abbrev Sq (k : Nat) : Prop := isO shF NP k 6 [1, 1, 1, 1]
abbrev Wo (k p : Nat) : Prop := isO shF NP k 9 [p + 3] ∧ Sq p
abbrev Wh (k r e w p : Nat) : Prop := isO shF NP k 8 [r + 3, e + 3, w + 3, 0, 0] ∧ isR shF NP r 0 40 [] ∧ Sq e ∧ Wo w p
abbrev Ki (k s h r e w p : Nat) : Prop := isO shF NP k 3 [s + 3, h + 3, 0, 0] ∧ Sq s ∧ Wh h r e w p
abbrev Sf (k c : Nat) : Prop := isO shF NP k 5 [c + 3, 0] ∧ isR shF NP c 0 48 []
abbrev Im (k f c : Nat) : Prop := isO shF NP k 1 [f + 3, 0, 0] ∧ Sf f c
def bI (p : Bool) : Int32 := if p then 1 else 0
theorem bI_t : bI true = 1 := rfl
theorem bI_f : bI false = 0 := rfl
theorem bI_01 (p : Bool) : bI p = 0 ∨ bI p = 1 := by cases p <;> simp [bI]
theorem bf {p : Bool} (h : p = false) : ¬ p = true := by rw [h]; decide
theorem bI_z {p : Bool} (h : bI p = 0) : p = false := by cases p <;> first | rfl | exact absurd h (by decide)
theorem bI_nz {p : Bool} (h : ¬ bI p = 0) : p = true := by cases p <;> first | rfl | exact absurd rfl h
theorem bI_inj {p q : Bool} : bI p = bI q ↔ p = q := by cases p <;> cases q <;> decide
theorem rm_nat {d : Nat} {st : List Value} (h : 1 ≤ d) (hs : (st.map fun v => v.category).sum ≤ 8 := by exact Nat.le_of_ble_eq_true rfl) : 1 ≤ (rm d).frames ∧ (st.map fun v => v.category).sum + (nativeFrameWords "java/lang/System" "arraycopy" 5 + 11) ≤ (rm d).locals := by
  refine ⟨h, ?_⟩
  have e : nativeFrameWords "java/lang/System" "arraycopy" 5 + 11 ≤ 32 := by decide +kernel
  show _ ≤ 40 * d
  omega
section
variable {l : Launch} {b : Nat} {cy : Nat → ClassId} {D : va_G} {R : Room} {y : MethodName} {cc : ByteArray} {ret : Option FieldType} {nL mc ms : Nat} {Z : Zt} {pc pc' tgt : Nat} {lv lv' : List (Nat × Value)} {st : List Value} {kc ks : Nat} {sh : Nat → Shp} {n : Nat} {σ : Sg} {off : Int}
theorem g_ifb_eq {p : Bool} (hd : decode cc pc = .ok (.ifCond .eq off, 3)) (hp : pc + 3 = pc') (ht : (pc : Int) + off = (tgt : Int)) (kt : p = false → G l b cy D R y cc ret nL mc ms Z tgt lv st kc ks sh n σ) (kf : p = true → G l b cy D R y cc ret nL mc ms Z pc' lv st kc ks sh n σ) : G l b cy D R y cc ret nL mc ms Z pc lv (.int (bI p) :: st) kc ks sh n σ := g_if_eq hd hp ht (fun h => kt (bI_z h)) (fun h => kf (bI_nz h))
theorem g_ifb_ne {p : Bool} (hd : decode cc pc = .ok (.ifCond .ne off, 3)) (hp : pc + 3 = pc') (ht : (pc : Int) + off = (tgt : Int)) (kt : p = true → G l b cy D R y cc ret nL mc ms Z tgt lv st kc ks sh n σ) (kf : p = false → G l b cy D R y cc ret nL mc ms Z pc' lv st kc ks sh n σ) : G l b cy D R y cc ret nL mc ms Z pc lv (.int (bI p) :: st) kc ks sh n σ := g_if_ne hd hp ht (fun h => kt (bI_nz h)) (fun h => kf (bI_z h))
end
theorem o0 : isO shF NP 0 10 [4, 6, 48, 50, 54, 153, 154, 155, 156, 0] := ⟨by decide, rfl⟩
theorem o1 : isO shF NP 1 5 [5, 0] := ⟨by decide, rfl⟩
theorem o2 : isR shF NP 2 0 48 [] := ⟨by decide, rfl⟩
theorem o3 : isO shF NP 3 4 [7, 0, 0] := ⟨by decide, rfl⟩
theorem o4 : isR shF NP 4 3 20 [6, 8, 10, 12, 14, 16, 18, 20, 22, 24, 26, 28, 30, 32, 34, 36, 38, 40, 42, 44] := ⟨by decide, rfl⟩
theorem o5 : isO shF NP 5 5 [9, 0] := ⟨by decide, rfl⟩
theorem o6 : isR shF NP 6 0 48 [] := ⟨by decide, rfl⟩
theorem o7 : isO shF NP 7 5 [11, 0] := ⟨by decide, rfl⟩
theorem o8 : isR shF NP 8 0 48 [] := ⟨by decide, rfl⟩
theorem o9 : isO shF NP 9 5 [13, 0] := ⟨by decide, rfl⟩
theorem o10 : isR shF NP 10 0 48 [] := ⟨by decide, rfl⟩
theorem o11 : isO shF NP 11 5 [15, 0] := ⟨by decide, rfl⟩
theorem o12 : isR shF NP 12 0 48 [] := ⟨by decide, rfl⟩
theorem o13 : isO shF NP 13 5 [17, 0] := ⟨by decide, rfl⟩
theorem o14 : isR shF NP 14 0 48 [] := ⟨by decide, rfl⟩
theorem o15 : isO shF NP 15 5 [19, 0] := ⟨by decide, rfl⟩
theorem o16 : isR shF NP 16 0 48 [] := ⟨by decide, rfl⟩
theorem o17 : isO shF NP 17 5 [21, 0] := ⟨by decide, rfl⟩
theorem o18 : isR shF NP 18 0 48 [] := ⟨by decide, rfl⟩
theorem o19 : isO shF NP 19 5 [23, 0] := ⟨by decide, rfl⟩
theorem o20 : isR shF NP 20 0 48 [] := ⟨by decide, rfl⟩
theorem o21 : isO shF NP 21 5 [25, 0] := ⟨by decide, rfl⟩
theorem o22 : isR shF NP 22 0 48 [] := ⟨by decide, rfl⟩
theorem o23 : isO shF NP 23 5 [27, 0] := ⟨by decide, rfl⟩
theorem o24 : isR shF NP 24 0 48 [] := ⟨by decide, rfl⟩
theorem o25 : isO shF NP 25 5 [29, 0] := ⟨by decide, rfl⟩
theorem o26 : isR shF NP 26 0 48 [] := ⟨by decide, rfl⟩
theorem o27 : isO shF NP 27 5 [31, 0] := ⟨by decide, rfl⟩
theorem o28 : isR shF NP 28 0 48 [] := ⟨by decide, rfl⟩
theorem o29 : isO shF NP 29 5 [33, 0] := ⟨by decide, rfl⟩
theorem o30 : isR shF NP 30 0 48 [] := ⟨by decide, rfl⟩
theorem o31 : isO shF NP 31 5 [35, 0] := ⟨by decide, rfl⟩
theorem o32 : isR shF NP 32 0 48 [] := ⟨by decide, rfl⟩
theorem o33 : isO shF NP 33 5 [37, 0] := ⟨by decide, rfl⟩
theorem o34 : isR shF NP 34 0 48 [] := ⟨by decide, rfl⟩
theorem o35 : isO shF NP 35 5 [39, 0] := ⟨by decide, rfl⟩
theorem o36 : isR shF NP 36 0 48 [] := ⟨by decide, rfl⟩
theorem o37 : isO shF NP 37 5 [41, 0] := ⟨by decide, rfl⟩
theorem o38 : isR shF NP 38 0 48 [] := ⟨by decide, rfl⟩
theorem o39 : isO shF NP 39 5 [43, 0] := ⟨by decide, rfl⟩
theorem o40 : isR shF NP 40 0 48 [] := ⟨by decide, rfl⟩
theorem o41 : isO shF NP 41 5 [45, 0] := ⟨by decide, rfl⟩
theorem o42 : isR shF NP 42 0 48 [] := ⟨by decide, rfl⟩
theorem o43 : isO shF NP 43 5 [47, 0] := ⟨by decide, rfl⟩
theorem o44 : isR shF NP 44 0 48 [] := ⟨by decide, rfl⟩
theorem o45 : isO shF NP 45 7 [49, 0, 0] := ⟨by decide, rfl⟩
theorem o46 : isR shF NP 46 0 60 [] := ⟨by decide, rfl⟩
theorem o47 : isO shF NP 47 0 [51, 52, 53, 0] := ⟨by decide, rfl⟩
theorem o48 : isR shF NP 48 0 20 [] := ⟨by decide, rfl⟩
theorem o49 : isR shF NP 49 0 20 [] := ⟨by decide, rfl⟩
theorem o50 : isR shF NP 50 2 20 [] := ⟨by decide, rfl⟩
theorem o51 : isO shF NP 51 2 [4, 55, 56, 63, 64, 65, 66, 67] := ⟨by decide, rfl⟩
theorem o52 : isR shF NP 52 4 12 [67, 74, 81, 88, 95, 102, 109, 116, 123, 130, 137, 144] := ⟨by decide, rfl⟩
theorem o53 : isO shF NP 53 3 [57, 58, 0, 0] := ⟨by decide, rfl⟩
theorem o54 : isO shF NP 54 6 [1, 1, 1, 1] := ⟨by decide, rfl⟩
theorem o55 : isO shF NP 55 8 [59, 60, 61, 0, 0] := ⟨by decide, rfl⟩
theorem o56 : isR shF NP 56 0 40 [] := ⟨by decide, rfl⟩
theorem o57 : isO shF NP 57 6 [1, 1, 1, 1] := ⟨by decide, rfl⟩
theorem o58 : isO shF NP 58 9 [62] := ⟨by decide, rfl⟩
theorem o59 : isO shF NP 59 6 [1, 1, 1, 1] := ⟨by decide, rfl⟩
theorem o60 : isO shF NP 60 6 [1, 1, 1, 1] := ⟨by decide, rfl⟩
theorem o61 : isO shF NP 61 6 [1, 1, 1, 1] := ⟨by decide, rfl⟩
theorem o62 : isO shF NP 62 6 [1, 1, 1, 1] := ⟨by decide, rfl⟩
theorem o63 : isO shF NP 63 6 [1, 1, 1, 1] := ⟨by decide, rfl⟩
theorem o64 : isO shF NP 64 9 [68] := ⟨by decide, rfl⟩
theorem o65 : isO shF NP 65 6 [1, 1, 1, 1] := ⟨by decide, rfl⟩
theorem o66 : isO shF NP 66 3 [70, 71, 0, 0] := ⟨by decide, rfl⟩
theorem o67 : isO shF NP 67 6 [1, 1, 1, 1] := ⟨by decide, rfl⟩
theorem o68 : isO shF NP 68 8 [72, 73, 74, 0, 0] := ⟨by decide, rfl⟩
theorem o69 : isR shF NP 69 0 40 [] := ⟨by decide, rfl⟩
theorem o70 : isO shF NP 70 6 [1, 1, 1, 1] := ⟨by decide, rfl⟩
theorem o71 : isO shF NP 71 9 [75] := ⟨by decide, rfl⟩
theorem o72 : isO shF NP 72 6 [1, 1, 1, 1] := ⟨by decide, rfl⟩
theorem o73 : isO shF NP 73 3 [77, 78, 0, 0] := ⟨by decide, rfl⟩
theorem o74 : isO shF NP 74 6 [1, 1, 1, 1] := ⟨by decide, rfl⟩
theorem o75 : isO shF NP 75 8 [79, 80, 81, 0, 0] := ⟨by decide, rfl⟩
theorem o76 : isR shF NP 76 0 40 [] := ⟨by decide, rfl⟩
theorem o77 : isO shF NP 77 6 [1, 1, 1, 1] := ⟨by decide, rfl⟩
theorem o78 : isO shF NP 78 9 [82] := ⟨by decide, rfl⟩
theorem o79 : isO shF NP 79 6 [1, 1, 1, 1] := ⟨by decide, rfl⟩
theorem o80 : isO shF NP 80 3 [84, 85, 0, 0] := ⟨by decide, rfl⟩
theorem o81 : isO shF NP 81 6 [1, 1, 1, 1] := ⟨by decide, rfl⟩
theorem o82 : isO shF NP 82 8 [86, 87, 88, 0, 0] := ⟨by decide, rfl⟩
theorem o83 : isR shF NP 83 0 40 [] := ⟨by decide, rfl⟩
theorem o84 : isO shF NP 84 6 [1, 1, 1, 1] := ⟨by decide, rfl⟩
theorem o85 : isO shF NP 85 9 [89] := ⟨by decide, rfl⟩
theorem o86 : isO shF NP 86 6 [1, 1, 1, 1] := ⟨by decide, rfl⟩
theorem o87 : isO shF NP 87 3 [91, 92, 0, 0] := ⟨by decide, rfl⟩
theorem o88 : isO shF NP 88 6 [1, 1, 1, 1] := ⟨by decide, rfl⟩
theorem o89 : isO shF NP 89 8 [93, 94, 95, 0, 0] := ⟨by decide, rfl⟩
theorem o90 : isR shF NP 90 0 40 [] := ⟨by decide, rfl⟩
theorem o91 : isO shF NP 91 6 [1, 1, 1, 1] := ⟨by decide, rfl⟩
theorem o92 : isO shF NP 92 9 [96] := ⟨by decide, rfl⟩
theorem o93 : isO shF NP 93 6 [1, 1, 1, 1] := ⟨by decide, rfl⟩
theorem o94 : isO shF NP 94 3 [98, 99, 0, 0] := ⟨by decide, rfl⟩
theorem o95 : isO shF NP 95 6 [1, 1, 1, 1] := ⟨by decide, rfl⟩
theorem o96 : isO shF NP 96 8 [100, 101, 102, 0, 0] := ⟨by decide, rfl⟩
theorem o97 : isR shF NP 97 0 40 [] := ⟨by decide, rfl⟩
theorem o98 : isO shF NP 98 6 [1, 1, 1, 1] := ⟨by decide, rfl⟩
theorem o99 : isO shF NP 99 9 [103] := ⟨by decide, rfl⟩
theorem o100 : isO shF NP 100 6 [1, 1, 1, 1] := ⟨by decide, rfl⟩
theorem o101 : isO shF NP 101 3 [105, 106, 0, 0] := ⟨by decide, rfl⟩
theorem o102 : isO shF NP 102 6 [1, 1, 1, 1] := ⟨by decide, rfl⟩
theorem o103 : isO shF NP 103 8 [107, 108, 109, 0, 0] := ⟨by decide, rfl⟩
theorem o104 : isR shF NP 104 0 40 [] := ⟨by decide, rfl⟩
theorem o105 : isO shF NP 105 6 [1, 1, 1, 1] := ⟨by decide, rfl⟩
theorem o106 : isO shF NP 106 9 [110] := ⟨by decide, rfl⟩
theorem o107 : isO shF NP 107 6 [1, 1, 1, 1] := ⟨by decide, rfl⟩
theorem o108 : isO shF NP 108 3 [112, 113, 0, 0] := ⟨by decide, rfl⟩
theorem o109 : isO shF NP 109 6 [1, 1, 1, 1] := ⟨by decide, rfl⟩
theorem o110 : isO shF NP 110 8 [114, 115, 116, 0, 0] := ⟨by decide, rfl⟩
theorem o111 : isR shF NP 111 0 40 [] := ⟨by decide, rfl⟩
theorem o112 : isO shF NP 112 6 [1, 1, 1, 1] := ⟨by decide, rfl⟩
theorem o113 : isO shF NP 113 9 [117] := ⟨by decide, rfl⟩
theorem o114 : isO shF NP 114 6 [1, 1, 1, 1] := ⟨by decide, rfl⟩
theorem o115 : isO shF NP 115 3 [119, 120, 0, 0] := ⟨by decide, rfl⟩
theorem o116 : isO shF NP 116 6 [1, 1, 1, 1] := ⟨by decide, rfl⟩
theorem o117 : isO shF NP 117 8 [121, 122, 123, 0, 0] := ⟨by decide, rfl⟩
theorem o118 : isR shF NP 118 0 40 [] := ⟨by decide, rfl⟩
theorem o119 : isO shF NP 119 6 [1, 1, 1, 1] := ⟨by decide, rfl⟩
theorem o120 : isO shF NP 120 9 [124] := ⟨by decide, rfl⟩
theorem o121 : isO shF NP 121 6 [1, 1, 1, 1] := ⟨by decide, rfl⟩
theorem o122 : isO shF NP 122 3 [126, 127, 0, 0] := ⟨by decide, rfl⟩
theorem o123 : isO shF NP 123 6 [1, 1, 1, 1] := ⟨by decide, rfl⟩
theorem o124 : isO shF NP 124 8 [128, 129, 130, 0, 0] := ⟨by decide, rfl⟩
theorem o125 : isR shF NP 125 0 40 [] := ⟨by decide, rfl⟩
theorem o126 : isO shF NP 126 6 [1, 1, 1, 1] := ⟨by decide, rfl⟩
theorem o127 : isO shF NP 127 9 [131] := ⟨by decide, rfl⟩
theorem o128 : isO shF NP 128 6 [1, 1, 1, 1] := ⟨by decide, rfl⟩
theorem o129 : isO shF NP 129 3 [133, 134, 0, 0] := ⟨by decide, rfl⟩
theorem o130 : isO shF NP 130 6 [1, 1, 1, 1] := ⟨by decide, rfl⟩
theorem o131 : isO shF NP 131 8 [135, 136, 137, 0, 0] := ⟨by decide, rfl⟩
theorem o132 : isR shF NP 132 0 40 [] := ⟨by decide, rfl⟩
theorem o133 : isO shF NP 133 6 [1, 1, 1, 1] := ⟨by decide, rfl⟩
theorem o134 : isO shF NP 134 9 [138] := ⟨by decide, rfl⟩
theorem o135 : isO shF NP 135 6 [1, 1, 1, 1] := ⟨by decide, rfl⟩
theorem o136 : isO shF NP 136 3 [140, 141, 0, 0] := ⟨by decide, rfl⟩
theorem o137 : isO shF NP 137 6 [1, 1, 1, 1] := ⟨by decide, rfl⟩
theorem o138 : isO shF NP 138 8 [142, 143, 144, 0, 0] := ⟨by decide, rfl⟩
theorem o139 : isR shF NP 139 0 40 [] := ⟨by decide, rfl⟩
theorem o140 : isO shF NP 140 6 [1, 1, 1, 1] := ⟨by decide, rfl⟩
theorem o141 : isO shF NP 141 9 [145] := ⟨by decide, rfl⟩
theorem o142 : isO shF NP 142 6 [1, 1, 1, 1] := ⟨by decide, rfl⟩
theorem o143 : isO shF NP 143 3 [147, 148, 0, 0] := ⟨by decide, rfl⟩
theorem o144 : isO shF NP 144 6 [1, 1, 1, 1] := ⟨by decide, rfl⟩
theorem o145 : isO shF NP 145 8 [149, 150, 151, 0, 0] := ⟨by decide, rfl⟩
theorem o146 : isR shF NP 146 0 40 [] := ⟨by decide, rfl⟩
theorem o147 : isO shF NP 147 6 [1, 1, 1, 1] := ⟨by decide, rfl⟩
theorem o148 : isO shF NP 148 9 [152] := ⟨by decide, rfl⟩
theorem o149 : isO shF NP 149 6 [1, 1, 1, 1] := ⟨by decide, rfl⟩
theorem o150 : isR shF NP 150 5 2 [155, 158] := ⟨by decide, rfl⟩
theorem o151 : isO shF NP 151 6 [1, 1, 1, 1] := ⟨by decide, rfl⟩
theorem o152 : isO shF NP 152 6 [1, 1, 1, 1] := ⟨by decide, rfl⟩
theorem o153 : isO shF NP 153 6 [1, 1, 1, 1] := ⟨by decide, rfl⟩
theorem o154 : isO shF NP 154 1 [158, 0, 0] := ⟨by decide, rfl⟩
theorem o155 : isO shF NP 155 5 [159, 0] := ⟨by decide, rfl⟩
theorem o156 : isR shF NP 156 0 48 [] := ⟨by decide, rfl⟩
theorem o157 : isO shF NP 157 1 [161, 0, 0] := ⟨by decide, rfl⟩
theorem o158 : isO shF NP 158 5 [162, 0] := ⟨by decide, rfl⟩
theorem o159 : isR shF NP 159 0 48 [] := ⟨by decide, rfl⟩
theorem o160 : isO shF NP 160 11 [164, 165, 0, 166, 167, 0, 168, 0, 0, 169, 0, 1, 1, 1, 1, 0, 1, 1, 170, 0, 0, 1, 1, 171, 172, 0, 0, 1, 1, 0, 0, 1, 173, 174] := ⟨by decide, rfl⟩
theorem o161 : isR shF NP 161 0 49 [] := ⟨by decide, rfl⟩
theorem o162 : isR shF NP 162 0 980 [] := ⟨by decide, rfl⟩
theorem o163 : isR shF NP 163 0 100 [] := ⟨by decide, rfl⟩
theorem o164 : isR shF NP 164 2 2 [] := ⟨by decide, rfl⟩
theorem o165 : isR shF NP 165 0 60 [] := ⟨by decide, rfl⟩
theorem o166 : isR shF NP 166 0 60 [] := ⟨by decide, rfl⟩
theorem o167 : isR shF NP 167 0 64 [] := ⟨by decide, rfl⟩
theorem o168 : isR shF NP 168 0 64 [] := ⟨by decide, rfl⟩
theorem o169 : isR shF NP 169 0 64 [] := ⟨by decide, rfl⟩
theorem o170 : isR shF NP 170 0 64 [] := ⟨by decide, rfl⟩
theorem o171 : isR shF NP 171 1 4 [] := ⟨by decide, rfl⟩
theorem ki53 : Ki 53 54 55 56 57 58 59 := ⟨o53, o54, o55, o56, o57, o58, o59⟩
theorem sf1 : Sf 1 2 := ⟨o1, o2⟩
theorem wo64 : Wo 64 65 := ⟨o64, o65⟩
theorem ki_0 : ∀ s, s < 12 → isO shF NP (66 + 7 * s) 3 [66 + 7 * s + 1 + 3, 66 + 7 * s + 2 + 3, 0, 0] := by unfold isO; decide +kernel
theorem ki_1 : ∀ s, s < 12 → isO shF NP (66 + 7 * s + 1) 6 [1, 1, 1, 1] := by unfold isO; decide +kernel
theorem ki_2 : ∀ s, s < 12 → isO shF NP (66 + 7 * s + 2) 8 [66 + 7 * s + 3 + 3, 66 + 7 * s + 4 + 3, 66 + 7 * s + 5 + 3, 0, 0] := by unfold isO; decide +kernel
theorem ki_3 : ∀ s, s < 12 → isR shF NP (66 + 7 * s + 3) 0 40 [] := by unfold isR; decide +kernel
theorem ki_4 : ∀ s, s < 12 → isO shF NP (66 + 7 * s + 4) 6 [1, 1, 1, 1] := by unfold isO; decide +kernel
theorem ki_5 : ∀ s, s < 12 → isO shF NP (66 + 7 * s + 5) 9 [66 + 7 * s + 6 + 3] := by unfold isO; decide +kernel
theorem ki_6 : ∀ s, s < 12 → isO shF NP (66 + 7 * s + 6) 6 [1, 1, 1, 1] := by unfold isO; decide +kernel
theorem kiN (s : Nat) (h : s < 12) : Ki (66 + 7 * s) (66 + 7 * s + 1) (66 + 7 * s + 2) (66 + 7 * s + 3) (66 + 7 * s + 4) (66 + 7 * s + 5) (66 + 7 * s + 6) := ⟨ki_0 s h, ki_1 s h, ki_2 s h, ki_3 s h, ki_4 s h, ki_5 s h, ki_6 s h⟩
theorem sfN : ∀ s, s < 20 → Sf (5 + 2 * s) (5 + 2 * s + 1) := by
  unfold Sf isO isR
  decide +kernel
theorem im_0 : ∀ s, s < 2 → isO shF NP (154 + 3 * s) 1 [154 + 3 * s + 1 + 3, 0, 0] := by unfold isO; decide +kernel
theorem im_1 : ∀ s, s < 2 → isO shF NP (154 + 3 * s + 1) 5 [154 + 3 * s + 2 + 3, 0] := by unfold isO; decide +kernel
theorem im_2 : ∀ s, s < 2 → isR shF NP (154 + 3 * s + 2) 0 48 [] := by unfold isR; decide +kernel
theorem imN (s : Nat) (h : s < 2) : Im (154 + 3 * s) (154 + 3 * s + 1) (154 + 3 * s + 2) := ⟨im_0 s h, im_1 s h, im_2 s h⟩
theorem ak : ∀ s, s < 12 → ([67, 74, 81, 88, 95, 102, 109, 116, 123, 130, 137, 144] : List Nat)[s]? = some (66 + 7 * s + 1) := by decide +kernel
theorem as : ∀ s, s < 20 → ([6, 8, 10, 12, 14, 16, 18, 20, 22, 24, 26, 28, 30, 32, 34, 36, 38, 40, 42, 44] : List Nat)[s]? = some (5 + 2 * s + 1) := by decide +kernel
theorem ai : ∀ s, s < 2 → ([155, 158] : List Nat)[s]? = some (154 + 3 * s + 1) := by decide +kernel
end
section
def rX6_trace (k : Nat)  (σ : Sg) : Int64 := (σ.2 k 0) + (σ.2 k 3)
set_option maxRecDepth 100000 in
set_option maxHeartbeats 4000000 in
theorem ev_X6_trace {l : Launch} {b : Nat} {cy : Nat → ClassId} {D : va_G} {d : Nat} {k : Nat}  {σ : Sg} (hk : Sq k) : Es l b cy D (d + 0) yX6_trace cX6_trace (Option.some Jvm.ClassFile.FieldType.long) 1 [.ref (b + k)] σ (some (.long (rX6_trace k σ))) σ := by
  refine Ev.of (by decide) (Nat.le_of_ble_eq_true rfl) rfl ?_
  refine g_aload_n (pc' := 1) dX6_trace_0 rfl 0 rfl rfl ?_
  refine g_getL (pc' := 4) dX6_trace_1 rfl (PLk.lf fX6_9) hk rfl ?_
  refine g_aload_n (pc' := 5) dX6_trace_4 rfl 0 rfl rfl ?_
  refine g_getL (pc' := 8) dX6_trace_5 rfl (PLk.lf fX6_21) hk rfl ?_
  refine g_ladd (pc' := 9) dX6_trace_8 rfl ?_
  exact g_lret dX6_trace_9 rfl ⟨rfl, rfl⟩ rfl
def sX6_set (k : Nat) (x1 : Int64) (x2 : Int64) (x3 : Int64) (x4 : Int64) (σ : Sg) : Sg := (σ.1, u2 (u2 (u2 (u2 σ.2 k 0 x1) k 1 x2) k 2 x3) k 3 x4)
set_option maxRecDepth 100000 in
set_option maxHeartbeats 4000000 in
theorem ev_X6_set {l : Launch} {b : Nat} {cy : Nat → ClassId} {D : va_G} {d : Nat} {k : Nat} {x1 : Int64} {x2 : Int64} {x3 : Int64} {x4 : Int64} {σ : Sg} (hk : Sq k) : Es l b cy D (d + 0) yX6_set cX6_set (Option.none : Option Jvm.ClassFile.FieldType) 9 [.ref (b + k), .long (x1), .long (x2), .long (x3), .long (x4)] σ none (sX6_set k x1 x2 x3 x4 σ) := by
  refine Ev.of (by decide) (Nat.le_of_ble_eq_true rfl) rfl ?_
  refine g_aload_n (pc' := 1) dX6_set_0 rfl 0 rfl rfl ?_
  refine g_lload_n (pc' := 2) dX6_set_1 rfl 1 rfl rfl ?_
  refine g_putL (pc' := 5) dX6_set_2 rfl fX6_9 hk rfl ?_
  refine g_aload_n (pc' := 6) dX6_set_5 rfl 0 rfl rfl ?_
  refine g_lload_n (pc' := 7) dX6_set_6 rfl 2 rfl rfl ?_
  refine g_putL (pc' := 10) dX6_set_7 rfl fX6_15 hk rfl ?_
  refine g_aload_n (pc' := 11) dX6_set_10 rfl 0 rfl rfl ?_
  refine g_lload (pc' := 13) dX6_set_11 rfl 3 rfl ?_
  refine g_putL (pc' := 16) dX6_set_13 rfl fX6_18 hk rfl ?_
  refine g_aload_n (pc' := 17) dX6_set_16 rfl 0 rfl rfl ?_
  refine g_lload (pc' := 19) dX6_set_17 rfl 4 rfl ?_
  refine g_putL (pc' := 22) dX6_set_19 rfl fX6_21 hk rfl ?_
  exact g_vret dX6_set_22 rfl ⟨rfl, rfl⟩ rfl
def sX6_setOne (k : Nat)  (σ : Sg) : Sg := sX6_set k 1 0 0 1 σ
set_option maxRecDepth 100000 in
set_option maxHeartbeats 4000000 in
theorem ev_X6_setOne {l : Launch} {b : Nat} {cy : Nat → ClassId} {D : va_G} {d : Nat} {k : Nat}  {σ : Sg} (hk : Sq k) : Es l b cy D (d + 1) yX6_setOne cX6_setOne (Option.none : Option Jvm.ClassFile.FieldType) 1 [.ref (b + k)] σ none (sX6_setOne k σ) := by
  refine Ev.of (by decide) (Nat.le_of_ble_eq_true rfl) rfl ?_
  refine g_aload_n (pc' := 1) dX6_setOne_0 rfl 0 rfl rfl ?_
  refine g_lconst (pc' := 2) (v := 1) dX6_setOne_1 rfl (by decide) ?_
  refine g_lconst (pc' := 3) (v := 0) dX6_setOne_2 rfl (by decide) ?_
  refine g_lconst (pc' := 4) (v := 0) dX6_setOne_3 rfl (by decide) ?_
  refine g_lconst (pc' := 5) (v := 1) dX6_setOne_4 rfl (by decide) ?_
  refine g_callv (pc' := 8) dX6_setOne_5 rfl mX6_24 (ev_X6_set (k := k) (x1 := 1) (x2 := 0) (x3 := 0) (x4 := 1) hk (σ := σ) (d := d)) hk rfl (rm_ok (by omega) (by decide)) ⟨rfl, rfl⟩ ⟨Nat.zero_le _, Nat.zero_le _⟩ rfl rfl (Nat.le_of_ble_eq_true rfl) ?_
  exact g_vret dX6_setOne_8 rfl ⟨rfl, rfl⟩ rfl
def sX6_turnBack (k : Nat)  (σ : Sg) : Sg := sX6_set k (σ.2 k 3) (-(σ.2 k 1)) (-(σ.2 k 2)) (σ.2 k 0) σ
set_option maxRecDepth 100000 in
set_option maxHeartbeats 4000000 in
theorem ev_X6_turnBack {l : Launch} {b : Nat} {cy : Nat → ClassId} {D : va_G} {d : Nat} {k : Nat}  {σ : Sg} (hk : Sq k) : Es l b cy D (d + 1) yX6_turnBack cX6_turnBack (Option.none : Option Jvm.ClassFile.FieldType) 1 [.ref (b + k)] σ none (sX6_turnBack k σ) := by
  refine Ev.of (by decide) (Nat.le_of_ble_eq_true rfl) rfl ?_
  refine g_aload_n (pc' := 1) dX6_turnBack_0 rfl 0 rfl rfl ?_
  refine g_aload_n (pc' := 2) dX6_turnBack_1 rfl 0 rfl rfl ?_
  refine g_getL (pc' := 5) dX6_turnBack_2 rfl (PLk.lf fX6_21) hk rfl ?_
  refine g_aload_n (pc' := 6) dX6_turnBack_5 rfl 0 rfl rfl ?_
  refine g_getL (pc' := 9) dX6_turnBack_6 rfl (PLk.lf fX6_15) hk rfl ?_
  refine g_lneg (pc' := 10) dX6_turnBack_9 rfl ?_
  refine g_aload_n (pc' := 11) dX6_turnBack_10 rfl 0 rfl rfl ?_
  refine g_getL (pc' := 14) dX6_turnBack_11 rfl (PLk.lf fX6_18) hk rfl ?_
  refine g_lneg (pc' := 15) dX6_turnBack_14 rfl ?_
  refine g_aload_n (pc' := 16) dX6_turnBack_15 rfl 0 rfl rfl ?_
  refine g_getL (pc' := 19) dX6_turnBack_16 rfl (PLk.lf fX6_9) hk rfl ?_
  refine g_callv (pc' := 22) dX6_turnBack_19 rfl mX6_24 (ev_X6_set (k := k) (x1 := σ.2 k 3) (x2 := -(σ.2 k 1)) (x3 := -(σ.2 k 2)) (x4 := σ.2 k 0) hk (σ := σ) (d := d)) hk rfl (rm_ok (by omega) (by decide)) ⟨rfl, rfl⟩ ⟨Nat.zero_le _, Nat.zero_le _⟩ rfl rfl (Nat.le_of_ble_eq_true rfl) ?_
  exact g_vret dX6_turnBack_22 rfl ⟨rfl, rfl⟩ rfl
def sX6_changeSigns (k : Nat)  (σ : Sg) : Sg := sX6_set k (-(σ.2 k 0)) (-(σ.2 k 1)) (-(σ.2 k 2)) (-(σ.2 k 3)) σ
set_option maxRecDepth 100000 in
set_option maxHeartbeats 4000000 in
theorem ev_X6_changeSigns {l : Launch} {b : Nat} {cy : Nat → ClassId} {D : va_G} {d : Nat} {k : Nat}  {σ : Sg} (hk : Sq k) : Es l b cy D (d + 1) yX6_changeSigns cX6_changeSigns (Option.none : Option Jvm.ClassFile.FieldType) 1 [.ref (b + k)] σ none (sX6_changeSigns k σ) := by
  refine Ev.of (by decide) (Nat.le_of_ble_eq_true rfl) rfl ?_
  refine g_aload_n (pc' := 1) dX6_changeSigns_0 rfl 0 rfl rfl ?_
  refine g_aload_n (pc' := 2) dX6_changeSigns_1 rfl 0 rfl rfl ?_
  refine g_getL (pc' := 5) dX6_changeSigns_2 rfl (PLk.lf fX6_9) hk rfl ?_
  refine g_lneg (pc' := 6) dX6_changeSigns_5 rfl ?_
  refine g_aload_n (pc' := 7) dX6_changeSigns_6 rfl 0 rfl rfl ?_
  refine g_getL (pc' := 10) dX6_changeSigns_7 rfl (PLk.lf fX6_15) hk rfl ?_
  refine g_lneg (pc' := 11) dX6_changeSigns_10 rfl ?_
  refine g_aload_n (pc' := 12) dX6_changeSigns_11 rfl 0 rfl rfl ?_
  refine g_getL (pc' := 15) dX6_changeSigns_12 rfl (PLk.lf fX6_18) hk rfl ?_
  refine g_lneg (pc' := 16) dX6_changeSigns_15 rfl ?_
  refine g_aload_n (pc' := 17) dX6_changeSigns_16 rfl 0 rfl rfl ?_
  refine g_getL (pc' := 20) dX6_changeSigns_17 rfl (PLk.lf fX6_21) hk rfl ?_
  refine g_lneg (pc' := 21) dX6_changeSigns_20 rfl ?_
  refine g_callv (pc' := 24) dX6_changeSigns_21 rfl mX6_24 (ev_X6_set (k := k) (x1 := -(σ.2 k 0)) (x2 := -(σ.2 k 1)) (x3 := -(σ.2 k 2)) (x4 := -(σ.2 k 3)) hk (σ := σ) (d := d)) hk rfl (rm_ok (by omega) (by decide)) ⟨rfl, rfl⟩ ⟨Nat.zero_le _, Nat.zero_le _⟩ rfl rfl (Nat.le_of_ble_eq_true rfl) ?_
  exact g_vret dX6_changeSigns_24 rfl ⟨rfl, rfl⟩ rfl
def sX6_mirror (k : Nat)  (σ : Sg) : Sg := sX6_set k (σ.2 k 0) (-(σ.2 k 1)) (-(σ.2 k 2)) (σ.2 k 3) σ
set_option maxRecDepth 100000 in
set_option maxHeartbeats 4000000 in
theorem ev_X6_mirror {l : Launch} {b : Nat} {cy : Nat → ClassId} {D : va_G} {d : Nat} {k : Nat}  {σ : Sg} (hk : Sq k) : Es l b cy D (d + 1) yX6_mirror cX6_mirror (Option.none : Option Jvm.ClassFile.FieldType) 1 [.ref (b + k)] σ none (sX6_mirror k σ) := by
  refine Ev.of (by decide) (Nat.le_of_ble_eq_true rfl) rfl ?_
  refine g_aload_n (pc' := 1) dX6_mirror_0 rfl 0 rfl rfl ?_
  refine g_aload_n (pc' := 2) dX6_mirror_1 rfl 0 rfl rfl ?_
  refine g_getL (pc' := 5) dX6_mirror_2 rfl (PLk.lf fX6_9) hk rfl ?_
  refine g_aload_n (pc' := 6) dX6_mirror_5 rfl 0 rfl rfl ?_
  refine g_getL (pc' := 9) dX6_mirror_6 rfl (PLk.lf fX6_15) hk rfl ?_
  refine g_lneg (pc' := 10) dX6_mirror_9 rfl ?_
  refine g_aload_n (pc' := 11) dX6_mirror_10 rfl 0 rfl rfl ?_
  refine g_getL (pc' := 14) dX6_mirror_11 rfl (PLk.lf fX6_18) hk rfl ?_
  refine g_lneg (pc' := 15) dX6_mirror_14 rfl ?_
  refine g_aload_n (pc' := 16) dX6_mirror_15 rfl 0 rfl rfl ?_
  refine g_getL (pc' := 19) dX6_mirror_16 rfl (PLk.lf fX6_21) hk rfl ?_
  refine g_callv (pc' := 22) dX6_mirror_19 rfl mX6_24 (ev_X6_set (k := k) (x1 := σ.2 k 0) (x2 := -(σ.2 k 1)) (x3 := -(σ.2 k 2)) (x4 := σ.2 k 3) hk (σ := σ) (d := d)) hk rfl (rm_ok (by omega) (by decide)) ⟨rfl, rfl⟩ ⟨Nat.zero_le _, Nat.zero_le _⟩ rfl rfl (Nat.le_of_ble_eq_true rfl) ?_
  exact g_vret dX6_mirror_22 rfl ⟨rfl, rfl⟩ rfl
def sX6_carryByR (k : Nat) (x1 : Int64) (σ : Sg) : Sg := (σ.1, u2 (u2 (u2 σ.2 k 1 ((σ.2 k 1) + ((x1 * ((σ.2 k 3) - (σ.2 k 0))) - ((x1 * x1) * (σ.2 k 2))))) k 0 (((u2 σ.2 k 1 ((σ.2 k 1) + ((x1 * ((σ.2 k 3) - (σ.2 k 0))) - ((x1 * x1) * (σ.2 k 2))))) k 0) + (x1 * ((u2 σ.2 k 1 ((σ.2 k 1) + ((x1 * ((σ.2 k 3) - (σ.2 k 0))) - ((x1 * x1) * (σ.2 k 2))))) k 2)))) k 3 (((u2 (u2 σ.2 k 1 ((σ.2 k 1) + ((x1 * ((σ.2 k 3) - (σ.2 k 0))) - ((x1 * x1) * (σ.2 k 2))))) k 0 (((u2 σ.2 k 1 ((σ.2 k 1) + ((x1 * ((σ.2 k 3) - (σ.2 k 0))) - ((x1 * x1) * (σ.2 k 2))))) k 0) + (x1 * ((u2 σ.2 k 1 ((σ.2 k 1) + ((x1 * ((σ.2 k 3) - (σ.2 k 0))) - ((x1 * x1) * (σ.2 k 2))))) k 2)))) k 3) - (x1 * ((u2 (u2 σ.2 k 1 ((σ.2 k 1) + ((x1 * ((σ.2 k 3) - (σ.2 k 0))) - ((x1 * x1) * (σ.2 k 2))))) k 0 (((u2 σ.2 k 1 ((σ.2 k 1) + ((x1 * ((σ.2 k 3) - (σ.2 k 0))) - ((x1 * x1) * (σ.2 k 2))))) k 0) + (x1 * ((u2 σ.2 k 1 ((σ.2 k 1) + ((x1 * ((σ.2 k 3) - (σ.2 k 0))) - ((x1 * x1) * (σ.2 k 2))))) k 2)))) k 2))))
set_option maxRecDepth 100000 in
set_option maxHeartbeats 4000000 in
theorem ev_X6_carryByR {l : Launch} {b : Nat} {cy : Nat → ClassId} {D : va_G} {d : Nat} {k : Nat} {x1 : Int64} {σ : Sg} (hk : Sq k) : Es l b cy D (d + 0) yX6_carryByR cX6_carryByR (Option.none : Option Jvm.ClassFile.FieldType) 3 [.ref (b + k), .long (x1)] σ none (sX6_carryByR k x1 σ) := by
  refine Ev.of (by decide) (Nat.le_of_ble_eq_true rfl) rfl ?_
  refine g_aload_n (pc' := 1) dX6_carryByR_0 rfl 0 rfl rfl ?_
  refine g_dup (pc' := 2) dX6_carryByR_1 rfl rfl ?_
  refine g_getL (pc' := 5) dX6_carryByR_2 rfl (PLk.lf fX6_15) hk rfl ?_
  refine g_lload_n (pc' := 6) dX6_carryByR_5 rfl 1 rfl rfl ?_
  refine g_aload_n (pc' := 7) dX6_carryByR_6 rfl 0 rfl rfl ?_
  refine g_getL (pc' := 10) dX6_carryByR_7 rfl (PLk.lf fX6_21) hk rfl ?_
  refine g_aload_n (pc' := 11) dX6_carryByR_10 rfl 0 rfl rfl ?_
  refine g_getL (pc' := 14) dX6_carryByR_11 rfl (PLk.lf fX6_9) hk rfl ?_
  refine g_lsub (pc' := 15) dX6_carryByR_14 rfl ?_
  refine g_lmul (pc' := 16) dX6_carryByR_15 rfl ?_
  refine g_lload_n (pc' := 17) dX6_carryByR_16 rfl 1 rfl rfl ?_
  refine g_lload_n (pc' := 18) dX6_carryByR_17 rfl 1 rfl rfl ?_
  refine g_lmul (pc' := 19) dX6_carryByR_18 rfl ?_
  refine g_aload_n (pc' := 20) dX6_carryByR_19 rfl 0 rfl rfl ?_
  refine g_getL (pc' := 23) dX6_carryByR_20 rfl (PLk.lf fX6_18) hk rfl ?_
  refine g_lmul (pc' := 24) dX6_carryByR_23 rfl ?_
  refine g_lsub (pc' := 25) dX6_carryByR_24 rfl ?_
  refine g_ladd (pc' := 26) dX6_carryByR_25 rfl ?_
  refine g_putL (pc' := 29) dX6_carryByR_26 rfl fX6_15 hk rfl ?_
  refine g_aload_n (pc' := 30) dX6_carryByR_29 rfl 0 rfl rfl ?_
  refine g_dup (pc' := 31) dX6_carryByR_30 rfl rfl ?_
  refine g_getL (pc' := 34) dX6_carryByR_31 rfl (PLk.lf fX6_9) hk rfl ?_
  refine g_lload_n (pc' := 35) dX6_carryByR_34 rfl 1 rfl rfl ?_
  refine g_aload_n (pc' := 36) dX6_carryByR_35 rfl 0 rfl rfl ?_
  refine g_getL (pc' := 39) dX6_carryByR_36 rfl (PLk.lf fX6_18) hk rfl ?_
  refine g_lmul (pc' := 40) dX6_carryByR_39 rfl ?_
  refine g_ladd (pc' := 41) dX6_carryByR_40 rfl ?_
  refine g_putL (pc' := 44) dX6_carryByR_41 rfl fX6_9 hk rfl ?_
  refine g_aload_n (pc' := 45) dX6_carryByR_44 rfl 0 rfl rfl ?_
  refine g_dup (pc' := 46) dX6_carryByR_45 rfl rfl ?_
  refine g_getL (pc' := 49) dX6_carryByR_46 rfl (PLk.lf fX6_21) hk rfl ?_
  refine g_lload_n (pc' := 50) dX6_carryByR_49 rfl 1 rfl rfl ?_
  refine g_aload_n (pc' := 51) dX6_carryByR_50 rfl 0 rfl rfl ?_
  refine g_getL (pc' := 54) dX6_carryByR_51 rfl (PLk.lf fX6_18) hk rfl ?_
  refine g_lmul (pc' := 55) dX6_carryByR_54 rfl ?_
  refine g_lsub (pc' := 56) dX6_carryByR_55 rfl ?_
  refine g_putL (pc' := 59) dX6_carryByR_56 rfl fX6_21 hk rfl ?_
  exact g_vret dX6_carryByR_59 rfl ⟨rfl, rfl⟩ rfl
def sX6_carryByL (k : Nat) (x1 : Int64) (σ : Sg) : Sg := (σ.1, u2 (u2 (u2 σ.2 k 2 ((σ.2 k 2) + ((x1 * ((σ.2 k 0) - (σ.2 k 3))) - ((x1 * x1) * (σ.2 k 1))))) k 0 (((u2 σ.2 k 2 ((σ.2 k 2) + ((x1 * ((σ.2 k 0) - (σ.2 k 3))) - ((x1 * x1) * (σ.2 k 1))))) k 0) - (x1 * ((u2 σ.2 k 2 ((σ.2 k 2) + ((x1 * ((σ.2 k 0) - (σ.2 k 3))) - ((x1 * x1) * (σ.2 k 1))))) k 1)))) k 3 (((u2 (u2 σ.2 k 2 ((σ.2 k 2) + ((x1 * ((σ.2 k 0) - (σ.2 k 3))) - ((x1 * x1) * (σ.2 k 1))))) k 0 (((u2 σ.2 k 2 ((σ.2 k 2) + ((x1 * ((σ.2 k 0) - (σ.2 k 3))) - ((x1 * x1) * (σ.2 k 1))))) k 0) - (x1 * ((u2 σ.2 k 2 ((σ.2 k 2) + ((x1 * ((σ.2 k 0) - (σ.2 k 3))) - ((x1 * x1) * (σ.2 k 1))))) k 1)))) k 3) + (x1 * ((u2 (u2 σ.2 k 2 ((σ.2 k 2) + ((x1 * ((σ.2 k 0) - (σ.2 k 3))) - ((x1 * x1) * (σ.2 k 1))))) k 0 (((u2 σ.2 k 2 ((σ.2 k 2) + ((x1 * ((σ.2 k 0) - (σ.2 k 3))) - ((x1 * x1) * (σ.2 k 1))))) k 0) - (x1 * ((u2 σ.2 k 2 ((σ.2 k 2) + ((x1 * ((σ.2 k 0) - (σ.2 k 3))) - ((x1 * x1) * (σ.2 k 1))))) k 1)))) k 1))))
set_option maxRecDepth 100000 in
set_option maxHeartbeats 4000000 in
theorem ev_X6_carryByL {l : Launch} {b : Nat} {cy : Nat → ClassId} {D : va_G} {d : Nat} {k : Nat} {x1 : Int64} {σ : Sg} (hk : Sq k) : Es l b cy D (d + 0) yX6_carryByL cX6_carryByL (Option.none : Option Jvm.ClassFile.FieldType) 3 [.ref (b + k), .long (x1)] σ none (sX6_carryByL k x1 σ) := by
  refine Ev.of (by decide) (Nat.le_of_ble_eq_true rfl) rfl ?_
  refine g_aload_n (pc' := 1) dX6_carryByL_0 rfl 0 rfl rfl ?_
  refine g_dup (pc' := 2) dX6_carryByL_1 rfl rfl ?_
  refine g_getL (pc' := 5) dX6_carryByL_2 rfl (PLk.lf fX6_18) hk rfl ?_
  refine g_lload_n (pc' := 6) dX6_carryByL_5 rfl 1 rfl rfl ?_
  refine g_aload_n (pc' := 7) dX6_carryByL_6 rfl 0 rfl rfl ?_
  refine g_getL (pc' := 10) dX6_carryByL_7 rfl (PLk.lf fX6_9) hk rfl ?_
  refine g_aload_n (pc' := 11) dX6_carryByL_10 rfl 0 rfl rfl ?_
  refine g_getL (pc' := 14) dX6_carryByL_11 rfl (PLk.lf fX6_21) hk rfl ?_
  refine g_lsub (pc' := 15) dX6_carryByL_14 rfl ?_
  refine g_lmul (pc' := 16) dX6_carryByL_15 rfl ?_
  refine g_lload_n (pc' := 17) dX6_carryByL_16 rfl 1 rfl rfl ?_
  refine g_lload_n (pc' := 18) dX6_carryByL_17 rfl 1 rfl rfl ?_
  refine g_lmul (pc' := 19) dX6_carryByL_18 rfl ?_
  refine g_aload_n (pc' := 20) dX6_carryByL_19 rfl 0 rfl rfl ?_
  refine g_getL (pc' := 23) dX6_carryByL_20 rfl (PLk.lf fX6_15) hk rfl ?_
  refine g_lmul (pc' := 24) dX6_carryByL_23 rfl ?_
  refine g_lsub (pc' := 25) dX6_carryByL_24 rfl ?_
  refine g_ladd (pc' := 26) dX6_carryByL_25 rfl ?_
  refine g_putL (pc' := 29) dX6_carryByL_26 rfl fX6_18 hk rfl ?_
  refine g_aload_n (pc' := 30) dX6_carryByL_29 rfl 0 rfl rfl ?_
  refine g_dup (pc' := 31) dX6_carryByL_30 rfl rfl ?_
  refine g_getL (pc' := 34) dX6_carryByL_31 rfl (PLk.lf fX6_9) hk rfl ?_
  refine g_lload_n (pc' := 35) dX6_carryByL_34 rfl 1 rfl rfl ?_
  refine g_aload_n (pc' := 36) dX6_carryByL_35 rfl 0 rfl rfl ?_
  refine g_getL (pc' := 39) dX6_carryByL_36 rfl (PLk.lf fX6_15) hk rfl ?_
  refine g_lmul (pc' := 40) dX6_carryByL_39 rfl ?_
  refine g_lsub (pc' := 41) dX6_carryByL_40 rfl ?_
  refine g_putL (pc' := 44) dX6_carryByL_41 rfl fX6_9 hk rfl ?_
  refine g_aload_n (pc' := 45) dX6_carryByL_44 rfl 0 rfl rfl ?_
  refine g_dup (pc' := 46) dX6_carryByL_45 rfl rfl ?_
  refine g_getL (pc' := 49) dX6_carryByL_46 rfl (PLk.lf fX6_21) hk rfl ?_
  refine g_lload_n (pc' := 50) dX6_carryByL_49 rfl 1 rfl rfl ?_
  refine g_aload_n (pc' := 51) dX6_carryByL_50 rfl 0 rfl rfl ?_
  refine g_getL (pc' := 54) dX6_carryByL_51 rfl (PLk.lf fX6_15) hk rfl ?_
  refine g_lmul (pc' := 55) dX6_carryByL_54 rfl ?_
  refine g_ladd (pc' := 56) dX6_carryByL_55 rfl ?_
  refine g_putL (pc' := 59) dX6_carryByL_56 rfl fX6_21 hk rfl ?_
  exact g_vret dX6_carryByL_59 rfl ⟨rfl, rfl⟩ rfl
def sX6_carryByS (k : Nat)  (σ : Sg) : Sg := (σ.1, u2 (u2 (u2 (u2 σ.2 k 0 (σ.2 k 3)) k 1 (-((u2 σ.2 k 0 (σ.2 k 3)) k 2))) k 2 (-(σ.2 k 1))) k 3 (σ.2 k 0))
set_option maxRecDepth 100000 in
set_option maxHeartbeats 4000000 in
theorem ev_X6_carryByS {l : Launch} {b : Nat} {cy : Nat → ClassId} {D : va_G} {d : Nat} {k : Nat}  {σ : Sg} (hk : Sq k) : Es l b cy D (d + 0) yX6_carryByS cX6_carryByS (Option.none : Option Jvm.ClassFile.FieldType) 5 [.ref (b + k)] σ none (sX6_carryByS k σ) := by
  refine Ev.of (by decide) (Nat.le_of_ble_eq_true rfl) rfl ?_
  refine g_aload_n (pc' := 1) dX6_carryByS_0 rfl 0 rfl rfl ?_
  refine g_getL (pc' := 4) dX6_carryByS_1 rfl (PLk.lf fX6_9) hk rfl ?_
  refine g_lstore_n (pc' := 5) (j := 1) (lv' := [(1, .long (σ.2 k 0)), (0, .ref (b + k))]) dX6_carryByS_4 rfl rfl (by decide) rfl ?_
  refine g_aload_n (pc' := 6) dX6_carryByS_5 rfl 1 rfl rfl ?_
  refine g_getL (pc' := 9) dX6_carryByS_6 rfl (PLk.lf fX6_15) hk rfl ?_
  refine g_lstore_n (pc' := 10) (j := 3) (lv' := [(3, .long (σ.2 k 1)), (1, .long (σ.2 k 0)), (0, .ref (b + k))]) dX6_carryByS_9 rfl rfl (by decide) rfl ?_
  refine g_aload_n (pc' := 11) dX6_carryByS_10 rfl 2 rfl rfl ?_
  refine g_aload_n (pc' := 12) dX6_carryByS_11 rfl 2 rfl rfl ?_
  refine g_getL (pc' := 15) dX6_carryByS_12 rfl (PLk.lf fX6_21) hk rfl ?_
  refine g_putL (pc' := 18) dX6_carryByS_15 rfl fX6_9 hk rfl ?_
  refine g_aload_n (pc' := 19) dX6_carryByS_18 rfl 2 rfl rfl ?_
  refine g_aload_n (pc' := 20) dX6_carryByS_19 rfl 2 rfl rfl ?_
  refine g_getL (pc' := 23) dX6_carryByS_20 rfl (PLk.lf fX6_18) hk rfl ?_
  refine g_lneg (pc' := 24) dX6_carryByS_23 rfl ?_
  refine g_putL (pc' := 27) dX6_carryByS_24 rfl fX6_15 hk rfl ?_
  refine g_aload_n (pc' := 28) dX6_carryByS_27 rfl 2 rfl rfl ?_
  refine g_lload_n (pc' := 29) dX6_carryByS_28 rfl 0 rfl rfl ?_
  refine g_lneg (pc' := 30) dX6_carryByS_29 rfl ?_
  refine g_putL (pc' := 33) dX6_carryByS_30 rfl fX6_18 hk rfl ?_
  refine g_aload_n (pc' := 34) dX6_carryByS_33 rfl 2 rfl rfl ?_
  refine g_lload_n (pc' := 35) dX6_carryByS_34 rfl 1 rfl rfl ?_
  refine g_putL (pc' := 38) dX6_carryByS_35 rfl fX6_21 hk rfl ?_
  exact g_vret dX6_carryByS_38 rfl ⟨rfl, rfl⟩ rfl
def rX6_hasAreaOne (k : Nat)  (σ : Sg) : Bool := if (((σ.2 k 0) * (σ.2 k 3)) - ((σ.2 k 1) * (σ.2 k 2)) : Int64) = 1 then true else false
set_option maxRecDepth 100000 in
set_option maxHeartbeats 4000000 in
theorem ev_X6_hasAreaOne {l : Launch} {b : Nat} {cy : Nat → ClassId} {D : va_G} {d : Nat} {k : Nat}  {σ : Sg} (hk : Sq k) : Es l b cy D (d + 0) yX6_hasAreaOne cX6_hasAreaOne (Option.some Jvm.ClassFile.FieldType.boolean) 1 [.ref (b + k)] σ (some (.int (bI (rX6_hasAreaOne k σ)))) σ := by
  refine Ev.of (by decide) (Nat.le_of_ble_eq_true rfl) rfl ?_
  refine g_aload_n (pc' := 1) dX6_hasAreaOne_0 rfl 0 rfl rfl ?_
  refine g_getL (pc' := 4) dX6_hasAreaOne_1 rfl (PLk.lf fX6_9) hk rfl ?_
  refine g_aload_n (pc' := 5) dX6_hasAreaOne_4 rfl 0 rfl rfl ?_
  refine g_getL (pc' := 8) dX6_hasAreaOne_5 rfl (PLk.lf fX6_21) hk rfl ?_
  refine g_lmul (pc' := 9) dX6_hasAreaOne_8 rfl ?_
  refine g_aload_n (pc' := 10) dX6_hasAreaOne_9 rfl 0 rfl rfl ?_
  refine g_getL (pc' := 13) dX6_hasAreaOne_10 rfl (PLk.lf fX6_15) hk rfl ?_
  refine g_aload_n (pc' := 14) dX6_hasAreaOne_13 rfl 0 rfl rfl ?_
  refine g_getL (pc' := 17) dX6_hasAreaOne_14 rfl (PLk.lf fX6_18) hk rfl ?_
  refine g_lmul (pc' := 18) dX6_hasAreaOne_17 rfl ?_
  refine g_lsub (pc' := 19) dX6_hasAreaOne_18 rfl ?_
  refine g_lconst (pc' := 20) (v := 1) dX6_hasAreaOne_19 rfl (by decide) ?_
  refine g_lif_ne (pc' := 24) (tgt := 28) dX6_hasAreaOne_20 dX6_hasAreaOne_21 rfl (by decide) (fun (c1 : ¬ (((σ.2 k 0) * (σ.2 k 3)) - ((σ.2 k 1) * (σ.2 k 2)) : Int64) = 1) => ?_) (fun (c1 : (((σ.2 k 0) * (σ.2 k 3)) - ((σ.2 k 1) * (σ.2 k 2)) : Int64) = 1) => ?_)
  · refine g_iconst (pc' := 29) (v := 0) dX6_hasAreaOne_28 rfl (by decide) ?_
    exact g_zret dX6_hasAreaOne_29 rfl (Or.inl rfl) ⟨rfl, rfl⟩ (by simp only [rX6_hasAreaOne, if_neg c1, bI_t, bI_f])
  · refine g_iconst (pc' := 25) (v := 1) dX6_hasAreaOne_24 rfl (by decide) ?_
    refine g_goto (tgt := 29) dX6_hasAreaOne_25 (by decide) ?_
    exact g_zret dX6_hasAreaOne_29 rfl (Or.inr rfl) ⟨rfl, rfl⟩ (by simp only [rX6_hasAreaOne, if_pos c1, bI_t, bI_f])
def rX6_isOne (k : Nat)  (σ : Sg) : Bool := if (σ.2 k 0 : Int64) = 1 then if (σ.2 k 1 : Int64) = 0 then if (σ.2 k 2 : Int64) = 0 then if (σ.2 k 3 : Int64) = 1 then true else false else false else false else false
set_option maxRecDepth 100000 in
set_option maxHeartbeats 4000000 in
theorem ev_X6_isOne {l : Launch} {b : Nat} {cy : Nat → ClassId} {D : va_G} {d : Nat} {k : Nat}  {σ : Sg} (hk : Sq k) : Es l b cy D (d + 0) yX6_isOne cX6_isOne (Option.some Jvm.ClassFile.FieldType.boolean) 1 [.ref (b + k)] σ (some (.int (bI (rX6_isOne k σ)))) σ := by
  refine Ev.of (by decide) (Nat.le_of_ble_eq_true rfl) rfl ?_
  refine g_aload_n (pc' := 1) dX6_isOne_0 rfl 0 rfl rfl ?_
  refine g_getL (pc' := 4) dX6_isOne_1 rfl (PLk.lf fX6_9) hk rfl ?_
  refine g_lconst (pc' := 5) (v := 1) dX6_isOne_4 rfl (by decide) ?_
  refine g_lif_ne (pc' := 9) (tgt := 40) dX6_isOne_5 dX6_isOne_6 rfl (by decide) (fun (c1 : ¬ (σ.2 k 0 : Int64) = 1) => ?_) (fun (c1 : (σ.2 k 0 : Int64) = 1) => ?_)
  · refine g_iconst (pc' := 41) (v := 0) dX6_isOne_40 rfl (by decide) ?_
    exact g_zret dX6_isOne_41 rfl (Or.inl rfl) ⟨rfl, rfl⟩ (by simp only [rX6_isOne, if_neg c1, bI_t, bI_f])
  · refine g_aload_n (pc' := 10) dX6_isOne_9 rfl 0 rfl rfl ?_
    refine g_getL (pc' := 13) dX6_isOne_10 rfl (PLk.lf fX6_15) hk rfl ?_
    refine g_lconst (pc' := 14) (v := 0) dX6_isOne_13 rfl (by decide) ?_
    refine g_lif_ne (pc' := 18) (tgt := 40) dX6_isOne_14 dX6_isOne_15 rfl (by decide) (fun (c2 : ¬ (σ.2 k 1 : Int64) = 0) => ?_) (fun (c2 : (σ.2 k 1 : Int64) = 0) => ?_)
    · refine g_iconst (pc' := 41) (v := 0) dX6_isOne_40 rfl (by decide) ?_
      exact g_zret dX6_isOne_41 rfl (Or.inl rfl) ⟨rfl, rfl⟩ (by simp only [rX6_isOne, if_pos c1, if_neg c2, bI_t, bI_f])
    · refine g_aload_n (pc' := 19) dX6_isOne_18 rfl 0 rfl rfl ?_
      refine g_getL (pc' := 22) dX6_isOne_19 rfl (PLk.lf fX6_18) hk rfl ?_
      refine g_lconst (pc' := 23) (v := 0) dX6_isOne_22 rfl (by decide) ?_
      refine g_lif_ne (pc' := 27) (tgt := 40) dX6_isOne_23 dX6_isOne_24 rfl (by decide) (fun (c3 : ¬ (σ.2 k 2 : Int64) = 0) => ?_) (fun (c3 : (σ.2 k 2 : Int64) = 0) => ?_)
      · refine g_iconst (pc' := 41) (v := 0) dX6_isOne_40 rfl (by decide) ?_
        exact g_zret dX6_isOne_41 rfl (Or.inl rfl) ⟨rfl, rfl⟩ (by simp only [rX6_isOne, if_pos c1, if_pos c2, if_neg c3, bI_t, bI_f])
      · refine g_aload_n (pc' := 28) dX6_isOne_27 rfl 0 rfl rfl ?_
        refine g_getL (pc' := 31) dX6_isOne_28 rfl (PLk.lf fX6_21) hk rfl ?_
        refine g_lconst (pc' := 32) (v := 1) dX6_isOne_31 rfl (by decide) ?_
        refine g_lif_ne (pc' := 36) (tgt := 40) dX6_isOne_32 dX6_isOne_33 rfl (by decide) (fun (c4 : ¬ (σ.2 k 3 : Int64) = 1) => ?_) (fun (c4 : (σ.2 k 3 : Int64) = 1) => ?_)
        · refine g_iconst (pc' := 41) (v := 0) dX6_isOne_40 rfl (by decide) ?_
          exact g_zret dX6_isOne_41 rfl (Or.inl rfl) ⟨rfl, rfl⟩ (by simp only [rX6_isOne, if_pos c1, if_pos c2, if_pos c3, if_neg c4, bI_t, bI_f])
        · refine g_iconst (pc' := 37) (v := 1) dX6_isOne_36 rfl (by decide) ?_
          refine g_goto (tgt := 41) dX6_isOne_37 (by decide) ?_
          exact g_zret dX6_isOne_41 rfl (Or.inr rfl) ⟨rfl, rfl⟩ (by simp only [rX6_isOne, if_pos c1, if_pos c2, if_pos c3, if_pos c4, bI_t, bI_f])
def rX6_hasNoneBelowZero (k : Nat)  (σ : Sg) : Bool := if (σ.2 k 0 : Int64) < 0 then false else if (σ.2 k 1 : Int64) < 0 then false else if (σ.2 k 2 : Int64) < 0 then false else if (σ.2 k 3 : Int64) < 0 then false else true
set_option maxRecDepth 100000 in
set_option maxHeartbeats 4000000 in
theorem ev_X6_hasNoneBelowZero {l : Launch} {b : Nat} {cy : Nat → ClassId} {D : va_G} {d : Nat} {k : Nat}  {σ : Sg} (hk : Sq k) : Es l b cy D (d + 0) yX6_hasNoneBelowZero cX6_hasNoneBelowZero (Option.some Jvm.ClassFile.FieldType.boolean) 1 [.ref (b + k)] σ (some (.int (bI (rX6_hasNoneBelowZero k σ)))) σ := by
  refine Ev.of (by decide) (Nat.le_of_ble_eq_true rfl) rfl ?_
  refine g_aload_n (pc' := 1) dX6_hasNoneBelowZero_0 rfl 0 rfl rfl ?_
  refine g_getL (pc' := 4) dX6_hasNoneBelowZero_1 rfl (PLk.lf fX6_9) hk rfl ?_
  refine g_lconst (pc' := 5) (v := 0) dX6_hasNoneBelowZero_4 rfl (by decide) ?_
  refine g_lif_lt (pc' := 9) (tgt := 40) dX6_hasNoneBelowZero_5 dX6_hasNoneBelowZero_6 rfl (by decide) (fun (c1 : (σ.2 k 0 : Int64) < 0) => ?_) (fun (c1 : ¬ (σ.2 k 0 : Int64) < 0) => ?_)
  · refine g_iconst (pc' := 41) (v := 0) dX6_hasNoneBelowZero_40 rfl (by decide) ?_
    exact g_zret dX6_hasNoneBelowZero_41 rfl (Or.inl rfl) ⟨rfl, rfl⟩ (by simp only [rX6_hasNoneBelowZero, if_pos c1, bI_t, bI_f])
  · refine g_aload_n (pc' := 10) dX6_hasNoneBelowZero_9 rfl 0 rfl rfl ?_
    refine g_getL (pc' := 13) dX6_hasNoneBelowZero_10 rfl (PLk.lf fX6_15) hk rfl ?_
    refine g_lconst (pc' := 14) (v := 0) dX6_hasNoneBelowZero_13 rfl (by decide) ?_
    refine g_lif_lt (pc' := 18) (tgt := 40) dX6_hasNoneBelowZero_14 dX6_hasNoneBelowZero_15 rfl (by decide) (fun (c2 : (σ.2 k 1 : Int64) < 0) => ?_) (fun (c2 : ¬ (σ.2 k 1 : Int64) < 0) => ?_)
    · refine g_iconst (pc' := 41) (v := 0) dX6_hasNoneBelowZero_40 rfl (by decide) ?_
      exact g_zret dX6_hasNoneBelowZero_41 rfl (Or.inl rfl) ⟨rfl, rfl⟩ (by simp only [rX6_hasNoneBelowZero, if_neg c1, if_pos c2, bI_t, bI_f])
    · refine g_aload_n (pc' := 19) dX6_hasNoneBelowZero_18 rfl 0 rfl rfl ?_
      refine g_getL (pc' := 22) dX6_hasNoneBelowZero_19 rfl (PLk.lf fX6_18) hk rfl ?_
      refine g_lconst (pc' := 23) (v := 0) dX6_hasNoneBelowZero_22 rfl (by decide) ?_
      refine g_lif_lt (pc' := 27) (tgt := 40) dX6_hasNoneBelowZero_23 dX6_hasNoneBelowZero_24 rfl (by decide) (fun (c3 : (σ.2 k 2 : Int64) < 0) => ?_) (fun (c3 : ¬ (σ.2 k 2 : Int64) < 0) => ?_)
      · refine g_iconst (pc' := 41) (v := 0) dX6_hasNoneBelowZero_40 rfl (by decide) ?_
        exact g_zret dX6_hasNoneBelowZero_41 rfl (Or.inl rfl) ⟨rfl, rfl⟩ (by simp only [rX6_hasNoneBelowZero, if_neg c1, if_neg c2, if_pos c3, bI_t, bI_f])
      · refine g_aload_n (pc' := 28) dX6_hasNoneBelowZero_27 rfl 0 rfl rfl ?_
        refine g_getL (pc' := 31) dX6_hasNoneBelowZero_28 rfl (PLk.lf fX6_21) hk rfl ?_
        refine g_lconst (pc' := 32) (v := 0) dX6_hasNoneBelowZero_31 rfl (by decide) ?_
        refine g_lif_lt (pc' := 36) (tgt := 40) dX6_hasNoneBelowZero_32 dX6_hasNoneBelowZero_33 rfl (by decide) (fun (c4 : (σ.2 k 3 : Int64) < 0) => ?_) (fun (c4 : ¬ (σ.2 k 3 : Int64) < 0) => ?_)
        · refine g_iconst (pc' := 41) (v := 0) dX6_hasNoneBelowZero_40 rfl (by decide) ?_
          exact g_zret dX6_hasNoneBelowZero_41 rfl (Or.inl rfl) ⟨rfl, rfl⟩ (by simp only [rX6_hasNoneBelowZero, if_neg c1, if_neg c2, if_neg c3, if_pos c4, bI_t, bI_f])
        · refine g_iconst (pc' := 37) (v := 1) dX6_hasNoneBelowZero_36 rfl (by decide) ?_
          refine g_goto (tgt := 41) dX6_hasNoneBelowZero_37 (by decide) ?_
          exact g_zret dX6_hasNoneBelowZero_41 rfl (Or.inr rfl) ⟨rfl, rfl⟩ (by simp only [rX6_hasNoneBelowZero, if_neg c1, if_neg c2, if_neg c3, if_neg c4, bI_t, bI_f])
def rX6_hasLikeSides (k : Nat)  (σ : Sg) : Bool := if (0 : Int64) < (σ.2 k 1) then if (0 : Int64) < (σ.2 k 2) then true else if (σ.2 k 1 : Int64) < 0 then if (σ.2 k 2 : Int64) < 0 then true else false else false else if (σ.2 k 1 : Int64) < 0 then if (σ.2 k 2 : Int64) < 0 then true else false else false
set_option maxRecDepth 100000 in
set_option maxHeartbeats 4000000 in
theorem ev_X6_hasLikeSides {l : Launch} {b : Nat} {cy : Nat → ClassId} {D : va_G} {d : Nat} {k : Nat}  {σ : Sg} (hk : Sq k) : Es l b cy D (d + 0) yX6_hasLikeSides cX6_hasLikeSides (Option.some Jvm.ClassFile.FieldType.boolean) 1 [.ref (b + k)] σ (some (.int (bI (rX6_hasLikeSides k σ)))) σ := by
  refine Ev.of (by decide) (Nat.le_of_ble_eq_true rfl) rfl ?_
  refine g_aload_n (pc' := 1) dX6_hasLikeSides_0 rfl 0 rfl rfl ?_
  refine g_getL (pc' := 4) dX6_hasLikeSides_1 rfl (PLk.lf fX6_15) hk rfl ?_
  refine g_lconst (pc' := 5) (v := 0) dX6_hasLikeSides_4 rfl (by decide) ?_
  refine g_lif_le (pc' := 9) (tgt := 18) dX6_hasLikeSides_5 dX6_hasLikeSides_6 rfl (by decide) (fun (c1 : ¬ (0 : Int64) < (σ.2 k 1)) => ?_) (fun (c1 : (0 : Int64) < (σ.2 k 1)) => ?_)
  · refine g_aload_n (pc' := 19) dX6_hasLikeSides_18 rfl 0 rfl rfl ?_
    refine g_getL (pc' := 22) dX6_hasLikeSides_19 rfl (PLk.lf fX6_15) hk rfl ?_
    refine g_lconst (pc' := 23) (v := 0) dX6_hasLikeSides_22 rfl (by decide) ?_
    refine g_lif_ge (pc' := 27) (tgt := 40) dX6_hasLikeSides_23 dX6_hasLikeSides_24 rfl (by decide) (fun (c2 : ¬ (σ.2 k 1 : Int64) < 0) => ?_) (fun (c2 : (σ.2 k 1 : Int64) < 0) => ?_)
    · refine g_iconst (pc' := 41) (v := 0) dX6_hasLikeSides_40 rfl (by decide) ?_
      exact g_zret dX6_hasLikeSides_41 rfl (Or.inl rfl) ⟨rfl, rfl⟩ (by simp only [rX6_hasLikeSides, if_neg c1, if_neg c2, bI_t, bI_f])
    · refine g_aload_n (pc' := 28) dX6_hasLikeSides_27 rfl 0 rfl rfl ?_
      refine g_getL (pc' := 31) dX6_hasLikeSides_28 rfl (PLk.lf fX6_18) hk rfl ?_
      refine g_lconst (pc' := 32) (v := 0) dX6_hasLikeSides_31 rfl (by decide) ?_
      refine g_lif_ge (pc' := 36) (tgt := 40) dX6_hasLikeSides_32 dX6_hasLikeSides_33 rfl (by decide) (fun (c3 : ¬ (σ.2 k 2 : Int64) < 0) => ?_) (fun (c3 : (σ.2 k 2 : Int64) < 0) => ?_)
      · refine g_iconst (pc' := 41) (v := 0) dX6_hasLikeSides_40 rfl (by decide) ?_
        exact g_zret dX6_hasLikeSides_41 rfl (Or.inl rfl) ⟨rfl, rfl⟩ (by simp only [rX6_hasLikeSides, if_neg c1, if_pos c2, if_neg c3, bI_t, bI_f])
      · refine g_iconst (pc' := 37) (v := 1) dX6_hasLikeSides_36 rfl (by decide) ?_
        refine g_goto (tgt := 41) dX6_hasLikeSides_37 (by decide) ?_
        exact g_zret dX6_hasLikeSides_41 rfl (Or.inr rfl) ⟨rfl, rfl⟩ (by simp only [rX6_hasLikeSides, if_neg c1, if_pos c2, if_pos c3, bI_t, bI_f])
  · refine g_aload_n (pc' := 10) dX6_hasLikeSides_9 rfl 0 rfl rfl ?_
    refine g_getL (pc' := 13) dX6_hasLikeSides_10 rfl (PLk.lf fX6_18) hk rfl ?_
    refine g_lconst (pc' := 14) (v := 0) dX6_hasLikeSides_13 rfl (by decide) ?_
    refine g_lif_gt (pc' := 18) (tgt := 36) dX6_hasLikeSides_14 dX6_hasLikeSides_15 rfl (by decide) (fun (c4 : (0 : Int64) < (σ.2 k 2)) => ?_) (fun (c4 : ¬ (0 : Int64) < (σ.2 k 2)) => ?_)
    · refine g_iconst (pc' := 37) (v := 1) dX6_hasLikeSides_36 rfl (by decide) ?_
      refine g_goto (tgt := 41) dX6_hasLikeSides_37 (by decide) ?_
      exact g_zret dX6_hasLikeSides_41 rfl (Or.inr rfl) ⟨rfl, rfl⟩ (by simp only [rX6_hasLikeSides, if_pos c1, if_pos c4, bI_t, bI_f])
    · refine g_aload_n (pc' := 19) dX6_hasLikeSides_18 rfl 0 rfl rfl ?_
      refine g_getL (pc' := 22) dX6_hasLikeSides_19 rfl (PLk.lf fX6_15) hk rfl ?_
      refine g_lconst (pc' := 23) (v := 0) dX6_hasLikeSides_22 rfl (by decide) ?_
      refine g_lif_ge (pc' := 27) (tgt := 40) dX6_hasLikeSides_23 dX6_hasLikeSides_24 rfl (by decide) (fun (c5 : ¬ (σ.2 k 1 : Int64) < 0) => ?_) (fun (c5 : (σ.2 k 1 : Int64) < 0) => ?_)
      · refine g_iconst (pc' := 41) (v := 0) dX6_hasLikeSides_40 rfl (by decide) ?_
        exact g_zret dX6_hasLikeSides_41 rfl (Or.inl rfl) ⟨rfl, rfl⟩ (by simp only [rX6_hasLikeSides, if_pos c1, if_neg c4, if_neg c5, bI_t, bI_f])
      · refine g_aload_n (pc' := 28) dX6_hasLikeSides_27 rfl 0 rfl rfl ?_
        refine g_getL (pc' := 31) dX6_hasLikeSides_28 rfl (PLk.lf fX6_18) hk rfl ?_
        refine g_lconst (pc' := 32) (v := 0) dX6_hasLikeSides_31 rfl (by decide) ?_
        refine g_lif_ge (pc' := 36) (tgt := 40) dX6_hasLikeSides_32 dX6_hasLikeSides_33 rfl (by decide) (fun (c6 : ¬ (σ.2 k 2 : Int64) < 0) => ?_) (fun (c6 : (σ.2 k 2 : Int64) < 0) => ?_)
        · refine g_iconst (pc' := 41) (v := 0) dX6_hasLikeSides_40 rfl (by decide) ?_
          exact g_zret dX6_hasLikeSides_41 rfl (Or.inl rfl) ⟨rfl, rfl⟩ (by simp only [rX6_hasLikeSides, if_pos c1, if_neg c4, if_pos c5, if_neg c6, bI_t, bI_f])
        · refine g_iconst (pc' := 37) (v := 1) dX6_hasLikeSides_36 rfl (by decide) ?_
          refine g_goto (tgt := 41) dX6_hasLikeSides_37 (by decide) ?_
          exact g_zret dX6_hasLikeSides_41 rfl (Or.inr rfl) ⟨rfl, rfl⟩ (by simp only [rX6_hasLikeSides, if_pos c1, if_neg c4, if_pos c5, if_pos c6, bI_t, bI_f])
def rX6_isNumber  (x1 : Int64) (σ : Sg) : Bool := if (x1 : Int64) < (-1000000) then false else if (1000000 : Int64) < x1 then false else true
set_option maxRecDepth 100000 in
set_option maxHeartbeats 4000000 in
theorem ev_X6_isNumber {l : Launch} {b : Nat} {cy : Nat → ClassId} {D : va_G} {d : Nat}  {x1 : Int64} {σ : Sg}  : Es l b cy D (d + 0) yX6_isNumber cX6_isNumber (Option.some Jvm.ClassFile.FieldType.boolean) 2 [.long (x1)] σ (some (.int (bI (rX6_isNumber x1 σ)))) σ := by
  refine Ev.of (by decide) (Nat.le_of_ble_eq_true rfl) rfl ?_
  refine g_lload_n (pc' := 1) dX6_isNumber_0 rfl 0 rfl rfl ?_
  refine g_ldc2 (pc' := 4) dX6_isNumber_1 rfl kX6_59 ?_
  refine g_lif_lt (pc' := 8) (tgt := 20) dX6_isNumber_4 dX6_isNumber_5 rfl (by decide) (fun (c1 : (x1 : Int64) < (-1000000)) => ?_) (fun (c1 : ¬ (x1 : Int64) < (-1000000)) => ?_)
  · refine g_iconst (pc' := 21) (v := 0) dX6_isNumber_20 rfl (by decide) ?_
    exact g_zret dX6_isNumber_21 rfl (Or.inl rfl) ⟨rfl, rfl⟩ (by simp only [rX6_isNumber, if_pos c1, bI_t, bI_f])
  · refine g_lload_n (pc' := 9) dX6_isNumber_8 rfl 0 rfl rfl ?_
    refine g_ldc2 (pc' := 12) dX6_isNumber_9 rfl kX6_61 ?_
    refine g_lif_gt (pc' := 16) (tgt := 20) dX6_isNumber_12 dX6_isNumber_13 rfl (by decide) (fun (c2 : (1000000 : Int64) < x1) => ?_) (fun (c2 : ¬ (1000000 : Int64) < x1) => ?_)
    · refine g_iconst (pc' := 21) (v := 0) dX6_isNumber_20 rfl (by decide) ?_
      exact g_zret dX6_isNumber_21 rfl (Or.inl rfl) ⟨rfl, rfl⟩ (by simp only [rX6_isNumber, if_neg c1, if_pos c2, bI_t, bI_f])
    · refine g_iconst (pc' := 17) (v := 1) dX6_isNumber_16 rfl (by decide) ?_
      refine g_goto (tgt := 21) dX6_isNumber_17 (by decide) ?_
      exact g_zret dX6_isNumber_21 rfl (Or.inr rfl) ⟨rfl, rfl⟩ (by simp only [rX6_isNumber, if_neg c1, if_neg c2, bI_t, bI_f])
def rX6_isWithinBounds (k : Nat)  (σ : Sg) : Bool := if (rX6_isNumber (σ.2 k 0) σ) = true then if (rX6_isNumber (σ.2 k 1) σ) = true then if (rX6_isNumber (σ.2 k 2) σ) = true then if (rX6_isNumber (σ.2 k 3) σ) = true then true else false else false else false else false
set_option maxRecDepth 100000 in
set_option maxHeartbeats 4000000 in
theorem ev_X6_isWithinBounds {l : Launch} {b : Nat} {cy : Nat → ClassId} {D : va_G} {d : Nat} {k : Nat}  {σ : Sg} (hk : Sq k) : Es l b cy D (d + 1) yX6_isWithinBounds cX6_isWithinBounds (Option.some Jvm.ClassFile.FieldType.boolean) 1 [.ref (b + k)] σ (some (.int (bI (rX6_isWithinBounds k σ)))) σ := by
  refine Ev.of (by decide) (Nat.le_of_ble_eq_true rfl) rfl ?_
  refine g_aload_n (pc' := 1) dX6_isWithinBounds_0 rfl 0 rfl rfl ?_
  refine g_getL (pc' := 4) dX6_isWithinBounds_1 rfl (PLk.lf fX6_9) hk rfl ?_
  refine g_callsr (pc' := 7) dX6_isWithinBounds_4 rfl mX6_55 (ev_X6_isNumber (x1 := σ.2 k 0) (σ := σ) (d := d)) (rm_ok (by omega) (by decide)) ⟨rfl, rfl⟩ ⟨Nat.zero_le _, Nat.zero_le _⟩ rfl rfl (Nat.le_of_ble_eq_true rfl) ?_
  refine g_ifb_eq (pc' := 10) (tgt := 44) dX6_isWithinBounds_7 rfl (by decide) (fun (c1 : (rX6_isNumber (σ.2 k 0) σ) = false) => ?_) (fun (c1 : (rX6_isNumber (σ.2 k 0) σ) = true) => ?_)
  · refine g_iconst (pc' := 45) (v := 0) dX6_isWithinBounds_44 rfl (by decide) ?_
    exact g_zret dX6_isWithinBounds_45 rfl (Or.inl rfl) ⟨rfl, rfl⟩ (by simp only [rX6_isWithinBounds, if_neg (bf c1), bI_t, bI_f])
  · refine g_aload_n (pc' := 11) dX6_isWithinBounds_10 rfl 0 rfl rfl ?_
    refine g_getL (pc' := 14) dX6_isWithinBounds_11 rfl (PLk.lf fX6_15) hk rfl ?_
    refine g_callsr (pc' := 17) dX6_isWithinBounds_14 rfl mX6_55 (ev_X6_isNumber (x1 := σ.2 k 1) (σ := σ) (d := d)) (rm_ok (by omega) (by decide)) ⟨rfl, rfl⟩ ⟨Nat.zero_le _, Nat.zero_le _⟩ rfl rfl (Nat.le_of_ble_eq_true rfl) ?_
    refine g_ifb_eq (pc' := 20) (tgt := 44) dX6_isWithinBounds_17 rfl (by decide) (fun (c2 : (rX6_isNumber (σ.2 k 1) σ) = false) => ?_) (fun (c2 : (rX6_isNumber (σ.2 k 1) σ) = true) => ?_)
    · refine g_iconst (pc' := 45) (v := 0) dX6_isWithinBounds_44 rfl (by decide) ?_
      exact g_zret dX6_isWithinBounds_45 rfl (Or.inl rfl) ⟨rfl, rfl⟩ (by simp only [rX6_isWithinBounds, if_pos c1, if_neg (bf c2), bI_t, bI_f])
    · refine g_aload_n (pc' := 21) dX6_isWithinBounds_20 rfl 0 rfl rfl ?_
      refine g_getL (pc' := 24) dX6_isWithinBounds_21 rfl (PLk.lf fX6_18) hk rfl ?_
      refine g_callsr (pc' := 27) dX6_isWithinBounds_24 rfl mX6_55 (ev_X6_isNumber (x1 := σ.2 k 2) (σ := σ) (d := d)) (rm_ok (by omega) (by decide)) ⟨rfl, rfl⟩ ⟨Nat.zero_le _, Nat.zero_le _⟩ rfl rfl (Nat.le_of_ble_eq_true rfl) ?_
      refine g_ifb_eq (pc' := 30) (tgt := 44) dX6_isWithinBounds_27 rfl (by decide) (fun (c3 : (rX6_isNumber (σ.2 k 2) σ) = false) => ?_) (fun (c3 : (rX6_isNumber (σ.2 k 2) σ) = true) => ?_)
      · refine g_iconst (pc' := 45) (v := 0) dX6_isWithinBounds_44 rfl (by decide) ?_
        exact g_zret dX6_isWithinBounds_45 rfl (Or.inl rfl) ⟨rfl, rfl⟩ (by simp only [rX6_isWithinBounds, if_pos c1, if_pos c2, if_neg (bf c3), bI_t, bI_f])
      · refine g_aload_n (pc' := 31) dX6_isWithinBounds_30 rfl 0 rfl rfl ?_
        refine g_getL (pc' := 34) dX6_isWithinBounds_31 rfl (PLk.lf fX6_21) hk rfl ?_
        refine g_callsr (pc' := 37) dX6_isWithinBounds_34 rfl mX6_55 (ev_X6_isNumber (x1 := σ.2 k 3) (σ := σ) (d := d)) (rm_ok (by omega) (by decide)) ⟨rfl, rfl⟩ ⟨Nat.zero_le _, Nat.zero_le _⟩ rfl rfl (Nat.le_of_ble_eq_true rfl) ?_
        refine g_ifb_eq (pc' := 40) (tgt := 44) dX6_isWithinBounds_37 rfl (by decide) (fun (c4 : (rX6_isNumber (σ.2 k 3) σ) = false) => ?_) (fun (c4 : (rX6_isNumber (σ.2 k 3) σ) = true) => ?_)
        · refine g_iconst (pc' := 45) (v := 0) dX6_isWithinBounds_44 rfl (by decide) ?_
          exact g_zret dX6_isWithinBounds_45 rfl (Or.inl rfl) ⟨rfl, rfl⟩ (by simp only [rX6_isWithinBounds, if_pos c1, if_pos c2, if_pos c3, if_neg (bf c4), bI_t, bI_f])
        · refine g_iconst (pc' := 41) (v := 1) dX6_isWithinBounds_40 rfl (by decide) ?_
          refine g_goto (tgt := 45) dX6_isWithinBounds_41 (by decide) ?_
          exact g_zret dX6_isWithinBounds_45 rfl (Or.inr rfl) ⟨rfl, rfl⟩ (by simp only [rX6_isWithinBounds, if_pos c1, if_pos c2, if_pos c3, if_pos c4, bI_t, bI_f])
def sX6_copyFrom (k : Nat) (i : Nat)  (σ : Sg) : Sg := (σ.1, u2 (u2 (u2 (u2 σ.2 k 0 (σ.2 i 0)) k 1 ((u2 σ.2 k 0 (σ.2 i 0)) i 1)) k 2 ((u2 (u2 σ.2 k 0 (σ.2 i 0)) k 1 ((u2 σ.2 k 0 (σ.2 i 0)) i 1)) i 2)) k 3 ((u2 (u2 (u2 σ.2 k 0 (σ.2 i 0)) k 1 ((u2 σ.2 k 0 (σ.2 i 0)) i 1)) k 2 ((u2 (u2 σ.2 k 0 (σ.2 i 0)) k 1 ((u2 σ.2 k 0 (σ.2 i 0)) i 1)) i 2)) i 3))
set_option maxRecDepth 100000 in
set_option maxHeartbeats 4000000 in
theorem ev_X6_copyFrom {l : Launch} {b : Nat} {cy : Nat → ClassId} {D : va_G} {d : Nat} {k : Nat} {i : Nat}  {σ : Sg} (hk : Sq k) (hi : Sq i) : Es l b cy D (d + 0) yX6_copyFrom cX6_copyFrom (Option.none : Option Jvm.ClassFile.FieldType) 2 [.ref (b + k), .ref (b + i)] σ none (sX6_copyFrom k i σ) := by
  refine Ev.of (by decide) (Nat.le_of_ble_eq_true rfl) rfl ?_
  refine g_aload_n (pc' := 1) dX6_copyFrom_0 rfl 0 rfl rfl ?_
  refine g_aload_n (pc' := 2) dX6_copyFrom_1 rfl 1 rfl rfl ?_
  refine g_getL (pc' := 5) dX6_copyFrom_2 rfl (PLk.lf fX6_9) hi rfl ?_
  refine g_putL (pc' := 8) dX6_copyFrom_5 rfl fX6_9 hk rfl ?_
  refine g_aload_n (pc' := 9) dX6_copyFrom_8 rfl 0 rfl rfl ?_
  refine g_aload_n (pc' := 10) dX6_copyFrom_9 rfl 1 rfl rfl ?_
  refine g_getL (pc' := 13) dX6_copyFrom_10 rfl (PLk.lf fX6_15) hi rfl ?_
  refine g_putL (pc' := 16) dX6_copyFrom_13 rfl fX6_15 hk rfl ?_
  refine g_aload_n (pc' := 17) dX6_copyFrom_16 rfl 0 rfl rfl ?_
  refine g_aload_n (pc' := 18) dX6_copyFrom_17 rfl 1 rfl rfl ?_
  refine g_getL (pc' := 21) dX6_copyFrom_18 rfl (PLk.lf fX6_18) hi rfl ?_
  refine g_putL (pc' := 24) dX6_copyFrom_21 rfl fX6_18 hk rfl ?_
  refine g_aload_n (pc' := 25) dX6_copyFrom_24 rfl 0 rfl rfl ?_
  refine g_aload_n (pc' := 26) dX6_copyFrom_25 rfl 1 rfl rfl ?_
  refine g_getL (pc' := 29) dX6_copyFrom_26 rfl (PLk.lf fX6_21) hi rfl ?_
  refine g_putL (pc' := 32) dX6_copyFrom_29 rfl fX6_21 hk rfl ?_
  exact g_vret dX6_copyFrom_32 rfl ⟨rfl, rfl⟩ rfl
def rX6_isSameAs (k : Nat) (i : Nat)  (σ : Sg) : Bool := if (σ.2 k 0 : Int64) = (σ.2 i 0) then if (σ.2 k 1 : Int64) = (σ.2 i 1) then if (σ.2 k 2 : Int64) = (σ.2 i 2) then if (σ.2 k 3 : Int64) = (σ.2 i 3) then true else false else false else false else false
set_option maxRecDepth 100000 in
set_option maxHeartbeats 4000000 in
theorem ev_X6_isSameAs {l : Launch} {b : Nat} {cy : Nat → ClassId} {D : va_G} {d : Nat} {k : Nat} {i : Nat}  {σ : Sg} (hk : Sq k) (hi : Sq i) : Es l b cy D (d + 0) yX6_isSameAs cX6_isSameAs (Option.some Jvm.ClassFile.FieldType.boolean) 2 [.ref (b + k), .ref (b + i)] σ (some (.int (bI (rX6_isSameAs k i σ)))) σ := by
  refine Ev.of (by decide) (Nat.le_of_ble_eq_true rfl) rfl ?_
  refine g_aload_n (pc' := 1) dX6_isSameAs_0 rfl 0 rfl rfl ?_
  refine g_getL (pc' := 4) dX6_isSameAs_1 rfl (PLk.lf fX6_9) hk rfl ?_
  refine g_aload_n (pc' := 5) dX6_isSameAs_4 rfl 1 rfl rfl ?_
  refine g_getL (pc' := 8) dX6_isSameAs_5 rfl (PLk.lf fX6_9) hi rfl ?_
  refine g_lif_ne (pc' := 12) (tgt := 52) dX6_isSameAs_8 dX6_isSameAs_9 rfl (by decide) (fun (c1 : ¬ (σ.2 k 0 : Int64) = (σ.2 i 0)) => ?_) (fun (c1 : (σ.2 k 0 : Int64) = (σ.2 i 0)) => ?_)
  · refine g_iconst (pc' := 53) (v := 0) dX6_isSameAs_52 rfl (by decide) ?_
    exact g_zret dX6_isSameAs_53 rfl (Or.inl rfl) ⟨rfl, rfl⟩ (by simp only [rX6_isSameAs, if_neg c1, bI_t, bI_f])
  · refine g_aload_n (pc' := 13) dX6_isSameAs_12 rfl 0 rfl rfl ?_
    refine g_getL (pc' := 16) dX6_isSameAs_13 rfl (PLk.lf fX6_15) hk rfl ?_
    refine g_aload_n (pc' := 17) dX6_isSameAs_16 rfl 1 rfl rfl ?_
    refine g_getL (pc' := 20) dX6_isSameAs_17 rfl (PLk.lf fX6_15) hi rfl ?_
    refine g_lif_ne (pc' := 24) (tgt := 52) dX6_isSameAs_20 dX6_isSameAs_21 rfl (by decide) (fun (c2 : ¬ (σ.2 k 1 : Int64) = (σ.2 i 1)) => ?_) (fun (c2 : (σ.2 k 1 : Int64) = (σ.2 i 1)) => ?_)
    · refine g_iconst (pc' := 53) (v := 0) dX6_isSameAs_52 rfl (by decide) ?_
      exact g_zret dX6_isSameAs_53 rfl (Or.inl rfl) ⟨rfl, rfl⟩ (by simp only [rX6_isSameAs, if_pos c1, if_neg c2, bI_t, bI_f])
    · refine g_aload_n (pc' := 25) dX6_isSameAs_24 rfl 0 rfl rfl ?_
      refine g_getL (pc' := 28) dX6_isSameAs_25 rfl (PLk.lf fX6_18) hk rfl ?_
      refine g_aload_n (pc' := 29) dX6_isSameAs_28 rfl 1 rfl rfl ?_
      refine g_getL (pc' := 32) dX6_isSameAs_29 rfl (PLk.lf fX6_18) hi rfl ?_
      refine g_lif_ne (pc' := 36) (tgt := 52) dX6_isSameAs_32 dX6_isSameAs_33 rfl (by decide) (fun (c3 : ¬ (σ.2 k 2 : Int64) = (σ.2 i 2)) => ?_) (fun (c3 : (σ.2 k 2 : Int64) = (σ.2 i 2)) => ?_)
      · refine g_iconst (pc' := 53) (v := 0) dX6_isSameAs_52 rfl (by decide) ?_
        exact g_zret dX6_isSameAs_53 rfl (Or.inl rfl) ⟨rfl, rfl⟩ (by simp only [rX6_isSameAs, if_pos c1, if_pos c2, if_neg c3, bI_t, bI_f])
      · refine g_aload_n (pc' := 37) dX6_isSameAs_36 rfl 0 rfl rfl ?_
        refine g_getL (pc' := 40) dX6_isSameAs_37 rfl (PLk.lf fX6_21) hk rfl ?_
        refine g_aload_n (pc' := 41) dX6_isSameAs_40 rfl 1 rfl rfl ?_
        refine g_getL (pc' := 44) dX6_isSameAs_41 rfl (PLk.lf fX6_21) hi rfl ?_
        refine g_lif_ne (pc' := 48) (tgt := 52) dX6_isSameAs_44 dX6_isSameAs_45 rfl (by decide) (fun (c4 : ¬ (σ.2 k 3 : Int64) = (σ.2 i 3)) => ?_) (fun (c4 : (σ.2 k 3 : Int64) = (σ.2 i 3)) => ?_)
        · refine g_iconst (pc' := 53) (v := 0) dX6_isSameAs_52 rfl (by decide) ?_
          exact g_zret dX6_isSameAs_53 rfl (Or.inl rfl) ⟨rfl, rfl⟩ (by simp only [rX6_isSameAs, if_pos c1, if_pos c2, if_pos c3, if_neg c4, bI_t, bI_f])
        · refine g_iconst (pc' := 49) (v := 1) dX6_isSameAs_48 rfl (by decide) ?_
          refine g_goto (tgt := 53) dX6_isSameAs_49 (by decide) ?_
          exact g_zret dX6_isSameAs_53 rfl (Or.inr rfl) ⟨rfl, rfl⟩ (by simp only [rX6_isSameAs, if_pos c1, if_pos c2, if_pos c3, if_pos c4, bI_t, bI_f])
def sX6_setProduct (k : Nat) (i : Nat) (j : Nat)  (σ : Sg) : Sg := sX6_set k (((σ.2 i 0) * (σ.2 j 0)) + ((σ.2 i 1) * (σ.2 j 2))) (((σ.2 i 0) * (σ.2 j 1)) + ((σ.2 i 1) * (σ.2 j 3))) (((σ.2 i 2) * (σ.2 j 0)) + ((σ.2 i 3) * (σ.2 j 2))) (((σ.2 i 2) * (σ.2 j 1)) + ((σ.2 i 3) * (σ.2 j 3))) σ
set_option maxRecDepth 100000 in
set_option maxHeartbeats 4000000 in
theorem ev_X6_setProduct {l : Launch} {b : Nat} {cy : Nat → ClassId} {D : va_G} {d : Nat} {k : Nat} {i : Nat} {j : Nat}  {σ : Sg} (hk : Sq k) (hi : Sq i) (hj : Sq j) : Es l b cy D (d + 1) yX6_setProduct cX6_setProduct (Option.none : Option Jvm.ClassFile.FieldType) 3 [.ref (b + k), .ref (b + i), .ref (b + j)] σ none (sX6_setProduct k i j σ) := by
  refine Ev.of (by decide) (Nat.le_of_ble_eq_true rfl) rfl ?_
  refine g_aload_n (pc' := 1) dX6_setProduct_0 rfl 0 rfl rfl ?_
  refine g_aload_n (pc' := 2) dX6_setProduct_1 rfl 1 rfl rfl ?_
  refine g_getL (pc' := 5) dX6_setProduct_2 rfl (PLk.lf fX6_9) hi rfl ?_
  refine g_aload_n (pc' := 6) dX6_setProduct_5 rfl 2 rfl rfl ?_
  refine g_getL (pc' := 9) dX6_setProduct_6 rfl (PLk.lf fX6_9) hj rfl ?_
  refine g_lmul (pc' := 10) dX6_setProduct_9 rfl ?_
  refine g_aload_n (pc' := 11) dX6_setProduct_10 rfl 1 rfl rfl ?_
  refine g_getL (pc' := 14) dX6_setProduct_11 rfl (PLk.lf fX6_15) hi rfl ?_
  refine g_aload_n (pc' := 15) dX6_setProduct_14 rfl 2 rfl rfl ?_
  refine g_getL (pc' := 18) dX6_setProduct_15 rfl (PLk.lf fX6_18) hj rfl ?_
  refine g_lmul (pc' := 19) dX6_setProduct_18 rfl ?_
  refine g_ladd (pc' := 20) dX6_setProduct_19 rfl ?_
  refine g_aload_n (pc' := 21) dX6_setProduct_20 rfl 1 rfl rfl ?_
  refine g_getL (pc' := 24) dX6_setProduct_21 rfl (PLk.lf fX6_9) hi rfl ?_
  refine g_aload_n (pc' := 25) dX6_setProduct_24 rfl 2 rfl rfl ?_
  refine g_getL (pc' := 28) dX6_setProduct_25 rfl (PLk.lf fX6_15) hj rfl ?_
  refine g_lmul (pc' := 29) dX6_setProduct_28 rfl ?_
  refine g_aload_n (pc' := 30) dX6_setProduct_29 rfl 1 rfl rfl ?_
  refine g_getL (pc' := 33) dX6_setProduct_30 rfl (PLk.lf fX6_15) hi rfl ?_
  refine g_aload_n (pc' := 34) dX6_setProduct_33 rfl 2 rfl rfl ?_
  refine g_getL (pc' := 37) dX6_setProduct_34 rfl (PLk.lf fX6_21) hj rfl ?_
  refine g_lmul (pc' := 38) dX6_setProduct_37 rfl ?_
  refine g_ladd (pc' := 39) dX6_setProduct_38 rfl ?_
  refine g_aload_n (pc' := 40) dX6_setProduct_39 rfl 1 rfl rfl ?_
  refine g_getL (pc' := 43) dX6_setProduct_40 rfl (PLk.lf fX6_18) hi rfl ?_
  refine g_aload_n (pc' := 44) dX6_setProduct_43 rfl 2 rfl rfl ?_
  refine g_getL (pc' := 47) dX6_setProduct_44 rfl (PLk.lf fX6_9) hj rfl ?_
  refine g_lmul (pc' := 48) dX6_setProduct_47 rfl ?_
  refine g_aload_n (pc' := 49) dX6_setProduct_48 rfl 1 rfl rfl ?_
  refine g_getL (pc' := 52) dX6_setProduct_49 rfl (PLk.lf fX6_21) hi rfl ?_
  refine g_aload_n (pc' := 53) dX6_setProduct_52 rfl 2 rfl rfl ?_
  refine g_getL (pc' := 56) dX6_setProduct_53 rfl (PLk.lf fX6_18) hj rfl ?_
  refine g_lmul (pc' := 57) dX6_setProduct_56 rfl ?_
  refine g_ladd (pc' := 58) dX6_setProduct_57 rfl ?_
  refine g_aload_n (pc' := 59) dX6_setProduct_58 rfl 1 rfl rfl ?_
  refine g_getL (pc' := 62) dX6_setProduct_59 rfl (PLk.lf fX6_18) hi rfl ?_
  refine g_aload_n (pc' := 63) dX6_setProduct_62 rfl 2 rfl rfl ?_
  refine g_getL (pc' := 66) dX6_setProduct_63 rfl (PLk.lf fX6_15) hj rfl ?_
  refine g_lmul (pc' := 67) dX6_setProduct_66 rfl ?_
  refine g_aload_n (pc' := 68) dX6_setProduct_67 rfl 1 rfl rfl ?_
  refine g_getL (pc' := 71) dX6_setProduct_68 rfl (PLk.lf fX6_21) hi rfl ?_
  refine g_aload_n (pc' := 72) dX6_setProduct_71 rfl 2 rfl rfl ?_
  refine g_getL (pc' := 75) dX6_setProduct_72 rfl (PLk.lf fX6_21) hj rfl ?_
  refine g_lmul (pc' := 76) dX6_setProduct_75 rfl ?_
  refine g_ladd (pc' := 77) dX6_setProduct_76 rfl ?_
  refine g_callv (pc' := 80) dX6_setProduct_77 rfl mX6_24 (ev_X6_set (k := k) (x1 := ((σ.2 i 0) * (σ.2 j 0)) + ((σ.2 i 1) * (σ.2 j 2))) (x2 := ((σ.2 i 0) * (σ.2 j 1)) + ((σ.2 i 1) * (σ.2 j 3))) (x3 := ((σ.2 i 2) * (σ.2 j 0)) + ((σ.2 i 3) * (σ.2 j 2))) (x4 := ((σ.2 i 2) * (σ.2 j 1)) + ((σ.2 i 3) * (σ.2 j 3))) hk (σ := σ) (d := d)) hk rfl (rm_ok (by omega) (by decide)) ⟨rfl, rfl⟩ ⟨Nat.zero_le _, Nat.zero_le _⟩ rfl rfl (Nat.le_of_ble_eq_true rfl) ?_
  exact g_vret dX6_setProduct_80 rfl ⟨rfl, rfl⟩ rfl
def rX6_multiplyByLetter (k : Nat) (x1 : Int32) (σ : Sg) : Bool := if (x1 : Int32) = 76 then true else if (x1 : Int32) = 82 then true else if (x1 : Int32) = 83 then true else if (x1 : Int32) = 108 then true else if (x1 : Int32) = 114 then true else if (x1 : Int32) = 115 then true else false
def sX6_multiplyByLetter (k : Nat) (x1 : Int32) (σ : Sg) : Sg := if (x1 : Int32) = 76 then sX6_set k ((σ.2 k 0) + (σ.2 k 1)) (σ.2 k 1) ((σ.2 k 2) + (σ.2 k 3)) (σ.2 k 3) σ else if (x1 : Int32) = 82 then sX6_set k (σ.2 k 0) ((σ.2 k 0) + (σ.2 k 1)) (σ.2 k 2) ((σ.2 k 2) + (σ.2 k 3)) σ else if (x1 : Int32) = 83 then sX6_set k (σ.2 k 1) (-(σ.2 k 0)) (σ.2 k 3) (-(σ.2 k 2)) σ else if (x1 : Int32) = 108 then sX6_set k ((σ.2 k 0) - (σ.2 k 1)) (σ.2 k 1) ((σ.2 k 2) - (σ.2 k 3)) (σ.2 k 3) σ else if (x1 : Int32) = 114 then sX6_set k (σ.2 k 0) ((σ.2 k 1) - (σ.2 k 0)) (σ.2 k 2) ((σ.2 k 3) - (σ.2 k 2)) σ else if (x1 : Int32) = 115 then sX6_set k (-(σ.2 k 1)) (σ.2 k 0) (-(σ.2 k 3)) (σ.2 k 2) σ else σ
set_option maxRecDepth 100000 in
set_option maxHeartbeats 4000000 in
theorem ev_X6_multiplyByLetter {l : Launch} {b : Nat} {cy : Nat → ClassId} {D : va_G} {d : Nat} {k : Nat} {x1 : Int32} {σ : Sg} (hk : Sq k) : Es l b cy D (d + 1) yX6_multiplyByLetter cX6_multiplyByLetter (Option.some Jvm.ClassFile.FieldType.boolean) 2 [.ref (b + k), .int (x1)] σ (some (.int (bI (rX6_multiplyByLetter k x1 σ)))) (sX6_multiplyByLetter k x1 σ) := by
  refine Ev.of (by decide) (Nat.le_of_ble_eq_true rfl) rfl ?_
  refine g_iload_n (pc' := 1) dX6_multiplyByLetter_0 rfl 1 rfl rfl ?_
  by_cases c1 : (x1 : Int32) = 76
  · refine g_look (tgt := 92) (off := 91) dX6_multiplyByLetter_1 (by decide) (by rw [c1]; decide) (by decide) ?_
    refine g_aload_n (pc' := 93) dX6_multiplyByLetter_92 rfl 0 rfl rfl ?_
    refine g_aload_n (pc' := 94) dX6_multiplyByLetter_93 rfl 0 rfl rfl ?_
    refine g_getL (pc' := 97) dX6_multiplyByLetter_94 rfl (PLk.lf fX6_9) hk rfl ?_
    refine g_aload_n (pc' := 98) dX6_multiplyByLetter_97 rfl 0 rfl rfl ?_
    refine g_getL (pc' := 101) dX6_multiplyByLetter_98 rfl (PLk.lf fX6_15) hk rfl ?_
    refine g_ladd (pc' := 102) dX6_multiplyByLetter_101 rfl ?_
    refine g_aload_n (pc' := 103) dX6_multiplyByLetter_102 rfl 0 rfl rfl ?_
    refine g_getL (pc' := 106) dX6_multiplyByLetter_103 rfl (PLk.lf fX6_15) hk rfl ?_
    refine g_aload_n (pc' := 107) dX6_multiplyByLetter_106 rfl 0 rfl rfl ?_
    refine g_getL (pc' := 110) dX6_multiplyByLetter_107 rfl (PLk.lf fX6_18) hk rfl ?_
    refine g_aload_n (pc' := 111) dX6_multiplyByLetter_110 rfl 0 rfl rfl ?_
    refine g_getL (pc' := 114) dX6_multiplyByLetter_111 rfl (PLk.lf fX6_21) hk rfl ?_
    refine g_ladd (pc' := 115) dX6_multiplyByLetter_114 rfl ?_
    refine g_aload_n (pc' := 116) dX6_multiplyByLetter_115 rfl 0 rfl rfl ?_
    refine g_getL (pc' := 119) dX6_multiplyByLetter_116 rfl (PLk.lf fX6_21) hk rfl ?_
    refine g_callv (pc' := 122) dX6_multiplyByLetter_119 rfl mX6_24 (ev_X6_set (k := k) (x1 := (σ.2 k 0) + (σ.2 k 1)) (x2 := σ.2 k 1) (x3 := (σ.2 k 2) + (σ.2 k 3)) (x4 := σ.2 k 3) hk (σ := σ) (d := d)) hk rfl (rm_ok (by omega) (by decide)) ⟨rfl, rfl⟩ ⟨Nat.zero_le _, Nat.zero_le _⟩ rfl rfl (Nat.le_of_ble_eq_true rfl) ?_
    refine g_iconst (pc' := 123) (v := 1) dX6_multiplyByLetter_122 rfl (by decide) ?_
    exact g_zret dX6_multiplyByLetter_123 rfl (Or.inr rfl) ⟨rfl, rfl⟩ (by simp only [rX6_multiplyByLetter, sX6_multiplyByLetter, if_pos c1, bI_t, bI_f])
  by_cases c2 : (x1 : Int32) = 82
  · refine g_look (tgt := 60) (off := 59) dX6_multiplyByLetter_1 (by decide) (by rw [c2]; decide) (by decide) ?_
    refine g_aload_n (pc' := 61) dX6_multiplyByLetter_60 rfl 0 rfl rfl ?_
    refine g_aload_n (pc' := 62) dX6_multiplyByLetter_61 rfl 0 rfl rfl ?_
    refine g_getL (pc' := 65) dX6_multiplyByLetter_62 rfl (PLk.lf fX6_9) hk rfl ?_
    refine g_aload_n (pc' := 66) dX6_multiplyByLetter_65 rfl 0 rfl rfl ?_
    refine g_getL (pc' := 69) dX6_multiplyByLetter_66 rfl (PLk.lf fX6_9) hk rfl ?_
    refine g_aload_n (pc' := 70) dX6_multiplyByLetter_69 rfl 0 rfl rfl ?_
    refine g_getL (pc' := 73) dX6_multiplyByLetter_70 rfl (PLk.lf fX6_15) hk rfl ?_
    refine g_ladd (pc' := 74) dX6_multiplyByLetter_73 rfl ?_
    refine g_aload_n (pc' := 75) dX6_multiplyByLetter_74 rfl 0 rfl rfl ?_
    refine g_getL (pc' := 78) dX6_multiplyByLetter_75 rfl (PLk.lf fX6_18) hk rfl ?_
    refine g_aload_n (pc' := 79) dX6_multiplyByLetter_78 rfl 0 rfl rfl ?_
    refine g_getL (pc' := 82) dX6_multiplyByLetter_79 rfl (PLk.lf fX6_18) hk rfl ?_
    refine g_aload_n (pc' := 83) dX6_multiplyByLetter_82 rfl 0 rfl rfl ?_
    refine g_getL (pc' := 86) dX6_multiplyByLetter_83 rfl (PLk.lf fX6_21) hk rfl ?_
    refine g_ladd (pc' := 87) dX6_multiplyByLetter_86 rfl ?_
    refine g_callv (pc' := 90) dX6_multiplyByLetter_87 rfl mX6_24 (ev_X6_set (k := k) (x1 := σ.2 k 0) (x2 := (σ.2 k 0) + (σ.2 k 1)) (x3 := σ.2 k 2) (x4 := (σ.2 k 2) + (σ.2 k 3)) hk (σ := σ) (d := d)) hk rfl (rm_ok (by omega) (by decide)) ⟨rfl, rfl⟩ ⟨Nat.zero_le _, Nat.zero_le _⟩ rfl rfl (Nat.le_of_ble_eq_true rfl) ?_
    refine g_iconst (pc' := 91) (v := 1) dX6_multiplyByLetter_90 rfl (by decide) ?_
    exact g_zret dX6_multiplyByLetter_91 rfl (Or.inr rfl) ⟨rfl, rfl⟩ (by simp only [rX6_multiplyByLetter, sX6_multiplyByLetter, if_neg c1, if_pos c2, bI_t, bI_f])
  by_cases c3 : (x1 : Int32) = 83
  · refine g_look (tgt := 188) (off := 187) dX6_multiplyByLetter_1 (by decide) (by rw [c3]; decide) (by decide) ?_
    refine g_aload_n (pc' := 189) dX6_multiplyByLetter_188 rfl 0 rfl rfl ?_
    refine g_aload_n (pc' := 190) dX6_multiplyByLetter_189 rfl 0 rfl rfl ?_
    refine g_getL (pc' := 193) dX6_multiplyByLetter_190 rfl (PLk.lf fX6_15) hk rfl ?_
    refine g_aload_n (pc' := 194) dX6_multiplyByLetter_193 rfl 0 rfl rfl ?_
    refine g_getL (pc' := 197) dX6_multiplyByLetter_194 rfl (PLk.lf fX6_9) hk rfl ?_
    refine g_lneg (pc' := 198) dX6_multiplyByLetter_197 rfl ?_
    refine g_aload_n (pc' := 199) dX6_multiplyByLetter_198 rfl 0 rfl rfl ?_
    refine g_getL (pc' := 202) dX6_multiplyByLetter_199 rfl (PLk.lf fX6_21) hk rfl ?_
    refine g_aload_n (pc' := 203) dX6_multiplyByLetter_202 rfl 0 rfl rfl ?_
    refine g_getL (pc' := 206) dX6_multiplyByLetter_203 rfl (PLk.lf fX6_18) hk rfl ?_
    refine g_lneg (pc' := 207) dX6_multiplyByLetter_206 rfl ?_
    refine g_callv (pc' := 210) dX6_multiplyByLetter_207 rfl mX6_24 (ev_X6_set (k := k) (x1 := σ.2 k 1) (x2 := -(σ.2 k 0)) (x3 := σ.2 k 3) (x4 := -(σ.2 k 2)) hk (σ := σ) (d := d)) hk rfl (rm_ok (by omega) (by decide)) ⟨rfl, rfl⟩ ⟨Nat.zero_le _, Nat.zero_le _⟩ rfl rfl (Nat.le_of_ble_eq_true rfl) ?_
    refine g_iconst (pc' := 211) (v := 1) dX6_multiplyByLetter_210 rfl (by decide) ?_
    exact g_zret dX6_multiplyByLetter_211 rfl (Or.inr rfl) ⟨rfl, rfl⟩ (by simp only [rX6_multiplyByLetter, sX6_multiplyByLetter, if_neg c1, if_neg c2, if_pos c3, bI_t, bI_f])
  by_cases c4 : (x1 : Int32) = 108
  · refine g_look (tgt := 156) (off := 155) dX6_multiplyByLetter_1 (by decide) (by rw [c4]; decide) (by decide) ?_
    refine g_aload_n (pc' := 157) dX6_multiplyByLetter_156 rfl 0 rfl rfl ?_
    refine g_aload_n (pc' := 158) dX6_multiplyByLetter_157 rfl 0 rfl rfl ?_
    refine g_getL (pc' := 161) dX6_multiplyByLetter_158 rfl (PLk.lf fX6_9) hk rfl ?_
    refine g_aload_n (pc' := 162) dX6_multiplyByLetter_161 rfl 0 rfl rfl ?_
    refine g_getL (pc' := 165) dX6_multiplyByLetter_162 rfl (PLk.lf fX6_15) hk rfl ?_
    refine g_lsub (pc' := 166) dX6_multiplyByLetter_165 rfl ?_
    refine g_aload_n (pc' := 167) dX6_multiplyByLetter_166 rfl 0 rfl rfl ?_
    refine g_getL (pc' := 170) dX6_multiplyByLetter_167 rfl (PLk.lf fX6_15) hk rfl ?_
    refine g_aload_n (pc' := 171) dX6_multiplyByLetter_170 rfl 0 rfl rfl ?_
    refine g_getL (pc' := 174) dX6_multiplyByLetter_171 rfl (PLk.lf fX6_18) hk rfl ?_
    refine g_aload_n (pc' := 175) dX6_multiplyByLetter_174 rfl 0 rfl rfl ?_
    refine g_getL (pc' := 178) dX6_multiplyByLetter_175 rfl (PLk.lf fX6_21) hk rfl ?_
    refine g_lsub (pc' := 179) dX6_multiplyByLetter_178 rfl ?_
    refine g_aload_n (pc' := 180) dX6_multiplyByLetter_179 rfl 0 rfl rfl ?_
    refine g_getL (pc' := 183) dX6_multiplyByLetter_180 rfl (PLk.lf fX6_21) hk rfl ?_
    refine g_callv (pc' := 186) dX6_multiplyByLetter_183 rfl mX6_24 (ev_X6_set (k := k) (x1 := (σ.2 k 0) - (σ.2 k 1)) (x2 := σ.2 k 1) (x3 := (σ.2 k 2) - (σ.2 k 3)) (x4 := σ.2 k 3) hk (σ := σ) (d := d)) hk rfl (rm_ok (by omega) (by decide)) ⟨rfl, rfl⟩ ⟨Nat.zero_le _, Nat.zero_le _⟩ rfl rfl (Nat.le_of_ble_eq_true rfl) ?_
    refine g_iconst (pc' := 187) (v := 1) dX6_multiplyByLetter_186 rfl (by decide) ?_
    exact g_zret dX6_multiplyByLetter_187 rfl (Or.inr rfl) ⟨rfl, rfl⟩ (by simp only [rX6_multiplyByLetter, sX6_multiplyByLetter, if_neg c1, if_neg c2, if_neg c3, if_pos c4, bI_t, bI_f])
  by_cases c5 : (x1 : Int32) = 114
  · refine g_look (tgt := 124) (off := 123) dX6_multiplyByLetter_1 (by decide) (by rw [c5]; decide) (by decide) ?_
    refine g_aload_n (pc' := 125) dX6_multiplyByLetter_124 rfl 0 rfl rfl ?_
    refine g_aload_n (pc' := 126) dX6_multiplyByLetter_125 rfl 0 rfl rfl ?_
    refine g_getL (pc' := 129) dX6_multiplyByLetter_126 rfl (PLk.lf fX6_9) hk rfl ?_
    refine g_aload_n (pc' := 130) dX6_multiplyByLetter_129 rfl 0 rfl rfl ?_
    refine g_getL (pc' := 133) dX6_multiplyByLetter_130 rfl (PLk.lf fX6_15) hk rfl ?_
    refine g_aload_n (pc' := 134) dX6_multiplyByLetter_133 rfl 0 rfl rfl ?_
    refine g_getL (pc' := 137) dX6_multiplyByLetter_134 rfl (PLk.lf fX6_9) hk rfl ?_
    refine g_lsub (pc' := 138) dX6_multiplyByLetter_137 rfl ?_
    refine g_aload_n (pc' := 139) dX6_multiplyByLetter_138 rfl 0 rfl rfl ?_
    refine g_getL (pc' := 142) dX6_multiplyByLetter_139 rfl (PLk.lf fX6_18) hk rfl ?_
    refine g_aload_n (pc' := 143) dX6_multiplyByLetter_142 rfl 0 rfl rfl ?_
    refine g_getL (pc' := 146) dX6_multiplyByLetter_143 rfl (PLk.lf fX6_21) hk rfl ?_
    refine g_aload_n (pc' := 147) dX6_multiplyByLetter_146 rfl 0 rfl rfl ?_
    refine g_getL (pc' := 150) dX6_multiplyByLetter_147 rfl (PLk.lf fX6_18) hk rfl ?_
    refine g_lsub (pc' := 151) dX6_multiplyByLetter_150 rfl ?_
    refine g_callv (pc' := 154) dX6_multiplyByLetter_151 rfl mX6_24 (ev_X6_set (k := k) (x1 := σ.2 k 0) (x2 := (σ.2 k 1) - (σ.2 k 0)) (x3 := σ.2 k 2) (x4 := (σ.2 k 3) - (σ.2 k 2)) hk (σ := σ) (d := d)) hk rfl (rm_ok (by omega) (by decide)) ⟨rfl, rfl⟩ ⟨Nat.zero_le _, Nat.zero_le _⟩ rfl rfl (Nat.le_of_ble_eq_true rfl) ?_
    refine g_iconst (pc' := 155) (v := 1) dX6_multiplyByLetter_154 rfl (by decide) ?_
    exact g_zret dX6_multiplyByLetter_155 rfl (Or.inr rfl) ⟨rfl, rfl⟩ (by simp only [rX6_multiplyByLetter, sX6_multiplyByLetter, if_neg c1, if_neg c2, if_neg c3, if_neg c4, if_pos c5, bI_t, bI_f])
  by_cases c6 : (x1 : Int32) = 115
  · refine g_look (tgt := 212) (off := 211) dX6_multiplyByLetter_1 (by decide) (by rw [c6]; decide) (by decide) ?_
    refine g_aload_n (pc' := 213) dX6_multiplyByLetter_212 rfl 0 rfl rfl ?_
    refine g_aload_n (pc' := 214) dX6_multiplyByLetter_213 rfl 0 rfl rfl ?_
    refine g_getL (pc' := 217) dX6_multiplyByLetter_214 rfl (PLk.lf fX6_15) hk rfl ?_
    refine g_lneg (pc' := 218) dX6_multiplyByLetter_217 rfl ?_
    refine g_aload_n (pc' := 219) dX6_multiplyByLetter_218 rfl 0 rfl rfl ?_
    refine g_getL (pc' := 222) dX6_multiplyByLetter_219 rfl (PLk.lf fX6_9) hk rfl ?_
    refine g_aload_n (pc' := 223) dX6_multiplyByLetter_222 rfl 0 rfl rfl ?_
    refine g_getL (pc' := 226) dX6_multiplyByLetter_223 rfl (PLk.lf fX6_21) hk rfl ?_
    refine g_lneg (pc' := 227) dX6_multiplyByLetter_226 rfl ?_
    refine g_aload_n (pc' := 228) dX6_multiplyByLetter_227 rfl 0 rfl rfl ?_
    refine g_getL (pc' := 231) dX6_multiplyByLetter_228 rfl (PLk.lf fX6_18) hk rfl ?_
    refine g_callv (pc' := 234) dX6_multiplyByLetter_231 rfl mX6_24 (ev_X6_set (k := k) (x1 := -(σ.2 k 1)) (x2 := σ.2 k 0) (x3 := -(σ.2 k 3)) (x4 := σ.2 k 2) hk (σ := σ) (d := d)) hk rfl (rm_ok (by omega) (by decide)) ⟨rfl, rfl⟩ ⟨Nat.zero_le _, Nat.zero_le _⟩ rfl rfl (Nat.le_of_ble_eq_true rfl) ?_
    refine g_iconst (pc' := 235) (v := 1) dX6_multiplyByLetter_234 rfl (by decide) ?_
    exact g_zret dX6_multiplyByLetter_235 rfl (Or.inr rfl) ⟨rfl, rfl⟩ (by simp only [rX6_multiplyByLetter, sX6_multiplyByLetter, if_neg c1, if_neg c2, if_neg c3, if_neg c4, if_neg c5, if_pos c6, bI_t, bI_f])
  refine g_look (tgt := 236) (off := 235) dX6_multiplyByLetter_1 (by decide) (by rw [lv_osw c1 (a := 76) (by decide)]; rw [lv_osw c2 (a := 82) (by decide)]; rw [lv_osw c3 (a := 83) (by decide)]; rw [lv_osw c4 (a := 108) (by decide)]; rw [lv_osw c5 (a := 114) (by decide)]; rw [lv_osw c6 (a := 115) (by decide)]; rfl) (by decide) ?_
  refine g_iconst (pc' := 237) (v := 0) dX6_multiplyByLetter_236 rfl (by decide) ?_
  exact g_zret dX6_multiplyByLetter_237 rfl (Or.inl rfl) ⟨rfl, rfl⟩ (by simp only [rX6_multiplyByLetter, sX6_multiplyByLetter, if_neg c1, if_neg c2, if_neg c3, if_neg c4, if_neg c5, if_neg c6, bI_t, bI_f])
end
