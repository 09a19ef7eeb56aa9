-- ===== PART A: goes FIRST, ahead of the names: the tables' words, and 'selects' of the private methods out of them =====
/-- a private method of a class that the tables say can be made, by its rows of tables_1 -/
def lw_okq (q : MethodName × Nat) : Prop := (q.1.cls ≠ "java/lang/invoke/MethodHandle" ∧ q.1.cls ≠ "java/lang/invoke/VarHandle") ∧ Cond.instantiable q.1.cls q.2 ∈ tables_1 ∧ Cond.privateMethod q.1 ∈ tables_1 ∧ Cond.instanceMethod q.1 ∈ tables_1
theorem lw_p0 : lw_okq (⟨"MatrixKin", "place", "(LMatrixKin$Square;)I"⟩, 10) := ⟨⟨by decide +kernel, by decide +kernel⟩, List.mem_of_getElem? (i := 22) (by decide +kernel), List.mem_of_getElem? (i := 325) (by decide +kernel), List.mem_of_getElem? (i := 326) (by decide +kernel)⟩
theorem lw_p1 : lw_okq (⟨"MatrixKin$Kin", "markOf", "(LMatrixKin$Square;)I"⟩, 4) := ⟨⟨by decide +kernel, by decide +kernel⟩, List.mem_of_getElem? (i := 106) (by decide +kernel), List.mem_of_getElem? (i := 417) (by decide +kernel), List.mem_of_getElem? (i := 418) (by decide +kernel)⟩
theorem lw_p2 : lw_okq (⟨"MatrixKin$Square", "hasLikeSides", "()Z"⟩, 4) := ⟨⟨by decide +kernel, by decide +kernel⟩, List.mem_of_getElem? (i := 112) (by decide +kernel), List.mem_of_getElem? (i := 444) (by decide +kernel), List.mem_of_getElem? (i := 445) (by decide +kernel)⟩
theorem lw_p3 : lw_okq (⟨"MatrixKin$Square", "stepsToEvenOut", "()J"⟩, 4) := ⟨⟨by decide +kernel, by decide +kernel⟩, List.mem_of_getElem? (i := 112) (by decide +kernel), List.mem_of_getElem? (i := 448) (by decide +kernel), List.mem_of_getElem? (i := 449) (by decide +kernel)⟩
theorem lw_p4 : lw_okq (⟨"MatrixKin$Word", "firstRun", "(Z)J"⟩, 1) := ⟨⟨by decide +kernel, by decide +kernel⟩, List.mem_of_getElem? (i := 149) (by decide +kernel), List.mem_of_getElem? (i := 478) (by decide +kernel), List.mem_of_getElem? (i := 479) (by decide +kernel)⟩
theorem lw_p5 : lw_okq (⟨"MatrixKin$Wheel", "findLeastStart", "()V"⟩, 5) := ⟨⟨by decide +kernel, by decide +kernel⟩, List.mem_of_getElem? (i := 141) (by decide +kernel), List.mem_of_getElem? (i := 508) (by decide +kernel), List.mem_of_getElem? (i := 509) (by decide +kernel)⟩
theorem lw_p6 : lw_okq (⟨"MatrixKin$Wheel", "isLessFrom", "(II)Z"⟩, 5) := ⟨⟨by decide +kernel, by decide +kernel⟩, List.mem_of_getElem? (i := 141) (by decide +kernel), List.mem_of_getElem? (i := 512) (by decide +kernel), List.mem_of_getElem? (i := 513) (by decide +kernel)⟩
theorem lw_p7 : lw_okq (⟨"MatrixKin", "firstWrong", "()I"⟩, 10) := ⟨⟨by decide +kernel, by decide +kernel⟩, List.mem_of_getElem? (i := 22) (by decide +kernel), List.mem_of_getElem? (i := 576) (by decide +kernel), List.mem_of_getElem? (i := 577) (by decide +kernel)⟩
theorem lw_p8 : lw_okq (⟨"MatrixKin$Wheel", "comesAgainAfter", "(I)Z"⟩, 5) := ⟨⟨by decide +kernel, by decide +kernel⟩, List.mem_of_getElem? (i := 141) (by decide +kernel), List.mem_of_getElem? (i := 647) (by decide +kernel), List.mem_of_getElem? (i := 648) (by decide +kernel)⟩
theorem lw_p9 : lw_okq (⟨"MatrixKin", "exchange", "(ILMatrixKin$Square;)I"⟩, 10) := ⟨⟨by decide +kernel, by decide +kernel⟩, List.mem_of_getElem? (i := 22) (by decide +kernel), List.mem_of_getElem? (i := 684) (by decide +kernel), List.mem_of_getElem? (i := 685) (by decide +kernel)⟩
theorem lw_p10 : lw_okq (⟨"MatrixKin", "drawSquare", "(LMatrixKin$Square;)V"⟩, 10) := ⟨⟨by decide +kernel, by decide +kernel⟩, List.mem_of_getElem? (i := 22) (by decide +kernel), List.mem_of_getElem? (i := 710) (by decide +kernel), List.mem_of_getElem? (i := 711) (by decide +kernel)⟩
theorem lw_p11 : lw_okq (⟨"MatrixKin", "draw", "(I)I"⟩, 10) := ⟨⟨by decide +kernel, by decide +kernel⟩, List.mem_of_getElem? (i := 22) (by decide +kernel), List.mem_of_getElem? (i := 714) (by decide +kernel), List.mem_of_getElem? (i := 715) (by decide +kernel)⟩
theorem lw_p12 : lw_okq (⟨"MatrixKinModel", "takes", "(JJJJ)V"⟩, 34) := ⟨⟨by decide +kernel, by decide +kernel⟩, List.mem_of_getElem? (i := 862) (by decide +kernel), List.mem_of_getElem? (i := 986) (by decide +kernel), List.mem_of_getElem? (i := 987) (by decide +kernel)⟩
theorem lw_p13 : lw_okq (⟨"MatrixKinModel", "comes", "(I)V"⟩, 34) := ⟨⟨by decide +kernel, by decide +kernel⟩, List.mem_of_getElem? (i := 862) (by decide +kernel), List.mem_of_getElem? (i := 993) (by decide +kernel), List.mem_of_getElem? (i := 994) (by decide +kernel)⟩
theorem lw_p14 : lw_okq (⟨"MatrixKinModel", "multiplies", "(JJJJ)V"⟩, 34) := ⟨⟨by decide +kernel, by decide +kernel⟩, List.mem_of_getElem? (i := 862) (by decide +kernel), List.mem_of_getElem? (i := 997) (by decide +kernel), List.mem_of_getElem? (i := 998) (by decide +kernel)⟩
theorem lw_p15 : lw_okq (⟨"MatrixKinModel", "isWell", "()Z"⟩, 34) := ⟨⟨by decide +kernel, by decide +kernel⟩, List.mem_of_getElem? (i := 862) (by decide +kernel), List.mem_of_getElem? (i := 1002) (by decide +kernel), List.mem_of_getElem? (i := 1003) (by decide +kernel)⟩
def lw_privs_1 : List (MethodName × Nat) := [(⟨"MatrixKin", "place", "(LMatrixKin$Square;)I"⟩, 10), (⟨"MatrixKin$Kin", "markOf", "(LMatrixKin$Square;)I"⟩, 4), (⟨"MatrixKin$Square", "hasLikeSides", "()Z"⟩, 4), (⟨"MatrixKin$Square", "stepsToEvenOut", "()J"⟩, 4), (⟨"MatrixKin$Word", "firstRun", "(Z)J"⟩, 1), (⟨"MatrixKin$Wheel", "findLeastStart", "()V"⟩, 5), (⟨"MatrixKin$Wheel", "isLessFrom", "(II)Z"⟩, 5), (⟨"MatrixKin", "firstWrong", "()I"⟩, 10), (⟨"MatrixKin$Wheel", "comesAgainAfter", "(I)Z"⟩, 5), (⟨"MatrixKin", "exchange", "(ILMatrixKin$Square;)I"⟩, 10), (⟨"MatrixKin", "drawSquare", "(LMatrixKin$Square;)V"⟩, 10), (⟨"MatrixKin", "draw", "(I)I"⟩, 10), (⟨"MatrixKinModel", "takes", "(JJJJ)V"⟩, 34), (⟨"MatrixKinModel", "comes", "(I)V"⟩, 34), (⟨"MatrixKinModel", "multiplies", "(JJJJ)V"⟩, 34), (⟨"MatrixKinModel", "isWell", "()Z"⟩, 34)]
theorem lw_r1 : ∀ q ∈ lw_privs_1, lw_okq q := List.forall_mem_cons.mpr ⟨lw_p0, List.forall_mem_cons.mpr ⟨lw_p1, List.forall_mem_cons.mpr ⟨lw_p2, List.forall_mem_cons.mpr ⟨lw_p3, List.forall_mem_cons.mpr ⟨lw_p4, List.forall_mem_cons.mpr ⟨lw_p5, List.forall_mem_cons.mpr ⟨lw_p6, List.forall_mem_cons.mpr ⟨lw_p7, List.forall_mem_cons.mpr ⟨lw_p8, List.forall_mem_cons.mpr ⟨lw_p9, List.forall_mem_cons.mpr ⟨lw_p10, List.forall_mem_cons.mpr ⟨lw_p11, List.forall_mem_cons.mpr ⟨lw_p12, List.forall_mem_cons.mpr ⟨lw_p13, List.forall_mem_cons.mpr ⟨lw_p14, List.forall_mem_cons.mpr ⟨lw_p15, fun _ h => absurd h List.not_mem_nil⟩⟩⟩⟩⟩⟩⟩⟩⟩⟩⟩⟩⟩⟩⟩⟩
theorem lw_p16 : lw_okq (⟨"MatrixKinModel", "puts", "()I"⟩, 34) := ⟨⟨by decide +kernel, by decide +kernel⟩, List.mem_of_getElem? (i := 862) (by decide +kernel), List.mem_of_getElem? (i := 1011) (by decide +kernel), List.mem_of_getElem? (i := 1012) (by decide +kernel)⟩
theorem lw_p17 : lw_okq (⟨"MatrixKinModel", "notes", "()V"⟩, 34) := ⟨⟨by decide +kernel, by decide +kernel⟩, List.mem_of_getElem? (i := 862) (by decide +kernel), List.mem_of_getElem? (i := 1015) (by decide +kernel), List.mem_of_getElem? (i := 1016) (by decide +kernel)⟩
theorem lw_p18 : lw_okq (⟨"MatrixKinModel", "laysAt", "(I)V"⟩, 34) := ⟨⟨by decide +kernel, by decide +kernel⟩, List.mem_of_getElem? (i := 862) (by decide +kernel), List.mem_of_getElem? (i := 1019) (by decide +kernel), List.mem_of_getElem? (i := 1020) (by decide +kernel)⟩
theorem lw_p19 : lw_okq (⟨"MatrixKinModel", "families", "(I)I"⟩, 34) := ⟨⟨by decide +kernel, by decide +kernel⟩, List.mem_of_getElem? (i := 862) (by decide +kernel), List.mem_of_getElem? (i := 1036) (by decide +kernel), List.mem_of_getElem? (i := 1037) (by decide +kernel)⟩
theorem lw_p20 : lw_okq (⟨"MatrixKinModel", "family", "(I)I"⟩, 34) := ⟨⟨by decide +kernel, by decide +kernel⟩, List.mem_of_getElem? (i := 862) (by decide +kernel), List.mem_of_getElem? (i := 1040) (by decide +kernel), List.mem_of_getElem? (i := 1041) (by decide +kernel)⟩
theorem lw_p21 : lw_okq (⟨"MatrixKinModel", "asides", "(I)V"⟩, 34) := ⟨⟨by decide +kernel, by decide +kernel⟩, List.mem_of_getElem? (i := 862) (by decide +kernel), List.mem_of_getElem? (i := 1044) (by decide +kernel), List.mem_of_getElem? (i := 1045) (by decide +kernel)⟩
theorem lw_p22 : lw_okq (⟨"MatrixKinModel", "takesFrom", "(I)V"⟩, 34) := ⟨⟨by decide +kernel, by decide +kernel⟩, List.mem_of_getElem? (i := 862) (by decide +kernel), List.mem_of_getElem? (i := 1048) (by decide +kernel), List.mem_of_getElem? (i := 1049) (by decide +kernel)⟩
theorem lw_p23 : lw_okq (⟨"MatrixKinModel", "knows", "()V"⟩, 34) := ⟨⟨by decide +kernel, by decide +kernel⟩, List.mem_of_getElem? (i := 862) (by decide +kernel), List.mem_of_getElem? (i := 1052) (by decide +kernel), List.mem_of_getElem? (i := 1053) (by decide +kernel)⟩
theorem lw_p24 : lw_okq (⟨"MatrixKinModel", "isOne", "()Z"⟩, 34) := ⟨⟨by decide +kernel, by decide +kernel⟩, List.mem_of_getElem? (i := 862) (by decide +kernel), List.mem_of_getElem? (i := 1056) (by decide +kernel), List.mem_of_getElem? (i := 1057) (by decide +kernel)⟩
theorem lw_p25 : lw_okq (⟨"MatrixKinModel", "changes", "()V"⟩, 34) := ⟨⟨by decide +kernel, by decide +kernel⟩, List.mem_of_getElem? (i := 862) (by decide +kernel), List.mem_of_getElem? (i := 1062) (by decide +kernel), List.mem_of_getElem? (i := 1063) (by decide +kernel)⟩
theorem lw_p26 : lw_okq (⟨"MatrixKinModel", "carries", "()V"⟩, 34) := ⟨⟨by decide +kernel, by decide +kernel⟩, List.mem_of_getElem? (i := 862) (by decide +kernel), List.mem_of_getElem? (i := 1072) (by decide +kernel), List.mem_of_getElem? (i := 1073) (by decide +kernel)⟩
theorem lw_p27 : lw_okq (⟨"MatrixKinModel", "spells", "()V"⟩, 34) := ⟨⟨by decide +kernel, by decide +kernel⟩, List.mem_of_getElem? (i := 862) (by decide +kernel), List.mem_of_getElem? (i := 1087) (by decide +kernel), List.mem_of_getElem? (i := 1088) (by decide +kernel)⟩
theorem lw_p28 : lw_okq (⟨"MatrixKinModel", "turns", "()V"⟩, 34) := ⟨⟨by decide +kernel, by decide +kernel⟩, List.mem_of_getElem? (i := 862) (by decide +kernel), List.mem_of_getElem? (i := 1091) (by decide +kernel), List.mem_of_getElem? (i := 1092) (by decide +kernel)⟩
theorem lw_p29 : lw_okq (⟨"MatrixKinModel", "isLess", "(II)Z"⟩, 34) := ⟨⟨by decide +kernel, by decide +kernel⟩, List.mem_of_getElem? (i := 862) (by decide +kernel), List.mem_of_getElem? (i := 1095) (by decide +kernel), List.mem_of_getElem? (i := 1096) (by decide +kernel)⟩
theorem lw_p30 : lw_okq (⟨"MatrixKinModel", "isLike", "(I)Z"⟩, 34) := ⟨⟨by decide +kernel, by decide +kernel⟩, List.mem_of_getElem? (i := 862) (by decide +kernel), List.mem_of_getElem? (i := 1099) (by decide +kernel), List.mem_of_getElem? (i := 1100) (by decide +kernel)⟩
theorem lw_p31 : lw_okq (⟨"MatrixKinModel", "putsAside", "()V"⟩, 34) := ⟨⟨by decide +kernel, by decide +kernel⟩, List.mem_of_getElem? (i := 862) (by decide +kernel), List.mem_of_getElem? (i := 1103) (by decide +kernel), List.mem_of_getElem? (i := 1104) (by decide +kernel)⟩
def lw_privs_2 : List (MethodName × Nat) := [(⟨"MatrixKinModel", "puts", "()I"⟩, 34), (⟨"MatrixKinModel", "notes", "()V"⟩, 34), (⟨"MatrixKinModel", "laysAt", "(I)V"⟩, 34), (⟨"MatrixKinModel", "families", "(I)I"⟩, 34), (⟨"MatrixKinModel", "family", "(I)I"⟩, 34), (⟨"MatrixKinModel", "asides", "(I)V"⟩, 34), (⟨"MatrixKinModel", "takesFrom", "(I)V"⟩, 34), (⟨"MatrixKinModel", "knows", "()V"⟩, 34), (⟨"MatrixKinModel", "isOne", "()Z"⟩, 34), (⟨"MatrixKinModel", "changes", "()V"⟩, 34), (⟨"MatrixKinModel", "carries", "()V"⟩, 34), (⟨"MatrixKinModel", "spells", "()V"⟩, 34), (⟨"MatrixKinModel", "turns", "()V"⟩, 34), (⟨"MatrixKinModel", "isLess", "(II)Z"⟩, 34), (⟨"MatrixKinModel", "isLike", "(I)Z"⟩, 34), (⟨"MatrixKinModel", "putsAside", "()V"⟩, 34)]
theorem lw_r2 : ∀ q ∈ lw_privs_2, lw_okq q := List.forall_mem_cons.mpr ⟨lw_p16, List.forall_mem_cons.mpr ⟨lw_p17, List.forall_mem_cons.mpr ⟨lw_p18, List.forall_mem_cons.mpr ⟨lw_p19, List.forall_mem_cons.mpr ⟨lw_p20, List.forall_mem_cons.mpr ⟨lw_p21, List.forall_mem_cons.mpr ⟨lw_p22, List.forall_mem_cons.mpr ⟨lw_p23, List.forall_mem_cons.mpr ⟨lw_p24, List.forall_mem_cons.mpr ⟨lw_p25, List.forall_mem_cons.mpr ⟨lw_p26, List.forall_mem_cons.mpr ⟨lw_p27, List.forall_mem_cons.mpr ⟨lw_p28, List.forall_mem_cons.mpr ⟨lw_p29, List.forall_mem_cons.mpr ⟨lw_p30, List.forall_mem_cons.mpr ⟨lw_p31, fun _ h => absurd h List.not_mem_nil⟩⟩⟩⟩⟩⟩⟩⟩⟩⟩⟩⟩⟩⟩⟩⟩
theorem lw_p32 : lw_okq (⟨"MatrixKinModel", "isAlike", "()Z"⟩, 34) := ⟨⟨by decide +kernel, by decide +kernel⟩, List.mem_of_getElem? (i := 862) (by decide +kernel), List.mem_of_getElem? (i := 1107) (by decide +kernel), List.mem_of_getElem? (i := 1108) (by decide +kernel)⟩
theorem lw_p33 : lw_okq (⟨"MatrixKinModel", "twins", "()I"⟩, 34) := ⟨⟨by decide +kernel, by decide +kernel⟩, List.mem_of_getElem? (i := 862) (by decide +kernel), List.mem_of_getElem? (i := 1114) (by decide +kernel), List.mem_of_getElem? (i := 1115) (by decide +kernel)⟩
theorem lw_p34 : lw_okq (⟨"MatrixKinModel", "isTwin", "(I)Z"⟩, 34) := ⟨⟨by decide +kernel, by decide +kernel⟩, List.mem_of_getElem? (i := 862) (by decide +kernel), List.mem_of_getElem? (i := 1118) (by decide +kernel), List.mem_of_getElem? (i := 1119) (by decide +kernel)⟩
theorem lw_p35 : lw_okq (⟨"MatrixKinModel", "wrong", "()I"⟩, 34) := ⟨⟨by decide +kernel, by decide +kernel⟩, List.mem_of_getElem? (i := 862) (by decide +kernel), List.mem_of_getElem? (i := 1122) (by decide +kernel), List.mem_of_getElem? (i := 1123) (by decide +kernel)⟩
theorem lw_p36 : lw_okq (⟨"MatrixKinModel", "isSquare", "(I)Z"⟩, 34) := ⟨⟨by decide +kernel, by decide +kernel⟩, List.mem_of_getElem? (i := 862) (by decide +kernel), List.mem_of_getElem? (i := 1126) (by decide +kernel), List.mem_of_getElem? (i := 1127) (by decide +kernel)⟩
theorem lw_p37 : lw_okq (⟨"MatrixKinModel", "areAlike", "(II)Z"⟩, 34) := ⟨⟨by decide +kernel, by decide +kernel⟩, List.mem_of_getElem? (i := 862) (by decide +kernel), List.mem_of_getElem? (i := 1130) (by decide +kernel), List.mem_of_getElem? (i := 1131) (by decide +kernel)⟩
theorem lw_p38 : lw_okq (⟨"MatrixKinModel", "isMirrored", "(I)Z"⟩, 34) := ⟨⟨by decide +kernel, by decide +kernel⟩, List.mem_of_getElem? (i := 862) (by decide +kernel), List.mem_of_getElem? (i := 1146) (by decide +kernel), List.mem_of_getElem? (i := 1147) (by decide +kernel)⟩
theorem lw_p39 : lw_okq (⟨"MatrixKinModel", "ofSquare", "(II)I"⟩, 34) := ⟨⟨by decide +kernel, by decide +kernel⟩, List.mem_of_getElem? (i := 862) (by decide +kernel), List.mem_of_getElem? (i := 1150) (by decide +kernel), List.mem_of_getElem? (i := 1151) (by decide +kernel)⟩
theorem lw_p40 : lw_okq (⟨"MatrixKinModel", "order", "()I"⟩, 34) := ⟨⟨by decide +kernel, by decide +kernel⟩, List.mem_of_getElem? (i := 862) (by decide +kernel), List.mem_of_getElem? (i := 1155) (by decide +kernel), List.mem_of_getElem? (i := 1156) (by decide +kernel)⟩
theorem lw_p41 : lw_okq (⟨"MatrixKinModel", "becomes", "(I)I"⟩, 34) := ⟨⟨by decide +kernel, by decide +kernel⟩, List.mem_of_getElem? (i := 862) (by decide +kernel), List.mem_of_getElem? (i := 1172) (by decide +kernel), List.mem_of_getElem? (i := 1173) (by decide +kernel)⟩
theorem lw_p42 : lw_okq (⟨"MatrixKinModel", "isAt", "(I)Z"⟩, 34) := ⟨⟨by decide +kernel, by decide +kernel⟩, List.mem_of_getElem? (i := 862) (by decide +kernel), List.mem_of_getElem? (i := 1176) (by decide +kernel), List.mem_of_getElem? (i := 1177) (by decide +kernel)⟩
theorem lw_p43 : lw_okq (⟨"MatrixKinModel", "draw", "(I)I"⟩, 34) := ⟨⟨by decide +kernel, by decide +kernel⟩, List.mem_of_getElem? (i := 862) (by decide +kernel), List.mem_of_getElem? (i := 1198) (by decide +kernel), List.mem_of_getElem? (i := 1199) (by decide +kernel)⟩
theorem lw_p44 : lw_okq (⟨"MatrixKinModel", "beginsOf", "(II)I"⟩, 34) := ⟨⟨by decide +kernel, by decide +kernel⟩, List.mem_of_getElem? (i := 862) (by decide +kernel), List.mem_of_getElem? (i := 1214) (by decide +kernel), List.mem_of_getElem? (i := 1215) (by decide +kernel)⟩
theorem lw_p45 : lw_okq (⟨"MatrixKinModel", "isProduct", "(I)Z"⟩, 34) := ⟨⟨by decide +kernel, by decide +kernel⟩, List.mem_of_getElem? (i := 862) (by decide +kernel), List.mem_of_getElem? (i := 1218) (by decide +kernel), List.mem_of_getElem? (i := 1219) (by decide +kernel)⟩
theorem lw_p46 : lw_okq (⟨"MatrixKinModel", "goTogether", "(II)Z"⟩, 34) := ⟨⟨by decide +kernel, by decide +kernel⟩, List.mem_of_getElem? (i := 862) (by decide +kernel), List.mem_of_getElem? (i := 1222) (by decide +kernel), List.mem_of_getElem? (i := 1223) (by decide +kernel)⟩
def lw_privs_3 : List (MethodName × Nat) := [(⟨"MatrixKinModel", "isAlike", "()Z"⟩, 34), (⟨"MatrixKinModel", "twins", "()I"⟩, 34), (⟨"MatrixKinModel", "isTwin", "(I)Z"⟩, 34), (⟨"MatrixKinModel", "wrong", "()I"⟩, 34), (⟨"MatrixKinModel", "isSquare", "(I)Z"⟩, 34), (⟨"MatrixKinModel", "areAlike", "(II)Z"⟩, 34), (⟨"MatrixKinModel", "isMirrored", "(I)Z"⟩, 34), (⟨"MatrixKinModel", "ofSquare", "(II)I"⟩, 34), (⟨"MatrixKinModel", "order", "()I"⟩, 34), (⟨"MatrixKinModel", "becomes", "(I)I"⟩, 34), (⟨"MatrixKinModel", "isAt", "(I)Z"⟩, 34), (⟨"MatrixKinModel", "draw", "(I)I"⟩, 34), (⟨"MatrixKinModel", "beginsOf", "(II)I"⟩, 34), (⟨"MatrixKinModel", "isProduct", "(I)Z"⟩, 34), (⟨"MatrixKinModel", "goTogether", "(II)Z"⟩, 34)]
theorem lw_r3 : ∀ q ∈ lw_privs_3, lw_okq q := List.forall_mem_cons.mpr ⟨lw_p32, List.forall_mem_cons.mpr ⟨lw_p33, List.forall_mem_cons.mpr ⟨lw_p34, List.forall_mem_cons.mpr ⟨lw_p35, List.forall_mem_cons.mpr ⟨lw_p36, List.forall_mem_cons.mpr ⟨lw_p37, List.forall_mem_cons.mpr ⟨lw_p38, List.forall_mem_cons.mpr ⟨lw_p39, List.forall_mem_cons.mpr ⟨lw_p40, List.forall_mem_cons.mpr ⟨lw_p41, List.forall_mem_cons.mpr ⟨lw_p42, List.forall_mem_cons.mpr ⟨lw_p43, List.forall_mem_cons.mpr ⟨lw_p44, List.forall_mem_cons.mpr ⟨lw_p45, List.forall_mem_cons.mpr ⟨lw_p46, fun _ h => absurd h List.not_mem_nil⟩⟩⟩⟩⟩⟩⟩⟩⟩⟩⟩⟩⟩⟩⟩
def lw_privs : List (MethodName × Nat) := lw_privs_1 ++ (lw_privs_2 ++ (lw_privs_3))
def lw_tbl : List Cond := k2_sels lw_privs ++ tables_1
theorem lw_privs_ok : ∀ q ∈ lw_privs, lw_okq q := by
  show ∀ q ∈ lw_privs_1 ++ (lw_privs_2 ++ (lw_privs_3)), lw_okq q
  exact List.forall_mem_append.mpr ⟨lw_r1, List.forall_mem_append.mpr ⟨lw_r2, lw_r3⟩⟩
def RX0 : String := "MatrixKin$Book"
def TX0 : u_T := fun k => match k with
  | 0 => ("MatrixKin$Book", "ones", "[I", true)
  | 1 => ("MatrixKin$Book", "others", "[I", true)
  | 2 => ("MatrixKin$Book", "saidAlike", "[Z", true)
  | _ => ("MatrixKin$Book", "length", "I", false)
def tyX0 : Nat → FieldType := fun k => match k with
  | 0 => .array .int
  | 1 => .array .int
  | 2 => .array .boolean
  | _ => .int
abbrev wsX00 : List Cond := u_ws RX0 TX0 4
theorem nmX0 : ∀ a, a < 4 → ∀ b, b < 4 → a ≠ b → (TX0 a).2.1 ≠ (TX0 b).2.1 := by decide +kernel
theorem tyX0_ok : ∀ k, k < 4 → parseFieldDescriptor (TX0 k).2.2.1 = some (tyX0 k) := by decide +kernel
abbrev cX0_init : ByteArray := prog_2_method_1_code
def yX0_init : MethodName := ⟨RX0, "<init>", "()V"⟩
abbrev cX0_length : ByteArray := prog_2_method_2_code
def yX0_length : MethodName := ⟨RX0, "length", "()I"⟩
abbrev cX0_isFull : ByteArray := prog_2_method_3_code
def yX0_isFull : MethodName := ⟨RX0, "isFull", "()Z"⟩
abbrev cX0_append : ByteArray := prog_2_method_4_code
def yX0_append : MethodName := ⟨RX0, "append", "(IIZ)V"⟩
abbrev cX0_clear : ByteArray := prog_2_method_5_code
def yX0_clear : MethodName := ⟨RX0, "clear", "()V"⟩
abbrev cX0_one : ByteArray := prog_2_method_6_code
def yX0_one : MethodName := ⟨RX0, "one", "(I)I"⟩
abbrev cX0_other : ByteArray := prog_2_method_7_code
def yX0_other : MethodName := ⟨RX0, "other", "(I)I"⟩
abbrev cX0_saidAlike : ByteArray := prog_2_method_8_code
def yX0_saidAlike : MethodName := ⟨RX0, "saidAlike", "(I)Z"⟩
def RX1 : String := "MatrixKin$Image"
def TX1 : u_T := fun k => match k with
  | 0 => ("MatrixKin$Image", "shelf", "LMatrixKin$Shelf;", true)
  | 1 => ("MatrixKin$Image", "seedThen", "I", false)
  | _ => ("MatrixKin$Image", "isKept", "Z", false)
def tyX1 : Nat → FieldType := fun k => match k with
  | 0 => .object "MatrixKin$Shelf"
  | 1 => .int
  | _ => .boolean
abbrev wsX10 : List Cond := u_ws RX1 TX1 3
theorem nmX1 : ∀ a, a < 3 → ∀ b, b < 3 → a ≠ b → (TX1 a).2.1 ≠ (TX1 b).2.1 := by decide +kernel
theorem tyX1_ok : ∀ k, k < 3 → parseFieldDescriptor (TX1 k).2.2.1 = some (tyX1 k) := by decide +kernel
abbrev cX1_init : ByteArray := prog_3_method_1_code
def yX1_init : MethodName := ⟨RX1, "<init>", "()V"⟩
abbrev cX1_fill : ByteArray := prog_3_method_2_code
def yX1_fill : MethodName := ⟨RX1, "fill", "(LMatrixKin$Shelf;I)V"⟩
abbrev cX1_isKept : ByteArray := prog_3_method_3_code
def yX1_isKept : MethodName := ⟨RX1, "isKept", "()Z"⟩
abbrev cX1_shelf : ByteArray := prog_3_method_4_code
def yX1_shelf : MethodName := ⟨RX1, "shelf", "()LMatrixKin$Shelf;"⟩
abbrev cX1_seedThen : ByteArray := prog_3_method_5_code
def yX1_seedThen : MethodName := ⟨RX1, "seedThen", "()I"⟩
def RX2 : String := "MatrixKin$Judge"
def TX2 : u_T := fun k => match k with
  | 0 => ("MatrixKin$Judge", "kins", "[LMatrixKin$Kin;", true)
  | 1 => ("MatrixKin$Judge", "strangeKin", "LMatrixKin$Kin;", true)
  | 2 => ("MatrixKin$Judge", "strange", "LMatrixKin$Square;", true)
  | 3 => ("MatrixKin$Judge", "oneByOther", "LMatrixKin$Square;", true)
  | 4 => ("MatrixKin$Judge", "otherByOne", "LMatrixKin$Square;", true)
  | 5 => ("MatrixKin$Judge", "word", "LMatrixKin$Word;", true)
  | _ => ("MatrixKin$Judge", "size", "I", false)
def tyX2 : Nat → FieldType := fun k => match k with
  | 0 => .array (.object "MatrixKin$Kin")
  | 1 => .object "MatrixKin$Kin"
  | 2 => .object "MatrixKin$Square"
  | 3 => .object "MatrixKin$Square"
  | 4 => .object "MatrixKin$Square"
  | 5 => .object "MatrixKin$Word"
  | _ => .int
abbrev wsX20 : List Cond := u_ws RX2 TX2 7
theorem nmX2 : ∀ a, a < 7 → ∀ b, b < 7 → a ≠ b → (TX2 a).2.1 ≠ (TX2 b).2.1 := by decide +kernel
theorem tyX2_ok : ∀ k, k < 7 → parseFieldDescriptor (TX2 k).2.2.1 = some (tyX2 k) := by decide +kernel
abbrev cX2_init : ByteArray := prog_4_method_1_code
def yX2_init : MethodName := ⟨RX2, "<init>", "()V"⟩
abbrev cX2_lookAround : ByteArray := prog_4_method_2_code
def yX2_lookAround : MethodName := ⟨RX2, "lookAround", "(LMatrixKin$Shelf;)V"⟩
abbrev cX2_kinOf : ByteArray := prog_4_method_3_code
def yX2_kinOf : MethodName := ⟨RX2, "kinOf", "(I)LMatrixKin$Kin;"⟩
abbrev cX2_areAlike : ByteArray := prog_4_method_4_code
def yX2_areAlike : MethodName := ⟨RX2, "areAlike", "(II)Z"⟩
abbrev cX2_isTwin : ByteArray := prog_4_method_5_code
def yX2_isTwin : MethodName := ⟨RX2, "isTwin", "(I)Z"⟩
abbrev cX2_isLikeMirrored : ByteArray := prog_4_method_6_code
def yX2_isLikeMirrored : MethodName := ⟨RX2, "isLikeMirrored", "(I)Z"⟩
abbrev cX2_countTwins : ByteArray := prog_4_method_7_code
def yX2_countTwins : MethodName := ⟨RX2, "countTwins", "()I"⟩
abbrev cX2_familyOf : ByteArray := prog_4_method_8_code
def yX2_familyOf : MethodName := ⟨RX2, "familyOf", "(I)I"⟩
abbrev cX2_countFamilies : ByteArray := prog_4_method_9_code
def yX2_countFamilies : MethodName := ⟨RX2, "countFamilies", "()I"⟩
abbrev cX2_greatestFamily : ByteArray := prog_4_method_10_code
def yX2_greatestFamily : MethodName := ⟨RX2, "greatestFamily", "()I"⟩
abbrev cX2_goTogether : ByteArray := prog_4_method_11_code
def yX2_goTogether : MethodName := ⟨RX2, "goTogether", "(II)Z"⟩
abbrev cX2_begins : ByteArray := prog_4_method_12_code
def yX2_begins : MethodName := ⟨RX2, "begins", "(II)I"⟩
def RX3 : String := "MatrixKin$Kin"
def TX3 : u_T := fun k => match k with
  | 0 => ("MatrixKin$Kin", "seen", "LMatrixKin$Square;", true)
  | 1 => ("MatrixKin$Kin", "wheel", "LMatrixKin$Wheel;", true)
  | 2 => ("MatrixKin$Kin", "kind", "I", false)
  | _ => ("MatrixKin$Kin", "mark", "I", false)
def tyX3 : Nat → FieldType := fun k => match k with
  | 0 => .object "MatrixKin$Square"
  | 1 => .object "MatrixKin$Wheel"
  | 2 => .int
  | _ => .int
abbrev wsX30 : List Cond := u_ws RX3 TX3 4
theorem nmX3 : ∀ a, a < 4 → ∀ b, b < 4 → a ≠ b → (TX3 a).2.1 ≠ (TX3 b).2.1 := by decide +kernel
theorem tyX3_ok : ∀ k, k < 4 → parseFieldDescriptor (TX3 k).2.2.1 = some (tyX3 k) := by decide +kernel
abbrev cX3_init : ByteArray := prog_5_method_1_code
def yX3_init : MethodName := ⟨RX3, "<init>", "()V"⟩
abbrev cX3_lookAt : ByteArray := prog_5_method_2_code
def yX3_lookAt : MethodName := ⟨RX3, "lookAt", "(LMatrixKin$Square;)V"⟩
abbrev cX3_kindOf : ByteArray := prog_5_method_3_code
def yX3_kindOf : MethodName := ⟨RX3, "kindOf", "(LMatrixKin$Square;)I"⟩
abbrev cX3_markOf : ByteArray := prog_5_method_4_code
def yX3_markOf : MethodName := ⟨RX3, "markOf", "(LMatrixKin$Square;)I"⟩
abbrev cX3_measureShift : ByteArray := prog_5_method_5_code
def yX3_measureShift : MethodName := ⟨RX3, "measureShift", "(LMatrixKin$Square;)I"⟩
abbrev cX3_commonPart : ByteArray := prog_5_method_6_code
def yX3_commonPart : MethodName := ⟨RX3, "commonPart", "(JJ)J"⟩
abbrev cX3_isLike : ByteArray := prog_5_method_7_code
def yX3_isLike : MethodName := ⟨RX3, "isLike", "(LMatrixKin$Kin;)Z"⟩
abbrev cX3_kind : ByteArray := prog_5_method_8_code
def yX3_kind : MethodName := ⟨RX3, "kind", "()I"⟩
abbrev cX3_trace : ByteArray := prog_5_method_9_code
def yX3_trace : MethodName := ⟨RX3, "trace", "()I"⟩
abbrev cX3_sign : ByteArray := prog_5_method_10_code
def yX3_sign : MethodName := ⟨RX3, "sign", "()I"⟩
abbrev cX3_order : ByteArray := prog_5_method_11_code
def yX3_order : MethodName := ⟨RX3, "order", "()I"⟩
abbrev cX3_mark : ByteArray := prog_5_method_12_code
def yX3_mark : MethodName := ⟨RX3, "mark", "()I"⟩
abbrev cX3_wheel : ByteArray := prog_5_method_13_code
def yX3_wheel : MethodName := ⟨RX3, "wheel", "()LMatrixKin$Wheel;"⟩
def RX4 : String := "MatrixKin$Past"
def TX4 : u_T := fun k => match k with
  | 0 => ("MatrixKin$Past", "shelves", "[LMatrixKin$Shelf;", true)
  | 1 => ("MatrixKin$Past", "next", "I", false)
  | _ => ("MatrixKin$Past", "length", "I", false)
def tyX4 : Nat → FieldType := fun k => match k with
  | 0 => .array (.object "MatrixKin$Shelf")
  | 1 => .int
  | _ => .int
abbrev wsX40 : List Cond := u_ws RX4 TX4 3
theorem nmX4 : ∀ a, a < 3 → ∀ b, b < 3 → a ≠ b → (TX4 a).2.1 ≠ (TX4 b).2.1 := by decide +kernel
theorem tyX4_ok : ∀ k, k < 3 → parseFieldDescriptor (TX4 k).2.2.1 = some (tyX4 k) := by decide +kernel
abbrev cX4_init : ByteArray := prog_6_method_1_code
def yX4_init : MethodName := ⟨RX4, "<init>", "()V"⟩
abbrev cX4_length : ByteArray := prog_6_method_2_code
def yX4_length : MethodName := ⟨RX4, "length", "()I"⟩
abbrev cX4_remember : ByteArray := prog_6_method_3_code
def yX4_remember : MethodName := ⟨RX4, "remember", "(LMatrixKin$Shelf;)V"⟩
abbrev cX4_restore : ByteArray := prog_6_method_4_code
def yX4_restore : MethodName := ⟨RX4, "restore", "(ILMatrixKin$Shelf;)V"⟩
abbrev cX4_forget : ByteArray := prog_6_method_5_code
def yX4_forget : MethodName := ⟨RX4, "forget", "()V"⟩
def RX5 : String := "MatrixKin$Shelf"
def TX5 : u_T := fun k => match k with
  | 0 => ("MatrixKin$Shelf", "cells", "[I", true)
  | _ => ("MatrixKin$Shelf", "size", "I", false)
def tyX5 : Nat → FieldType := fun k => match k with
  | 0 => .array .int
  | _ => .int
abbrev wsX50 : List Cond := u_ws RX5 TX5 2
theorem nmX5 : ∀ a, a < 2 → ∀ b, b < 2 → a ≠ b → (TX5 a).2.1 ≠ (TX5 b).2.1 := by decide +kernel
theorem tyX5_ok : ∀ k, k < 2 → parseFieldDescriptor (TX5 k).2.2.1 = some (tyX5 k) := by decide +kernel
abbrev cX5_init : ByteArray := prog_7_method_1_code
def yX5_init : MethodName := ⟨RX5, "<init>", "()V"⟩
abbrev cX5_size : ByteArray := prog_7_method_2_code
def yX5_size : MethodName := ⟨RX5, "size", "()I"⟩
abbrev cX5_isFull : ByteArray := prog_7_method_3_code
def yX5_isFull : MethodName := ⟨RX5, "isFull", "()Z"⟩
abbrev cX5_has : ByteArray := prog_7_method_4_code
def yX5_has : MethodName := ⟨RX5, "has", "(I)Z"⟩
abbrev cX5_cell : ByteArray := prog_7_method_5_code
def yX5_cell : MethodName := ⟨RX5, "cell", "(II)I"⟩
abbrev cX5_load : ByteArray := prog_7_method_6_code
def yX5_load : MethodName := ⟨RX5, "load", "(ILMatrixKin$Square;)V"⟩
abbrev cX5_store : ByteArray := prog_7_method_7_code
def yX5_store : MethodName := ⟨RX5, "store", "(ILMatrixKin$Square;)Z"⟩
abbrev cX5_add : ByteArray := prog_7_method_8_code
def yX5_add : MethodName := ⟨RX5, "add", "(LMatrixKin$Square;)I"⟩
abbrev cX5_remove : ByteArray := prog_7_method_9_code
def yX5_remove : MethodName := ⟨RX5, "remove", "(I)V"⟩
abbrev cX5_copyFrom : ByteArray := prog_7_method_10_code
def yX5_copyFrom : MethodName := ⟨RX5, "copyFrom", "(LMatrixKin$Shelf;)V"⟩
def RX6 : String := "MatrixKin$Square"
def TX6 : u_T := fun k => match k with
  | 0 => ("MatrixKin$Square", "a", "J", false)
  | 1 => ("MatrixKin$Square", "b", "J", false)
  | 2 => ("MatrixKin$Square", "c", "J", false)
  | _ => ("MatrixKin$Square", "d", "J", false)
def tyX6 : Nat → FieldType := fun k => match k with
  | 0 => .long
  | 1 => .long
  | 2 => .long
  | _ => .long
abbrev wsX60 : List Cond := u_ws RX6 TX6 4
theorem nmX6 : ∀ a, a < 4 → ∀ b, b < 4 → a ≠ b → (TX6 a).2.1 ≠ (TX6 b).2.1 := by decide +kernel
theorem tyX6_ok : ∀ k, k < 4 → parseFieldDescriptor (TX6 k).2.2.1 = some (tyX6 k) := by decide +kernel
abbrev cX6_init : ByteArray := prog_8_method_1_code
def yX6_init : MethodName := ⟨RX6, "<init>", "()V"⟩
abbrev cX6_set : ByteArray := prog_8_method_2_code
def yX6_set : MethodName := ⟨RX6, "set", "(JJJJ)V"⟩
abbrev cX6_setOne : ByteArray := prog_8_method_3_code
def yX6_setOne : MethodName := ⟨RX6, "setOne", "()V"⟩
abbrev cX6_copyFrom : ByteArray := prog_8_method_4_code
def yX6_copyFrom : MethodName := ⟨RX6, "copyFrom", "(LMatrixKin$Square;)V"⟩
abbrev cX6_setProduct : ByteArray := prog_8_method_5_code
def yX6_setProduct : MethodName := ⟨RX6, "setProduct", "(LMatrixKin$Square;LMatrixKin$Square;)V"⟩
abbrev cX6_turnBack : ByteArray := prog_8_method_6_code
def yX6_turnBack : MethodName := ⟨RX6, "turnBack", "()V"⟩
abbrev cX6_changeSigns : ByteArray := prog_8_method_7_code
def yX6_changeSigns : MethodName := ⟨RX6, "changeSigns", "()V"⟩
abbrev cX6_mirror : ByteArray := prog_8_method_8_code
def yX6_mirror : MethodName := ⟨RX6, "mirror", "()V"⟩
abbrev cX6_multiplyByLetter : ByteArray := prog_8_method_9_code
def yX6_multiplyByLetter : MethodName := ⟨RX6, "multiplyByLetter", "(I)Z"⟩
abbrev cX6_carryByR : ByteArray := prog_8_method_10_code
def yX6_carryByR : MethodName := ⟨RX6, "carryByR", "(J)V"⟩
abbrev cX6_carryByL : ByteArray := prog_8_method_11_code
def yX6_carryByL : MethodName := ⟨RX6, "carryByL", "(J)V"⟩
abbrev cX6_carryByS : ByteArray := prog_8_method_12_code
def yX6_carryByS : MethodName := ⟨RX6, "carryByS", "()V"⟩
abbrev cX6_carryToProduct : ByteArray := prog_8_method_13_code
def yX6_carryToProduct : MethodName := ⟨RX6, "carryToProduct", "()V"⟩
abbrev cX6_stepsToEvenOut : ByteArray := prog_8_method_14_code
def yX6_stepsToEvenOut : MethodName := ⟨RX6, "stepsToEvenOut", "()J"⟩
abbrev cX6_hasLikeSides : ByteArray := prog_8_method_15_code
def yX6_hasLikeSides : MethodName := ⟨RX6, "hasLikeSides", "()Z"⟩
abbrev cX6_trace : ByteArray := prog_8_method_16_code
def yX6_trace : MethodName := ⟨RX6, "trace", "()J"⟩
abbrev cX6_hasAreaOne : ByteArray := prog_8_method_17_code
def yX6_hasAreaOne : MethodName := ⟨RX6, "hasAreaOne", "()Z"⟩
abbrev cX6_isWithinBounds : ByteArray := prog_8_method_18_code
def yX6_isWithinBounds : MethodName := ⟨RX6, "isWithinBounds", "()Z"⟩
abbrev cX6_isNumber : ByteArray := prog_8_method_19_code
def yX6_isNumber : MethodName := ⟨RX6, "isNumber", "(J)Z"⟩
abbrev cX6_isOne : ByteArray := prog_8_method_20_code
def yX6_isOne : MethodName := ⟨RX6, "isOne", "()Z"⟩
abbrev cX6_hasNoneBelowZero : ByteArray := prog_8_method_21_code
def yX6_hasNoneBelowZero : MethodName := ⟨RX6, "hasNoneBelowZero", "()Z"⟩
abbrev cX6_isSameAs : ByteArray := prog_8_method_22_code
def yX6_isSameAs : MethodName := ⟨RX6, "isSameAs", "(LMatrixKin$Square;)Z"⟩
def RX7 : String := "MatrixKin$Text"
def TX7 : u_T := fun k => match k with
  | 0 => ("MatrixKin$Text", "letters", "[I", true)
  | 1 => ("MatrixKin$Text", "length", "I", false)
  | _ => ("MatrixKin$Text", "faultPlace", "I", false)
def tyX7 : Nat → FieldType := fun k => match k with
  | 0 => .array .int
  | 1 => .int
  | _ => .int
abbrev wsX70 : List Cond := u_ws RX7 TX7 3
theorem nmX7 : ∀ a, a < 3 → ∀ b, b < 3 → a ≠ b → (TX7 a).2.1 ≠ (TX7 b).2.1 := by decide +kernel
theorem tyX7_ok : ∀ k, k < 3 → parseFieldDescriptor (TX7 k).2.2.1 = some (tyX7 k) := by decide +kernel
abbrev cX7_init : ByteArray := prog_9_method_1_code
def yX7_init : MethodName := ⟨RX7, "<init>", "()V"⟩
abbrev cX7_length : ByteArray := prog_9_method_2_code
def yX7_length : MethodName := ⟨RX7, "length", "()I"⟩
abbrev cX7_isFull : ByteArray := prog_9_method_3_code
def yX7_isFull : MethodName := ⟨RX7, "isFull", "()Z"⟩
abbrev cX7_append : ByteArray := prog_9_method_4_code
def yX7_append : MethodName := ⟨RX7, "append", "(I)V"⟩
abbrev cX7_clear : ByteArray := prog_9_method_5_code
def yX7_clear : MethodName := ⟨RX7, "clear", "()V"⟩
abbrev cX7_faultPlace : ByteArray := prog_9_method_6_code
def yX7_faultPlace : MethodName := ⟨RX7, "faultPlace", "()I"⟩
abbrev cX7_spell : ByteArray := prog_9_method_7_code
def yX7_spell : MethodName := ⟨RX7, "spell", "(LMatrixKin$Square;)I"⟩
def RX8 : String := "MatrixKin$Wheel"
def TX8 : u_T := fun k => match k with
  | 0 => ("MatrixKin$Wheel", "runs", "[I", true)
  | 1 => ("MatrixKin$Wheel", "seenElsewhere", "LMatrixKin$Square;", true)
  | 2 => ("MatrixKin$Wheel", "word", "LMatrixKin$Word;", true)
  | 3 => ("MatrixKin$Wheel", "count", "I", false)
  | _ => ("MatrixKin$Wheel", "start", "I", false)
def tyX8 : Nat → FieldType := fun k => match k with
  | 0 => .array .int
  | 1 => .object "MatrixKin$Square"
  | 2 => .object "MatrixKin$Word"
  | 3 => .int
  | _ => .int
abbrev wsX80 : List Cond := u_ws RX8 TX8 5
theorem nmX8 : ∀ a, a < 5 → ∀ b, b < 5 → a ≠ b → (TX8 a).2.1 ≠ (TX8 b).2.1 := by decide +kernel
theorem tyX8_ok : ∀ k, k < 5 → parseFieldDescriptor (TX8 k).2.2.1 = some (tyX8 k) := by decide +kernel
abbrev cX8_init : ByteArray := prog_10_method_1_code
def yX8_init : MethodName := ⟨RX8, "<init>", "()V"⟩
abbrev cX8_clear : ByteArray := prog_10_method_2_code
def yX8_clear : MethodName := ⟨RX8, "clear", "()V"⟩
abbrev cX8_read : ByteArray := prog_10_method_3_code
def yX8_read : MethodName := ⟨RX8, "read", "(LMatrixKin$Square;)V"⟩
abbrev cX8_findLeastStart : ByteArray := prog_10_method_4_code
def yX8_findLeastStart : MethodName := ⟨RX8, "findLeastStart", "()V"⟩
abbrev cX8_isLessFrom : ByteArray := prog_10_method_5_code
def yX8_isLessFrom : MethodName := ⟨RX8, "isLessFrom", "(II)Z"⟩
abbrev cX8_count : ByteArray := prog_10_method_6_code
def yX8_count : MethodName := ⟨RX8, "count", "()I"⟩
abbrev cX8_runAt : ByteArray := prog_10_method_7_code
def yX8_runAt : MethodName := ⟨RX8, "runAt", "(I)I"⟩
abbrev cX8_letters : ByteArray := prog_10_method_8_code
def yX8_letters : MethodName := ⟨RX8, "letters", "()I"⟩
abbrev cX8_times : ByteArray := prog_10_method_9_code
def yX8_times : MethodName := ⟨RX8, "times", "()I"⟩
abbrev cX8_comesAgainAfter : ByteArray := prog_10_method_10_code
def yX8_comesAgainAfter : MethodName := ⟨RX8, "comesAgainAfter", "(I)Z"⟩
abbrev cX8_isSameAs : ByteArray := prog_10_method_11_code
def yX8_isSameAs : MethodName := ⟨RX8, "isSameAs", "(LMatrixKin$Wheel;)Z"⟩
def RX9 : String := "MatrixKin$Word"
def TX9 : u_T := fun k => match k with
  | _ => ("MatrixKin$Word", "whole", "LMatrixKin$Square;", true)
def tyX9 : Nat → FieldType := fun k => match k with
  | _ => .object "MatrixKin$Square"
abbrev wsX90 : List Cond := u_ws RX9 TX9 1
theorem nmX9 : ∀ a, a < 1 → ∀ b, b < 1 → a ≠ b → (TX9 a).2.1 ≠ (TX9 b).2.1 := by decide +kernel
theorem tyX9_ok : ∀ k, k < 1 → parseFieldDescriptor (TX9 k).2.2.1 = some (tyX9 k) := by decide +kernel
abbrev cX9_init : ByteArray := prog_11_method_1_code
def yX9_init : MethodName := ⟨RX9, "<init>", "()V"⟩
abbrev cX9_copyFrom : ByteArray := prog_11_method_2_code
def yX9_copyFrom : MethodName := ⟨RX9, "copyFrom", "(LMatrixKin$Square;)V"⟩
abbrev cX9_isEmpty : ByteArray := prog_11_method_3_code
def yX9_isEmpty : MethodName := ⟨RX9, "isEmpty", "()Z"⟩
abbrev cX9_beginsWithR : ByteArray := prog_11_method_4_code
def yX9_beginsWithR : MethodName := ⟨RX9, "beginsWithR", "()Z"⟩
abbrev cX9_firstRun : ByteArray := prog_11_method_5_code
def yX9_firstRun : MethodName := ⟨RX9, "firstRun", "(Z)J"⟩
abbrev cX9_dropFirstRun : ByteArray := prog_11_method_6_code
def yX9_dropFirstRun : MethodName := ⟨RX9, "dropFirstRun", "()J"⟩
abbrev cX9_turnFirstRun : ByteArray := prog_11_method_7_code
def yX9_turnFirstRun : MethodName := ⟨RX9, "turnFirstRun", "()J"⟩
abbrev cX9_turnsInFirstRun : ByteArray := prog_11_method_8_code
def yX9_turnsInFirstRun : MethodName := ⟨RX9, "turnsInFirstRun", "(LMatrixKin$Square;)J"⟩
abbrev cX9_stepsUpTo : ByteArray := prog_11_method_9_code
def yX9_stepsUpTo : MethodName := ⟨RX9, "stepsUpTo", "(JJJ)J"⟩
def RX10 : String := "MatrixKin"
def TX10 : u_T := fun k => match k with
  | 0 => ("MatrixKin", "shelf", "LMatrixKin$Shelf;", true)
  | 1 => ("MatrixKin", "past", "LMatrixKin$Past;", true)
  | 2 => ("MatrixKin", "text", "LMatrixKin$Text;", true)
  | 3 => ("MatrixKin", "book", "LMatrixKin$Book;", true)
  | 4 => ("MatrixKin", "judge", "LMatrixKin$Judge;", true)
  | 5 => ("MatrixKin", "images", "[LMatrixKin$Image;", true)
  | 6 => ("MatrixKin", "first", "LMatrixKin$Square;", true)
  | 7 => ("MatrixKin", "second", "LMatrixKin$Square;", true)
  | 8 => ("MatrixKin", "result", "LMatrixKin$Square;", true)
  | _ => ("MatrixKin", "seedNow", "I", false)
def tyX10 : Nat → FieldType := fun k => match k with
  | 0 => .object "MatrixKin$Shelf"
  | 1 => .object "MatrixKin$Past"
  | 2 => .object "MatrixKin$Text"
  | 3 => .object "MatrixKin$Book"
  | 4 => .object "MatrixKin$Judge"
  | 5 => .array (.object "MatrixKin$Image")
  | 6 => .object "MatrixKin$Square"
  | 7 => .object "MatrixKin$Square"
  | 8 => .object "MatrixKin$Square"
  | _ => .int
abbrev wsX100 : List Cond := u_ws RX10 TX10 10
theorem nmX10 : ∀ a, a < 10 → ∀ b, b < 10 → a ≠ b → (TX10 a).2.1 ≠ (TX10 b).2.1 := by decide +kernel
theorem tyX10_ok : ∀ k, k < 10 → parseFieldDescriptor (TX10 k).2.2.1 = some (tyX10 k) := by decide +kernel
abbrev cX10_init : ByteArray := prog_1_method_1_code
def yX10_init : MethodName := ⟨RX10, "<init>", "()V"⟩
abbrev cX10_feed : ByteArray := prog_1_method_2_code
def yX10_feed : MethodName := ⟨RX10, "feed", "(I)I"⟩
abbrev cX10_write : ByteArray := prog_1_method_3_code
def yX10_write : MethodName := ⟨RX10, "write", "()I"⟩
abbrev cX10_fault : ByteArray := prog_1_method_4_code
def yX10_fault : MethodName := ⟨RX10, "fault", "()I"⟩
abbrev cX10_put : ByteArray := prog_1_method_5_code
def yX10_put : MethodName := ⟨RX10, "put", "(IIII)I"⟩
abbrev cX10_told : ByteArray := prog_1_method_6_code
def yX10_told : MethodName := ⟨RX10, "told", "(I)I"⟩
abbrev cX10_firstWrong : ByteArray := prog_1_method_7_code
def yX10_firstWrong : MethodName := ⟨RX10, "firstWrong", "()I"⟩
abbrev cX10_number : ByteArray := prog_1_method_8_code
def yX10_number : MethodName := ⟨RX10, "number", "(II)I"⟩
abbrev cX10_square : ByteArray := prog_1_method_9_code
def yX10_square : MethodName := ⟨RX10, "square", "(II)I"⟩
abbrev cX10_run : ByteArray := prog_1_method_10_code
def yX10_run : MethodName := ⟨RX10, "run", "(II)I"⟩
abbrev cX10_multiply : ByteArray := prog_1_method_11_code
def yX10_multiply : MethodName := ⟨RX10, "multiply", "(II)I"⟩
abbrev cX10_back : ByteArray := prog_1_method_12_code
def yX10_back : MethodName := ⟨RX10, "back", "(I)I"⟩
abbrev cX10_carry : ByteArray := prog_1_method_13_code
def yX10_carry : MethodName := ⟨RX10, "carry", "(II)I"⟩
abbrev cX10_raise : ByteArray := prog_1_method_14_code
def yX10_raise : MethodName := ⟨RX10, "raise", "(II)I"⟩
abbrev cX10_take : ByteArray := prog_1_method_15_code
def yX10_take : MethodName := ⟨RX10, "take", "(I)I"⟩
abbrev cX10_drift : ByteArray := prog_1_method_16_code
def yX10_drift : MethodName := ⟨RX10, "drift", "(I)I"⟩
abbrev cX10_undo : ByteArray := prog_1_method_17_code
def yX10_undo : MethodName := ⟨RX10, "undo", "(I)I"⟩
abbrev cX10_place : ByteArray := prog_1_method_18_code
def yX10_place : MethodName := ⟨RX10, "place", "(LMatrixKin$Square;)I"⟩
abbrev cX10_exchange : ByteArray := prog_1_method_19_code
def yX10_exchange : MethodName := ⟨RX10, "exchange", "(ILMatrixKin$Square;)I"⟩
abbrev cX10_drawSquare : ByteArray := prog_1_method_20_code
def yX10_drawSquare : MethodName := ⟨RX10, "drawSquare", "(LMatrixKin$Square;)V"⟩
abbrev cX10_draw : ByteArray := prog_1_method_21_code
def yX10_draw : MethodName := ⟨RX10, "draw", "(I)I"⟩
abbrev cX10_pair : ByteArray := prog_1_method_22_code
def yX10_pair : MethodName := ⟨RX10, "pair", "(III)I"⟩
abbrev cX10_note : ByteArray := prog_1_method_23_code
def yX10_note : MethodName := ⟨RX10, "note", "(IIZ)I"⟩
abbrev cX10_tear : ByteArray := prog_1_method_24_code
def yX10_tear : MethodName := ⟨RX10, "tear", "()I"⟩
abbrev cX10_seed : ByteArray := prog_1_method_25_code
def yX10_seed : MethodName := ⟨RX10, "seed", "(I)I"⟩
abbrev cX10_keep : ByteArray := prog_1_method_26_code
def yX10_keep : MethodName := ⟨RX10, "keep", "(I)I"⟩
abbrev cX10_goBack : ByteArray := prog_1_method_27_code
def yX10_goBack : MethodName := ⟨RX10, "goBack", "(I)I"⟩
def RX11 : String := "MatrixKinModel"
def TX11 : u_T := fun k => match k with
  | 0 => ("MatrixKinModel", "now", "[I", true)
  | 1 => ("MatrixKinModel", "past", "[I", true)
  | 2 => ("MatrixKinModel", "undos", "I", false)
  | 3 => ("MatrixKinModel", "images", "[I", true)
  | 4 => ("MatrixKinModel", "isKept", "[Z", true)
  | 5 => ("MatrixKinModel", "seed", "I", false)
  | 6 => ("MatrixKinModel", "text", "[I", true)
  | 7 => ("MatrixKinModel", "length", "I", false)
  | 8 => ("MatrixKinModel", "faultAt", "I", false)
  | 9 => ("MatrixKinModel", "book", "[I", true)
  | 10 => ("MatrixKinModel", "entries", "I", false)
  | 11 => ("MatrixKinModel", "a", "J", false)
  | 12 => ("MatrixKinModel", "b", "J", false)
  | 13 => ("MatrixKinModel", "c", "J", false)
  | 14 => ("MatrixKinModel", "d", "J", false)
  | 15 => ("MatrixKinModel", "kind", "I", false)
  | 16 => ("MatrixKinModel", "trace", "J", false)
  | 17 => ("MatrixKinModel", "by", "J", false)
  | 18 => ("MatrixKinModel", "runs", "[I", true)
  | 19 => ("MatrixKinModel", "runMany", "I", false)
  | 20 => ("MatrixKinModel", "times", "I", false)
  | 21 => ("MatrixKinModel", "letters", "J", false)
  | 22 => ("MatrixKinModel", "begins", "J", false)
  | 23 => ("MatrixKinModel", "lettersOf", "[I", true)
  | 24 => ("MatrixKinModel", "turned", "[I", true)
  | 25 => ("MatrixKinModel", "sideways", "I", false)
  | 26 => ("MatrixKinModel", "kindThen", "I", false)
  | 27 => ("MatrixKinModel", "traceThen", "J", false)
  | 28 => ("MatrixKinModel", "byThen", "J", false)
  | 29 => ("MatrixKinModel", "sidewaysThen", "I", false)
  | 30 => ("MatrixKinModel", "runsThen", "I", false)
  | 31 => ("MatrixKinModel", "beginsThen", "J", false)
  | 32 => ("MatrixKinModel", "wheelThen", "[I", true)
  | _ => ("MatrixKinModel", "squareThen", "[J", true)
def tyX11 : Nat → FieldType := fun k => match k with
  | 0 => .array .int
  | 1 => .array .int
  | 2 => .int
  | 3 => .array .int
  | 4 => .array .boolean
  | 5 => .int
  | 6 => .array .int
  | 7 => .int
  | 8 => .int
  | 9 => .array .int
  | 10 => .int
  | 11 => .long
  | 12 => .long
  | 13 => .long
  | 14 => .long
  | 15 => .int
  | 16 => .long
  | 17 => .long
  | 18 => .array .int
  | 19 => .int
  | 20 => .int
  | 21 => .long
  | 22 => .long
  | 23 => .array .int
  | 24 => .array .int
  | 25 => .int
  | 26 => .int
  | 27 => .long
  | 28 => .long
  | 29 => .int
  | 30 => .int
  | 31 => .long
  | 32 => .array .int
  | _ => .array .long
abbrev wsX110 : List Cond := u_ws RX11 TX11 34
theorem nmX11 : ∀ a, a < 34 → ∀ b, b < 34 → a ≠ b → (TX11 a).2.1 ≠ (TX11 b).2.1 := by decide +kernel
theorem tyX11_ok : ∀ k, k < 34 → parseFieldDescriptor (TX11 k).2.2.1 = some (tyX11 k) := by decide +kernel
abbrev cX11_init : ByteArray := prog_13_method_1_code
def yX11_init : MethodName := ⟨RX11, "<init>", "()V"⟩
abbrev cX11_in : ByteArray := prog_13_method_3_code
def yX11_in : MethodName := ⟨RX11, "in", "(JJJ)Z"⟩
abbrev cX11_isBound : ByteArray := prog_13_method_4_code
def yX11_isBound : MethodName := ⟨RX11, "isBound", "(J)Z"⟩
abbrev cX11_bits : ByteArray := prog_13_method_5_code
def yX11_bits : MethodName := ⟨RX11, "bits", "(I)I"⟩
abbrev cX11_takes : ByteArray := prog_13_method_6_code
def yX11_takes : MethodName := ⟨RX11, "takes", "(JJJJ)V"⟩
abbrev cX11_takesFrom : ByteArray := prog_13_method_7_code
def yX11_takesFrom : MethodName := ⟨RX11, "takesFrom", "(I)V"⟩
abbrev cX11_multiplies : ByteArray := prog_13_method_8_code
def yX11_multiplies : MethodName := ⟨RX11, "multiplies", "(JJJJ)V"⟩
abbrev cX11_isWell : ByteArray := prog_13_method_9_code
def yX11_isWell : MethodName := ⟨RX11, "isWell", "()Z"⟩
abbrev cX11_isAt : ByteArray := prog_13_method_10_code
def yX11_isAt : MethodName := ⟨RX11, "isAt", "(I)Z"⟩
abbrev cX11_laysAt : ByteArray := prog_13_method_11_code
def yX11_laysAt : MethodName := ⟨RX11, "laysAt", "(I)V"⟩
abbrev cX11_comes : ByteArray := prog_13_method_12_code
def yX11_comes : MethodName := ⟨RX11, "comes", "(I)V"⟩
abbrev cX11_letterOf : ByteArray := prog_13_method_13_code
def yX11_letterOf : MethodName := ⟨RX11, "letterOf", "(I)I"⟩
abbrev cX11_feed : ByteArray := prog_13_method_14_code
def yX11_feed : MethodName := ⟨RX11, "feed", "(I)I"⟩
abbrev cX11_notes : ByteArray := prog_13_method_15_code
def yX11_notes : MethodName := ⟨RX11, "notes", "()V"⟩
abbrev cX11_puts : ByteArray := prog_13_method_16_code
def yX11_puts : MethodName := ⟨RX11, "puts", "()I"⟩
abbrev cX11_write : ByteArray := prog_13_method_17_code
def yX11_write : MethodName := ⟨RX11, "write", "()I"⟩
abbrev cX11_fault : ByteArray := prog_13_method_18_code
def yX11_fault : MethodName := ⟨RX11, "fault", "()I"⟩
abbrev cX11_put : ByteArray := prog_13_method_19_code
def yX11_put : MethodName := ⟨RX11, "put", "(IIII)I"⟩
abbrev cX11_isSquare : ByteArray := prog_13_method_20_code
def yX11_isSquare : MethodName := ⟨RX11, "isSquare", "(I)Z"⟩
abbrev cX11_far : ByteArray := prog_13_method_21_code
def yX11_far : MethodName := ⟨RX11, "far", "(J)J"⟩
abbrev cX11_divisor : ByteArray := prog_13_method_22_code
def yX11_divisor : MethodName := ⟨RX11, "divisor", "(JJ)J"⟩
abbrev cX11_root : ByteArray := prog_13_method_23_code
def yX11_root : MethodName := ⟨RX11, "root", "(J)J"⟩
abbrev cX11_floor : ByteArray := prog_13_method_24_code
def yX11_floor : MethodName := ⟨RX11, "floor", "(JJ)J"⟩
abbrev cX11_part : ByteArray := prog_13_method_25_code
def yX11_part : MethodName := ⟨RX11, "part", "(JJJ)J"⟩
abbrev cX11_carries : ByteArray := prog_13_method_26_code
def yX11_carries : MethodName := ⟨RX11, "carries", "()V"⟩
abbrev cX11_spells : ByteArray := prog_13_method_27_code
def yX11_spells : MethodName := ⟨RX11, "spells", "()V"⟩
abbrev cX11_isLess : ByteArray := prog_13_method_28_code
def yX11_isLess : MethodName := ⟨RX11, "isLess", "(II)Z"⟩
abbrev cX11_isLike : ByteArray := prog_13_method_29_code
def yX11_isLike : MethodName := ⟨RX11, "isLike", "(I)Z"⟩
abbrev cX11_turns : ByteArray := prog_13_method_30_code
def yX11_turns : MethodName := ⟨RX11, "turns", "()V"⟩
abbrev cX11_isOne : ByteArray := prog_13_method_31_code
def yX11_isOne : MethodName := ⟨RX11, "isOne", "()Z"⟩
abbrev cX11_changes : ByteArray := prog_13_method_32_code
def yX11_changes : MethodName := ⟨RX11, "changes", "()V"⟩
abbrev cX11_knows : ByteArray := prog_13_method_33_code
def yX11_knows : MethodName := ⟨RX11, "knows", "()V"⟩
abbrev cX11_putsAside : ByteArray := prog_13_method_34_code
def yX11_putsAside : MethodName := ⟨RX11, "putsAside", "()V"⟩
abbrev cX11_isAlike : ByteArray := prog_13_method_35_code
def yX11_isAlike : MethodName := ⟨RX11, "isAlike", "()Z"⟩
abbrev cX11_asides : ByteArray := prog_13_method_36_code
def yX11_asides : MethodName := ⟨RX11, "asides", "(I)V"⟩
abbrev cX11_areAlike : ByteArray := prog_13_method_37_code
def yX11_areAlike : MethodName := ⟨RX11, "areAlike", "(II)Z"⟩
abbrev cX11_isTwin : ByteArray := prog_13_method_38_code
def yX11_isTwin : MethodName := ⟨RX11, "isTwin", "(I)Z"⟩
abbrev cX11_isMirrored : ByteArray := prog_13_method_39_code
def yX11_isMirrored : MethodName := ⟨RX11, "isMirrored", "(I)Z"⟩
abbrev cX11_family : ByteArray := prog_13_method_40_code
def yX11_family : MethodName := ⟨RX11, "family", "(I)I"⟩
abbrev cX11_families : ByteArray := prog_13_method_41_code
def yX11_families : MethodName := ⟨RX11, "families", "(I)I"⟩
abbrev cX11_twins : ByteArray := prog_13_method_42_code
def yX11_twins : MethodName := ⟨RX11, "twins", "()I"⟩
abbrev cX11_wrong : ByteArray := prog_13_method_43_code
def yX11_wrong : MethodName := ⟨RX11, "wrong", "()I"⟩
abbrev cX11_told : ByteArray := prog_13_method_44_code
def yX11_told : MethodName := ⟨RX11, "told", "(I)I"⟩
abbrev cX11_number : ByteArray := prog_13_method_45_code
def yX11_number : MethodName := ⟨RX11, "number", "(II)I"⟩
abbrev cX11_order : ByteArray := prog_13_method_46_code
def yX11_order : MethodName := ⟨RX11, "order", "()I"⟩
abbrev cX11_ofSquare : ByteArray := prog_13_method_47_code
def yX11_ofSquare : MethodName := ⟨RX11, "ofSquare", "(II)I"⟩
abbrev cX11_square : ByteArray := prog_13_method_48_code
def yX11_square : MethodName := ⟨RX11, "square", "(II)I"⟩
abbrev cX11_run : ByteArray := prog_13_method_49_code
def yX11_run : MethodName := ⟨RX11, "run", "(II)I"⟩
abbrev cX11_multiply : ByteArray := prog_13_method_50_code
def yX11_multiply : MethodName := ⟨RX11, "multiply", "(II)I"⟩
abbrev cX11_becomes : ByteArray := prog_13_method_51_code
def yX11_becomes : MethodName := ⟨RX11, "becomes", "(I)I"⟩
abbrev cX11_back : ByteArray := prog_13_method_52_code
def yX11_back : MethodName := ⟨RX11, "back", "(I)I"⟩
abbrev cX11_carry : ByteArray := prog_13_method_53_code
def yX11_carry : MethodName := ⟨RX11, "carry", "(II)I"⟩
abbrev cX11_raise : ByteArray := prog_13_method_54_code
def yX11_raise : MethodName := ⟨RX11, "raise", "(II)I"⟩
abbrev cX11_take : ByteArray := prog_13_method_55_code
def yX11_take : MethodName := ⟨RX11, "take", "(I)I"⟩
abbrev cX11_draw : ByteArray := prog_13_method_56_code
def yX11_draw : MethodName := ⟨RX11, "draw", "(I)I"⟩
abbrev cX11_drift : ByteArray := prog_13_method_57_code
def yX11_drift : MethodName := ⟨RX11, "drift", "(I)I"⟩
abbrev cX11_undo : ByteArray := prog_13_method_58_code
def yX11_undo : MethodName := ⟨RX11, "undo", "(I)I"⟩
abbrev cX11_isProduct : ByteArray := prog_13_method_59_code
def yX11_isProduct : MethodName := ⟨RX11, "isProduct", "(I)Z"⟩
abbrev cX11_goTogether : ByteArray := prog_13_method_60_code
def yX11_goTogether : MethodName := ⟨RX11, "goTogether", "(II)Z"⟩
abbrev cX11_beginsOf : ByteArray := prog_13_method_61_code
def yX11_beginsOf : MethodName := ⟨RX11, "beginsOf", "(II)I"⟩
abbrev cX11_pair : ByteArray := prog_13_method_62_code
def yX11_pair : MethodName := ⟨RX11, "pair", "(III)I"⟩
abbrev cX11_note : ByteArray := prog_13_method_63_code
def yX11_note : MethodName := ⟨RX11, "note", "(IIZ)I"⟩
abbrev cX11_tear : ByteArray := prog_13_method_64_code
def yX11_tear : MethodName := ⟨RX11, "tear", "()I"⟩
abbrev cX11_seed : ByteArray := prog_13_method_65_code
def yX11_seed : MethodName := ⟨RX11, "seed", "(I)I"⟩
abbrev cX11_keep : ByteArray := prog_13_method_66_code
def yX11_keep : MethodName := ⟨RX11, "keep", "(I)I"⟩
abbrev cX11_goBack : ByteArray := prog_13_method_67_code
def yX11_goBack : MethodName := ⟨RX11, "goBack", "(I)I"⟩
def RJ6 : String := "java/lang/Integer"
abbrev cJ6_numberOfTrailingZeros_0f7a4 : ByteArray := prog_14_method_48_code
def yJ6_numberOfTrailingZeros_0f7a4 : MethodName := ⟨RJ6, "numberOfTrailingZeros", "(I)I"⟩
abbrev cJ6_bitCount_0f7a4 : ByteArray := prog_14_method_49_code
def yJ6_bitCount_0f7a4 : MethodName := ⟨RJ6, "bitCount", "(I)I"⟩
def RJ13 : String := "java/lang/Long"
abbrev cJ13_signum_95d88 : ByteArray := prog_15_method_57_code
def yJ13_signum_95d88 : MethodName := ⟨RJ13, "signum", "(J)I"⟩
def RJ9 : String := "java/lang/Math"
abbrev cJ9_floorDiv_f86c9 : ByteArray := prog_16_method_49_code
def yJ9_floorDiv_f86c9 : MethodName := ⟨RJ9, "floorDiv", "(JJ)J"⟩
abbrev cJ9_floorMod_7cf53 : ByteArray := prog_16_method_50_code
def yJ9_floorMod_7cf53 : MethodName := ⟨RJ9, "floorMod", "(II)I"⟩
abbrev cJ9_abs_067f4 : ByteArray := prog_16_method_61_code
def yJ9_abs_067f4 : MethodName := ⟨RJ9, "abs", "(J)J"⟩
abbrev cJ9_min_7cf53 : ByteArray := prog_16_method_69_code
def yJ9_min_7cf53 : MethodName := ⟨RJ9, "min", "(II)I"⟩
abbrev cJ9_min_f86c9 : ByteArray := prog_16_method_70_code
def yJ9_min_f86c9 : MethodName := ⟨RJ9, "min", "(JJ)J"⟩
def RJ0 : String := "java/lang/String"
abbrev cJ0_charAt_5068e : ByteArray := prog_17_method_56_code
def yJ0_charAt_5068e : MethodName := ⟨RJ0, "charAt", "(I)C"⟩
abbrev cJ0_isLatin1_aae02 : ByteArray := prog_17_method_154_code
def yJ0_isLatin1_aae02 : MethodName := ⟨RJ0, "isLatin1", "()Z"⟩
abbrev cJ0_checkIndex_df160 : ByteArray := prog_17_method_155_code
def yJ0_checkIndex_df160 : MethodName := ⟨RJ0, "checkIndex", "(II)V"⟩
def RJ1 : String := "java/lang/StringLatin1"
abbrev cJ1_charAt_3b067 : ByteArray := prog_18_method_2_code
def yJ1_charAt_3b067 : MethodName := ⟨RJ1, "charAt", "([BI)C"⟩
def RJ2 : String := "java/lang/StringUTF16"
abbrev cJ2_getChar_3b067 : ByteArray := prog_19_method_5_code
def yJ2_getChar_3b067 : MethodName := ⟨RJ2, "getChar", "([BI)C"⟩
abbrev cJ2_length_9d52b : ByteArray := prog_19_method_6_code
def yJ2_length_9d52b : MethodName := ⟨RJ2, "length", "([B)I"⟩
abbrev cJ2_charAt_3b067 : ByteArray := prog_19_method_83_code
def yJ2_charAt_3b067 : MethodName := ⟨RJ2, "charAt", "([BI)C"⟩
abbrev cJ2_checkIndex_2214a : ByteArray := prog_19_method_91_code
def yJ2_checkIndex_2214a : MethodName := ⟨RJ2, "checkIndex", "(I[B)V"⟩
def RJ10 : String := "java/lang/System"
def RJ3 : String := "jdk/internal/util/Preconditions"
abbrev cJ3_checkIndex_8e157 : ByteArray := prog_21_method_11_code
def yJ3_checkIndex_8e157 : MethodName := ⟨RJ3, "checkIndex", "(IILjava/util/function/BiFunction;)I"⟩
def RL : String := "MatrixKinLaw"
abbrev cL_law : ByteArray := code
abbrev vwCl : List vw_C := [(RX0, TX0, 4), (RX1, TX1, 3), (RX2, TX2, 7), (RX3, TX3, 4), (RX4, TX4, 3), (RX5, TX5, 2), (RX6, TX6, 4), (RX7, TX7, 3), (RX8, TX8, 5), (RX9, TX9, 1), (RX10, TX10, 10), (RX11, TX11, 34)]
