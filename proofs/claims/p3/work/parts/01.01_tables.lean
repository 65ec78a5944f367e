-- ===== PART A: goes FIRST, ahead of the names: the tables' words, and 'selects' of the private methods out of them =====
/-- a private method of a class that the tables say can be made, by its rows of tables_1 -/
def lw_okq (q : MethodName × Nat) : Prop := (q.1.cls ≠ "java/lang/invoke/MethodHandle" ∧ q.1.cls ≠ "java/lang/invoke/VarHandle") ∧ Cond.instantiable q.1.cls q.2 ∈ tables_1 ∧ Cond.privateMethod q.1 ∈ tables_1 ∧ Cond.instanceMethod q.1 ∈ tables_1
theorem lw_p0 : lw_okq (⟨"FootholdWall", "putOnTape", "(I)V"⟩, 20) := ⟨⟨by decide +kernel, by decide +kernel⟩, List.mem_of_getElem? (i := 25) (by decide +kernel), List.mem_of_getElem? (i := 426) (by decide +kernel), List.mem_of_getElem? (i := 427) (by decide +kernel)⟩
theorem lw_p1 : lw_okq (⟨"FootholdWall$Reader", "readLine", "()Z"⟩, 5) := ⟨⟨by decide +kernel, by decide +kernel⟩, List.mem_of_getElem? (i := 33) (by decide +kernel), List.mem_of_getElem? (i := 546) (by decide +kernel), List.mem_of_getElem? (i := 547) (by decide +kernel)⟩
theorem lw_p2 : lw_okq (⟨"FootholdWall$Reader", "readHold", "()Z"⟩, 5) := ⟨⟨by decide +kernel, by decide +kernel⟩, List.mem_of_getElem? (i := 33) (by decide +kernel), List.mem_of_getElem? (i := 576) (by decide +kernel), List.mem_of_getElem? (i := 577) (by decide +kernel)⟩
theorem lw_p3 : lw_okq (⟨"FootholdWall$Reader", "readFlag", "(I)Z"⟩, 5) := ⟨⟨by decide +kernel, by decide +kernel⟩, List.mem_of_getElem? (i := 33) (by decide +kernel), List.mem_of_getElem? (i := 590) (by decide +kernel), List.mem_of_getElem? (i := 591) (by decide +kernel)⟩
theorem lw_p4 : lw_okq (⟨"FootholdWall$Reader", "readGuide", "()Z"⟩, 5) := ⟨⟨by decide +kernel, by decide +kernel⟩, List.mem_of_getElem? (i := 33) (by decide +kernel), List.mem_of_getElem? (i := 599) (by decide +kernel), List.mem_of_getElem? (i := 600) (by decide +kernel)⟩
theorem lw_p5 : lw_okq (⟨"FootholdWall$LawReader", "readTruth", "(I)Z"⟩, 3) := ⟨⟨by decide +kernel, by decide +kernel⟩, List.mem_of_getElem? (i := 77) (by decide +kernel), List.mem_of_getElem? (i := 623) (by decide +kernel), List.mem_of_getElem? (i := 624) (by decide +kernel)⟩
theorem lw_p6 : lw_okq (⟨"FootholdWall$LawReader", "readBoth", "(I)Z"⟩, 3) := ⟨⟨by decide +kernel, by decide +kernel⟩, List.mem_of_getElem? (i := 77) (by decide +kernel), List.mem_of_getElem? (i := 627) (by decide +kernel), List.mem_of_getElem? (i := 628) (by decide +kernel)⟩
theorem lw_p7 : lw_okq (⟨"FootholdWall$LawReader", "readUnit", "(I)Z"⟩, 3) := ⟨⟨by decide +kernel, by decide +kernel⟩, List.mem_of_getElem? (i := 77) (by decide +kernel), List.mem_of_getElem? (i := 631) (by decide +kernel), List.mem_of_getElem? (i := 632) (by decide +kernel)⟩
theorem lw_p8 : lw_okq (⟨"FootholdWall$LawReader", "enter", "(I)Z"⟩, 3) := ⟨⟨by decide +kernel, by decide +kernel⟩, List.mem_of_getElem? (i := 77) (by decide +kernel), List.mem_of_getElem? (i := 637) (by decide +kernel), List.mem_of_getElem? (i := 638) (by decide +kernel)⟩
theorem lw_p9 : lw_okq (⟨"FootholdWall$LawReader", "put", "(II)V"⟩, 3) := ⟨⟨by decide +kernel, by decide +kernel⟩, List.mem_of_getElem? (i := 77) (by decide +kernel), List.mem_of_getElem? (i := 643) (by decide +kernel), List.mem_of_getElem? (i := 644) (by decide +kernel)⟩
theorem lw_p10 : lw_okq (⟨"FootholdWall$LawReader", "readSum", "(I)Z"⟩, 3) := ⟨⟨by decide +kernel, by decide +kernel⟩, List.mem_of_getElem? (i := 77) (by decide +kernel), List.mem_of_getElem? (i := 649) (by decide +kernel), List.mem_of_getElem? (i := 650) (by decide +kernel)⟩
theorem lw_p11 : lw_okq (⟨"FootholdWall$LawReader", "readTerm", "(I)Z"⟩, 3) := ⟨⟨by decide +kernel, by decide +kernel⟩, List.mem_of_getElem? (i := 77) (by decide +kernel), List.mem_of_getElem? (i := 653) (by decide +kernel), List.mem_of_getElem? (i := 654) (by decide +kernel)⟩
theorem lw_p12 : lw_okq (⟨"FootholdWall$LawReader", "readAtom", "(I)Z"⟩, 3) := ⟨⟨by decide +kernel, by decide +kernel⟩, List.mem_of_getElem? (i := 77) (by decide +kernel), List.mem_of_getElem? (i := 657) (by decide +kernel), List.mem_of_getElem? (i := 658) (by decide +kernel)⟩
theorem lw_p13 : lw_okq (⟨"FootholdWall$LawReader", "factHere", "()I"⟩, 3) := ⟨⟨by decide +kernel, by decide +kernel⟩, List.mem_of_getElem? (i := 77) (by decide +kernel), List.mem_of_getElem? (i := 661) (by decide +kernel), List.mem_of_getElem? (i := 662) (by decide +kernel)⟩
theorem lw_p14 : lw_okq (⟨"FootholdWall$LawReader", "aimSkip", "(I)V"⟩, 3) := ⟨⟨by decide +kernel, by decide +kernel⟩, List.mem_of_getElem? (i := 77) (by decide +kernel), List.mem_of_getElem? (i := 673) (by decide +kernel), List.mem_of_getElem? (i := 674) (by decide +kernel)⟩
theorem lw_p15 : lw_okq (⟨"FootholdWall$Reader", "readUsed", "()Z"⟩, 5) := ⟨⟨by decide +kernel, by decide +kernel⟩, List.mem_of_getElem? (i := 33) (by decide +kernel), List.mem_of_getElem? (i := 679) (by decide +kernel), List.mem_of_getElem? (i := 680) (by decide +kernel)⟩
def lw_privs_1 : List (MethodName × Nat) := [(⟨"FootholdWall", "putOnTape", "(I)V"⟩, 20), (⟨"FootholdWall$Reader", "readLine", "()Z"⟩, 5), (⟨"FootholdWall$Reader", "readHold", "()Z"⟩, 5), (⟨"FootholdWall$Reader", "readFlag", "(I)Z"⟩, 5), (⟨"FootholdWall$Reader", "readGuide", "()Z"⟩, 5), (⟨"FootholdWall$LawReader", "readTruth", "(I)Z"⟩, 3), (⟨"FootholdWall$LawReader", "readBoth", "(I)Z"⟩, 3), (⟨"FootholdWall$LawReader", "readUnit", "(I)Z"⟩, 3), (⟨"FootholdWall$LawReader", "enter", "(I)Z"⟩, 3), (⟨"FootholdWall$LawReader", "put", "(II)V"⟩, 3), (⟨"FootholdWall$LawReader", "readSum", "(I)Z"⟩, 3), (⟨"FootholdWall$LawReader", "readTerm", "(I)Z"⟩, 3), (⟨"FootholdWall$LawReader", "readAtom", "(I)Z"⟩, 3), (⟨"FootholdWall$LawReader", "factHere", "()I"⟩, 3), (⟨"FootholdWall$LawReader", "aimSkip", "(I)V"⟩, 3), (⟨"FootholdWall$Reader", "readUsed", "()Z"⟩, 5)]
theorem lw_r1 : ∀ q ∈ lw_privs_1, lw_okq q := List.forall_mem_cons.mpr ⟨lw_p0, List.forall_mem_cons.mpr ⟨lw_p1, List.forall_mem_cons.mpr ⟨lw_p2, List.forall_mem_cons.mpr ⟨lw_p3, List.forall_mem_cons.mpr ⟨lw_p4, List.forall_mem_cons.mpr ⟨lw_p5, List.forall_mem_cons.mpr ⟨lw_p6, List.forall_mem_cons.mpr ⟨lw_p7, List.forall_mem_cons.mpr ⟨lw_p8, List.forall_mem_cons.mpr ⟨lw_p9, List.forall_mem_cons.mpr ⟨lw_p10, List.forall_mem_cons.mpr ⟨lw_p11, List.forall_mem_cons.mpr ⟨lw_p12, List.forall_mem_cons.mpr ⟨lw_p13, List.forall_mem_cons.mpr ⟨lw_p14, List.forall_mem_cons.mpr ⟨lw_p15, fun _ h => absurd h List.not_mem_nil⟩⟩⟩⟩⟩⟩⟩⟩⟩⟩⟩⟩⟩⟩⟩⟩
theorem lw_p16 : lw_okq (⟨"FootholdWall$Reader", "readBroken", "()Z"⟩, 5) := ⟨⟨by decide +kernel, by decide +kernel⟩, List.mem_of_getElem? (i := 33) (by decide +kernel), List.mem_of_getElem? (i := 699) (by decide +kernel), List.mem_of_getElem? (i := 700) (by decide +kernel)⟩
theorem lw_p17 : lw_okq (⟨"FootholdWall", "isHold", "(I)Z"⟩, 20) := ⟨⟨by decide +kernel, by decide +kernel⟩, List.mem_of_getElem? (i := 25) (by decide +kernel), List.mem_of_getElem? (i := 771) (by decide +kernel), List.mem_of_getElem? (i := 772) (by decide +kernel)⟩
theorem lw_p18 : lw_okq (⟨"FootholdWall", "thereOn", "(I)I"⟩, 20) := ⟨⟨by decide +kernel, by decide +kernel⟩, List.mem_of_getElem? (i := 25) (by decide +kernel), List.mem_of_getElem? (i := 775) (by decide +kernel), List.mem_of_getElem? (i := 776) (by decide +kernel)⟩
theorem lw_p19 : lw_okq (⟨"FootholdWall", "openOn", "(I)I"⟩, 20) := ⟨⟨by decide +kernel, by decide +kernel⟩, List.mem_of_getElem? (i := 25) (by decide +kernel), List.mem_of_getElem? (i := 783) (by decide +kernel), List.mem_of_getElem? (i := 784) (by decide +kernel)⟩
theorem lw_p20 : lw_okq (⟨"FootholdWall", "isGuide", "(I)Z"⟩, 20) := ⟨⟨by decide +kernel, by decide +kernel⟩, List.mem_of_getElem? (i := 25) (by decide +kernel), List.mem_of_getElem? (i := 795) (by decide +kernel), List.mem_of_getElem? (i := 796) (by decide +kernel)⟩
theorem lw_p21 : lw_okq (⟨"FootholdWall", "rowsOf", "(I)LFootholdWall$Rows;"⟩, 20) := ⟨⟨by decide +kernel, by decide +kernel⟩, List.mem_of_getElem? (i := 25) (by decide +kernel), List.mem_of_getElem? (i := 831) (by decide +kernel), List.mem_of_getElem? (i := 832) (by decide +kernel)⟩
theorem lw_p22 : lw_okq (⟨"FootholdWall", "openNow", "()I"⟩, 20) := ⟨⟨by decide +kernel, by decide +kernel⟩, List.mem_of_getElem? (i := 25) (by decide +kernel), List.mem_of_getElem? (i := 847) (by decide +kernel), List.mem_of_getElem? (i := 848) (by decide +kernel)⟩
theorem lw_p23 : lw_okq (⟨"FootholdWall", "verdictOn", "(LFootholdWall$Tray;)I"⟩, 20) := ⟨⟨by decide +kernel, by decide +kernel⟩, List.mem_of_getElem? (i := 25) (by decide +kernel), List.mem_of_getElem? (i := 879) (by decide +kernel), List.mem_of_getElem? (i := 880) (by decide +kernel)⟩
theorem lw_p24 : lw_okq (⟨"FootholdWall", "toldSet", "(LFootholdWall$Tray;)I"⟩, 20) := ⟨⟨by decide +kernel, by decide +kernel⟩, List.mem_of_getElem? (i := 25) (by decide +kernel), List.mem_of_getElem? (i := 889) (by decide +kernel), List.mem_of_getElem? (i := 890) (by decide +kernel)⟩
theorem lw_p25 : lw_okq (⟨"FootholdWall", "remember", "()V"⟩, 20) := ⟨⟨by decide +kernel, by decide +kernel⟩, List.mem_of_getElem? (i := 25) (by decide +kernel), List.mem_of_getElem? (i := 900) (by decide +kernel), List.mem_of_getElem? (i := 901) (by decide +kernel)⟩
theorem lw_p26 : lw_okq (⟨"FootholdWall", "goUp", "(I)I"⟩, 20) := ⟨⟨by decide +kernel, by decide +kernel⟩, List.mem_of_getElem? (i := 25) (by decide +kernel), List.mem_of_getElem? (i := 909) (by decide +kernel), List.mem_of_getElem? (i := 910) (by decide +kernel)⟩
theorem lw_p27 : lw_okq (⟨"FootholdWall$Ways", "findLayers", "(LFootholdWall$Rows;I)I"⟩, 7) := ⟨⟨by decide +kernel, by decide +kernel⟩, List.mem_of_getElem? (i := 267) (by decide +kernel), List.mem_of_getElem? (i := 917) (by decide +kernel), List.mem_of_getElem? (i := 918) (by decide +kernel)⟩
theorem lw_p28 : lw_okq (⟨"FootholdWall$Ways", "keepLeading", "(LFootholdWall$Rows;I)V"⟩, 7) := ⟨⟨by decide +kernel, by decide +kernel⟩, List.mem_of_getElem? (i := 267) (by decide +kernel), List.mem_of_getElem? (i := 922) (by decide +kernel), List.mem_of_getElem? (i := 923) (by decide +kernel)⟩
theorem lw_p29 : lw_okq (⟨"FootholdWall$Ways", "numberFromAll", "(I)J"⟩, 7) := ⟨⟨by decide +kernel, by decide +kernel⟩, List.mem_of_getElem? (i := 267) (by decide +kernel), List.mem_of_getElem? (i := 985) (by decide +kernel), List.mem_of_getElem? (i := 986) (by decide +kernel)⟩
theorem lw_p30 : lw_okq (⟨"FootholdWall$Ways", "climbsOn", "(LFootholdWall$Rows;III)J"⟩, 7) := ⟨⟨by decide +kernel, by decide +kernel⟩, List.mem_of_getElem? (i := 267) (by decide +kernel), List.mem_of_getElem? (i := 1003) (by decide +kernel), List.mem_of_getElem? (i := 1004) (by decide +kernel)⟩
theorem lw_p31 : lw_okq (⟨"FootholdWall$Ways", "endingFrom", "(I)I"⟩, 7) := ⟨⟨by decide +kernel, by decide +kernel⟩, List.mem_of_getElem? (i := 267) (by decide +kernel), List.mem_of_getElem? (i := 1007) (by decide +kernel), List.mem_of_getElem? (i := 1008) (by decide +kernel)⟩
def lw_privs_2 : List (MethodName × Nat) := [(⟨"FootholdWall$Reader", "readBroken", "()Z"⟩, 5), (⟨"FootholdWall", "isHold", "(I)Z"⟩, 20), (⟨"FootholdWall", "thereOn", "(I)I"⟩, 20), (⟨"FootholdWall", "openOn", "(I)I"⟩, 20), (⟨"FootholdWall", "isGuide", "(I)Z"⟩, 20), (⟨"FootholdWall", "rowsOf", "(I)LFootholdWall$Rows;"⟩, 20), (⟨"FootholdWall", "openNow", "()I"⟩, 20), (⟨"FootholdWall", "verdictOn", "(LFootholdWall$Tray;)I"⟩, 20), (⟨"FootholdWall", "toldSet", "(LFootholdWall$Tray;)I"⟩, 20), (⟨"FootholdWall", "remember", "()V"⟩, 20), (⟨"FootholdWall", "goUp", "(I)I"⟩, 20), (⟨"FootholdWall$Ways", "findLayers", "(LFootholdWall$Rows;I)I"⟩, 7), (⟨"FootholdWall$Ways", "keepLeading", "(LFootholdWall$Rows;I)V"⟩, 7), (⟨"FootholdWall$Ways", "numberFromAll", "(I)J"⟩, 7), (⟨"FootholdWall$Ways", "climbsOn", "(LFootholdWall$Rows;III)J"⟩, 7), (⟨"FootholdWall$Ways", "endingFrom", "(I)I"⟩, 7)]
theorem lw_r2 : ∀ q ∈ lw_privs_2, lw_okq q := List.forall_mem_cons.mpr ⟨lw_p16, List.forall_mem_cons.mpr ⟨lw_p17, List.forall_mem_cons.mpr ⟨lw_p18, List.forall_mem_cons.mpr ⟨lw_p19, List.forall_mem_cons.mpr ⟨lw_p20, List.forall_mem_cons.mpr ⟨lw_p21, List.forall_mem_cons.mpr ⟨lw_p22, List.forall_mem_cons.mpr ⟨lw_p23, List.forall_mem_cons.mpr ⟨lw_p24, List.forall_mem_cons.mpr ⟨lw_p25, List.forall_mem_cons.mpr ⟨lw_p26, List.forall_mem_cons.mpr ⟨lw_p27, List.forall_mem_cons.mpr ⟨lw_p28, List.forall_mem_cons.mpr ⟨lw_p29, List.forall_mem_cons.mpr ⟨lw_p30, List.forall_mem_cons.mpr ⟨lw_p31, fun _ h => absurd h List.not_mem_nil⟩⟩⟩⟩⟩⟩⟩⟩⟩⟩⟩⟩⟩⟩⟩⟩
theorem lw_p32 : lw_okq (⟨"FootholdWall$Cut", "layOneMore", "(II)Z"⟩, 7) := ⟨⟨by decide +kernel, by decide +kernel⟩, List.mem_of_getElem? (i := 297) (by decide +kernel), List.mem_of_getElem? (i := 1021) (by decide +kernel), List.mem_of_getElem? (i := 1022) (by decide +kernel)⟩
theorem lw_p33 : lw_okq (⟨"FootholdWall$Cut", "visit", "(II)V"⟩, 7) := ⟨⟨by decide +kernel, by decide +kernel⟩, List.mem_of_getElem? (i := 297) (by decide +kernel), List.mem_of_getElem? (i := 1025) (by decide +kernel), List.mem_of_getElem? (i := 1026) (by decide +kernel)⟩
theorem lw_p34 : lw_okq (⟨"FootholdWall$Cut", "visitBeyond", "(II)V"⟩, 7) := ⟨⟨by decide +kernel, by decide +kernel⟩, List.mem_of_getElem? (i := 297) (by decide +kernel), List.mem_of_getElem? (i := 1029) (by decide +kernel), List.mem_of_getElem? (i := 1030) (by decide +kernel)⟩
theorem lw_p35 : lw_okq (⟨"FootholdWall$Cut", "lay", "(I)V"⟩, 7) := ⟨⟨by decide +kernel, by decide +kernel⟩, List.mem_of_getElem? (i := 297) (by decide +kernel), List.mem_of_getElem? (i := 1033) (by decide +kernel), List.mem_of_getElem? (i := 1034) (by decide +kernel)⟩
theorem lw_p36 : lw_okq (⟨"FootholdWall$Cut", "visitNear", "(II)V"⟩, 7) := ⟨⟨by decide +kernel, by decide +kernel⟩, List.mem_of_getElem? (i := 297) (by decide +kernel), List.mem_of_getElem? (i := 1037) (by decide +kernel), List.mem_of_getElem? (i := 1038) (by decide +kernel)⟩
theorem lw_p37 : lw_okq (⟨"FootholdWall", "needs", "(II)Z"⟩, 20) := ⟨⟨by decide +kernel, by decide +kernel⟩, List.mem_of_getElem? (i := 25) (by decide +kernel), List.mem_of_getElem? (i := 1056) (by decide +kernel), List.mem_of_getElem? (i := 1057) (by decide +kernel)⟩
theorem lw_p38 : lw_okq (⟨"FootholdWall$Chains", "prepare", "(LFootholdWall$Rows;II)V"⟩, 4) := ⟨⟨by decide +kernel, by decide +kernel⟩, List.mem_of_getElem? (i := 325) (by decide +kernel), List.mem_of_getElem? (i := 1077) (by decide +kernel), List.mem_of_getElem? (i := 1078) (by decide +kernel)⟩
theorem lw_p39 : lw_okq (⟨"FootholdWall$Chains", "growFrom", "(I)V"⟩, 4) := ⟨⟨by decide +kernel, by decide +kernel⟩, List.mem_of_getElem? (i := 325) (by decide +kernel), List.mem_of_getElem? (i := 1090) (by decide +kernel), List.mem_of_getElem? (i := 1091) (by decide +kernel)⟩
theorem lw_p40 : lw_okq (⟨"FootholdWall$Chains", "begunOver", "(III)I"⟩, 4) := ⟨⟨by decide +kernel, by decide +kernel⟩, List.mem_of_getElem? (i := 325) (by decide +kernel), List.mem_of_getElem? (i := 1142) (by decide +kernel), List.mem_of_getElem? (i := 1143) (by decide +kernel)⟩
theorem lw_p41 : lw_okq (⟨"FootholdWall$Ways", "leastFromAny", "(I)I"⟩, 7) := ⟨⟨by decide +kernel, by decide +kernel⟩, List.mem_of_getElem? (i := 267) (by decide +kernel), List.mem_of_getElem? (i := 1156) (by decide +kernel), List.mem_of_getElem? (i := 1157) (by decide +kernel)⟩
theorem lw_p42 : lw_okq (⟨"FootholdWall", "takeTurns", "(IIII)V"⟩, 20) := ⟨⟨by decide +kernel, by decide +kernel⟩, List.mem_of_getElem? (i := 25) (by decide +kernel), List.mem_of_getElem? (i := 1169) (by decide +kernel), List.mem_of_getElem? (i := 1170) (by decide +kernel)⟩
theorem lw_p43 : lw_okq (⟨"FootholdWallModel", "next", "()V"⟩, 36) := ⟨⟨by decide +kernel, by decide +kernel⟩, List.mem_of_getElem? (i := 1214) (by decide +kernel), List.mem_of_getElem? (i := 1345) (by decide +kernel), List.mem_of_getElem? (i := 1346) (by decide +kernel)⟩
theorem lw_p44 : lw_okq (⟨"FootholdWallModel", "see", "(I)I"⟩, 36) := ⟨⟨by decide +kernel, by decide +kernel⟩, List.mem_of_getElem? (i := 1214) (by decide +kernel), List.mem_of_getElem? (i := 1349) (by decide +kernel), List.mem_of_getElem? (i := 1350) (by decide +kernel)⟩
theorem lw_p45 : lw_okq (⟨"FootholdWallModel", "keyAt", "()I"⟩, 36) := ⟨⟨by decide +kernel, by decide +kernel⟩, List.mem_of_getElem? (i := 1214) (by decide +kernel), List.mem_of_getElem? (i := 1356) (by decide +kernel), List.mem_of_getElem? (i := 1357) (by decide +kernel)⟩
theorem lw_p46 : lw_okq (⟨"FootholdWallModel", "readLine", "()V"⟩, 36) := ⟨⟨by decide +kernel, by decide +kernel⟩, List.mem_of_getElem? (i := 1214) (by decide +kernel), List.mem_of_getElem? (i := 1367) (by decide +kernel), List.mem_of_getElem? (i := 1368) (by decide +kernel)⟩
theorem lw_p47 : lw_okq (⟨"FootholdWallModel", "is", "(I)Z"⟩, 36) := ⟨⟨by decide +kernel, by decide +kernel⟩, List.mem_of_getElem? (i := 1214) (by decide +kernel), List.mem_of_getElem? (i := 1371) (by decide +kernel), List.mem_of_getElem? (i := 1372) (by decide +kernel)⟩
def lw_privs_3 : List (MethodName × Nat) := [(⟨"FootholdWall$Cut", "layOneMore", "(II)Z"⟩, 7), (⟨"FootholdWall$Cut", "visit", "(II)V"⟩, 7), (⟨"FootholdWall$Cut", "visitBeyond", "(II)V"⟩, 7), (⟨"FootholdWall$Cut", "lay", "(I)V"⟩, 7), (⟨"FootholdWall$Cut", "visitNear", "(II)V"⟩, 7), (⟨"FootholdWall", "needs", "(II)Z"⟩, 20), (⟨"FootholdWall$Chains", "prepare", "(LFootholdWall$Rows;II)V"⟩, 4), (⟨"FootholdWall$Chains", "growFrom", "(I)V"⟩, 4), (⟨"FootholdWall$Chains", "begunOver", "(III)I"⟩, 4), (⟨"FootholdWall$Ways", "leastFromAny", "(I)I"⟩, 7), (⟨"FootholdWall", "takeTurns", "(IIII)V"⟩, 20), (⟨"FootholdWallModel", "next", "()V"⟩, 36), (⟨"FootholdWallModel", "see", "(I)I"⟩, 36), (⟨"FootholdWallModel", "keyAt", "()I"⟩, 36), (⟨"FootholdWallModel", "readLine", "()V"⟩, 36), (⟨"FootholdWallModel", "is", "(I)Z"⟩, 36)]
theorem lw_r3 : ∀ q ∈ lw_privs_3, lw_okq q := List.forall_mem_cons.mpr ⟨lw_p32, List.forall_mem_cons.mpr ⟨lw_p33, List.forall_mem_cons.mpr ⟨lw_p34, List.forall_mem_cons.mpr ⟨lw_p35, List.forall_mem_cons.mpr ⟨lw_p36, List.forall_mem_cons.mpr ⟨lw_p37, List.forall_mem_cons.mpr ⟨lw_p38, List.forall_mem_cons.mpr ⟨lw_p39, List.forall_mem_cons.mpr ⟨lw_p40, List.forall_mem_cons.mpr ⟨lw_p41, List.forall_mem_cons.mpr ⟨lw_p42, List.forall_mem_cons.mpr ⟨lw_p43, List.forall_mem_cons.mpr ⟨lw_p44, List.forall_mem_cons.mpr ⟨lw_p45, List.forall_mem_cons.mpr ⟨lw_p46, List.forall_mem_cons.mpr ⟨lw_p47, fun _ h => absurd h List.not_mem_nil⟩⟩⟩⟩⟩⟩⟩⟩⟩⟩⟩⟩⟩⟩⟩⟩
theorem lw_p48 : lw_okq (⟨"FootholdWallModel", "readHold", "()V"⟩, 36) := ⟨⟨by decide +kernel, by decide +kernel⟩, List.mem_of_getElem? (i := 1214) (by decide +kernel), List.mem_of_getElem? (i := 1375) (by decide +kernel), List.mem_of_getElem? (i := 1376) (by decide +kernel)⟩
theorem lw_p49 : lw_okq (⟨"FootholdWallModel", "fails", "(I)V"⟩, 36) := ⟨⟨by decide +kernel, by decide +kernel⟩, List.mem_of_getElem? (i := 1214) (by decide +kernel), List.mem_of_getElem? (i := 1379) (by decide +kernel), List.mem_of_getElem? (i := 1380) (by decide +kernel)⟩
theorem lw_p50 : lw_okq (⟨"FootholdWallModel", "takes", "(II)I"⟩, 36) := ⟨⟨by decide +kernel, by decide +kernel⟩, List.mem_of_getElem? (i := 1214) (by decide +kernel), List.mem_of_getElem? (i := 1383) (by decide +kernel), List.mem_of_getElem? (i := 1384) (by decide +kernel)⟩
theorem lw_p51 : lw_okq (⟨"FootholdWallModel", "readFlag", "(I)Z"⟩, 36) := ⟨⟨by decide +kernel, by decide +kernel⟩, List.mem_of_getElem? (i := 1214) (by decide +kernel), List.mem_of_getElem? (i := 1387) (by decide +kernel), List.mem_of_getElem? (i := 1388) (by decide +kernel)⟩
theorem lw_p52 : lw_okq (⟨"FootholdWallModel", "eats", "(I)Z"⟩, 36) := ⟨⟨by decide +kernel, by decide +kernel⟩, List.mem_of_getElem? (i := 1214) (by decide +kernel), List.mem_of_getElem? (i := 1391) (by decide +kernel), List.mem_of_getElem? (i := 1392) (by decide +kernel)⟩
theorem lw_p53 : lw_okq (⟨"FootholdWallModel", "readGuide", "()V"⟩, 36) := ⟨⟨by decide +kernel, by decide +kernel⟩, List.mem_of_getElem? (i := 1214) (by decide +kernel), List.mem_of_getElem? (i := 1395) (by decide +kernel), List.mem_of_getElem? (i := 1396) (by decide +kernel)⟩
theorem lw_p54 : lw_okq (⟨"FootholdWallModel", "readStep", "()V"⟩, 36) := ⟨⟨by decide +kernel, by decide +kernel⟩, List.mem_of_getElem? (i := 1214) (by decide +kernel), List.mem_of_getElem? (i := 1399) (by decide +kernel), List.mem_of_getElem? (i := 1400) (by decide +kernel)⟩
theorem lw_p55 : lw_okq (⟨"FootholdWallModel", "readTruth", "(I)V"⟩, 36) := ⟨⟨by decide +kernel, by decide +kernel⟩, List.mem_of_getElem? (i := 1214) (by decide +kernel), List.mem_of_getElem? (i := 1403) (by decide +kernel), List.mem_of_getElem? (i := 1404) (by decide +kernel)⟩
theorem lw_p56 : lw_okq (⟨"FootholdWallModel", "readBoth", "(I)V"⟩, 36) := ⟨⟨by decide +kernel, by decide +kernel⟩, List.mem_of_getElem? (i := 1214) (by decide +kernel), List.mem_of_getElem? (i := 1407) (by decide +kernel), List.mem_of_getElem? (i := 1408) (by decide +kernel)⟩
theorem lw_p57 : lw_okq (⟨"FootholdWallModel", "readUnit", "(I)V"⟩, 36) := ⟨⟨by decide +kernel, by decide +kernel⟩, List.mem_of_getElem? (i := 1214) (by decide +kernel), List.mem_of_getElem? (i := 1411) (by decide +kernel), List.mem_of_getElem? (i := 1412) (by decide +kernel)⟩
theorem lw_p58 : lw_okq (⟨"FootholdWallModel", "goesIn", "(I)Z"⟩, 36) := ⟨⟨by decide +kernel, by decide +kernel⟩, List.mem_of_getElem? (i := 1214) (by decide +kernel), List.mem_of_getElem? (i := 1415) (by decide +kernel), List.mem_of_getElem? (i := 1416) (by decide +kernel)⟩
theorem lw_p59 : lw_okq (⟨"FootholdWallModel", "codes", "(I)V"⟩, 36) := ⟨⟨by decide +kernel, by decide +kernel⟩, List.mem_of_getElem? (i := 1214) (by decide +kernel), List.mem_of_getElem? (i := 1419) (by decide +kernel), List.mem_of_getElem? (i := 1420) (by decide +kernel)⟩
theorem lw_p60 : lw_okq (⟨"FootholdWallModel", "readSum", "(I)V"⟩, 36) := ⟨⟨by decide +kernel, by decide +kernel⟩, List.mem_of_getElem? (i := 1214) (by decide +kernel), List.mem_of_getElem? (i := 1423) (by decide +kernel), List.mem_of_getElem? (i := 1424) (by decide +kernel)⟩
theorem lw_p61 : lw_okq (⟨"FootholdWallModel", "readTerm", "(I)V"⟩, 36) := ⟨⟨by decide +kernel, by decide +kernel⟩, List.mem_of_getElem? (i := 1214) (by decide +kernel), List.mem_of_getElem? (i := 1427) (by decide +kernel), List.mem_of_getElem? (i := 1428) (by decide +kernel)⟩
theorem lw_p62 : lw_okq (⟨"FootholdWallModel", "readAtom", "(I)V"⟩, 36) := ⟨⟨by decide +kernel, by decide +kernel⟩, List.mem_of_getElem? (i := 1214) (by decide +kernel), List.mem_of_getElem? (i := 1431) (by decide +kernel), List.mem_of_getElem? (i := 1432) (by decide +kernel)⟩
theorem lw_p63 : lw_okq (⟨"FootholdWallModel", "readUsed", "()V"⟩, 36) := ⟨⟨by decide +kernel, by decide +kernel⟩, List.mem_of_getElem? (i := 1214) (by decide +kernel), List.mem_of_getElem? (i := 1437) (by decide +kernel), List.mem_of_getElem? (i := 1438) (by decide +kernel)⟩
def lw_privs_4 : List (MethodName × Nat) := [(⟨"FootholdWallModel", "readHold", "()V"⟩, 36), (⟨"FootholdWallModel", "fails", "(I)V"⟩, 36), (⟨"FootholdWallModel", "takes", "(II)I"⟩, 36), (⟨"FootholdWallModel", "readFlag", "(I)Z"⟩, 36), (⟨"FootholdWallModel", "eats", "(I)Z"⟩, 36), (⟨"FootholdWallModel", "readGuide", "()V"⟩, 36), (⟨"FootholdWallModel", "readStep", "()V"⟩, 36), (⟨"FootholdWallModel", "readTruth", "(I)V"⟩, 36), (⟨"FootholdWallModel", "readBoth", "(I)V"⟩, 36), (⟨"FootholdWallModel", "readUnit", "(I)V"⟩, 36), (⟨"FootholdWallModel", "goesIn", "(I)Z"⟩, 36), (⟨"FootholdWallModel", "codes", "(I)V"⟩, 36), (⟨"FootholdWallModel", "readSum", "(I)V"⟩, 36), (⟨"FootholdWallModel", "readTerm", "(I)V"⟩, 36), (⟨"FootholdWallModel", "readAtom", "(I)V"⟩, 36), (⟨"FootholdWallModel", "readUsed", "()V"⟩, 36)]
theorem lw_r4 : ∀ q ∈ lw_privs_4, lw_okq q := List.forall_mem_cons.mpr ⟨lw_p48, List.forall_mem_cons.mpr ⟨lw_p49, List.forall_mem_cons.mpr ⟨lw_p50, List.forall_mem_cons.mpr ⟨lw_p51, List.forall_mem_cons.mpr ⟨lw_p52, List.forall_mem_cons.mpr ⟨lw_p53, List.forall_mem_cons.mpr ⟨lw_p54, List.forall_mem_cons.mpr ⟨lw_p55, List.forall_mem_cons.mpr ⟨lw_p56, List.forall_mem_cons.mpr ⟨lw_p57, List.forall_mem_cons.mpr ⟨lw_p58, List.forall_mem_cons.mpr ⟨lw_p59, List.forall_mem_cons.mpr ⟨lw_p60, List.forall_mem_cons.mpr ⟨lw_p61, List.forall_mem_cons.mpr ⟨lw_p62, List.forall_mem_cons.mpr ⟨lw_p63, fun _ h => absurd h List.not_mem_nil⟩⟩⟩⟩⟩⟩⟩⟩⟩⟩⟩⟩⟩⟩⟩⟩
theorem lw_p64 : lw_okq (⟨"FootholdWallModel", "isHold", "(J)Z"⟩, 36) := ⟨⟨by decide +kernel, by decide +kernel⟩, List.mem_of_getElem? (i := 1214) (by decide +kernel), List.mem_of_getElem? (i := 1455) (by decide +kernel), List.mem_of_getElem? (i := 1456) (by decide +kernel)⟩
theorem lw_p65 : lw_okq (⟨"FootholdWallModel", "isThere", "(I)Z"⟩, 36) := ⟨⟨by decide +kernel, by decide +kernel⟩, List.mem_of_getElem? (i := 1214) (by decide +kernel), List.mem_of_getElem? (i := 1459) (by decide +kernel), List.mem_of_getElem? (i := 1460) (by decide +kernel)⟩
theorem lw_p66 : lw_okq (⟨"FootholdWallModel", "isOpen", "(I)Z"⟩, 36) := ⟨⟨by decide +kernel, by decide +kernel⟩, List.mem_of_getElem? (i := 1214) (by decide +kernel), List.mem_of_getElem? (i := 1463) (by decide +kernel), List.mem_of_getElem? (i := 1464) (by decide +kernel)⟩
theorem lw_p67 : lw_okq (⟨"FootholdWallModel", "isGuide", "(J)Z"⟩, 36) := ⟨⟨by decide +kernel, by decide +kernel⟩, List.mem_of_getElem? (i := 1214) (by decide +kernel), List.mem_of_getElem? (i := 1471) (by decide +kernel), List.mem_of_getElem? (i := 1472) (by decide +kernel)⟩
theorem lw_p68 : lw_okq (⟨"FootholdWallModel", "usedBy", "(I)I"⟩, 36) := ⟨⟨by decide +kernel, by decide +kernel⟩, List.mem_of_getElem? (i := 1214) (by decide +kernel), List.mem_of_getElem? (i := 1475) (by decide +kernel), List.mem_of_getElem? (i := 1476) (by decide +kernel)⟩
theorem lw_p69 : lw_okq (⟨"FootholdWallModel", "mayStep", "(III)Z"⟩, 36) := ⟨⟨by decide +kernel, by decide +kernel⟩, List.mem_of_getElem? (i := 1214) (by decide +kernel), List.mem_of_getElem? (i := 1483) (by decide +kernel), List.mem_of_getElem? (i := 1484) (by decide +kernel)⟩
theorem lw_p70 : lw_okq (⟨"FootholdWallModel", "wordOf", "(IIII)I"⟩, 36) := ⟨⟨by decide +kernel, by decide +kernel⟩, List.mem_of_getElem? (i := 1214) (by decide +kernel), List.mem_of_getElem? (i := 1487) (by decide +kernel), List.mem_of_getElem? (i := 1488) (by decide +kernel)⟩
theorem lw_p71 : lw_okq (⟨"FootholdWallModel", "laysGuide", "(I)V"⟩, 36) := ⟨⟨by decide +kernel, by decide +kernel⟩, List.mem_of_getElem? (i := 1214) (by decide +kernel), List.mem_of_getElem? (i := 1503) (by decide +kernel), List.mem_of_getElem? (i := 1504) (by decide +kernel)⟩
theorem lw_p72 : lw_okq (⟨"FootholdWallModel", "laysSteps", "(II)V"⟩, 36) := ⟨⟨by decide +kernel, by decide +kernel⟩, List.mem_of_getElem? (i := 1214) (by decide +kernel), List.mem_of_getElem? (i := 1507) (by decide +kernel), List.mem_of_getElem? (i := 1508) (by decide +kernel)⟩
theorem lw_p73 : lw_okq (⟨"FootholdWallModel", "openSet", "()I"⟩, 36) := ⟨⟨by decide +kernel, by decide +kernel⟩, List.mem_of_getElem? (i := 1214) (by decide +kernel), List.mem_of_getElem? (i := 1511) (by decide +kernel), List.mem_of_getElem? (i := 1512) (by decide +kernel)⟩
theorem lw_p74 : lw_okq (⟨"FootholdWallModel", "comesTo", "(I)I"⟩, 36) := ⟨⟨by decide +kernel, by decide +kernel⟩, List.mem_of_getElem? (i := 1214) (by decide +kernel), List.mem_of_getElem? (i := 1515) (by decide +kernel), List.mem_of_getElem? (i := 1516) (by decide +kernel)⟩
theorem lw_p75 : lw_okq (⟨"FootholdWallModel", "noTray", "(I)I"⟩, 36) := ⟨⟨by decide +kernel, by decide +kernel⟩, List.mem_of_getElem? (i := 1214) (by decide +kernel), List.mem_of_getElem? (i := 1524) (by decide +kernel), List.mem_of_getElem? (i := 1525) (by decide +kernel)⟩
theorem lw_p76 : lw_okq (⟨"FootholdWallModel", "told", "(I)I"⟩, 36) := ⟨⟨by decide +kernel, by decide +kernel⟩, List.mem_of_getElem? (i := 1214) (by decide +kernel), List.mem_of_getElem? (i := 1529) (by decide +kernel), List.mem_of_getElem? (i := 1530) (by decide +kernel)⟩
theorem lw_p77 : lw_okq (⟨"FootholdWallModel", "whyNot", "(IJII)I"⟩, 36) := ⟨⟨by decide +kernel, by decide +kernel⟩, List.mem_of_getElem? (i := 1214) (by decide +kernel), List.mem_of_getElem? (i := 1533) (by decide +kernel), List.mem_of_getElem? (i := 1534) (by decide +kernel)⟩
theorem lw_p78 : lw_okq (⟨"FootholdWallModel", "ends", "()I"⟩, 36) := ⟨⟨by decide +kernel, by decide +kernel⟩, List.mem_of_getElem? (i := 1214) (by decide +kernel), List.mem_of_getElem? (i := 1537) (by decide +kernel), List.mem_of_getElem? (i := 1538) (by decide +kernel)⟩
theorem lw_p79 : lw_okq (⟨"FootholdWallModel", "keeps", "()V"⟩, 36) := ⟨⟨by decide +kernel, by decide +kernel⟩, List.mem_of_getElem? (i := 1214) (by decide +kernel), List.mem_of_getElem? (i := 1545) (by decide +kernel), List.mem_of_getElem? (i := 1546) (by decide +kernel)⟩
def lw_privs_5 : List (MethodName × Nat) := [(⟨"FootholdWallModel", "isHold", "(J)Z"⟩, 36), (⟨"FootholdWallModel", "isThere", "(I)Z"⟩, 36), (⟨"FootholdWallModel", "isOpen", "(I)Z"⟩, 36), (⟨"FootholdWallModel", "isGuide", "(J)Z"⟩, 36), (⟨"FootholdWallModel", "usedBy", "(I)I"⟩, 36), (⟨"FootholdWallModel", "mayStep", "(III)Z"⟩, 36), (⟨"FootholdWallModel", "wordOf", "(IIII)I"⟩, 36), (⟨"FootholdWallModel", "laysGuide", "(I)V"⟩, 36), (⟨"FootholdWallModel", "laysSteps", "(II)V"⟩, 36), (⟨"FootholdWallModel", "openSet", "()I"⟩, 36), (⟨"FootholdWallModel", "comesTo", "(I)I"⟩, 36), (⟨"FootholdWallModel", "noTray", "(I)I"⟩, 36), (⟨"FootholdWallModel", "told", "(I)I"⟩, 36), (⟨"FootholdWallModel", "whyNot", "(IJII)I"⟩, 36), (⟨"FootholdWallModel", "ends", "()I"⟩, 36), (⟨"FootholdWallModel", "keeps", "()V"⟩, 36)]
theorem lw_r5 : ∀ q ∈ lw_privs_5, lw_okq q := List.forall_mem_cons.mpr ⟨lw_p64, List.forall_mem_cons.mpr ⟨lw_p65, List.forall_mem_cons.mpr ⟨lw_p66, List.forall_mem_cons.mpr ⟨lw_p67, List.forall_mem_cons.mpr ⟨lw_p68, List.forall_mem_cons.mpr ⟨lw_p69, List.forall_mem_cons.mpr ⟨lw_p70, List.forall_mem_cons.mpr ⟨lw_p71, List.forall_mem_cons.mpr ⟨lw_p72, List.forall_mem_cons.mpr ⟨lw_p73, List.forall_mem_cons.mpr ⟨lw_p74, List.forall_mem_cons.mpr ⟨lw_p75, List.forall_mem_cons.mpr ⟨lw_p76, List.forall_mem_cons.mpr ⟨lw_p77, List.forall_mem_cons.mpr ⟨lw_p78, List.forall_mem_cons.mpr ⟨lw_p79, fun _ h => absurd h List.not_mem_nil⟩⟩⟩⟩⟩⟩⟩⟩⟩⟩⟩⟩⟩⟩⟩⟩
theorem lw_p80 : lw_okq (⟨"FootholdWallModel", "usesRow", "(I)I"⟩, 36) := ⟨⟨by decide +kernel, by decide +kernel⟩, List.mem_of_getElem? (i := 1214) (by decide +kernel), List.mem_of_getElem? (i := 1549) (by decide +kernel), List.mem_of_getElem? (i := 1550) (by decide +kernel)⟩
theorem lw_p81 : lw_okq (⟨"FootholdWallModel", "notes", "()V"⟩, 36) := ⟨⟨by decide +kernel, by decide +kernel⟩, List.mem_of_getElem? (i := 1214) (by decide +kernel), List.mem_of_getElem? (i := 1553) (by decide +kernel), List.mem_of_getElem? (i := 1554) (by decide +kernel)⟩
theorem lw_p82 : lw_okq (⟨"FootholdWallModel", "laysWayOf", "(I)Z"⟩, 36) := ⟨⟨by decide +kernel, by decide +kernel⟩, List.mem_of_getElem? (i := 1214) (by decide +kernel), List.mem_of_getElem? (i := 1561) (by decide +kernel), List.mem_of_getElem? (i := 1562) (by decide +kernel)⟩
theorem lw_p83 : lw_okq (⟨"FootholdWallModel", "laysWay", "(I)Z"⟩, 36) := ⟨⟨by decide +kernel, by decide +kernel⟩, List.mem_of_getElem? (i := 1214) (by decide +kernel), List.mem_of_getElem? (i := 1565) (by decide +kernel), List.mem_of_getElem? (i := 1566) (by decide +kernel)⟩
theorem lw_p84 : lw_okq (⟨"FootholdWallModel", "nearer", "(II)I"⟩, 36) := ⟨⟨by decide +kernel, by decide +kernel⟩, List.mem_of_getElem? (i := 1214) (by decide +kernel), List.mem_of_getElem? (i := 1569) (by decide +kernel), List.mem_of_getElem? (i := 1570) (by decide +kernel)⟩
theorem lw_p85 : lw_okq (⟨"FootholdWallModel", "rains", "()Z"⟩, 36) := ⟨⟨by decide +kernel, by decide +kernel⟩, List.mem_of_getElem? (i := 1214) (by decide +kernel), List.mem_of_getElem? (i := 1583) (by decide +kernel), List.mem_of_getElem? (i := 1584) (by decide +kernel)⟩
theorem lw_p86 : lw_okq (⟨"FootholdWallModel", "usedMany", "()I"⟩, 36) := ⟨⟨by decide +kernel, by decide +kernel⟩, List.mem_of_getElem? (i := 1214) (by decide +kernel), List.mem_of_getElem? (i := 1595) (by decide +kernel), List.mem_of_getElem? (i := 1596) (by decide +kernel)⟩
theorem lw_p87 : lw_okq (⟨"FootholdWallModel", "draw", "(I)I"⟩, 36) := ⟨⟨by decide +kernel, by decide +kernel⟩, List.mem_of_getElem? (i := 1214) (by decide +kernel), List.mem_of_getElem? (i := 1609) (by decide +kernel), List.mem_of_getElem? (i := 1610) (by decide +kernel)⟩
theorem lw_p88 : lw_okq (⟨"FootholdWallModel", "laysClimbs", "(I)V"⟩, 36) := ⟨⟨by decide +kernel, by decide +kernel⟩, List.mem_of_getElem? (i := 1214) (by decide +kernel), List.mem_of_getElem? (i := 1624) (by decide +kernel), List.mem_of_getElem? (i := 1625) (by decide +kernel)⟩
theorem lw_p89 : lw_okq (⟨"FootholdWallModel", "climbsOf", "(II)J"⟩, 36) := ⟨⟨by decide +kernel, by decide +kernel⟩, List.mem_of_getElem? (i := 1214) (by decide +kernel), List.mem_of_getElem? (i := 1628) (by decide +kernel), List.mem_of_getElem? (i := 1629) (by decide +kernel)⟩
theorem lw_p90 : lw_okq (⟨"FootholdWallModel", "climbsBy", "(I)J"⟩, 36) := ⟨⟨by decide +kernel, by decide +kernel⟩, List.mem_of_getElem? (i := 1214) (by decide +kernel), List.mem_of_getElem? (i := 1635) (by decide +kernel), List.mem_of_getElem? (i := 1636) (by decide +kernel)⟩
theorem lw_p91 : lw_okq (⟨"FootholdWallModel", "laysClimbsOf", "(I)V"⟩, 36) := ⟨⟨by decide +kernel, by decide +kernel⟩, List.mem_of_getElem? (i := 1214) (by decide +kernel), List.mem_of_getElem? (i := 1645) (by decide +kernel), List.mem_of_getElem? (i := 1646) (by decide +kernel)⟩
theorem lw_p92 : lw_okq (⟨"FootholdWallModel", "partiesBy", "(I)I"⟩, 36) := ⟨⟨by decide +kernel, by decide +kernel⟩, List.mem_of_getElem? (i := 1214) (by decide +kernel), List.mem_of_getElem? (i := 1653) (by decide +kernel), List.mem_of_getElem? (i := 1654) (by decide +kernel)⟩
theorem lw_p93 : lw_okq (⟨"FootholdWallModel", "cutOf", "(I)I"⟩, 36) := ⟨⟨by decide +kernel, by decide +kernel⟩, List.mem_of_getElem? (i := 1214) (by decide +kernel), List.mem_of_getElem? (i := 1657) (by decide +kernel), List.mem_of_getElem? (i := 1658) (by decide +kernel)⟩
theorem lw_p94 : lw_okq (⟨"FootholdWallModel", "hasClimb", "(I)Z"⟩, 36) := ⟨⟨by decide +kernel, by decide +kernel⟩, List.mem_of_getElem? (i := 1214) (by decide +kernel), List.mem_of_getElem? (i := 1661) (by decide +kernel), List.mem_of_getElem? (i := 1662) (by decide +kernel)⟩
theorem lw_p95 : lw_okq (⟨"FootholdWallModel", "neededBy", "(I)I"⟩, 36) := ⟨⟨by decide +kernel, by decide +kernel⟩, List.mem_of_getElem? (i := 1214) (by decide +kernel), List.mem_of_getElem? (i := 1673) (by decide +kernel), List.mem_of_getElem? (i := 1674) (by decide +kernel)⟩
def lw_privs_6 : List (MethodName × Nat) := [(⟨"FootholdWallModel", "usesRow", "(I)I"⟩, 36), (⟨"FootholdWallModel", "notes", "()V"⟩, 36), (⟨"FootholdWallModel", "laysWayOf", "(I)Z"⟩, 36), (⟨"FootholdWallModel", "laysWay", "(I)Z"⟩, 36), (⟨"FootholdWallModel", "nearer", "(II)I"⟩, 36), (⟨"FootholdWallModel", "rains", "()Z"⟩, 36), (⟨"FootholdWallModel", "usedMany", "()I"⟩, 36), (⟨"FootholdWallModel", "draw", "(I)I"⟩, 36), (⟨"FootholdWallModel", "laysClimbs", "(I)V"⟩, 36), (⟨"FootholdWallModel", "climbsOf", "(II)J"⟩, 36), (⟨"FootholdWallModel", "climbsBy", "(I)J"⟩, 36), (⟨"FootholdWallModel", "laysClimbsOf", "(I)V"⟩, 36), (⟨"FootholdWallModel", "partiesBy", "(I)I"⟩, 36), (⟨"FootholdWallModel", "cutOf", "(I)I"⟩, 36), (⟨"FootholdWallModel", "hasClimb", "(I)Z"⟩, 36), (⟨"FootholdWallModel", "neededBy", "(I)I"⟩, 36)]
theorem lw_r6 : ∀ q ∈ lw_privs_6, lw_okq q := List.forall_mem_cons.mpr ⟨lw_p80, List.forall_mem_cons.mpr ⟨lw_p81, List.forall_mem_cons.mpr ⟨lw_p82, List.forall_mem_cons.mpr ⟨lw_p83, List.forall_mem_cons.mpr ⟨lw_p84, List.forall_mem_cons.mpr ⟨lw_p85, List.forall_mem_cons.mpr ⟨lw_p86, List.forall_mem_cons.mpr ⟨lw_p87, List.forall_mem_cons.mpr ⟨lw_p88, List.forall_mem_cons.mpr ⟨lw_p89, List.forall_mem_cons.mpr ⟨lw_p90, List.forall_mem_cons.mpr ⟨lw_p91, List.forall_mem_cons.mpr ⟨lw_p92, List.forall_mem_cons.mpr ⟨lw_p93, List.forall_mem_cons.mpr ⟨lw_p94, List.forall_mem_cons.mpr ⟨lw_p95, fun _ h => absurd h List.not_mem_nil⟩⟩⟩⟩⟩⟩⟩⟩⟩⟩⟩⟩⟩⟩⟩⟩
theorem lw_p96 : lw_okq (⟨"FootholdWallModel", "keepsAhead", "()V"⟩, 36) := ⟨⟨by decide +kernel, by decide +kernel⟩, List.mem_of_getElem? (i := 1214) (by decide +kernel), List.mem_of_getElem? (i := 1705) (by decide +kernel), List.mem_of_getElem? (i := 1706) (by decide +kernel)⟩
theorem lw_p97 : lw_okq (⟨"FootholdWallModel", "isAhead", "()V"⟩, 36) := ⟨⟨by decide +kernel, by decide +kernel⟩, List.mem_of_getElem? (i := 1214) (by decide +kernel), List.mem_of_getElem? (i := 1709) (by decide +kernel), List.mem_of_getElem? (i := 1710) (by decide +kernel)⟩
theorem lw_p98 : lw_okq (⟨"FootholdWallModel", "isSetOf", "(I)Z"⟩, 36) := ⟨⟨by decide +kernel, by decide +kernel⟩, List.mem_of_getElem? (i := 1214) (by decide +kernel), List.mem_of_getElem? (i := 1721) (by decide +kernel), List.mem_of_getElem? (i := 1722) (by decide +kernel)⟩
theorem lw_p99 : lw_okq (⟨"FootholdWallModel", "thereSet", "()I"⟩, 36) := ⟨⟨by decide +kernel, by decide +kernel⟩, List.mem_of_getElem? (i := 1214) (by decide +kernel), List.mem_of_getElem? (i := 1725) (by decide +kernel), List.mem_of_getElem? (i := 1726) (by decide +kernel)⟩
theorem lw_p100 : lw_okq (⟨"FootholdWallModel", "laysWhose", "(II)I"⟩, 36) := ⟨⟨by decide +kernel, by decide +kernel⟩, List.mem_of_getElem? (i := 1214) (by decide +kernel), List.mem_of_getElem? (i := 1729) (by decide +kernel), List.mem_of_getElem? (i := 1730) (by decide +kernel)⟩
theorem lw_p101 : lw_okq (⟨"FootholdWallModel", "laysMore", "(II)V"⟩, 36) := ⟨⟨by decide +kernel, by decide +kernel⟩, List.mem_of_getElem? (i := 1214) (by decide +kernel), List.mem_of_getElem? (i := 1733) (by decide +kernel), List.mem_of_getElem? (i := 1734) (by decide +kernel)⟩
theorem lw_p102 : lw_okq (⟨"FootholdWallModel", "moreBy", "(II)I"⟩, 36) := ⟨⟨by decide +kernel, by decide +kernel⟩, List.mem_of_getElem? (i := 1214) (by decide +kernel), List.mem_of_getElem? (i := 1737) (by decide +kernel), List.mem_of_getElem? (i := 1738) (by decide +kernel)⟩
theorem lw_p103 : lw_okq (⟨"FootholdWallModel", "goesTurn", "(III)V"⟩, 36) := ⟨⟨by decide +kernel, by decide +kernel⟩, List.mem_of_getElem? (i := 1214) (by decide +kernel), List.mem_of_getElem? (i := 1757) (by decide +kernel), List.mem_of_getElem? (i := 1758) (by decide +kernel)⟩
def lw_privs_7 : List (MethodName × Nat) := [(⟨"FootholdWallModel", "keepsAhead", "()V"⟩, 36), (⟨"FootholdWallModel", "isAhead", "()V"⟩, 36), (⟨"FootholdWallModel", "isSetOf", "(I)Z"⟩, 36), (⟨"FootholdWallModel", "thereSet", "()I"⟩, 36), (⟨"FootholdWallModel", "laysWhose", "(II)I"⟩, 36), (⟨"FootholdWallModel", "laysMore", "(II)V"⟩, 36), (⟨"FootholdWallModel", "moreBy", "(II)I"⟩, 36), (⟨"FootholdWallModel", "goesTurn", "(III)V"⟩, 36)]
theorem lw_r7 : ∀ q ∈ lw_privs_7, lw_okq q := List.forall_mem_cons.mpr ⟨lw_p96, List.forall_mem_cons.mpr ⟨lw_p97, List.forall_mem_cons.mpr ⟨lw_p98, List.forall_mem_cons.mpr ⟨lw_p99, List.forall_mem_cons.mpr ⟨lw_p100, List.forall_mem_cons.mpr ⟨lw_p101, List.forall_mem_cons.mpr ⟨lw_p102, List.forall_mem_cons.mpr ⟨lw_p103, fun _ h => absurd h List.not_mem_nil⟩⟩⟩⟩⟩⟩⟩⟩
def lw_privs : List (MethodName × Nat) := lw_privs_1 ++ (lw_privs_2 ++ (lw_privs_3 ++ (lw_privs_4 ++ (lw_privs_5 ++ (lw_privs_6 ++ (lw_privs_7))))))
def lw_tbl : List Cond := k2_sels lw_privs ++ tables_1
theorem lw_privs_ok : ∀ q ∈ lw_privs, lw_okq q := by
  show ∀ q ∈ lw_privs_1 ++ (lw_privs_2 ++ (lw_privs_3 ++ (lw_privs_4 ++ (lw_privs_5 ++ (lw_privs_6 ++ (lw_privs_7)))))), lw_okq q
  exact List.forall_mem_append.mpr ⟨lw_r1, List.forall_mem_append.mpr ⟨lw_r2, List.forall_mem_append.mpr ⟨lw_r3, List.forall_mem_append.mpr ⟨lw_r4, List.forall_mem_append.mpr ⟨lw_r5, List.forall_mem_append.mpr ⟨lw_r6, lw_r7⟩⟩⟩⟩⟩⟩
def RX0 : String := "FootholdWall$Chains"
def TX0 : u_T := fun k => match k with
  | 0 => ("FootholdWall$Chains", "heads", "[I", false)
  | 1 => ("FootholdWall$Chains", "all", "I", false)
  | 2 => ("FootholdWall$Chains", "row", "[I", true)
  | _ => ("FootholdWall$Chains", "path", "[I", true)
def tyX0 : Nat → FieldType := fun k => match k with
  | 0 => .array .int
  | 1 => .int
  | 2 => .array .int
  | _ => .array .int
theorem nmX0 : ∀ a, a < 4 → ∀ b, b < 4 → a ≠ b → (TX0 a).2.1 ≠ (TX0 b).2.1 := by decide +kernel
theorem tyX0_ok : ∀ k, k < 4 → parseFieldDescriptor (TX0 k).2.2.1 = some (tyX0 k) := by decide +kernel
def RX1 : String := "FootholdWall$Cut"
def TX1 : u_T := fun k => match k with
  | 0 => ("FootholdWall$Cut", "near", "[I", true)
  | 1 => ("FootholdWall$Cut", "ahead", "[I", true)
  | 2 => ("FootholdWall$Cut", "laid", "I", false)
  | 3 => ("FootholdWall$Cut", "queue", "[I", true)
  | 4 => ("FootholdWall$Cut", "queued", "I", false)
  | 5 => ("FootholdWall$Cut", "seen", "I", false)
  | _ => ("FootholdWall$Cut", "cameFrom", "[I", true)
def tyX1 : Nat → FieldType := fun k => match k with
  | 0 => .array .int
  | 1 => .array .int
  | 2 => .int
  | 3 => .array .int
  | 4 => .int
  | 5 => .int
  | _ => .array .int
theorem nmX1 : ∀ a, a < 7 → ∀ b, b < 7 → a ≠ b → (TX1 a).2.1 ≠ (TX1 b).2.1 := by decide +kernel
theorem tyX1_ok : ∀ k, k < 7 → parseFieldDescriptor (TX1 k).2.2.1 = some (tyX1 k) := by decide +kernel
def RX2 : String := "FootholdWall$Law"
def TX2 : u_T := fun k => match k with
  | 0 => ("FootholdWall$Law", "code", "[I", true)
  | 1 => ("FootholdWall$Law", "facts", "[I", true)
  | _ => ("FootholdWall$Law", "stack", "[I", true)
def tyX2 : Nat → FieldType := fun k => match k with
  | 0 => .array .int
  | 1 => .array .int
  | _ => .array .int
theorem nmX2 : ∀ a, a < 3 → ∀ b, b < 3 → a ≠ b → (TX2 a).2.1 ≠ (TX2 b).2.1 := by decide +kernel
theorem tyX2_ok : ∀ k, k < 3 → parseFieldDescriptor (TX2 k).2.2.1 = some (tyX2 k) := by decide +kernel
def RX3 : String := "FootholdWall$LawReader"
def TX3 : u_T := fun k => match k with
  | 0 => ("FootholdWall$LawReader", "tokens", "LFootholdWall$Tokens;", true)
  | 1 => ("FootholdWall$LawReader", "code", "[I", true)
  | _ => ("FootholdWall$LawReader", "length", "I", false)
def tyX3 : Nat → FieldType := fun k => match k with
  | 0 => .object "FootholdWall$Tokens"
  | 1 => .array .int
  | _ => .int
theorem nmX3 : ∀ a, a < 3 → ∀ b, b < 3 → a ≠ b → (TX3 a).2.1 ≠ (TX3 b).2.1 := by decide +kernel
theorem tyX3_ok : ∀ k, k < 3 → parseFieldDescriptor (TX3 k).2.2.1 = some (tyX3 k) := by decide +kernel
def RX4 : String := "FootholdWall$Reader"
def TX4 : u_T := fun k => match k with
  | 0 => ("FootholdWall$Reader", "tokens", "LFootholdWall$Tokens;", true)
  | 1 => ("FootholdWall$Reader", "lawReader", "LFootholdWall$LawReader;", true)
  | 2 => ("FootholdWall$Reader", "draft", "LFootholdWall$Wall;", true)
  | 3 => ("FootholdWall$Reader", "lawTold", "Z", false)
  | _ => ("FootholdWall$Reader", "told", "LFootholdWall$State;", true)
def tyX4 : Nat → FieldType := fun k => match k with
  | 0 => .object "FootholdWall$Tokens"
  | 1 => .object "FootholdWall$LawReader"
  | 2 => .object "FootholdWall$Wall"
  | 3 => .boolean
  | _ => .object "FootholdWall$State"
theorem nmX4 : ∀ a, a < 5 → ∀ b, b < 5 → a ≠ b → (TX4 a).2.1 ≠ (TX4 b).2.1 := by decide +kernel
theorem tyX4_ok : ∀ k, k < 5 → parseFieldDescriptor (TX4 k).2.2.1 = some (tyX4 k) := by decide +kernel
def RX5 : String := "FootholdWall$Rows"
def TX5 : u_T := fun k => match k with
  | 0 => ("FootholdWall$Rows", "wall", "LFootholdWall$Wall;", false)
  | 1 => ("FootholdWall$Rows", "leg", "I", false)
  | 2 => ("FootholdWall$Rows", "weight", "I", false)
  | 3 => ("FootholdWall$Rows", "day", "I", false)
  | 4 => ("FootholdWall$Rows", "asked", "[I", true)
  | _ => ("FootholdWall$Rows", "row", "[I", true)
def tyX5 : Nat → FieldType := fun k => match k with
  | 0 => .object "FootholdWall$Wall"
  | 1 => .int
  | 2 => .int
  | 3 => .int
  | 4 => .array .int
  | _ => .array .int
theorem nmX5 : ∀ a, a < 6 → ∀ b, b < 6 → a ≠ b → (TX5 a).2.1 ≠ (TX5 b).2.1 := by decide +kernel
theorem tyX5_ok : ∀ k, k < 6 → parseFieldDescriptor (TX5 k).2.2.1 = some (tyX5 k) := by decide +kernel
def RX6 : String := "FootholdWall$State"
def TX6 : u_T := fun k => match k with
  | 0 => ("FootholdWall$State", "used", "I", false)
  | 1 => ("FootholdWall$State", "broken", "I", false)
  | 2 => ("FootholdWall$State", "day", "I", false)
  | 3 => ("FootholdWall$State", "years", "I", false)
  | 4 => ("FootholdWall$State", "by", "[I", true)
  | _ => ("FootholdWall$State", "since", "[I", true)
def tyX6 : Nat → FieldType := fun k => match k with
  | 0 => .int
  | 1 => .int
  | 2 => .int
  | 3 => .int
  | 4 => .array .int
  | _ => .array .int
theorem nmX6 : ∀ a, a < 6 → ∀ b, b < 6 → a ≠ b → (TX6 a).2.1 ≠ (TX6 b).2.1 := by decide +kernel
theorem tyX6_ok : ∀ k, k < 6 → parseFieldDescriptor (TX6 k).2.2.1 = some (tyX6 k) := by decide +kernel
def RX7 : String := "FootholdWall$Tokens"
def TX7 : u_T := fun k => match k with
  | 0 => ("FootholdWall$Tokens", "text", "[B", false)
  | 1 => ("FootholdWall$Tokens", "length", "I", false)
  | 2 => ("FootholdWall$Tokens", "start", "I", false)
  | 3 => ("FootholdWall$Tokens", "end", "I", false)
  | 4 => ("FootholdWall$Tokens", "kind", "I", false)
  | 5 => ("FootholdWall$Tokens", "value", "I", false)
  | 6 => ("FootholdWall$Tokens", "fault", "I", false)
  | _ => ("FootholdWall$Tokens", "place", "I", false)
def tyX7 : Nat → FieldType := fun k => match k with
  | 0 => .array .byte
  | 1 => .int
  | 2 => .int
  | 3 => .int
  | 4 => .int
  | 5 => .int
  | 6 => .int
  | _ => .int
theorem nmX7 : ∀ a, a < 8 → ∀ b, b < 8 → a ≠ b → (TX7 a).2.1 ≠ (TX7 b).2.1 := by decide +kernel
theorem tyX7_ok : ∀ k, k < 8 → parseFieldDescriptor (TX7 k).2.2.1 = some (tyX7 k) := by decide +kernel
def RX8 : String := "FootholdWall$Tray"
def TX8 : u_T := fun k => match k with
  | 0 => ("FootholdWall$Tray", "numbers", "[J", true)
  | 1 => ("FootholdWall$Tray", "sort", "I", false)
  | _ => ("FootholdWall$Tray", "size", "I", false)
def tyX8 : Nat → FieldType := fun k => match k with
  | 0 => .array .long
  | 1 => .int
  | _ => .int
theorem nmX8 : ∀ a, a < 3 → ∀ b, b < 3 → a ≠ b → (TX8 a).2.1 ≠ (TX8 b).2.1 := by decide +kernel
theorem tyX8_ok : ∀ k, k < 3 → parseFieldDescriptor (TX8 k).2.2.1 = some (tyX8 k) := by decide +kernel
def RX9 : String := "FootholdWall$Wall"
def TX9 : u_T := fun k => match k with
  | 0 => ("FootholdWall$Wall", "holds", "I", false)
  | 1 => ("FootholdWall$Wall", "guides", "I", false)
  | 2 => ("FootholdWall$Wall", "lines", "I", false)
  | 3 => ("FootholdWall$Wall", "starts", "I", false)
  | 4 => ("FootholdWall$Wall", "tops", "I", false)
  | 5 => ("FootholdWall$Wall", "wides", "I", false)
  | 6 => ("FootholdWall$Wall", "x", "[I", true)
  | 7 => ("FootholdWall$Wall", "y", "[I", true)
  | 8 => ("FootholdWall$Wall", "ice", "[I", true)
  | 9 => ("FootholdWall$Wall", "leg", "[I", true)
  | 10 => ("FootholdWall$Wall", "weight", "[I", true)
  | 11 => ("FootholdWall$Wall", "law", "LFootholdWall$Law;", true)
  | 12 => ("FootholdWall$Wall", "dayAsked", "Z", true)
  | _ => ("FootholdWall$Wall", "legAsked", "Z", true)
def tyX9 : Nat → FieldType := fun k => match k with
  | 0 => .int
  | 1 => .int
  | 2 => .int
  | 3 => .int
  | 4 => .int
  | 5 => .int
  | 6 => .array .int
  | 7 => .array .int
  | 8 => .array .int
  | 9 => .array .int
  | 10 => .array .int
  | 11 => .object "FootholdWall$Law"
  | 12 => .boolean
  | _ => .boolean
theorem nmX9 : ∀ a, a < 14 → ∀ b, b < 14 → a ≠ b → (TX9 a).2.1 ≠ (TX9 b).2.1 := by decide +kernel
theorem tyX9_ok : ∀ k, k < 14 → parseFieldDescriptor (TX9 k).2.2.1 = some (tyX9 k) := by decide +kernel
def RX10 : String := "FootholdWall$Ways"
def TX10 : u_T := fun k => match k with
  | 0 => ("FootholdWall$Ways", "layer", "[I", true)
  | 1 => ("FootholdWall$Ways", "path", "[I", true)
  | 2 => ("FootholdWall$Ways", "length", "I", false)
  | 3 => ("FootholdWall$Ways", "numberFrom", "[J", true)
  | 4 => ("FootholdWall$Ways", "leastFrom", "[I", true)
  | 5 => ("FootholdWall$Ways", "into", "[I", true)
  | _ => ("FootholdWall$Ways", "tops", "I", false)
def tyX10 : Nat → FieldType := fun k => match k with
  | 0 => .array .int
  | 1 => .array .int
  | 2 => .int
  | 3 => .array .long
  | 4 => .array .int
  | 5 => .array .int
  | _ => .int
theorem nmX10 : ∀ a, a < 7 → ∀ b, b < 7 → a ≠ b → (TX10 a).2.1 ≠ (TX10 b).2.1 := by decide +kernel
theorem tyX10_ok : ∀ k, k < 7 → parseFieldDescriptor (TX10 k).2.2.1 = some (tyX10 k) := by decide +kernel
def RX11 : String := "FootholdWall"
def TX11 : u_T := fun k => match k with
  | 0 => ("FootholdWall", "tape", "[B", true)
  | 1 => ("FootholdWall", "tapeLength", "I", false)
  | 2 => ("FootholdWall", "reader", "LFootholdWall$Reader;", true)
  | 3 => ("FootholdWall", "wall", "LFootholdWall$Wall;", false)
  | 4 => ("FootholdWall", "state", "LFootholdWall$State;", true)
  | 5 => ("FootholdWall", "before", "LFootholdWall$State;", false)
  | 6 => ("FootholdWall", "past", "[LFootholdWall$State;", true)
  | 7 => ("FootholdWall", "pastCount", "I", false)
  | 8 => ("FootholdWall", "pastNext", "I", false)
  | 9 => ("FootholdWall", "imageWalls", "[LFootholdWall$Wall;", true)
  | 10 => ("FootholdWall", "imageStates", "[LFootholdWall$State;", true)
  | 11 => ("FootholdWall", "trays", "[LFootholdWall$Tray;", true)
  | 12 => ("FootholdWall", "rows", "[LFootholdWall$Rows;", true)
  | 13 => ("FootholdWall", "otherRows", "LFootholdWall$Rows;", true)
  | 14 => ("FootholdWall", "ways", "LFootholdWall$Ways;", true)
  | 15 => ("FootholdWall", "cut", "LFootholdWall$Cut;", true)
  | 16 => ("FootholdWall", "chains", "LFootholdWall$Chains;", true)
  | 17 => ("FootholdWall", "turn", "[I", true)
  | 18 => ("FootholdWall", "bestTurn", "[I", true)
  | _ => ("FootholdWall", "bestUp", "I", false)
def tyX11 : Nat → FieldType := fun k => match k with
  | 0 => .array .byte
  | 1 => .int
  | 2 => .object "FootholdWall$Reader"
  | 3 => .object "FootholdWall$Wall"
  | 4 => .object "FootholdWall$State"
  | 5 => .object "FootholdWall$State"
  | 6 => .array (.object "FootholdWall$State")
  | 7 => .int
  | 8 => .int
  | 9 => .array (.object "FootholdWall$Wall")
  | 10 => .array (.object "FootholdWall$State")
  | 11 => .array (.object "FootholdWall$Tray")
  | 12 => .array (.object "FootholdWall$Rows")
  | 13 => .object "FootholdWall$Rows"
  | 14 => .object "FootholdWall$Ways"
  | 15 => .object "FootholdWall$Cut"
  | 16 => .object "FootholdWall$Chains"
  | 17 => .array .int
  | 18 => .array .int
  | _ => .int
theorem nmX11 : ∀ a, a < 20 → ∀ b, b < 20 → a ≠ b → (TX11 a).2.1 ≠ (TX11 b).2.1 := by decide +kernel
theorem tyX11_ok : ∀ k, k < 20 → parseFieldDescriptor (TX11 k).2.2.1 = some (tyX11 k) := by decide +kernel
def RX12 : String := "FootholdWallModel"
def TX12 : u_T := fun k => match k with
  | 0 => ("FootholdWallModel", "thrown", "I", false)
  | 1 => ("FootholdWallModel", "all", "[I", true)
  | 2 => ("FootholdWallModel", "hasImage", "[Z", true)
  | 3 => ("FootholdWallModel", "tape", "[I", true)
  | 4 => ("FootholdWallModel", "fresh", "[I", true)
  | 5 => ("FootholdWallModel", "taped", "I", false)
  | 6 => ("FootholdWallModel", "at", "I", false)
  | 7 => ("FootholdWallModel", "behind", "I", false)
  | 8 => ("FootholdWallModel", "size", "I", false)
  | 9 => ("FootholdWallModel", "kind", "I", false)
  | 10 => ("FootholdWallModel", "number", "I", false)
  | 11 => ("FootholdWallModel", "wrong", "I", false)
  | 12 => ("FootholdWallModel", "wrongAt", "I", false)
  | 13 => ("FootholdWallModel", "faultKind", "I", false)
  | 14 => ("FootholdWallModel", "faultPlace", "I", false)
  | 15 => ("FootholdWallModel", "reckoned", "[I", true)
  | 16 => ("FootholdWallModel", "leg", "I", false)
  | 17 => ("FootholdWallModel", "onTo", "[I", true)
  | 18 => ("FootholdWallModel", "away", "[I", true)
  | 19 => ("FootholdWallModel", "row", "[I", true)
  | 20 => ("FootholdWallModel", "rowMany1", "I", false)
  | 21 => ("FootholdWallModel", "was", "[I", true)
  | 22 => ("FootholdWallModel", "ahead", "[I", true)
  | 23 => ("FootholdWallModel", "toldWhy", "I", false)
  | 24 => ("FootholdWallModel", "toldUses", "I", false)
  | 25 => ("FootholdWallModel", "x", "I", false)
  | 26 => ("FootholdWallModel", "climbs", "[J", true)
  | 27 => ("FootholdWallModel", "uses", "[Z", true)
  | 28 => ("FootholdWallModel", "more", "[B", true)
  | 29 => ("FootholdWallModel", "turnsOf", "[I", true)
  | 30 => ("FootholdWallModel", "bestTurn", "[I", true)
  | 31 => ("FootholdWallModel", "levels", "[I", true)
  | 32 => ("FootholdWallModel", "bestGot", "I", false)
  | 33 => ("FootholdWallModel", "rowSort", "[I", true)
  | 34 => ("FootholdWallModel", "rowMany", "[I", true)
  | _ => ("FootholdWallModel", "numbers", "[J", true)
def tyX12 : Nat → FieldType := fun k => match k with
  | 0 => .int
  | 1 => .array .int
  | 2 => .array .boolean
  | 3 => .array .int
  | 4 => .array .int
  | 5 => .int
  | 6 => .int
  | 7 => .int
  | 8 => .int
  | 9 => .int
  | 10 => .int
  | 11 => .int
  | 12 => .int
  | 13 => .int
  | 14 => .int
  | 15 => .array .int
  | 16 => .int
  | 17 => .array .int
  | 18 => .array .int
  | 19 => .array .int
  | 20 => .int
  | 21 => .array .int
  | 22 => .array .int
  | 23 => .int
  | 24 => .int
  | 25 => .int
  | 26 => .array .long
  | 27 => .array .boolean
  | 28 => .array .byte
  | 29 => .array .int
  | 30 => .array .int
  | 31 => .array .int
  | 32 => .int
  | 33 => .array .int
  | 34 => .array .int
  | _ => .array .long
theorem nmX12 : ∀ a, a < 36 → ∀ b, b < 36 → a ≠ b → (TX12 a).2.1 ≠ (TX12 b).2.1 := by decide +kernel
theorem tyX12_ok : ∀ k, k < 36 → parseFieldDescriptor (TX12 k).2.2.1 = some (tyX12 k) := by decide +kernel
def RJ11 : String := "java/lang/Character"
def RJ6 : String := "java/lang/Integer"
def RJ9 : String := "java/lang/Math"
def RJ0 : String := "java/lang/String"
def RJ1 : String := "java/lang/StringLatin1"
def RJ2 : String := "java/lang/StringUTF16"
def RJ10 : String := "java/lang/System"
def RJ7 : String := "java/util/Arrays"
def RJ3 : String := "jdk/internal/util/Preconditions"
def RL : String := "FootholdWallLaw"
abbrev cX11_init : ByteArray := prog_1_method_1_code
def yX11_init : MethodName := ⟨RX11, "<init>", "()V"⟩
abbrev cX11_able : ByteArray := prog_1_method_40_code
def yX11_able : MethodName := ⟨RX11, "able", "()I"⟩
abbrev cX11_asksRow : ByteArray := prog_1_method_31_code
def yX11_asksRow : MethodName := ⟨RX11, "asksRow", "(II)Z"⟩
abbrev cX11_breaks : ByteArray := prog_1_method_24_code
def yX11_breaks : MethodName := ⟨RX11, "breaks", "(I)I"⟩
abbrev cX11_climb : ByteArray := prog_1_method_17_code
def yX11_climb : MethodName := ⟨RX11, "climb", "(I)I"⟩
abbrev cX11_climbs : ByteArray := prog_1_method_34_code
def yX11_climbs : MethodName := ⟨RX11, "climbs", "(II)J"⟩
abbrev cX11_count : ByteArray := prog_1_method_60_code
def yX11_count : MethodName := ⟨RX11, "count", "(I)I"⟩
abbrev cX11_days : ByteArray := prog_1_method_22_code
def yX11_days : MethodName := ⟨RX11, "days", "(I)I"⟩
abbrev cX11_dearest : ByteArray := prog_1_method_46_code
def yX11_dearest : MethodName := ⟨RX11, "dearest", "(I)I"⟩
abbrev cX11_drawn : ByteArray := prog_1_method_29_code
def yX11_drawn : MethodName := ⟨RX11, "drawn", "(I)I"⟩
abbrev cX11_fault : ByteArray := prog_1_method_5_code
def yX11_fault : MethodName := ⟨RX11, "fault", "(I)I"⟩
abbrev cX11_feed : ByteArray := prog_1_method_2_code
def yX11_feed : MethodName := ⟨RX11, "feed", "(IIIII)I"⟩
abbrev cX11_goUp : ByteArray := prog_1_method_21_code
def yX11_goUp : MethodName := ⟨RX11, "goUp", "(I)I"⟩
abbrev cX11_goes : ByteArray := prog_1_method_20_code
def yX11_goes : MethodName := ⟨RX11, "goes", "(I)I"⟩
abbrev cX11_guide : ByteArray := prog_1_method_7_code
def yX11_guide : MethodName := ⟨RX11, "guide", "(II)I"⟩
abbrev cX11_highest : ByteArray := prog_1_method_42_code
def yX11_highest : MethodName := ⟨RX11, "highest", "(I)I"⟩
abbrev cX11_hold : ByteArray := prog_1_method_6_code
def yX11_hold : MethodName := ⟨RX11, "hold", "(II)I"⟩
abbrev cX11_idle : ByteArray := prog_1_method_39_code
def yX11_idle : MethodName := ⟨RX11, "idle", "(I)I"⟩
abbrev cX11_image : ByteArray := prog_1_method_58_code
def yX11_image : MethodName := ⟨RX11, "image", "(I)I"⟩
abbrev cX11_inTurn : ByteArray := prog_1_method_51_code
def yX11_inTurn : MethodName := ⟨RX11, "inTurn", "(II)I"⟩
abbrev cX11_isGuide : ByteArray := prog_1_method_11_code
def yX11_isGuide : MethodName := ⟨RX11, "isGuide", "(I)Z"⟩
abbrev cX11_isHold : ByteArray := prog_1_method_10_code
def yX11_isHold : MethodName := ⟨RX11, "isHold", "(I)Z"⟩
abbrev cX11_isImage : ByteArray := prog_1_method_57_code
def yX11_isImage : MethodName := ⟨RX11, "isImage", "(I)Z"⟩
abbrev cX11_isTray : ByteArray := prog_1_method_53_code
def yX11_isTray : MethodName := ⟨RX11, "isTray", "(I)Z"⟩
abbrev cX11_judge : ByteArray := prog_1_method_16_code
def yX11_judge : MethodName := ⟨RX11, "judge", "(II)I"⟩
abbrev cX11_leastLeg : ByteArray := prog_1_method_44_code
def yX11_leastLeg : MethodName := ⟨RX11, "leastLeg", "(I)I"⟩
abbrev cX11_leaves : ByteArray := prog_1_method_50_code
def yX11_leaves : MethodName := ⟨RX11, "leaves", "(II)I"⟩
abbrev cX11_lists : ByteArray := prog_1_method_56_code
def yX11_lists : MethodName := ⟨RX11, "lists", "(II)I"⟩
abbrev cX11_needed : ByteArray := prog_1_method_37_code
def yX11_needed : MethodName := ⟨RX11, "needed", "(I)I"⟩
abbrev cX11_needers : ByteArray := prog_1_method_41_code
def yX11_needers : MethodName := ⟨RX11, "needers", "(I)I"⟩
abbrev cX11_needs : ByteArray := prog_1_method_38_code
def yX11_needs : MethodName := ⟨RX11, "needs", "(II)Z"⟩
abbrev cX11_newYear : ByteArray := prog_1_method_25_code
def yX11_newYear : MethodName := ⟨RX11, "newYear", "()I"⟩
abbrev cX11_numbers : ByteArray := prog_1_method_54_code
def yX11_numbers : MethodName := ⟨RX11, "numbers", "(III)I"⟩
abbrev cX11_ofRow : ByteArray := prog_1_method_32_code
def yX11_ofRow : MethodName := ⟨RX11, "ofRow", "([III)I"⟩
abbrev cX11_openNow : ByteArray := prog_1_method_14_code
def yX11_openNow : MethodName := ⟨RX11, "openNow", "()I"⟩
abbrev cX11_openOn : ByteArray := prog_1_method_13_code
def yX11_openOn : MethodName := ⟨RX11, "openOn", "(I)I"⟩
abbrev cX11_opens : ByteArray := prog_1_method_45_code
def yX11_opens : MethodName := ⟨RX11, "opens", "(I)I"⟩
abbrev cX11_order : ByteArray := prog_1_method_48_code
def yX11_order : MethodName := ⟨RX11, "order", "(III)I"⟩
abbrev cX11_parties : ByteArray := prog_1_method_35_code
def yX11_parties : MethodName := ⟨RX11, "parties", "(I)I"⟩
abbrev cX11_putOnTape : ByteArray := prog_1_method_3_code
def yX11_putOnTape : MethodName := ⟨RX11, "putOnTape", "(I)V"⟩
abbrev cX11_rain : ByteArray := prog_1_method_23_code
def yX11_rain : MethodName := ⟨RX11, "rain", "(I)I"⟩
abbrev cX11_reach : ByteArray := prog_1_method_9_code
def yX11_reach : MethodName := ⟨RX11, "reach", "(I)I"⟩
abbrev cX11_remember : ByteArray := prog_1_method_27_code
def yX11_remember : MethodName := ⟨RX11, "remember", "()V"⟩
abbrev cX11_restore : ByteArray := prog_1_method_59_code
def yX11_restore : MethodName := ⟨RX11, "restore", "(I)I"⟩
abbrev cX11_rowsOf : ByteArray := prog_1_method_15_code
def yX11_rowsOf : MethodName := ⟨RX11, "rowsOf", "(I)LFootholdWall$Rows;"⟩
abbrev cX11_saved : ByteArray := prog_1_method_49_code
def yX11_saved : MethodName := ⟨RX11, "saved", "(I)I"⟩
abbrev cX11_season : ByteArray := prog_1_method_28_code
def yX11_season : MethodName := ⟨RX11, "season", "(II)I"⟩
abbrev cX11_shut : ByteArray := prog_1_method_36_code
def yX11_shut : MethodName := ⟨RX11, "shut", "(II)I"⟩
abbrev cX11_steps : ByteArray := prog_1_method_8_code
def yX11_steps : MethodName := ⟨RX11, "steps", "(III)I"⟩
abbrev cX11_takeTurns : ByteArray := prog_1_method_52_code
def yX11_takeTurns : MethodName := ⟨RX11, "takeTurns", "(IIII)V"⟩
abbrev cX11_thereOn : ByteArray := prog_1_method_12_code
def yX11_thereOn : MethodName := ⟨RX11, "thereOn", "(I)I"⟩
abbrev cX11_together : ByteArray := prog_1_method_43_code
def yX11_together : MethodName := ⟨RX11, "together", "(II)I"⟩
abbrev cX11_toldSet : ByteArray := prog_1_method_19_code
def yX11_toldSet : MethodName := ⟨RX11, "toldSet", "(LFootholdWall$Tray;)I"⟩
abbrev cX11_undo : ByteArray := prog_1_method_26_code
def yX11_undo : MethodName := ⟨RX11, "undo", "(I)I"⟩
abbrev cX11_verdictOn : ByteArray := prog_1_method_18_code
def yX11_verdictOn : MethodName := ⟨RX11, "verdictOn", "(LFootholdWall$Tray;)I"⟩
abbrev cX11_wall : ByteArray := prog_1_method_4_code
def yX11_wall : MethodName := ⟨RX11, "wall", "(I)I"⟩
abbrev cX11_way : ByteArray := prog_1_method_30_code
def yX11_way : MethodName := ⟨RX11, "way", "(II)I"⟩
abbrev cX11_ways : ByteArray := prog_1_method_33_code
def yX11_ways : MethodName := ⟨RX11, "ways", "(I)J"⟩
abbrev cX11_whose : ByteArray := prog_1_method_47_code
def yX11_whose : MethodName := ⟨RX11, "whose", "(I)I"⟩
abbrev cX11_write : ByteArray := prog_1_method_55_code
def yX11_write : MethodName := ⟨RX11, "write", "(IIJ)J"⟩
abbrev cX0_init : ByteArray := prog_2_method_1_code
def yX0_init : MethodName := ⟨RX0, "<init>", "()V"⟩
abbrev cX0_begunOver : ByteArray := prog_2_method_8_code
def yX0_begunOver : MethodName := ⟨RX0, "begunOver", "(III)I"⟩
abbrev cX0_fewest : ByteArray := prog_2_method_6_code
def yX0_fewest : MethodName := ⟨RX0, "fewest", "(LFootholdWall$Rows;II)I"⟩
abbrev cX0_first : ByteArray := prog_2_method_7_code
def yX0_first : MethodName := ⟨RX0, "first", "(LFootholdWall$Rows;II)I"⟩
abbrev cX0_growFrom : ByteArray := prog_2_method_3_code
def yX0_growFrom : MethodName := ⟨RX0, "growFrom", "(I)V"⟩
abbrev cX0_inClimbs : ByteArray := prog_2_method_4_code
def yX0_inClimbs : MethodName := ⟨RX0, "inClimbs", "(LFootholdWall$Rows;I)I"⟩
abbrev cX0_leadingOn : ByteArray := prog_2_method_5_code
def yX0_leadingOn : MethodName := ⟨RX0, "leadingOn", "(LFootholdWall$Rows;II)I"⟩
abbrev cX0_prepare : ByteArray := prog_2_method_2_code
def yX0_prepare : MethodName := ⟨RX0, "prepare", "(LFootholdWall$Rows;II)V"⟩
abbrev cX1_init : ByteArray := prog_3_method_1_code
def yX1_init : MethodName := ⟨RX1, "<init>", "()V"⟩
abbrev cX1_fewest : ByteArray := prog_3_method_2_code
def yX1_fewest : MethodName := ⟨RX1, "fewest", "(LFootholdWall$Rows;II)I"⟩
abbrev cX1_lay : ByteArray := prog_3_method_8_code
def yX1_lay : MethodName := ⟨RX1, "lay", "(I)V"⟩
abbrev cX1_layOneMore : ByteArray := prog_3_method_4_code
def yX1_layOneMore : MethodName := ⟨RX1, "layOneMore", "(II)Z"⟩
abbrev cX1_leastSet : ByteArray := prog_3_method_3_code
def yX1_leastSet : MethodName := ⟨RX1, "leastSet", "(LFootholdWall$Rows;I)I"⟩
abbrev cX1_visit : ByteArray := prog_3_method_7_code
def yX1_visit : MethodName := ⟨RX1, "visit", "(II)V"⟩
abbrev cX1_visitBeyond : ByteArray := prog_3_method_5_code
def yX1_visitBeyond : MethodName := ⟨RX1, "visitBeyond", "(II)V"⟩
abbrev cX1_visitNear : ByteArray := prog_3_method_6_code
def yX1_visitNear : MethodName := ⟨RX1, "visitNear", "(II)V"⟩
abbrev cX2_init : ByteArray := prog_4_method_1_code
def yX2_init : MethodName := ⟨RX2, "<init>", "([I)V"⟩
abbrev cX2_asks : ByteArray := prog_4_method_2_code
def yX2_asks : MethodName := ⟨RX2, "asks", "(I)Z"⟩
abbrev cX2_holds : ByteArray := prog_4_method_3_code
def yX2_holds : MethodName := ⟨RX2, "holds", "()Z"⟩
abbrev cX2_joined : ByteArray := prog_4_method_4_code
def yX2_joined : MethodName := ⟨RX2, "joined", "(III)I"⟩
abbrev cX3_init : ByteArray := prog_5_method_1_code
def yX3_init : MethodName := ⟨RX3, "<init>", "(LFootholdWall$Tokens;)V"⟩
abbrev cX3_aimSkip : ByteArray := prog_5_method_5_code
def yX3_aimSkip : MethodName := ⟨RX3, "aimSkip", "(I)V"⟩
abbrev cX3_enter : ByteArray := prog_5_method_9_code
def yX3_enter : MethodName := ⟨RX3, "enter", "(I)Z"⟩
abbrev cX3_factHere : ByteArray := prog_5_method_13_code
def yX3_factHere : MethodName := ⟨RX3, "factHere", "()I"⟩
abbrev cX3_made : ByteArray := prog_5_method_3_code
def yX3_made : MethodName := ⟨RX3, "made", "()LFootholdWall$Law;"⟩
abbrev cX3_put : ByteArray := prog_5_method_4_code
def yX3_put : MethodName := ⟨RX3, "put", "(II)V"⟩
abbrev cX3_read : ByteArray := prog_5_method_2_code
def yX3_read : MethodName := ⟨RX3, "read", "()Z"⟩
abbrev cX3_readAtom : ByteArray := prog_5_method_12_code
def yX3_readAtom : MethodName := ⟨RX3, "readAtom", "(I)Z"⟩
abbrev cX3_readBoth : ByteArray := prog_5_method_7_code
def yX3_readBoth : MethodName := ⟨RX3, "readBoth", "(I)Z"⟩
abbrev cX3_readSum : ByteArray := prog_5_method_10_code
def yX3_readSum : MethodName := ⟨RX3, "readSum", "(I)Z"⟩
abbrev cX3_readTerm : ByteArray := prog_5_method_11_code
def yX3_readTerm : MethodName := ⟨RX3, "readTerm", "(I)Z"⟩
abbrev cX3_readTruth : ByteArray := prog_5_method_6_code
def yX3_readTruth : MethodName := ⟨RX3, "readTruth", "(I)Z"⟩
abbrev cX3_readUnit : ByteArray := prog_5_method_8_code
def yX3_readUnit : MethodName := ⟨RX3, "readUnit", "(I)Z"⟩
abbrev cX4_init : ByteArray := prog_6_method_1_code
def yX4_init : MethodName := ⟨RX4, "<init>", "()V"⟩
abbrev cX4_made : ByteArray := prog_6_method_3_code
def yX4_made : MethodName := ⟨RX4, "made", "()LFootholdWall$Wall;"⟩
abbrev cX4_read : ByteArray := prog_6_method_2_code
def yX4_read : MethodName := ⟨RX4, "read", "([BI)Z"⟩
abbrev cX4_readBroken : ByteArray := prog_6_method_9_code
def yX4_readBroken : MethodName := ⟨RX4, "readBroken", "()Z"⟩
abbrev cX4_readFlag : ByteArray := prog_6_method_6_code
def yX4_readFlag : MethodName := ⟨RX4, "readFlag", "(I)Z"⟩
abbrev cX4_readGuide : ByteArray := prog_6_method_7_code
def yX4_readGuide : MethodName := ⟨RX4, "readGuide", "()Z"⟩
abbrev cX4_readHold : ByteArray := prog_6_method_5_code
def yX4_readHold : MethodName := ⟨RX4, "readHold", "()Z"⟩
abbrev cX4_readLine : ByteArray := prog_6_method_4_code
def yX4_readLine : MethodName := ⟨RX4, "readLine", "()Z"⟩
abbrev cX4_readUsed : ByteArray := prog_6_method_8_code
def yX4_readUsed : MethodName := ⟨RX4, "readUsed", "()Z"⟩
abbrev cX5_init : ByteArray := prog_7_method_1_code
def yX5_init : MethodName := ⟨RX5, "<init>", "(LFootholdWall$Wall;)V"⟩
abbrev cX5_aim : ByteArray := prog_7_method_2_code
def yX5_aim : MethodName := ⟨RX5, "aim", "(LFootholdWall$Wall;III)V"⟩
abbrev cX5_getsUp : ByteArray := prog_7_method_6_code
def yX5_getsUp : MethodName := ⟨RX5, "getsUp", "(I)Z"⟩
abbrev cX5_reached : ByteArray := prog_7_method_5_code
def yX5_reached : MethodName := ⟨RX5, "reached", "(I)I"⟩
abbrev cX5_spread : ByteArray := prog_7_method_4_code
def yX5_spread : MethodName := ⟨RX5, "spread", "(IIII)I"⟩
abbrev cX5_stepped : ByteArray := prog_7_method_3_code
def yX5_stepped : MethodName := ⟨RX5, "stepped", "(II)I"⟩
abbrev cX6_init : ByteArray := prog_8_method_1_code
def yX6_init : MethodName := ⟨RX6, "<init>", "()V"⟩
abbrev cX6_breakDown : ByteArray := prog_8_method_7_code
def yX6_breakDown : MethodName := ⟨RX6, "breakDown", "(I)I"⟩
abbrev cX6_comeBack : ByteArray := prog_8_method_9_code
def yX6_comeBack : MethodName := ⟨RX6, "comeBack", "(I)I"⟩
abbrev cX6_forget : ByteArray := prog_8_method_3_code
def yX6_forget : MethodName := ⟨RX6, "forget", "()V"⟩
abbrev cX6_isUsed : ByteArray := prog_8_method_4_code
def yX6_isUsed : MethodName := ⟨RX6, "isUsed", "(I)Z"⟩
abbrev cX6_take : ByteArray := prog_8_method_2_code
def yX6_take : MethodName := ⟨RX6, "take", "(LFootholdWall$State;)V"⟩
abbrev cX6_use : ByteArray := prog_8_method_6_code
def yX6_use : MethodName := ⟨RX6, "use", "(II)I"⟩
abbrev cX6_useSinceToday : ByteArray := prog_8_method_8_code
def yX6_useSinceToday : MethodName := ⟨RX6, "useSinceToday", "()V"⟩
abbrev cX6_usedBy : ByteArray := prog_8_method_5_code
def yX6_usedBy : MethodName := ⟨RX6, "usedBy", "(I)I"⟩
abbrev cX7_init : ByteArray := prog_9_method_1_code
def yX7_init : MethodName := ⟨RX7, "<init>", "()V"⟩
abbrev cX7_begin : ByteArray := prog_9_method_2_code
def yX7_begin : MethodName := ⟨RX7, "begin", "([BI)V"⟩
abbrev cX7_go : ByteArray := prog_9_method_3_code
def yX7_go : MethodName := ⟨RX7, "go", "()V"⟩
abbrev cX7_isDigit : ByteArray := prog_9_method_5_code
def yX7_isDigit : MethodName := ⟨RX7, "isDigit", "(I)Z"⟩
abbrev cX7_isLetter : ByteArray := prog_9_method_4_code
def yX7_isLetter : MethodName := ⟨RX7, "isLetter", "(I)Z"⟩
abbrev cX7_isSign : ByteArray := prog_9_method_7_code
def yX7_isSign : MethodName := ⟨RX7, "isSign", "(C)Z"⟩
abbrev cX7_isWord : ByteArray := prog_9_method_6_code
def yX7_isWord : MethodName := ⟨RX7, "isWord", "(Ljava/lang/String;)Z"⟩
abbrev cX7_refuse : ByteArray := prog_9_method_8_code
def yX7_refuse : MethodName := ⟨RX7, "refuse", "(I)Z"⟩
abbrev cX7_takeNumber : ByteArray := prog_9_method_11_code
def yX7_takeNumber : MethodName := ⟨RX7, "takeNumber", "(I)I"⟩
abbrev cX7_takeSign : ByteArray := prog_9_method_10_code
def yX7_takeSign : MethodName := ⟨RX7, "takeSign", "(C)Z"⟩
abbrev cX7_takeWord : ByteArray := prog_9_method_9_code
def yX7_takeWord : MethodName := ⟨RX7, "takeWord", "(Ljava/lang/String;)Z"⟩
abbrev cX8_init : ByteArray := prog_10_method_1_code
def yX8_init : MethodName := ⟨RX8, "<init>", "()V"⟩
abbrev cX8_at : ByteArray := prog_10_method_4_code
def yX8_at : MethodName := ⟨RX8, "at", "(I)J"⟩
abbrev cX8_isMissing : ByteArray := prog_10_method_2_code
def yX8_isMissing : MethodName := ⟨RX8, "isMissing", "()Z"⟩
abbrev cX8_lay : ByteArray := prog_10_method_3_code
def yX8_lay : MethodName := ⟨RX8, "lay", "(II)V"⟩
abbrev cX8_put : ByteArray := prog_10_method_5_code
def yX8_put : MethodName := ⟨RX8, "put", "(IJ)J"⟩
abbrev cX9_init : ByteArray := prog_11_method_1_code
def yX9_init : MethodName := ⟨RX9, "<init>", "(IILFootholdWall$Law;)V"⟩
abbrev cX9_asksDay : ByteArray := prog_11_method_4_code
def yX9_asksDay : MethodName := ⟨RX9, "asksDay", "()Z"⟩
abbrev cX9_asksLeg : ByteArray := prog_11_method_5_code
def yX9_asksLeg : MethodName := ⟨RX9, "asksLeg", "()Z"⟩
abbrev cX9_comeBy : ByteArray := prog_11_method_7_code
def yX9_comeBy : MethodName := ⟨RX9, "comeBy", "(I)I"⟩
abbrev cX9_cutToSize : ByteArray := prog_11_method_3_code
def yX9_cutToSize : MethodName := ⟨RX9, "cutToSize", "(LFootholdWall$Law;)LFootholdWall$Wall;"⟩
abbrev cX9_forget : ByteArray := prog_11_method_2_code
def yX9_forget : MethodName := ⟨RX9, "forget", "()V"⟩
abbrev cX9_mayStep : ByteArray := prog_11_method_8_code
def yX9_mayStep : MethodName := ⟨RX9, "mayStep", "(IIIII)Z"⟩
abbrev cX9_middles : ByteArray := prog_11_method_6_code
def yX9_middles : MethodName := ⟨RX9, "middles", "()I"⟩
abbrev cX10_init : ByteArray := prog_12_method_1_code
def yX10_init : MethodName := ⟨RX10, "<init>", "()V"⟩
abbrev cX10_climbsOn : ByteArray := prog_12_method_12_code
def yX10_climbsOn : MethodName := ⟨RX10, "climbsOn", "(LFootholdWall$Rows;III)J"⟩
abbrev cX10_climbsUpTo : ByteArray := prog_12_method_10_code
def yX10_climbsUpTo : MethodName := ⟨RX10, "climbsUpTo", "(LFootholdWall$Rows;II)J"⟩
abbrev cX10_endingFrom : ByteArray := prog_12_method_13_code
def yX10_endingFrom : MethodName := ⟨RX10, "endingFrom", "(I)I"⟩
abbrev cX10_find : ByteArray := prog_12_method_2_code
def yX10_find : MethodName := ⟨RX10, "find", "(LFootholdWall$Rows;I)I"⟩
abbrev cX10_findLayers : ByteArray := prog_12_method_4_code
def yX10_findLayers : MethodName := ⟨RX10, "findLayers", "(LFootholdWall$Rows;I)I"⟩
abbrev cX10_howMany : ByteArray := prog_12_method_6_code
def yX10_howMany : MethodName := ⟨RX10, "howMany", "(LFootholdWall$Rows;I)J"⟩
abbrev cX10_keepLeading : ByteArray := prog_12_method_5_code
def yX10_keepLeading : MethodName := ⟨RX10, "keepLeading", "(LFootholdWall$Rows;I)V"⟩
abbrev cX10_leadingTo : ByteArray := prog_12_method_11_code
def yX10_leadingTo : MethodName := ⟨RX10, "leadingTo", "(LFootholdWall$Rows;II)I"⟩
abbrev cX10_leastFromAny : ByteArray := prog_12_method_9_code
def yX10_leastFromAny : MethodName := ⟨RX10, "leastFromAny", "(I)I"⟩
abbrev cX10_leastUsed : ByteArray := prog_12_method_8_code
def yX10_leastUsed : MethodName := ⟨RX10, "leastUsed", "(LFootholdWall$Rows;I)I"⟩
abbrev cX10_numberFromAll : ByteArray := prog_12_method_7_code
def yX10_numberFromAll : MethodName := ⟨RX10, "numberFromAll", "(I)J"⟩
abbrev cX10_pathSet : ByteArray := prog_12_method_3_code
def yX10_pathSet : MethodName := ⟨RX10, "pathSet", "()I"⟩
abbrev cL_law : ByteArray := code
def yL_law : MethodName := ⟨RL, "law", "([I)Z"⟩
abbrev cX12_init : ByteArray := prog_14_method_3_code
def yX12_init : MethodName := ⟨RX12, "<init>", "()V"⟩
abbrev cX12_able : ByteArray := prog_14_method_93_code
def yX12_able : MethodName := ⟨RX12, "able", "()I"⟩
abbrev cX12_between : ByteArray := prog_14_method_46_code
def yX12_between : MethodName := ⟨RX12, "between", "(III)I"⟩
abbrev cX12_bitsOf : ByteArray := prog_14_method_40_code
def yX12_bitsOf : MethodName := ⟨RX12, "bitsOf", "(I)I"⟩
abbrev cX12_breaks : ByteArray := prog_14_method_71_code
def yX12_breaks : MethodName := ⟨RX12, "breaks", "(I)I"⟩
abbrev cX12_breaksOf : ByteArray := prog_14_method_30_code
def yX12_breaksOf : MethodName := ⟨RX12, "breaksOf", "([II)V"⟩
abbrev cX12_climb : ByteArray := prog_14_method_66_code
def yX12_climb : MethodName := ⟨RX12, "climb", "(I)I"⟩
abbrev cX12_climbs : ByteArray := prog_14_method_82_code
def yX12_climbs : MethodName := ⟨RX12, "climbs", "(II)J"⟩
abbrev cX12_climbsBy : ByteArray := prog_14_method_77_code
def yX12_climbsBy : MethodName := ⟨RX12, "climbsBy", "(I)J"⟩
abbrev cX12_climbsOf : ByteArray := prog_14_method_80_code
def yX12_climbsOf : MethodName := ⟨RX12, "climbsOf", "(II)J"⟩
abbrev cX12_codes : ByteArray := prog_14_method_16_code
def yX12_codes : MethodName := ⟨RX12, "codes", "(I)V"⟩
abbrev cX12_comesTo : ByteArray := prog_14_method_51_code
def yX12_comesTo : MethodName := ⟨RX12, "comesTo", "(I)I"⟩
abbrev cX12_count : ByteArray := prog_14_method_114_code
def yX12_count : MethodName := ⟨RX12, "count", "(I)I"⟩
abbrev cX12_cut : ByteArray := prog_14_method_108_code
def yX12_cut : MethodName := ⟨RX12, "cut", "(JI)J"⟩
abbrev cX12_cutOf : ByteArray := prog_14_method_83_code
def yX12_cutOf : MethodName := ⟨RX12, "cutOf", "(I)I"⟩
abbrev cX12_days : ByteArray := prog_14_method_68_code
def yX12_days : MethodName := ⟨RX12, "days", "(I)I"⟩
abbrev cX12_dearest : ByteArray := prog_14_method_96_code
def yX12_dearest : MethodName := ⟨RX12, "dearest", "(I)I"⟩
abbrev cX12_draw : ByteArray := prog_14_method_74_code
def yX12_draw : MethodName := ⟨RX12, "draw", "(I)I"⟩
abbrev cX12_eats : ByteArray := prog_14_method_13_code
def yX12_eats : MethodName := ⟨RX12, "eats", "(I)Z"⟩
abbrev cX12_ends : ByteArray := prog_14_method_38_code
def yX12_ends : MethodName := ⟨RX12, "ends", "()I"⟩
abbrev cX12_fails : ByteArray := prog_14_method_11_code
def yX12_fails : MethodName := ⟨RX12, "fails", "(I)V"⟩
abbrev cX12_far : ByteArray := prog_14_method_44_code
def yX12_far : MethodName := ⟨RX12, "far", "(I)I"⟩
abbrev cX12_fault : ByteArray := prog_14_method_32_code
def yX12_fault : MethodName := ⟨RX12, "fault", "(I)I"⟩
abbrev cX12_feed : ByteArray := prog_14_method_5_code
def yX12_feed : MethodName := ⟨RX12, "feed", "(IIIII)I"⟩
abbrev cX12_goes : ByteArray := prog_14_method_67_code
def yX12_goes : MethodName := ⟨RX12, "goes", "(I)I"⟩
abbrev cX12_goesIn : ByteArray := prog_14_method_17_code
def yX12_goesIn : MethodName := ⟨RX12, "goesIn", "(I)Z"⟩
abbrev cX12_goesTurn : ByteArray := prog_14_method_106_code
def yX12_goesTurn : MethodName := ⟨RX12, "goesTurn", "(III)V"⟩
abbrev cX12_guide : ByteArray := prog_14_method_43_code
def yX12_guide : MethodName := ⟨RX12, "guide", "(II)I"⟩
abbrev cX12_hasClimb : ByteArray := prog_14_method_52_code
def yX12_hasClimb : MethodName := ⟨RX12, "hasClimb", "(I)Z"⟩
abbrev cX12_highest : ByteArray := prog_14_method_90_code
def yX12_highest : MethodName := ⟨RX12, "highest", "(I)I"⟩
abbrev cX12_hold : ByteArray := prog_14_method_41_code
def yX12_hold : MethodName := ⟨RX12, "hold", "(II)I"⟩
abbrev cX12_idle : ByteArray := prog_14_method_92_code
def yX12_idle : MethodName := ⟨RX12, "idle", "(I)I"⟩
abbrev cX12_image : ByteArray := prog_14_method_112_code
def yX12_image : MethodName := ⟨RX12, "image", "(I)I"⟩
abbrev cX12_inTurn : ByteArray := prog_14_method_107_code
def yX12_inTurn : MethodName := ⟨RX12, "inTurn", "(II)I"⟩
abbrev cX12_is : ByteArray := prog_14_method_12_code
def yX12_is : MethodName := ⟨RX12, "is", "(I)Z"⟩
abbrev cX12_isAhead : ByteArray := prog_14_method_60_code
def yX12_isAhead : MethodName := ⟨RX12, "isAhead", "()V"⟩
abbrev cX12_isDigit : ByteArray := prog_14_method_8_code
def yX12_isDigit : MethodName := ⟨RX12, "isDigit", "(I)Z"⟩
abbrev cX12_isGuide : ByteArray := prog_14_method_34_code
def yX12_isGuide : MethodName := ⟨RX12, "isGuide", "(J)Z"⟩
abbrev cX12_isHold : ByteArray := prog_14_method_33_code
def yX12_isHold : MethodName := ⟨RX12, "isHold", "(J)Z"⟩
abbrev cX12_isIn : ByteArray := prog_14_method_15_code
def yX12_isIn : MethodName := ⟨RX12, "isIn", "(JI)Z"⟩
abbrev cX12_isOpen : ByteArray := prog_14_method_36_code
def yX12_isOpen : MethodName := ⟨RX12, "isOpen", "(I)Z"⟩
abbrev cX12_isSetOf : ByteArray := prog_14_method_99_code
def yX12_isSetOf : MethodName := ⟨RX12, "isSetOf", "(I)Z"⟩
abbrev cX12_isSmall : ByteArray := prog_14_method_7_code
def yX12_isSmall : MethodName := ⟨RX12, "isSmall", "(I)Z"⟩
abbrev cX12_isThere : ByteArray := prog_14_method_35_code
def yX12_isThere : MethodName := ⟨RX12, "isThere", "(I)Z"⟩
abbrev cX12_judge : ByteArray := prog_14_method_65_code
def yX12_judge : MethodName := ⟨RX12, "judge", "(II)I"⟩
abbrev cX12_keeps : ByteArray := prog_14_method_58_code
def yX12_keeps : MethodName := ⟨RX12, "keeps", "()V"⟩
abbrev cX12_keepsAhead : ByteArray := prog_14_method_59_code
def yX12_keepsAhead : MethodName := ⟨RX12, "keepsAhead", "()V"⟩
abbrev cX12_keyAt : ByteArray := prog_14_method_9_code
def yX12_keyAt : MethodName := ⟨RX12, "keyAt", "()I"⟩
abbrev cX12_laysClimbs : ByteArray := prog_14_method_76_code
def yX12_laysClimbs : MethodName := ⟨RX12, "laysClimbs", "(I)V"⟩
abbrev cX12_laysClimbsOf : ByteArray := prog_14_method_78_code
def yX12_laysClimbsOf : MethodName := ⟨RX12, "laysClimbsOf", "(I)V"⟩
abbrev cX12_laysGuide : ByteArray := prog_14_method_50_code
def yX12_laysGuide : MethodName := ⟨RX12, "laysGuide", "(I)V"⟩
abbrev cX12_laysMore : ByteArray := prog_14_method_97_code
def yX12_laysMore : MethodName := ⟨RX12, "laysMore", "(II)V"⟩
abbrev cX12_laysSteps : ByteArray := prog_14_method_49_code
def yX12_laysSteps : MethodName := ⟨RX12, "laysSteps", "(II)V"⟩
abbrev cX12_laysWay : ByteArray := prog_14_method_54_code
def yX12_laysWay : MethodName := ⟨RX12, "laysWay", "(I)Z"⟩
abbrev cX12_laysWayOf : ByteArray := prog_14_method_56_code
def yX12_laysWayOf : MethodName := ⟨RX12, "laysWayOf", "(I)Z"⟩
abbrev cX12_laysWhose : ByteArray := prog_14_method_100_code
def yX12_laysWhose : MethodName := ⟨RX12, "laysWhose", "(II)I"⟩
abbrev cX12_leastLeg : ByteArray := prog_14_method_94_code
def yX12_leastLeg : MethodName := ⟨RX12, "leastLeg", "(I)I"⟩
abbrev cX12_leaves : ByteArray := prog_14_method_105_code
def yX12_leaves : MethodName := ⟨RX12, "leaves", "(II)I"⟩
abbrev cX12_lists : ByteArray := prog_14_method_111_code
def yX12_lists : MethodName := ⟨RX12, "lists", "(II)I"⟩
abbrev cX12_mayStep : ByteArray := prog_14_method_47_code
def yX12_mayStep : MethodName := ⟨RX12, "mayStep", "(III)Z"⟩
abbrev cX12_moreBy : ByteArray := prog_14_method_101_code
def yX12_moreBy : MethodName := ⟨RX12, "moreBy", "(II)I"⟩
abbrev cX12_nearer : ByteArray := prog_14_method_55_code
def yX12_nearer : MethodName := ⟨RX12, "nearer", "(II)I"⟩
abbrev cX12_needed : ByteArray := prog_14_method_88_code
def yX12_needed : MethodName := ⟨RX12, "needed", "(I)I"⟩
abbrev cX12_neededBy : ByteArray := prog_14_method_87_code
def yX12_neededBy : MethodName := ⟨RX12, "neededBy", "(I)I"⟩
abbrev cX12_needers : ByteArray := prog_14_method_89_code
def yX12_needers : MethodName := ⟨RX12, "needers", "(I)I"⟩
abbrev cX12_newYear : ByteArray := prog_14_method_72_code
def yX12_newYear : MethodName := ⟨RX12, "newYear", "()I"⟩
abbrev cX12_next : ByteArray := prog_14_method_10_code
def yX12_next : MethodName := ⟨RX12, "next", "()V"⟩
abbrev cX12_noTray : ByteArray := prog_14_method_62_code
def yX12_noTray : MethodName := ⟨RX12, "noTray", "(I)I"⟩
abbrev cX12_notes : ByteArray := prog_14_method_61_code
def yX12_notes : MethodName := ⟨RX12, "notes", "()V"⟩
abbrev cX12_numbers : ByteArray := prog_14_method_109_code
def yX12_numbers : MethodName := ⟨RX12, "numbers", "(III)I"⟩
abbrev cX12_openSet : ByteArray := prog_14_method_37_code
def yX12_openSet : MethodName := ⟨RX12, "openSet", "()I"⟩
abbrev cX12_opens : ByteArray := prog_14_method_95_code
def yX12_opens : MethodName := ⟨RX12, "opens", "(I)I"⟩
abbrev cX12_order : ByteArray := prog_14_method_103_code
def yX12_order : MethodName := ⟨RX12, "order", "(III)I"⟩
abbrev cX12_parties : ByteArray := prog_14_method_85_code
def yX12_parties : MethodName := ⟨RX12, "parties", "(I)I"⟩
abbrev cX12_partiesBy : ByteArray := prog_14_method_84_code
def yX12_partiesBy : MethodName := ⟨RX12, "partiesBy", "(I)I"⟩
abbrev cX12_plain : ByteArray := prog_14_method_4_code
def yX12_plain : MethodName := ⟨RX12, "plain", "([I)V"⟩
abbrev cX12_rain : ByteArray := prog_14_method_70_code
def yX12_rain : MethodName := ⟨RX12, "rain", "(I)I"⟩
abbrev cX12_rains : ByteArray := prog_14_method_69_code
def yX12_rains : MethodName := ⟨RX12, "rains", "()Z"⟩
abbrev cX12_reach : ByteArray := prog_14_method_53_code
def yX12_reach : MethodName := ⟨RX12, "reach", "(I)I"⟩
abbrev cX12_readAtom : ByteArray := prog_14_method_18_code
def yX12_readAtom : MethodName := ⟨RX12, "readAtom", "(I)V"⟩
abbrev cX12_readBoth : ByteArray := prog_14_method_22_code
def yX12_readBoth : MethodName := ⟨RX12, "readBoth", "(I)V"⟩
abbrev cX12_readFlag : ByteArray := prog_14_method_24_code
def yX12_readFlag : MethodName := ⟨RX12, "readFlag", "(I)Z"⟩
abbrev cX12_readGuide : ByteArray := prog_14_method_26_code
def yX12_readGuide : MethodName := ⟨RX12, "readGuide", "()V"⟩
abbrev cX12_readHold : ByteArray := prog_14_method_25_code
def yX12_readHold : MethodName := ⟨RX12, "readHold", "()V"⟩
abbrev cX12_readLine : ByteArray := prog_14_method_29_code
def yX12_readLine : MethodName := ⟨RX12, "readLine", "()V"⟩
abbrev cX12_readStep : ByteArray := prog_14_method_27_code
def yX12_readStep : MethodName := ⟨RX12, "readStep", "()V"⟩
abbrev cX12_readSum : ByteArray := prog_14_method_20_code
def yX12_readSum : MethodName := ⟨RX12, "readSum", "(I)V"⟩
abbrev cX12_readTerm : ByteArray := prog_14_method_19_code
def yX12_readTerm : MethodName := ⟨RX12, "readTerm", "(I)V"⟩
abbrev cX12_readTruth : ByteArray := prog_14_method_23_code
def yX12_readTruth : MethodName := ⟨RX12, "readTruth", "(I)V"⟩
abbrev cX12_readUnit : ByteArray := prog_14_method_21_code
def yX12_readUnit : MethodName := ⟨RX12, "readUnit", "(I)V"⟩
abbrev cX12_readUsed : ByteArray := prog_14_method_28_code
def yX12_readUsed : MethodName := ⟨RX12, "readUsed", "()V"⟩
abbrev cX12_restore : ByteArray := prog_14_method_113_code
def yX12_restore : MethodName := ⟨RX12, "restore", "(I)I"⟩
abbrev cX12_saved : ByteArray := prog_14_method_104_code
def yX12_saved : MethodName := ⟨RX12, "saved", "(I)I"⟩
abbrev cX12_season : ByteArray := prog_14_method_75_code
def yX12_season : MethodName := ⟨RX12, "season", "(II)I"⟩
abbrev cX12_see : ByteArray := prog_14_method_6_code
def yX12_see : MethodName := ⟨RX12, "see", "(I)I"⟩
abbrev cX12_shut : ByteArray := prog_14_method_86_code
def yX12_shut : MethodName := ⟨RX12, "shut", "(II)I"⟩
abbrev cX12_steps : ByteArray := prog_14_method_48_code
def yX12_steps : MethodName := ⟨RX12, "steps", "(III)I"⟩
abbrev cX12_takes : ByteArray := prog_14_method_14_code
def yX12_takes : MethodName := ⟨RX12, "takes", "(II)I"⟩
abbrev cX12_thereSet : ByteArray := prog_14_method_98_code
def yX12_thereSet : MethodName := ⟨RX12, "thereSet", "()I"⟩
abbrev cX12_together : ByteArray := prog_14_method_91_code
def yX12_together : MethodName := ⟨RX12, "together", "(II)I"⟩
abbrev cX12_told : ByteArray := prog_14_method_64_code
def yX12_told : MethodName := ⟨RX12, "told", "(I)I"⟩
abbrev cX12_undo : ByteArray := prog_14_method_73_code
def yX12_undo : MethodName := ⟨RX12, "undo", "(I)I"⟩
abbrev cX12_usedBy : ByteArray := prog_14_method_42_code
def yX12_usedBy : MethodName := ⟨RX12, "usedBy", "(I)I"⟩
abbrev cX12_usedMany : ByteArray := prog_14_method_39_code
def yX12_usedMany : MethodName := ⟨RX12, "usedMany", "()I"⟩
abbrev cX12_usesRow : ByteArray := prog_14_method_57_code
def yX12_usesRow : MethodName := ⟨RX12, "usesRow", "(I)I"⟩
abbrev cX12_wall : ByteArray := prog_14_method_31_code
def yX12_wall : MethodName := ⟨RX12, "wall", "(I)I"⟩
abbrev cX12_way : ByteArray := prog_14_method_79_code
def yX12_way : MethodName := ⟨RX12, "way", "(II)I"⟩
abbrev cX12_ways : ByteArray := prog_14_method_81_code
def yX12_ways : MethodName := ⟨RX12, "ways", "(I)J"⟩
abbrev cX12_whose : ByteArray := prog_14_method_102_code
def yX12_whose : MethodName := ⟨RX12, "whose", "(I)I"⟩
abbrev cX12_whyNot : ByteArray := prog_14_method_63_code
def yX12_whyNot : MethodName := ⟨RX12, "whyNot", "(IJII)I"⟩
abbrev cX12_within : ByteArray := prog_14_method_2_code
def yX12_within : MethodName := ⟨RX12, "within", "(JJJ)Z"⟩
abbrev cX12_wordOf : ByteArray := prog_14_method_45_code
def yX12_wordOf : MethodName := ⟨RX12, "wordOf", "(IIII)I"⟩
abbrev cX12_write : ByteArray := prog_14_method_110_code
def yX12_write : MethodName := ⟨RX12, "write", "(IIJ)J"⟩
abbrev cJ11_highSurrogate_5068e : ByteArray := prog_15_method_28_code
def yJ11_highSurrogate_5068e : MethodName := ⟨RJ11, "highSurrogate", "(I)C"⟩
abbrev cJ11_isValidCodePoint_9a6ad : ByteArray := prog_15_method_11_code
def yJ11_isValidCodePoint_9a6ad : MethodName := ⟨RJ11, "isValidCodePoint", "(I)Z"⟩
abbrev cJ11_lowSurrogate_5068e : ByteArray := prog_15_method_29_code
def yJ11_lowSurrogate_5068e : MethodName := ⟨RJ11, "lowSurrogate", "(I)C"⟩
abbrev cJ6_bitCount_0f7a4 : ByteArray := prog_17_method_49_code
def yJ6_bitCount_0f7a4 : MethodName := ⟨RJ6, "bitCount", "(I)I"⟩
abbrev cJ6_highestOneBit_0f7a4 : ByteArray := prog_17_method_45_code
def yJ6_highestOneBit_0f7a4 : MethodName := ⟨RJ6, "highestOneBit", "(I)I"⟩
abbrev cJ6_numberOfLeadingZeros_0f7a4 : ByteArray := prog_17_method_47_code
def yJ6_numberOfLeadingZeros_0f7a4 : MethodName := ⟨RJ6, "numberOfLeadingZeros", "(I)I"⟩
abbrev cJ6_numberOfTrailingZeros_0f7a4 : ByteArray := prog_17_method_48_code
def yJ6_numberOfTrailingZeros_0f7a4 : MethodName := ⟨RJ6, "numberOfTrailingZeros", "(I)I"⟩
abbrev cJ9_floorMod_7cf53 : ByteArray := prog_18_method_50_code
def yJ9_floorMod_7cf53 : MethodName := ⟨RJ9, "floorMod", "(II)I"⟩
abbrev cJ0_charAt_5068e : ByteArray := prog_20_method_56_code
def yJ0_charAt_5068e : MethodName := ⟨RJ0, "charAt", "(I)C"⟩
abbrev cJ0_checkBoundsBeginEnd_23922 : ByteArray := prog_20_method_158_code
def yJ0_checkBoundsBeginEnd_23922 : MethodName := ⟨RJ0, "checkBoundsBeginEnd", "(III)V"⟩
abbrev cJ0_checkIndex_df160 : ByteArray := prog_20_method_155_code
def yJ0_checkIndex_df160 : MethodName := ⟨RJ0, "checkIndex", "(II)V"⟩
abbrev cJ0_coder_7d493 : ByteArray := prog_20_method_152_code
def yJ0_coder_7d493 : MethodName := ⟨RJ0, "coder", "()B"⟩
abbrev cJ0_indexOf_0f7a4 : ByteArray := prog_20_method_79_code
def yJ0_indexOf_0f7a4 : MethodName := ⟨RJ0, "indexOf", "(I)I"⟩
abbrev cJ0_indexOf_7cf53 : ByteArray := prog_20_method_80_code
def yJ0_indexOf_7cf53 : MethodName := ⟨RJ0, "indexOf", "(II)I"⟩
abbrev cJ0_isLatin1_aae02 : ByteArray := prog_20_method_154_code
def yJ0_isLatin1_aae02 : MethodName := ⟨RJ0, "isLatin1", "()Z"⟩
abbrev cJ0_length_8abf5 : ByteArray := prog_20_method_54_code
def yJ0_length_8abf5 : MethodName := ⟨RJ0, "length", "()I"⟩
abbrev cJ1_canEncode_9a6ad : ByteArray := prog_21_method_4_code
def yJ1_canEncode_9a6ad : MethodName := ⟨RJ1, "canEncode", "(I)Z"⟩
abbrev cJ1_charAt_3b067 : ByteArray := prog_21_method_2_code
def yJ1_charAt_3b067 : MethodName := ⟨RJ1, "charAt", "([BI)C"⟩
abbrev cJ1_indexOf_4cfef : ByteArray := prog_21_method_22_code
def yJ1_indexOf_4cfef : MethodName := ⟨RJ1, "indexOf", "([BIII)I"⟩
abbrev cJ1_indexOfChar_4cfef : ByteArray := prog_21_method_23_code
def yJ1_indexOfChar_4cfef : MethodName := ⟨RJ1, "indexOfChar", "([BIII)I"⟩
abbrev cJ2_charAt_3b067 : ByteArray := prog_22_method_83_code
def yJ2_charAt_3b067 : MethodName := ⟨RJ2, "charAt", "([BI)C"⟩
abbrev cJ2_checkBoundsBeginEnd_d044e : ByteArray := prog_22_method_93_code
def yJ2_checkBoundsBeginEnd_d044e : MethodName := ⟨RJ2, "checkBoundsBeginEnd", "(II[B)V"⟩
abbrev cJ2_checkIndex_2214a : ByteArray := prog_22_method_91_code
def yJ2_checkIndex_2214a : MethodName := ⟨RJ2, "checkIndex", "(I[B)V"⟩
abbrev cJ2_getChar_3b067 : ByteArray := prog_22_method_5_code
def yJ2_getChar_3b067 : MethodName := ⟨RJ2, "getChar", "([BI)C"⟩
abbrev cJ2_indexOf_4cfef : ByteArray := prog_22_method_40_code
def yJ2_indexOf_4cfef : MethodName := ⟨RJ2, "indexOf", "([BIII)I"⟩
abbrev cJ2_indexOfChar_4cfef : ByteArray := prog_22_method_47_code
def yJ2_indexOfChar_4cfef : MethodName := ⟨RJ2, "indexOfChar", "([BIII)I"⟩
abbrev cJ2_indexOfCharUnsafe_4cfef : ByteArray := prog_22_method_48_code
def yJ2_indexOfCharUnsafe_4cfef : MethodName := ⟨RJ2, "indexOfCharUnsafe", "([BIII)I"⟩
abbrev cJ2_indexOfSupplementary_4cfef : ByteArray := prog_22_method_49_code
def yJ2_indexOfSupplementary_4cfef : MethodName := ⟨RJ2, "indexOfSupplementary", "([BIII)I"⟩
abbrev cJ2_length_9d52b : ByteArray := prog_22_method_6_code
def yJ2_length_9d52b : MethodName := ⟨RJ2, "length", "([B)I"⟩
abbrev cJ7_copyOf_59c91 : ByteArray := prog_24_method_123_code
def yJ7_copyOf_59c91 : MethodName := ⟨RJ7, "copyOf", "([II)[I"⟩
abbrev cJ7_fill_d0a16 : ByteArray := prog_24_method_101_code
def yJ7_fill_d0a16 : MethodName := ⟨RJ7, "fill", "([JJ)V"⟩
abbrev cJ3_checkFromToIndex_8c36e : ByteArray := prog_25_method_12_code
def yJ3_checkFromToIndex_8c36e : MethodName := ⟨RJ3, "checkFromToIndex", "(IIILjava/util/function/BiFunction;)I"⟩
abbrev cJ3_checkIndex_8e157 : ByteArray := prog_25_method_11_code
def yJ3_checkIndex_8e157 : MethodName := ⟨RJ3, "checkIndex", "(IILjava/util/function/BiFunction;)I"⟩
/-! my own kit for p1: one list of words for all methods, contracts over worlds as lists, calls and returns as one row each -/
def gw : List Cond := lw_tbl.filter goodWord
theorem gw_of {w : Cond} (h : w ∈ lw_tbl) (g : goodWord w = true) : w ∈ gw := List.mem_filter.mpr ⟨h, g⟩
theorem gw_good {w : Cond} (h : w ∈ gw) : (w.onTables && w.keeps) = true ∨ ∃ ty, w = .arrayClass ty := good_of_word (List.mem_filter.mp h).2
theorem gw_tbl {w : Cond} (h : w ∈ gw) : w ∈ lw_tbl := (List.mem_filter.mp h).1
theorem tb_of {w : Cond} (i : Nat) (h : tables_1[i]? = some w) : w ∈ lw_tbl := List.mem_append_right _ (List.mem_of_getElem? h)
theorem pv_of {w : Cond} (i : Nat) (h : (k2_sels lw_privs)[i]? = some w) : w ∈ lw_tbl := List.mem_append_left _ (List.mem_of_getElem? h)
theorem u_gw {ws : List Cond} (h : ws.all (fun w => decide (w ∈ lw_tbl) && goodWord w) = true) : ∀ w ∈ ws, w ∈ gw := by
  intro w hw
  have h1 := List.all_eq_true.mp h w hw
  simp only [Bool.and_eq_true, decide_eq_true_eq] at h1
  exact gw_of h1.1 h1.2
theorem gi_app {a b : List Cond} (ha : ∀ w ∈ a, w ∈ gw) (hb : GoodIn gw b) : GoodIn gw (a ++ b) := by
  intro w hw
  rcases List.mem_append.mp hw with h | h
  · exact ⟨ha w h, gw_good (ha w h)⟩
  · exact hb w h
theorem gi_M {y : MethodName} {b : ByteArray} {n : Nat} {r : Option FieldType} (h : Cond.code y b n r ∈ gw) : GoodIn gw (Cond.code y b n r :: gw) := by
  intro w hw
  rcases List.mem_cons.mp hw with rfl | hw
  · exact ⟨h, gw_good h⟩
  · exact ⟨hw, gw_good hw⟩
abbrev wl (y : MethodName) (b : ByteArray) (n : Nat) (r : Option FieldType) : List Cond := Cond.code y b n r :: gw
abbrev cls : List vw_C := [(RX0, TX0, 4), (RX1, TX1, 7), (RX2, TX2, 3), (RX3, TX3, 3), (RX4, TX4, 5), (RX5, TX5, 6), (RX6, TX6, 6), (RX7, TX7, 8), (RX8, TX8, 3), (RX9, TX9, 14), (RX10, TX10, 7), (RX11, TX11, 20), (RX12, TX12, 36)]
/-- the array classes: byte, int, long, boolean, State, Wall, Tray, Rows -/
abbrev tyl (cB cI cJ cZ cS cW cT cR : ClassId) : List (ClassId × FieldType) := [(cB, .byte), (cI, .int), (cJ, .long), (cZ, .boolean), (cS, .object RX6), (cW, .object RX9), (cT, .object RX8), (cR, .object RX5)]
def kb (D : va_G) (ty : List (ClassId × FieldType)) (U : State) : Prop := va_K D cls ty U ∧ (va_AO RX6 U ∧ va_AO RX9 U ∧ va_AO RX8 U ∧ va_AO RX5 U) ∧ va_Nw (.methodLinkNest RX11 19 yX4_init RX11) U ∧ va_Nw (.methodLinkNest RX4 11 yX7_init RX11) U ∧ va_Nw (.methodLinkNest RX4 42 yX6_init RX11) U ∧ va_Nw (.methodLinkNest RX11 35 yX6_init RX11) U ∧ va_Nw (.methodLinkNest RX11 81 yX10_init RX11) U ∧ va_Nw (.methodLinkNest RX11 88 yX1_init RX11) U ∧ va_Nw (.methodLinkNest RX11 95 yX0_init RX11) U ∧ va_Nw (.methodLinkNest RX11 110 yX8_init RX11) U ∧ va_Nw (.castable "[I" "java/lang/Cloneable") U
theorem kb.warm {D : va_G} {ty : List (ClassId × FieldType)} {s U : State} (hW : s.WarmedH U.vm) (h : kb D ty s) : kb D ty U := by
  obtain ⟨h1, ⟨a1, a2, a3, a4⟩, n1, n2, n3, n4, n5, n6, n7, n8, n9⟩ := h
  exact ⟨va_K.moved hW.alike h1, ⟨va_AO.moved hW.alike a1, va_AO.moved hW.alike a2, va_AO.moved hW.alike a3, va_AO.moved hW.alike a4⟩, va_Nw.warmM hW n1, va_Nw.warmM hW n2, va_Nw.warmM hW n3, va_Nw.warmM hW n4, va_Nw.warmM hW n5, va_Nw.warmM hW n6, va_Nw.warmM hW n7, va_Nw.warmM hW n8, va_Nw.warmC hW n9⟩
theorem kb.same {D : va_G} {ty : List (ClassId × FieldType)} {s U : State} (hv : s.vm = U.vm) (h : kb D ty s) : kb D ty U := by
  obtain ⟨h1, ⟨a1, a2, a3, a4⟩, n1, n2, n3, n4, n5, n6, n7, n8, n9⟩ := h
  have al : s.vm.Alike U.vm := by rw [hv]; exact Vm.Alike.refl _
  exact ⟨va_K.moved al h1, ⟨va_AO.moved al a1, va_AO.moved al a2, va_AO.moved al a3, va_AO.moved al a4⟩, va_Nw.same rfl hv n1, va_Nw.same rfl hv n2, va_Nw.same rfl hv n3, va_Nw.same rfl hv n4, va_Nw.same rfl hv n5, va_Nw.same rfl hv n6, va_Nw.same rfl hv n7, va_Nw.same rfl hv n8, va_Nw.same rfl hv n9⟩
def pr (D : va_G) (ty : List (ClassId × FieldType)) (ws : va_W) (sz : Nat) (U : State) : Prop := U.heap.size = sz ∧ va_P D cls ws U.heap ∧ kb D ty U ∧ va_D (fun _ => True) ws
theorem pr.blind {D : va_G} {ty : List (ClassId × FieldType)} {ws : va_W} {sz : Nat} {as : List Value} : FrameBlind (va_Pc as (pr D ty ws sz)) := fun a U g mk q => by
  obtain ⟨q0, q1, qP, qK, qD⟩ := q
  exact ⟨q0, q1, qP, kb.same rfl qK, qD⟩
def bw (D : va_G) (A : Nat → Prop) (u : va_W) (t : State) : Prop := va_P D cls u t.heap ∧ va_D A u
def bwr (D : va_G) (A : Nat → Prop) (u : va_W × Nat) (a : Nat) (t : State) : Prop := a = u.2 ∧ va_P D cls u.1 t.heap ∧ va_D A u.1
abbrev Qi (D : va_G) (post : Int32 → va_W → Prop) (A : Nat → Prop) : Array Value → State → Outcome → State → Prop := va_Qi post (bw D A) A
abbrev Ql (D : va_G) (post : Int64 → va_W → Prop) (A : Nat → Prop) : Array Value → State → Outcome → State → Prop := va_Ql post (bw D A) A
abbrev Qv (D : va_G) (post : va_W → Prop) (A : Nat → Prop) : Array Value → State → Outcome → State → Prop := va_Qv post (bw D A) A
abbrev Qr (D : va_G) (post : va_W × Nat → Prop) (A : Nat → Prop) : Array Value → State → Outcome → State → Prop := va_Qr post (bwr D A) A
/-- a contract: from the cells ws and the values as to Q -/
def Kon (l : Launch) (D : va_G) (ty : List (ClassId × FieldType)) (y : MethodName) (b : ByteArray) (n : Nat) (r : Option FieldType) (rm : Room) (as : List Value) (ws : va_W) (Q : (Nat → Prop) → Array Value → State → Outcome → State → Prop) : Prop :=
  ∀ sz : Nat, Met l y (wl y b n r) rm (va_Pc as (pr D ty ws sz)) (Q (va_A ws sz)) rm.cells rm.slots (va_A ws sz)
theorem kon_of {l : Launch} {D : va_G} {ty : List (ClassId × FieldType)} {y : MethodName} {b : ByteArray} {n : Nat} {r : Option FieldType} {rm : Room} {as : List Value} {ws : va_W} {Q : (Nat → Prop) → Array Value → State → Outcome → State → Prop} (hy : plainName y.cls = true) (hlen : (lg_sl as).length ≤ n)
    (body : ∀ (p : Program) (e : Env) (s : State) (m : MethodId) (below : List Frame) (meth : Method) (c : Code) (ls : Array Slot) (A : Nat → Prop), p.tables.exec = Jvm.exec → c.code = b → meth.sig.returnType = r → c.maxLocals = n → s.vm.findClass y.cls = some m.cls → (∀ w ∈ gw, w.before as.toArray s = true) → meth.locks = false → meth.name = y.name → kb D ty s → va_P D cls ws s.heap → va_D A ws → va_S A s.heap s.heap [] → (∀ q : Nat, s.heap.size ≤ q → A q) → lv_has ls n (lv_args 0 as) →
      W p l e rm s m as.toArray below meth c s.heap [] 0 0 (MQ below (Q A) as.toArray s rm.cells rm.slots A) (F0 m 0 ls [])) : Kon l D ty y b n r rm as ws Q := by
  intro sz
  refine Met.ofW (cc := b) (maxL := n) (ret := r) hy rfl ?_
  intro p e s m args below meth c s₁ B hml hv
  obtain ⟨rfl, hsz, hP, hK, hD0⟩ := hv
  have hts := atoms_spec (ws := wl y b n r) B.pre
  subst hsz
  have hD := hD0.self (sz := s.heap.size)
  rw [lg_entry_eq]
  exact body p e s m below meth c _ _ B.exec B.bytes B.returns hml (findClass_of_methodNamed B.named) (fun w hw => hts w (List.mem_cons_of_mem _ hw)) B.notSynchronized (name_of_methodNamed B.named B.method).1 hK hP hD va_S.rf (fun q h => Or.inr h) (lv_entry as hlen)
section MyRows
variable {p : Program} {l : Launch} {e : Env} {R : Room} {s : State} {m : MethodId} {args : Array Value} {below : List Frame} {meth : Method} {c : Code} {H : Heap} {locs : List Loc} {cells slots : Nat} {Q : State → Prop}
variable {cc : ByteArray} {pc : Nat} {ls : Array Slot} {rest : List Value} {D : va_G} {A : Nat → Prop} {a : Nat} {ty : List (ClassId × FieldType)} {ws : va_W} {H0 : Heap}
theorem lv_topc {x y : Int32} (h : x = y) (k : W p l e R s m args below meth c H locs cells slots Q (F0 m pc ls (.int y :: rest))) : W p l e R s m args below meth c H locs cells slots Q (F0 m pc ls (.int x :: rest)) := h ▸ k
theorem lv_topcl {x y : Int64} (h : x = y) (k : W p l e R s m args below meth c H locs cells slots Q (F0 m pc ls (.long y :: rest))) : W p l e R s m args below meth c H locs cells slots Q (F0 m pc ls (.long x :: rest)) := h ▸ k
theorem lv_topcv {x y : Value} (h : x = y) (k : W p l e R s m args below meth c H locs cells slots Q (F0 m pc ls (y :: rest))) : W p l e R s m args below meth c H locs cells slots Q (F0 m pc ls (x :: rest)) := h ▸ k
theorem in_c {i : Int32} {n : Nat} (h : (decide (i < 0) || decide (n ≤ i.toNatClampNeg)) = false) : vp_in i n := by
  intro q
  rcases q with q | q
  · rw [decide_eq_true q] at h; cases h
  · rw [decide_eq_true q, Bool.or_true] at h; cases h
/-- stores at a known place -/
theorem s_i {cA : ClassId} {n : Nat} {f : Nat → Int32} {i x : Int32} (q0 t0 : Nat) (hx : p.tables.exec = Jvm.exec) (hb : c.code = cc) (hK : va_K D cls ty s) (hP : va_P D cls ws H) (hD : va_D A ws) (hS : va_S A H0 H locs) (ha : ws[q0]? = some (a, .inl (cA, n, .inl f))) (ht : ty[t0]? = some (cA, .int)) (hin : vp_in i n) (k : Nat) (hk : i.toNatClampNeg = k) (hdg : decode cc pc = .ok (.iastore, 1))
    (kk : ∀ (H1 : Heap) (locs1 : List Loc), va_P D cls (ws.set q0 (a, .inl (cA, n, .inl (upd f k x)))) H1 → va_D A (ws.set q0 (a, .inl (cA, n, .inl (upd f k x)))) → va_S A H0 H1 locs1 → W p l e R s m args below meth c H1 locs1 cells slots Q (F0 m (pc + 1) ls rest)) : W p l e R s m args below meth c H locs cells slots Q (F0 m pc ls (.int x :: .int i :: .ref a :: rest)) := by
  subst hk
  exact va_iast hx hb hK hP hD hS q0 t0 ha ht hin hdg kk
theorem s_b {cA : ClassId} {n : Nat} {f : Nat → Int32} {i x : Int32} (q0 t0 : Nat) (hx : p.tables.exec = Jvm.exec) (hb : c.code = cc) (hK : va_K D cls ty s) (hP : va_P D cls ws H) (hD : va_D A ws) (hS : va_S A H0 H locs) (ha : ws[q0]? = some (a, .inl (cA, n, .inl f))) (ht : ty[t0]? = some (cA, .byte)) (hin : vp_in i n) (k : Nat) (hk : i.toNatClampNeg = k) (hdg : decode cc pc = .ok (.bastore, 1))
    (kk : ∀ (H1 : Heap) (locs1 : List Loc), va_P D cls (ws.set q0 (a, .inl (cA, n, .inl (upd f k (vp_nar .byte x))))) H1 → va_D A (ws.set q0 (a, .inl (cA, n, .inl (upd f k (vp_nar .byte x))))) → va_S A H0 H1 locs1 → W p l e R s m args below meth c H1 locs1 cells slots Q (F0 m (pc + 1) ls rest)) : W p l e R s m args below meth c H locs cells slots Q (F0 m pc ls (.int x :: .int i :: .ref a :: rest)) := by
  subst hk
  exact va_bast hx hb hK hP hD hS q0 t0 ha ht hin hdg kk
theorem s_z {cA : ClassId} {n : Nat} {f : Nat → Int32} {i x : Int32} (q0 t0 : Nat) (hx : p.tables.exec = Jvm.exec) (hb : c.code = cc) (hK : va_K D cls ty s) (hP : va_P D cls ws H) (hD : va_D A ws) (hS : va_S A H0 H locs) (ha : ws[q0]? = some (a, .inl (cA, n, .inl f))) (ht : ty[t0]? = some (cA, .boolean)) (hin : vp_in i n) (k : Nat) (hk : i.toNatClampNeg = k) (hdg : decode cc pc = .ok (.bastore, 1))
    (kk : ∀ (H1 : Heap) (locs1 : List Loc), va_P D cls (ws.set q0 (a, .inl (cA, n, .inl (upd f k (vp_nar .boolean x))))) H1 → va_D A (ws.set q0 (a, .inl (cA, n, .inl (upd f k (vp_nar .boolean x))))) → va_S A H0 H1 locs1 → W p l e R s m args below meth c H1 locs1 cells slots Q (F0 m (pc + 1) ls rest)) : W p l e R s m args below meth c H locs cells slots Q (F0 m pc ls (.int x :: .int i :: .ref a :: rest)) := by
  subst hk
  exact va_zast hx hb hK hP hD hS q0 t0 ha ht hin hdg kk
theorem s_l {cA : ClassId} {n : Nat} {f : Nat → Int64} {i : Int32} {x : Int64} (q0 t0 : Nat) (hx : p.tables.exec = Jvm.exec) (hb : c.code = cc) (hK : va_K D cls ty s) (hP : va_P D cls ws H) (hD : va_D A ws) (hS : va_S A H0 H locs) (ha : ws[q0]? = some (a, .inl (cA, n, .inr (.inl f)))) (ht : ty[t0]? = some (cA, .long)) (hin : vp_in i n) (k : Nat) (hk : i.toNatClampNeg = k) (hdg : decode cc pc = .ok (.lastore, 1))
    (kk : ∀ (H1 : Heap) (locs1 : List Loc), va_P D cls (ws.set q0 (a, .inl (cA, n, .inr (.inl (vp_updL f k x))))) H1 → va_D A (ws.set q0 (a, .inl (cA, n, .inr (.inl (vp_updL f k x))))) → va_S A H0 H1 locs1 → W p l e R s m args below meth c H1 locs1 cells slots Q (F0 m (pc + 1) ls rest)) : W p l e R s m args below meth c H locs cells slots Q (F0 m pc ls (.long x :: .int i :: .ref a :: rest)) := by
  subst hk
  exact va_last hx hb hK hP hD hS q0 t0 ha ht hin hdg kk
theorem s_q {cA : ClassId} {r : vw_C} {n v : Nat} {vs : List Value} {f : Nat → Option Nat} {i : Int32} (q0 t0 qk ci : Nat) (hx : p.tables.exec = Jvm.exec) (hb : c.code = cc) (hK : va_K D cls ty s) (hP : va_P D cls ws H) (hD : va_D A ws) (hS : va_S A H0 H locs) (ha : ws[q0]? = some (a, .inl (cA, n, .inr (.inr (.inr (.inr f)))))) (ht : ty[t0]? = some (cA, .object r.1)) (hv : ws[qk]? = some (v, .inr (ci, vs))) (hc : cls[ci]? = some r) (hin : vp_in i n) (k : Nat) (hk : i.toNatClampNeg = k) (hdg : decode cc pc = .ok (.aastore, 1))
    (kk : ∀ (H1 : Heap) (locs1 : List Loc), va_P D cls (ws.set q0 (a, .inl (cA, n, .inr (.inr (.inr (.inr (va_up f k (some v)))))))) H1 → va_D A (ws.set q0 (a, .inl (cA, n, .inr (.inr (.inr (.inr (va_up f k (some v)))))))) → va_S A H0 H1 locs1 → W p l e R s m args below meth c H1 locs1 cells slots Q (F0 m (pc + 1) ls rest)) : W p l e R s m args below meth c H locs cells slots Q (F0 m pc ls (.ref v :: .int i :: .ref a :: rest)) := by
  subst hk
  exact va_astq hx hb hK hP hD hS q0 t0 qk ci ha ht hv hc hin hdg kk
/-- the run of a call, kinds: virtual, static, init, a nest mate's init -/
theorem r_V {own C : String} {idx n n' nL ci q0 : Nat} {y : MethodName} {yb : ByteArray} {r : Option FieldType} {rm : Room} {b : Addr} {As st : List Value} {wc : va_W} {fs : List Value} {T : u_T} {N : Nat} {Qm : (Nat → Prop) → Array Value → State → Outcome → State → Prop}
    (hx : p.tables.exec = Jvm.exec) (hb : c.code = cc) (hml : c.maxLocals = nL) (hown : s.vm.findClass own = some m.cls) (hts : ∀ w ∈ gw, w.before args s = true) (hkb : kb D ty s) (hP : va_P D cls wc H) (hD : va_D A wc)
    (hM : Kon l D ty y yb n' r rm (.ref b :: As) wc Qm) (h1 : Cond.methodLink own idx y ∈ gw) (h2 : Cond.instanceMethod y ∈ gw) (h3 : Cond.selects C y y ∈ gw) (h4 : Cond.initialized C ∈ gw) (h5 : Cond.code y yb n' r ∈ gw)
    (hd : y.cls = C ∧ y.cls ≠ "java/lang/invoke/MethodHandle" ∧ y.cls ≠ "java/lang/invoke/VarHandle" ∧ (parseMethodDescriptor y.desc).map (fun d => d.parameters.length) = some n) (hR : rm.frames + 1 ≤ R.frames ∧ 8 + (n' + 11) + rm.locals ≤ R.locals)
    (he : wc[q0]? = some (b, .inr (ci, fs))) (hc : cls[ci]? = some (C, T, N)) (hn : As.length = n) (hst : st = As.reverse ++ .ref b :: rest) (hsz : ls.size = nL) (hW : (rest.map fun v => v.category).sum ≤ 8) (hdg : decode cc pc = .ok (.invokevirtual idx, 3)) (hf : cells + rm.cells ≤ R.cells ∧ slots + rm.slots ≤ R.slots) :
    va_Run p l e R s m args below meth c H locs cells slots rm.cells rm.slots (F0 m pc ls st) rest (Qm (va_A wc H.size) (Value.ref b :: As).toArray) (va_A wc H.size) := by
  subst hst
  have hG : GoodIn gw (wsV own idx C y (wl y yb n' r)) := gi_app (fun w hw => by
    simp only [List.mem_cons, List.not_mem_nil, or_false] at hw
    rcases hw with rfl | rfl | rfl | rfl
    · exact h1
    · exact h2
    · exact h3
    · exact h4) (gi_M h5)
  exact va_runV (As := As) (rest := rest) ⟨hx, hb, hml, hown, hts⟩ (hM H.size) (cwV n hts hG rfl rfl rfl hd hR) ⟨pr.blind, va_recv hkb.1 hP hc he, fun U hU hW => ⟨rfl, by rw [hU], by rw [hU]; exact hP, kb.warm hW hkb, hD.weaken (fun _ _ _ _ => trivial)⟩⟩ rfl hn hsz rfl (lv_room hW) hdg hf
theorem r_S {own : String} {idx n n' nL : Nat} {y : MethodName} {yb : ByteArray} {r : Option FieldType} {rm : Room} {As st : List Value} {wc : va_W} {Qm : (Nat → Prop) → Array Value → State → Outcome → State → Prop}
    (hx : p.tables.exec = Jvm.exec) (hb : c.code = cc) (hml : c.maxLocals = nL) (hown : s.vm.findClass own = some m.cls) (hts : ∀ w ∈ gw, w.before args s = true) (hkb : kb D ty s) (hP : va_P D cls wc H) (hD : va_D A wc)
    (hM : Kon l D ty y yb n' r rm As wc Qm) (h1 : Cond.methodLink own idx y ∈ gw) (h2 : Cond.static y ∈ gw) (h4 : Cond.initialized y.cls ∈ gw) (h5 : Cond.code y yb n' r ∈ gw)
    (hd : y.cls ≠ "java/lang/invoke/MethodHandle" ∧ y.cls ≠ "java/lang/invoke/VarHandle" ∧ (parseMethodDescriptor y.desc).map (fun d => d.parameters.length) = some n) (hR : rm.frames + 1 ≤ R.frames ∧ 8 + (n' + 11) + rm.locals ≤ R.locals)
    (hn : As.length = n) (hst : st = As.reverse ++ rest) (hsz : ls.size = nL) (hW : (rest.map fun v => v.category).sum ≤ 8) (hdg : decode cc pc = .ok (.invokestatic idx, 3)) (hf : cells + rm.cells ≤ R.cells ∧ slots + rm.slots ≤ R.slots) :
    va_Run p l e R s m args below meth c H locs cells slots rm.cells rm.slots (F0 m pc ls st) rest (Qm (va_A wc H.size) As.toArray) (va_A wc H.size) := by
  subst hst
  exact va_runS (As := As) (rest := rest) ⟨hx, hb, hml, hown, hts⟩ (hM H.size) ⟨callB_of n hts (gi_M h5) rfl rfl rfl (hts _ h4) (hts _ h1) hd hR, hts _ h2⟩ ⟨pr.blind, fun U hU hW => ⟨rfl, by rw [hU], by rw [hU]; exact hP, kb.warm hW hkb, hD.weaken (fun _ _ _ _ => trivial)⟩⟩ rfl hn hsz rfl (lv_room hW) hdg hf
theorem r_I {own : String} {idx n n' nL : Nat} {y : MethodName} {yb : ByteArray} {rm : Room} {b : Addr} {As st : List Value} {wc : va_W} {Qm : (Nat → Prop) → Array Value → State → Outcome → State → Prop}
    (hx : p.tables.exec = Jvm.exec) (hb : c.code = cc) (hml : c.maxLocals = nL) (hown : s.vm.findClass own = some m.cls) (hts : ∀ w ∈ gw, w.before args s = true) (hkb : kb D ty s) (hP : va_P D cls wc H) (hD : va_D A wc)
    (hM : Kon l D ty y yb n' none rm (.ref b :: As) wc Qm) (h1 : Cond.methodLink own idx y ∈ gw) (h2 : Cond.instanceMethod y ∈ gw) (h4 : Cond.initialized y.cls ∈ gw) (h5 : Cond.code y yb n' none ∈ gw) (hy1 : y.name = "<init>")
    (hd : y.cls ≠ "java/lang/invoke/MethodHandle" ∧ y.cls ≠ "java/lang/invoke/VarHandle" ∧ (parseMethodDescriptor y.desc).map (fun d => d.parameters.length) = some n) (hR : rm.frames + 1 ≤ R.frames ∧ 8 + (n' + 11) + rm.locals ≤ R.locals)
    (hn : As.length = n) (hst : st = As.reverse ++ .ref b :: rest) (hsz : ls.size = nL) (hW : (rest.map fun v => v.category).sum ≤ 8) (hdg : decode cc pc = .ok (.invokespecial idx, 3)) (hf : cells + rm.cells ≤ R.cells ∧ slots + rm.slots ≤ R.slots) :
    va_Run p l e R s m args below meth c H locs cells slots rm.cells rm.slots (F0 m pc ls st) rest (Qm (va_A wc H.size) (Value.ref b :: As).toArray) (va_A wc H.size) := by
  subst hst
  exact va_runI (As := As) (rest := rest) ⟨hx, hb, hml, hown, hts⟩ (hM H.size) (cwI n hts (gi_M h5) rfl rfl rfl (hts _ h4) (hts _ h1) (hts _ h2) hy1 hd hR) ⟨pr.blind, fun U hU hW => ⟨rfl, by rw [hU], by rw [hU]; exact hP, kb.warm hW hkb, hD.weaken (fun _ _ _ _ => trivial)⟩⟩ rfl hn hsz rfl (lv_room hW) hdg hf
theorem r_N {own host : String} {idx n n' nL : Nat} {y : MethodName} {yb : ByteArray} {rm : Room} {b : Addr} {As st : List Value} {wc : va_W} {Qm : (Nat → Prop) → Array Value → State → Outcome → State → Prop}
    (hx : p.tables.exec = Jvm.exec) (hb : c.code = cc) (hml : c.maxLocals = nL) (hown : s.vm.findClass own = some m.cls) (hts : ∀ w ∈ gw, w.before args s = true) (hkb : kb D ty s) (hP : va_P D cls wc H) (hD : va_D A wc)
    (hM : Kon l D ty y yb n' none rm (.ref b :: As) wc Qm) (h1 : va_Nw (.methodLinkNest own idx y host) s) (h2 : Cond.instanceMethod y ∈ gw) (h4 : Cond.initialized y.cls ∈ gw) (h5 : Cond.code y yb n' none ∈ gw) (hy1 : y.name = "<init>")
    (hd : y.cls ≠ "java/lang/invoke/MethodHandle" ∧ y.cls ≠ "java/lang/invoke/VarHandle" ∧ (parseMethodDescriptor y.desc).map (fun d => d.parameters.length) = some n) (hR : rm.frames + 1 ≤ R.frames ∧ 8 + (n' + 11) + rm.locals ≤ R.locals)
    (hn : As.length = n) (hst : st = As.reverse ++ .ref b :: rest) (hsz : ls.size = nL) (hW : (rest.map fun v => v.category).sum ≤ 8) (hdg : decode cc pc = .ok (.invokespecial idx, 3)) (hf : cells + rm.cells ≤ R.cells ∧ slots + rm.slots ≤ R.slots) :
    va_Run p l e R s m args below meth c H locs cells slots rm.cells rm.slots (F0 m pc ls st) rest (Qm (va_A wc H.size) (Value.ref b :: As).toArray) (va_A wc H.size) := by
  subst hst
  exact va_runIN (As := As) (rest := rest) ⟨hx, hb, hml, hown, hts⟩ (hM H.size) ⟨va_cnB n hts (gi_M h5) rfl rfl rfl h1 (hts _ h4) hd hR, hy1, hts _ h2⟩ ⟨pr.blind, fun U hU hW => ⟨rfl, by rw [hU], by rw [hU]; exact hP, kb.warm hW hkb, hD.weaken (fun _ _ _ _ => trivial)⟩⟩ rfl hn hsz rfl (lv_room hW) hdg hf
/-- behind a call -/
theorem k_i {post : Int32 → va_W → Prop} {wc wr : va_W} {mc ms : Nat} {st : List Value} {av : Array Value} (hP : va_P D cls ws H) (hD : va_D A ws) (hS : va_S A H0 H locs) (hA : ∀ q, H0.size ≤ q → A q) (isC isR : List Nat) (hC : isC.map (fun i => ws[i]?) = wc.map some) (hR : isR.map (fun i => ws[i]?) = wr.map some) (hn : va_nd isR = true) (hdis : ∀ i ∈ isR, i ∉ isC)
    (hr : va_Run p l e R s m args below meth c H locs cells slots mc ms (F0 m pc ls st) rest (Qi D post (va_A wc H.size) av) (va_A wc H.size))
    (kk : ∀ (r : Int32) (u : va_W) (H1 : Heap) (locs1 : List Loc), post r u → va_P D cls (wr ++ u) H1 → va_D A (wr ++ u) → va_S A H0 H1 locs1 → W p l e R s m args below meth c H1 locs1 (cells + mc) (slots + ms) Q (F0 m (pc + 3) ls (.int r :: rest))) : W p l e R s m args below meth c H locs cells slots Q (F0 m pc ls st) := by
  have hFc := va_free (wc := wc) hD hS hA isC hC
  refine va_calli hr hS (fun q _ h => hFc q h) hFc (fun r u t H1 locs1 ht hvm hw hB hz1 hk1 hS => ?_)
  obtain ⟨hP1, hD1⟩ := hB
  rw [ht] at hP1
  obtain ⟨hP, hD⟩ := va_join (wr := wr) (w1 := u) hP hD isC isR hC hR hn hdis hk1 hFc hP1 hD1
  exact kk r u H1 locs1 hw hP hD hS
theorem k_l {post : Int64 → va_W → Prop} {wc wr : va_W} {mc ms : Nat} {st : List Value} {av : Array Value} (hP : va_P D cls ws H) (hD : va_D A ws) (hS : va_S A H0 H locs) (hA : ∀ q, H0.size ≤ q → A q) (isC isR : List Nat) (hC : isC.map (fun i => ws[i]?) = wc.map some) (hR : isR.map (fun i => ws[i]?) = wr.map some) (hn : va_nd isR = true) (hdis : ∀ i ∈ isR, i ∉ isC)
    (hr : va_Run p l e R s m args below meth c H locs cells slots mc ms (F0 m pc ls st) rest (Ql D post (va_A wc H.size) av) (va_A wc H.size))
    (kk : ∀ (r : Int64) (u : va_W) (H1 : Heap) (locs1 : List Loc), post r u → va_P D cls (wr ++ u) H1 → va_D A (wr ++ u) → va_S A H0 H1 locs1 → W p l e R s m args below meth c H1 locs1 (cells + mc) (slots + ms) Q (F0 m (pc + 3) ls (.long r :: rest))) : W p l e R s m args below meth c H locs cells slots Q (F0 m pc ls st) := by
  have hFc := va_free (wc := wc) hD hS hA isC hC
  refine va_calll hr hS (fun q _ h => hFc q h) hFc (fun r u t H1 locs1 ht hvm hw hB hz1 hk1 hS => ?_)
  obtain ⟨hP1, hD1⟩ := hB
  rw [ht] at hP1
  obtain ⟨hP, hD⟩ := va_join (wr := wr) (w1 := u) hP hD isC isR hC hR hn hdis hk1 hFc hP1 hD1
  exact kk r u H1 locs1 hw hP hD hS
theorem k_v {post : va_W → Prop} {wc wr : va_W} {mc ms : Nat} {st : List Value} {av : Array Value} (hP : va_P D cls ws H) (hD : va_D A ws) (hS : va_S A H0 H locs) (hA : ∀ q, H0.size ≤ q → A q) (isC isR : List Nat) (hC : isC.map (fun i => ws[i]?) = wc.map some) (hR : isR.map (fun i => ws[i]?) = wr.map some) (hn : va_nd isR = true) (hdis : ∀ i ∈ isR, i ∉ isC)
    (hr : va_Run p l e R s m args below meth c H locs cells slots mc ms (F0 m pc ls st) rest (Qv D post (va_A wc H.size) av) (va_A wc H.size))
    (kk : ∀ (u : va_W) (H1 : Heap) (locs1 : List Loc), post u → va_P D cls (wr ++ u) H1 → va_D A (wr ++ u) → va_S A H0 H1 locs1 → W p l e R s m args below meth c H1 locs1 (cells + mc) (slots + ms) Q (F0 m (pc + 3) ls rest)) : W p l e R s m args below meth c H locs cells slots Q (F0 m pc ls st) := by
  have hFc := va_free (wc := wc) hD hS hA isC hC
  refine va_callv hr hS (fun q _ h => hFc q h) hFc (fun u t H1 locs1 ht hvm hw hB hz1 hk1 hS => ?_)
  obtain ⟨hP1, hD1⟩ := hB
  rw [ht] at hP1
  obtain ⟨hP, hD⟩ := va_join (wr := wr) (w1 := u) hP hD isC isR hC hR hn hdis hk1 hFc hP1 hD1
  exact kk u H1 locs1 hw hP hD hS
theorem k_r {post : va_W × Nat → Prop} {wc wr : va_W} {mc ms : Nat} {st : List Value} {av : Array Value} (hP : va_P D cls ws H) (hD : va_D A ws) (hS : va_S A H0 H locs) (hA : ∀ q, H0.size ≤ q → A q) (isC isR : List Nat) (hC : isC.map (fun i => ws[i]?) = wc.map some) (hR : isR.map (fun i => ws[i]?) = wr.map some) (hn : va_nd isR = true) (hdis : ∀ i ∈ isR, i ∉ isC)
    (hr : va_Run p l e R s m args below meth c H locs cells slots mc ms (F0 m pc ls st) rest (Qr D post (va_A wc H.size) av) (va_A wc H.size))
    (kk : ∀ (ra : Nat) (u : va_W) (H1 : Heap) (locs1 : List Loc), post (u, ra) → va_P D cls (wr ++ u) H1 → va_D A (wr ++ u) → va_S A H0 H1 locs1 → W p l e R s m args below meth c H1 locs1 (cells + mc) (slots + ms) Q (F0 m (pc + 3) ls (.ref ra :: rest))) : W p l e R s m args below meth c H locs cells slots Q (F0 m pc ls st) := by
  have hFc := va_free (wc := wc) hD hS hA isC hC
  refine va_callr hr hS (fun q _ h => hFc q h) hFc (fun u ra t H1 locs1 ht hvm hw hB hz1 hk1 hS => ?_)
  obtain ⟨u, ra'⟩ := u
  obtain ⟨rfl, hP1, hD1⟩ := hB
  rw [ht] at hP1
  obtain ⟨hP, hD⟩ := va_join (wr := wr) (w1 := u) hP hD isC isR hC hR hn hdis hk1 hFc hP1 hD1
  exact kk _ u H1 locs1 hw hP hD hS
/-- the ends -/
theorem e_i {post : Int32 → va_W → Prop} {u : va_W} {v : Int32} (hx : p.tables.exec = Jvm.exec) (hb : c.code = cc) (hr : meth.sig.returnType = some .int) (hlocks : meth.locks = false) (hP : va_P D cls u H) (hD : va_D A u) (hS : va_S A s.heap H locs) (hp : post v u) (hdg : decode cc pc = .ok (.ireturn, 1)) : W p l e R s m args below meth c H locs cells slots (MQ below (Qi D post A) args s cells slots A) (F0 m pc ls [.int v]) :=
  W.iret hx hb hr (fun t ht _ => ⟨⟨v, u, rfl, hp, by rw [ht]; exact hP, hD⟩, hS.F ht⟩) hS.2.2 hdg hlocks
theorem e_z {post : Int32 → va_W → Prop} {u : va_W} {v : Int32} (hx : p.tables.exec = Jvm.exec) (hb : c.code = cc) (hr : meth.sig.returnType = some .boolean) (hlocks : meth.locks = false) (hn : narrow .boolean (.int v) = .int v) (hP : va_P D cls u H) (hD : va_D A u) (hS : va_S A s.heap H locs) (hp : post v u) (hdg : decode cc pc = .ok (.ireturn, 1)) : W p l e R s m args below meth c H locs cells slots (MQ below (Qi D post A) args s cells slots A) (F0 m pc ls [.int v]) :=
  W.zret hx hb hr hn (fun t ht _ => ⟨⟨v, u, rfl, hp, by rw [ht]; exact hP, hD⟩, hS.F ht⟩) hS.2.2 hdg hlocks
theorem e_l {post : Int64 → va_W → Prop} {u : va_W} {v : Int64} (hx : p.tables.exec = Jvm.exec) (hb : c.code = cc) (hr : meth.sig.returnType = some .long) (hlocks : meth.locks = false) (hP : va_P D cls u H) (hD : va_D A u) (hS : va_S A s.heap H locs) (hp : post v u) (hdg : decode cc pc = .ok (.lreturn, 1)) : W p l e R s m args below meth c H locs cells slots (MQ below (Ql D post A) args s cells slots A) (F0 m pc ls [.long v]) :=
  W.lret hx hb hr (fun t ht _ => ⟨⟨v, u, rfl, hp, by rw [ht]; exact hP, hD⟩, hS.F ht⟩) hS.2.2 hdg hlocks
theorem e_v {post : va_W → Prop} {u : va_W} (hx : p.tables.exec = Jvm.exec) (hb : c.code = cc) (hr : meth.sig.returnType = none) (hlocks : meth.locks = false) (hP : va_P D cls u H) (hD : va_D A u) (hS : va_S A s.heap H locs) (hp : post u) (hdg : decode cc pc = .ok (.return_, 1)) : W p l e R s m args below meth c H locs cells slots (MQ below (Qv D post A) args s cells slots A) (F0 m pc ls []) :=
  W.vret hx hb hr (fun t ht _ => ⟨⟨u, rfl, hp, by rw [ht]; exact hP, hD⟩, hS.F ht⟩) hS.2.2 hdg hlocks
theorem e_r {post : va_W × Nat → Prop} {u : va_W} {v : Nat} {C : String} (hx : p.tables.exec = Jvm.exec) (hb : c.code = cc) (hr : meth.sig.returnType = some (.object C)) (hlocks : meth.locks = false) (hP : va_P D cls u H) (hD : va_D A u) (hS : va_S A s.heap H locs) (hp : post (u, v)) (hdg : decode cc pc = .ok (.areturn, 1)) : W p l e R s m args below meth c H locs cells slots (MQ below (Qr D post A) args s cells slots A) (F0 m pc ls [.ref v]) :=
  W.aret hx hb hr (Or.inl ⟨C, rfl⟩) (Or.inr ⟨v, rfl⟩) (fun t ht _ => ⟨⟨(u, v), v, rfl, hp, rfl, by rw [ht]; exact hP, hD⟩, hS.F ht⟩) hS.2.2 hdg hlocks
theorem ty_eq {t : FieldType} {cA c2 : ClassId} {t0 : Nat} (hp : ∀ (U : State) (k : ClassId), va_RA U k t → U.vm.findClass ("[" ++ t.toString) = some k) (ht : ty[t0]? = some (cA, t)) (hK : va_K D cls (ty ++ [(c2, t)]) s) : c2 = cA := by
  have hlt : t0 < ty.length := (List.getElem?_eq_some_iff.mp ht).1
  have h1 := hp _ _ (hK.2 t0 (cA, t) (by rw [List.getElem?_append_left hlt]; exact ht)).2
  have h2 := hp _ _ (hK.2 ty.length (c2, t) (by simp)).2
  exact Option.some.inj (h2.symm.trans h1)
/-- newarray of a kind that the list of array classes has at t0 -/
theorem n_a {atype : ArrayType} {t : FieldType} {cA : ClassId} {n : Int32} {N' : Nat} {a0 : vp_A} (t0 : Nat) (ht : ty[t0]? = some (cA, t)) (hp : ∀ (U : State) (k : ClassId), va_RA U k t → U.vm.findClass ("[" ++ t.toString) = some k) (hx : p.tables.exec = Jvm.exec) (hb : c.code = cc) (harr : (Cond.arrayClass (newarray.typeOf atype)).before args s = true) (hty : newarray.typeOf atype = t) (hK : va_K D cls ty s) (hP : va_P D cls ws H) (hD : va_D A ws) (hS : va_S A H0 H locs) (hA : ∀ q, H0.size ≤ q → A q)
    (ha : ∀ cA : ClassId, vp_cell cA a0 = arrV cA N' (fun _ => defaultValue t)) (hn : ¬ n < 0) (hN : n.toNatClampNeg = N') (hbytes : N' * componentBytes t ≤ 536870912) (hcells : cells + 1 ≤ R.cells) (hslots : slots + N' ≤ R.slots) (hdg : decode cc pc = .ok (.newarray atype, 2))
    (kk : ∀ (q : Nat) (H1 : Heap), va_P D cls (ws ++ [(q, .inl (cA, a0))]) H1 → va_D A (ws ++ [(q, .inl (cA, a0))]) → va_S A H0 H1 locs → W p l e R s m args below meth c H1 locs (cells + 1) (slots + N') Q (F0 m (pc + 2) ls (.ref q :: rest))) : W p l e R s m args below meth c H locs cells slots Q (F0 m pc ls (.int n :: rest)) := by
  refine va_newa hx hb harr hty hK hP hD hS hA ha hn hN hbytes hcells hslots hdg (fun q c2 H1 hK2 hP hD hS => ?_)
  have he := ty_eq (t0 := t0) hp ht hK2
  subst he
  exact kk q H1 hP hD hS
theorem n_q {own C : String} {index : Nat} {cA : ClassId} {n : Int32} {N' : Nat} (t0 : Nat) (ht : ty[t0]? = some (cA, .object C)) (hx : p.tables.exec = Jvm.exec) (hb : c.code = cc) (hown : s.vm.findClass own = some m.cls) (hcl : (Cond.classLink own index C).before args s = true) (hover : va_AO C s) (hK : va_K D cls ty s) (hP : va_P D cls ws H) (hD : va_D A ws) (hS : va_S A H0 H locs) (hA : ∀ q, H0.size ≤ q → A q)
    (hn : ¬ n < 0) (hN : n.toNatClampNeg = N') (hbytes : N' * 4 ≤ 536870912) (hcells : cells + 1 ≤ R.cells) (hslots : slots + N' ≤ R.slots) (hdg : decode cc pc = .ok (.anewarray index, 3))
    (kk : ∀ (q : Nat) (H1 : Heap), va_P D cls (ws ++ [(q, .inl (cA, N', .inr (.inr (.inr (.inr (fun _ => none))))))]) H1 → va_D A (ws ++ [(q, .inl (cA, N', .inr (.inr (.inr (.inr (fun _ => none))))))]) → va_S A H0 H1 locs → W p l e R s m args below meth c H1 locs (cells + 1) (slots + N') Q (F0 m (pc + 3) ls (.ref q :: rest))) : W p l e R s m args below meth c H locs cells slots Q (F0 m pc ls (.int n :: rest)) := by
  refine va_newq hx hb hown hcl hover hK hP hD hS hA hn hN hbytes hcells hslots hdg (fun q c2 H1 hK2 hP hD hS => ?_)
  have he := ty_eq (t := .object C) (t0 := t0) (fun U k h => by obtain ⟨_, _, _, _, _, h⟩ := h; exact h) ht hK2
  subst he
  exact kk q H1 hP hD hS
end MyRows
/-! facts on numbers -/
theorem f_lt {x y : Int32} {k : Int} (hk : y.toInt = k) (h : x < y) : x.toInt < k := by rw [← hk]; exact Int32.lt_iff_toInt_lt.mp h
theorem f_nlt {x y : Int32} {k : Int} (hk : y.toInt = k) (h : ¬ x < y) : k ≤ x.toInt := by
  rw [← hk]; exact Int.not_lt.mp (fun q => h (Int32.lt_iff_toInt_lt.mpr q))
theorem f_le {x y : Int32} {k : Int} (hk : y.toInt = k) (h : x ≤ y) : x.toInt ≤ k := by rw [← hk]; exact Int32.le_iff_toInt_le.mp h
theorem f_nle {x y : Int32} {k : Int} (hk : y.toInt = k) (h : ¬ x ≤ y) : k < x.toInt := by
  rw [← hk]; exact Int.not_le.mp (fun q => h (Int32.le_iff_toInt_le.mpr q))
theorem f_gt {x y : Int32} {k : Int} (hk : y.toInt = k) (h : y < x) : k < x.toInt := by rw [← hk]; exact Int32.lt_iff_toInt_lt.mp h
theorem f_ngt {x y : Int32} {k : Int} (hk : y.toInt = k) (h : ¬ y < x) : x.toInt ≤ k := by
  rw [← hk]; exact Int.not_lt.mp (fun q => h (Int32.lt_iff_toInt_lt.mpr q))
theorem f_ge {x y : Int32} {k : Int} (hk : y.toInt = k) (h : y ≤ x) : k ≤ x.toInt := by rw [← hk]; exact Int32.le_iff_toInt_le.mp h
theorem f_nge {x y : Int32} {k : Int} (hk : y.toInt = k) (h : ¬ y ≤ x) : x.toInt < k := by
  rw [← hk]; exact Int.not_le.mp (fun q => h (Int32.le_iff_toInt_le.mpr q))
theorem f_eq {x y : Int32} {k : Int} (hk : y.toInt = k) (h : x = y) : x.toInt = k := by rw [h]; exact hk
theorem f_ne {x y : Int32} {k : Int} (hk : y.toInt = k) (h : ¬ x = y) : x.toInt ≠ k := fun q => h (Int32.toInt_inj.mp (q.trans hk.symm))
/-- within(v, low, high) of the reference -/
def wi (v lo hi : Int64) : Int32 := if v.toInt < lo.toInt ∨ hi.toInt < v.toInt then 0 else 1
theorem wi_0 {x : Int32} {lo hi : Int64} {a b : Int} (ha : lo.toInt = a) (hb : hi.toInt = b) (h : wi x.toInt64 lo hi = 0) : x.toInt < a ∨ b < x.toInt := by
  unfold wi at h
  rw [Int32.toInt_toInt64, ha, hb] at h
  by_cases q : x.toInt < a ∨ b < x.toInt
  · exact q
  · rw [if_neg q] at h; exact absurd h (by decide)
theorem wi_1 {x : Int32} {lo hi : Int64} {a b : Int} (ha : lo.toInt = a) (hb : hi.toInt = b) (h : ¬ wi x.toInt64 lo hi = 0) : a ≤ x.toInt ∧ x.toInt ≤ b := by
  unfold wi at h
  rw [Int32.toInt_toInt64, ha, hb] at h
  by_cases q : x.toInt < a ∨ b < x.toInt
  · rw [if_pos q] at h; exact absurd rfl h
  · omega
theorem wi_c {x lo hi : Int64} (h : hi.toInt < lo.toInt) : wi x lo hi = 0 := by
  unfold wi
  rw [if_pos (by omega)]
theorem and_m1 (x : Int32) : x &&& (-1) = x := by
  apply Int32.toBitVec_inj.mp
  simp
theorem ush_0 (x : Int32) : (x.toUInt32 >>> ((0 : Int32).toUInt32 &&& Int32.toUInt32 31)).toInt32 = x := by
  have h : ((0 : Int32).toUInt32 &&& Int32.toUInt32 31) = 0 := by decide +kernel
  rw [h]
  simp
theorem zadd (x : Int32) : 0 + x = x := Int32.zero_add x
/-! A typed heap: which cell is of which kind; all that calls need to know for coming back. My own. -/
abbrev Tg : Type := Nat × Nat × Nat
abbrev TF : Type := Nat → Option Tg
abbrev CS : Type := ClassId × ClassId × ClassId × ClassId × ClassId × ClassId × ClassId × ClassId
abbrev FT : Type := TF → Value → Prop
def Tle (T T' : TF) : Prop := ∀ (a : Nat) (tg : Tg), T a = some tg → T' a = some tg
/-- bounds of the numbers in an array of ints, by a number -/
def cpl (k : Nat) : Int := match k with
  | 0 => -2147483648
  | 1 => 0
  | 2 => -14
  | 3 => 0
  | 4 => -1
  | 5 => 0
  | 6 => 0
  | 7 => 0
  | 8 => 0
  | 9 => -2147483648
  | _ => 0
def cph (k : Nat) : Int := match k with
  | 0 => 2147483647
  | 1 => 16383
  | 2 => 13
  | 3 => 27
  | 4 => 27
  | 5 => 32
  | 6 => 40
  | 7 => 13
  | 8 => 99
  | 9 => 2147483647
  | _ => 0
def cp (k : Nat) (x : Int32) : Prop := cpl k ≤ x.toInt ∧ x.toInt ≤ cph k
def mono (P : FT) : Prop := ∀ (T T' : TF) (v : Value), Tle T T' → P T v → P T' v
def fI (lo hi : Int) : FT := fun _ v => ∃ x : Int32, v = .int x ∧ lo ≤ x.toInt ∧ x.toInt ≤ hi
def fA : FT := fun _ v => ∃ x : Int32, v = .int x
def fE (n : Nat) : FT := fun _ v => v = .int (nI n)
def fN : FT := fun _ v => v = .null
def fR (tg : Tg) : FT := fun T v => ∃ a : Nat, v = .ref a ∧ T a = some tg
/-- a wall that is made -/
def isW (T : TF) (a h g : Nat) : Prop := T a = some (19, h, g) ∧ h ≤ 14 ∧ g ≤ 5
def fW : FT := fun T v => ∃ a h g : Nat, v = .ref a ∧ isW T a h g
/-- a law, or none -/
def fLw : FT := fun T v => v = .null ∨ ∃ a n : Nat, v = .ref a ∧ T a = some (12, n, 0) ∧ n ≤ 900
def fP (n : Nat) : FT := fun _ v => v = .ref n
/-- a reader with its draft -/
def fRd : FT := fun T v => ∃ a d : Nat, v = .ref a ∧ T a = some (14, d, 0) ∧ T d = some (19, 100, 0)
theorem mRd : mono fRd := fun _ _ _ h ⟨a, d, e, t, u⟩ => ⟨a, d, e, h _ _ t, h _ _ u⟩
theorem mP (n : Nat) : mono (fP n) := fun _ _ _ _ h => h
theorem mI (lo hi : Int) : mono (fI lo hi) := fun _ _ _ _ h => h
theorem mA : mono fA := fun _ _ _ _ h => h
theorem mE (n : Nat) : mono (fE n) := fun _ _ _ _ h => h
theorem mN : mono fN := fun _ _ _ _ h => h
theorem mR (tg : Tg) : mono (fR tg) := fun _ _ _ h ⟨a, e, t⟩ => ⟨a, e, h _ _ t⟩
theorem mW : mono fW := fun _ _ _ h ⟨a, hh, g, e, t, b⟩ => ⟨a, hh, g, e, h _ _ t, b⟩
theorem mL : mono fLw := fun _ _ _ h q => q.elim Or.inl (fun ⟨a, n, e, t, b⟩ => Or.inr ⟨a, n, e, h _ _ t, b⟩)
/-- how much lies on the tape: told by the kind of the cell q, or by q -/
def fTL (q : Nat) : FT := fun T v => ∃ x : Int32, v = .int x ∧ 0 ≤ x.toInt ∧ x.toInt ≤ 900 ∧ T q = some (10, x.toInt.toNat, 0)
def fTM (q : Nat) : FT := fun _ v => ∃ x : Int32, v = .int x ∧ 0 ≤ x.toInt ∧ x.toInt ≤ 900 ∧ x.toInt = ((q % 1024 : Nat) : Int)
/-- the fault of the latest text, its place -/
def fFK (q : Nat) : FT := fun _ v => ∃ x : Int32, v = .int x ∧ x.toInt = ((q / 1024 % 8 : Nat) : Int)
def fFP (q : Nat) : FT := fun _ v => ∃ x : Int32, v = .int x ∧ x.toInt = ((q / 8192 : Nat) : Int) - 1
theorem mTL (q : Nat) : mono (fTL q) := fun _ _ _ h ⟨x, e, a, b, t⟩ => ⟨x, e, a, b, h _ _ t⟩
theorem tl_eq {T : TF} {q n m : Nat} (h : T q = some (10, n, 0)) (k : T q = some (10, m, 0)) : n = m := by
  rw [h] at k
  cases k
  rfl
theorem tl_of {T : TF} {q n : Nat} {x : Int32} (h : T q = some (10, n, 0)) (e : x.toInt = (n : Int)) : T q = some (10, x.toInt.toNat, 0) := by rw [h, show x.toInt.toNat = n by omega]
theorem mTM (q : Nat) : mono (fTM q) := fun _ _ _ _ h => h
theorem mFK (q : Nat) : mono (fFK q) := fun _ _ _ _ h => h
theorem mFP (q : Nat) : mono (fFP q) := fun _ _ _ _ h => h
/-- all of a list of kinds grow with what is known -/
def monos (l : List FT) : Prop := ∀ P ∈ l, mono P
theorem ms_n : monos [] := fun _ h => absurd h List.not_mem_nil
theorem ms_c {P : FT} {l : List FT} (h : mono P) (hl : monos l) : monos (P :: l) := fun Q hQ => (List.mem_cons.mp hQ).elim (fun q => q ▸ h) (hl Q)
/-- the kinds of the fields of the objects, but those of Tokens and Chains -/
def ft1 (p q : Nat) : List FT := [fR (1, 14, 0), fR (1, 14, 2), fA, fR (1, 28, 3), fI 0 28, fA, fR (1, 28, 4)]
theorem ft1_m (p q : Nat) : monos (ft1 p q) := ms_c (mR _) (ms_c (mR _) (ms_c (mA) (ms_c (mR _) (ms_c (mI _ _) (ms_c (mA) (ms_c (mR _) (ms_n)))))))
def ft2 (p q : Nat) : List FT := [fR (1, p, 0), fR (1, 8, 0), fR (1, 24, 0)]
theorem ft2_m (p q : Nat) : monos (ft2 p q) := ms_c (mR _) (ms_c (mR _) (ms_c (mR _) (ms_n)))
def ft3 (p q : Nat) : List FT := [fR (17, 0, 0), fR (1, 900, 0), fI 0 900]
theorem ft3_m (p q : Nat) : monos (ft3 p q) := ms_c (mR _) (ms_c (mR _) (ms_c (mI _ _) (ms_n)))
def ft4 (p q : Nat) : List FT := [fR (17, 0, 0), fR (13, 0, 0), fP p, fI 0 1, fR (16, 0, 0)]
theorem ft4_m (p q : Nat) : monos (ft4 p q) := ms_c (mR _) (ms_c (mR _) (ms_c (mP _) (ms_c (mI _ _) (ms_c (mR _) (ms_n)))))
def ft5 (p q : Nat) : List FT := [fW, fA, fA, fA, fR (1, 14, 0), fR (1, 14, 1)]
theorem ft5_m (p q : Nat) : monos (ft5 p q) := ms_c (mW) (ms_c (mA) (ms_c (mA) (ms_c (mA) (ms_c (mR _) (ms_c (mR _) (ms_n))))))
def ft6 (p q : Nat) : List FT := [fA, fA, fA, fA, fR (1, 14, 0), fR (1, 14, 0)]
theorem ft6_m (p q : Nat) : monos (ft6 p q) := ms_c (mA) (ms_c (mA) (ms_c (mA) (ms_c (mA) (ms_c (mR _) (ms_c (mR _) (ms_n))))))
def ft8 (p q : Nat) : List FT := [fR (2, 40, 0), fA, fI (-1) 40]
theorem ft8_m (p q : Nat) : monos (ft8 p q) := ms_c (mR _) (ms_c (mA) (ms_c (mI _ _) (ms_n)))
def ft10 (p q : Nat) : List FT := [fR (1, 14, 1), fR (1, 14, 0), fI 0 14, fR (2, 14, 0), fR (1, 14, 0), fR (1, 14, 0), fI 0 14]
theorem ft10_m (p q : Nat) : monos (ft10 p q) := ms_c (mR _) (ms_c (mR _) (ms_c (mI _ _) (ms_c (mR _) (ms_c (mR _) (ms_c (mR _) (ms_c (mI _ _) (ms_n)))))))
def ft11 (p q : Nat) : List FT := [fR (0, 900, 0), fTL q, fRd, fP p, fR (16, 0, 0), fR (16, 0, 0), fR (4, 10, 0), fI 0 10, fI 0 9, fR (5, 2, 0), fR (4, 2, 0), fR (6, 4, 0), fR (7, 5, 0), fR (15, 0, 0), fR (20, 0, 0), fR (11, 0, 0), fP q, fR (1, 5, 0), fR (1, 5, 0), fA]
theorem ft11_m (p q : Nat) : monos (ft11 p q) := ms_c (mR _) (ms_c (mTL _) (ms_c (mRd) (ms_c (mP _) (ms_c (mR _) (ms_c (mR _) (ms_c (mR _) (ms_c (mI _ _) (ms_c (mI _ _) (ms_c (mR _) (ms_c (mR _) (ms_c (mR _) (ms_c (mR _) (ms_c (mR _) (ms_c (mR _) (ms_c (mR _) (ms_c (mP _) (ms_c (mR _) (ms_c (mR _) (ms_c (mA) (ms_n))))))))))))))))))))
def ft12 (p q : Nat) : List FT := [fA, fR (8, 3906, p), fR (3, 2, 0), fR (9, 900, 0), fR (8, 1302, 0), fTM q, fA, fA, fA, fA, fI 0 999, fA, fA, fFK q, fFP q, fR (1, 900, 0), fA, fR (9, 14, 1), fR (9, 14, 8), fR (1, 14, 7), fI 0 14, fR (1, 31, 0), fR (1, 31, 0), fA, fA, fA, fR (2, 229376, 0), fR (3, 16384, 0), fR (0, 229376, 0), fR (1, 5, 0), fR (1, 5, 0), fR (1, 186, 0), fA, fR (1, 4, 0), fR (1, 4, 6), fR (2, 160, 0)]
theorem ft12_m (p q : Nat) : monos (ft12 p q) := ms_c (mA) (ms_c (mR _) (ms_c (mR _) (ms_c (mR _) (ms_c (mR _) (ms_c (mTM _) (ms_c (mA) (ms_c (mA) (ms_c (mA) (ms_c (mA) (ms_c (mI _ _) (ms_c (mA) (ms_c (mA) (ms_c (mFK _) (ms_c (mFP _) (ms_c (mR _) (ms_c (mA) (ms_c (mR _) (ms_c (mR _) (ms_c (mR _) (ms_c (mI _ _) (ms_c (mR _) (ms_c (mR _) (ms_c (mA) (ms_c (mA) (ms_c (mA) (ms_c (mR _) (ms_c (mR _) (ms_c (mR _) (ms_c (mR _) (ms_c (mR _) (ms_c (mR _) (ms_c (mA) (ms_c (mR _) (ms_c (mR _) (ms_c (mR _) (ms_n))))))))))))))))))))))))))))))))))))
def ft9w (p q : Nat) : List FT := [fE p, fE q, fA, fI 0 16383, fI 0 16383, fI 0 16383, fR (1, p, 0), fR (1, p, 0), fR (1, p, 0), fR (1, q, 0), fR (1, q, 0), fLw, fI 0 1, fI 0 1]
theorem ft9w_m (p q : Nat) : monos (ft9w p q) := ms_c (mE _) (ms_c (mE _) (ms_c (mA) (ms_c (mI _ _) (ms_c (mI _ _) (ms_c (mI _ _) (ms_c (mR _) (ms_c (mR _) (ms_c (mR _) (ms_c (mR _) (ms_c (mR _) (ms_c (mL) (ms_c (mI _ _) (ms_c (mI _ _) (ms_n))))))))))))))
def ft9d (p q : Nat) : List FT := [fI 0 14, fI 0 5, fA, fI 0 16383, fI 0 16383, fI 0 16383, fR (1, 14, 0), fR (1, 14, 0), fR (1, 14, 0), fR (1, 5, 0), fR (1, 5, 9), fN, fI 0 1, fI 0 1]
theorem ft9d_m (p q : Nat) : monos (ft9d p q) := ms_c (mI _ _) (ms_c (mI _ _) (ms_c (mA) (ms_c (mI _ _) (ms_c (mI _ _) (ms_c (mI _ _) (ms_c (mR _) (ms_c (mR _) (ms_c (mR _) (ms_c (mR _) (ms_c (mR _) (ms_c (mN) (ms_c (mI _ _) (ms_c (mI _ _) (ms_n))))))))))))))
def ft9 (p q : Nat) : List FT := if p = 100 then ft9d p q else ft9w p q
theorem ft9_m (p q : Nat) : monos (ft9 p q) := by
  unfold ft9
  split
  · exact ft9d_m p q
  · exact ft9w_m p q
def fts (c p q : Nat) : List FT := match c with
  | 1 => ft1 p q
  | 2 => ft2 p q
  | 3 => ft3 p q
  | 4 => ft4 p q
  | 5 => ft5 p q
  | 6 => ft6 p q
  | 8 => ft8 p q
  | 9 => ft9 p q
  | 10 => ft10 p q
  | 11 => ft11 p q
  | 12 => ft12 p q
  | _ => []
theorem fts_m (c p q : Nat) : monos (fts c p q) := by
  unfold fts
  split <;> first | exact ft1_m p q | exact ft2_m p q | exact ft3_m p q | exact ft4_m p q | exact ft5_m p q | exact ft6_m p q | exact ft8_m p q | exact ft9_m p q | exact ft10_m p q | exact ft11_m p q | exact ft12_m p q | exact ms_n
/-- a list of values by a list of kinds -/
def okL (T : TF) (l : List FT) (fs : List Value) : Prop := fs.length = l.length ∧ ∀ (k : Nat) (P : FT) (v : Value), l[k]? = some P → fs[k]? = some v → P T v
/-- of Tokens (7) and Chains (0), whose fields are bound to each other -/
def ob (T : TF) (c p q : Nat) (fs : List Value) : Prop := match c with
  | 0 => ∃ (a b d n : Nat) (x : Int32), fs = [.ref a, .int x, .ref b, .ref d] ∧ T a = some (1, n, 0) ∧ T b = some (1, 14, 1) ∧ T d = some (1, 14, 0) ∧ n ≤ 32768 ∧ 0 ≤ x.toInt ∧ x.toInt < n ∧ x.toInt ≤ 16383
  | 7 => ∃ (a n : Nat) (x1 x2 x3 x4 x5 x6 x7 : Int32), fs = [.ref a, .int x1, .int x2, .int x3, .int x4, .int x5, .int x6, .int x7] ∧ T a = some (0, n, 0) ∧ n ≤ 900 ∧ 0 ≤ x1.toInt ∧ x1.toInt ≤ n ∧ 0 ≤ x2.toInt ∧ x2.toInt ≤ 900 ∧ 0 ≤ x3.toInt ∧ x3.toInt ≤ n
  | c => okL T (fts c p q) fs
theorem ob9w {T : TF} {a h g : Nat} (hw : isW T a h g) (fs : List Value) : ob T 9 h g fs ↔ okL T (ft9w h g) fs := by
  show okL T (ft9 h g) fs ↔ okL T (ft9w h g) fs
  unfold ft9
  rw [if_neg (by have := hw.2.1; omega)]
theorem ob9d {T : TF} (fs : List Value) : ob T 9 100 0 fs ↔ okL T (ft9d 100 0) fs := by
  show okL T (ft9 100 0) fs ↔ okL T (ft9d 100 0) fs
  unfold ft9
  rw [if_pos rfl]
/-- the reference's code of a law: how many operands wait behind its first k numbers -/
def dpn (g : Nat → Int32) : Nat → Int
  | 0 => 0
  | k + 1 => dpn g k + (if (g (402 + k)).toInt < 3000 then 1 else if (g (402 + k)).toInt = 3008 then 0 else -1)
def wfc (g : Nat → Int32) : Prop := ∀ k : Nat, (k : Int) < (g 401).toInt → 3000 ≤ (g (402 + k)).toInt → 1 ≤ dpn g k ∧ ((g (402 + k)).toInt ≠ 3008 → 2 ≤ dpn g k)
/-- the numbers of a wall in the reference -/
def S8 (g : Nat → Int32) : Prop := (0 ≤ (g 1).toInt ∧ (g 1).toInt ≤ 14) ∧ (0 ≤ (g 2).toInt ∧ (g 2).toInt ≤ 5) ∧ (0 ≤ (g 4).toInt ∧ (g 4).toInt ≤ 16383) ∧ (0 ≤ (g 5).toInt ∧ (g 5).toInt ≤ 16383) ∧ (0 ≤ (g 6).toInt ∧ (g 6).toInt ≤ 16383) ∧ (0 ≤ (g 90).toInt ∧ (g 90).toInt ≤ 10) ∧ (0 ≤ (g 401).toInt ∧ (g 401).toInt ≤ 900) ∧ wfc g
def B8 (n : Nat) (f : Nat → Int32) : Prop := ∀ z : Nat, z * 1302 < n → S8 (fun j => f (z * 1302 + j))
def sp (cs : CS) (T : TF) (tg : Tg) (e : va_E) : Prop := match tg with
  | (0, n, _) => ∃ f : Nat → Int32, e = .inl (cs.1, n, .inl f)
  | (1, n, k) => ∃ f : Nat → Int32, e = .inl (cs.2.1, n, .inl f) ∧ ∀ j, cp k (f j)
  | (2, n, _) => ∃ f : Nat → Int64, e = .inl (cs.2.2.1, n, .inr (.inl f))
  | (3, n, _) => ∃ f : Nat → Int32, e = .inl (cs.2.2.2.1, n, .inl f)
  | (4, n, _) => ∃ f : Nat → Option Nat, e = .inl (cs.2.2.2.2.1, n, .inr (.inr (.inr (.inr f)))) ∧ ∀ j, j < n → ∃ a, f j = some a ∧ T a = some (16, 0, 0)
  | (5, n, _) => ∃ f : Nat → Option Nat, e = .inl (cs.2.2.2.2.2.1, n, .inr (.inr (.inr (.inr f)))) ∧ ∀ j a, f j = some a → ∃ h g, isW T a h g
  | (6, n, _) => ∃ f : Nat → Option Nat, e = .inl (cs.2.2.2.2.2.2.1, n, .inr (.inr (.inr (.inr f)))) ∧ ∀ j, j < n → ∃ a, f j = some a ∧ T a = some (18, 0, 0)
  | (7, n, _) => ∃ f : Nat → Option Nat, e = .inl (cs.2.2.2.2.2.2.2, n, .inr (.inr (.inr (.inr f)))) ∧ ∀ j, j < n → ∃ a, f j = some a ∧ T a = some (15, 0, 0)
  | (8, n, q) => ∃ f : Nat → Int32, e = .inl (cs.2.1, n, .inl f) ∧ B8 n f ∧ (n = 3906 → f 1 = nI (q / 6) ∧ f 2 = nI (q % 6))
  | (9, n, k) => ∃ f : Nat → Int32, e = .inl (cs.2.1, n, .inl f) ∧ ∀ j, cp k (f j)
  | (c + 10, p, q) => ∃ fs : List Value, e = .inr (c, fs) ∧ ob T c p q fs
theorem okL_le {T T' : TF} (h : Tle T T') {l : List FT} (hm : monos l) {fs : List Value} (ho : okL T l fs) : okL T' l fs := ⟨ho.1, fun k P v h1 h2 => hm P (List.mem_of_getElem? h1) T T' v h (ho.2 k P v h1 h2)⟩
theorem ob_le {T T' : TF} (h : Tle T T') {c p q : Nat} {fs : List Value} (ho : ob T c p q fs) : ob T' c p q fs := by
  unfold ob at ho ⊢
  split at ho
  · obtain ⟨a, b, d, n, x, e, t1, t2, t3, r⟩ := ho
    exact ⟨a, b, d, n, x, e, h _ _ t1, h _ _ t2, h _ _ t3, r⟩
  · obtain ⟨a, n, x1, x2, x3, x4, x5, x6, x7, e, t, r⟩ := ho
    exact ⟨a, n, x1, x2, x3, x4, x5, x6, x7, e, h _ _ t, r⟩
  · exact okL_le h (fts_m _ _ _) ho
theorem sp_le {cs : CS} {T T' : TF} (h : Tle T T') {tg : Tg} {e : va_E} (hs : sp cs T tg e) : sp cs T' tg e := by
  unfold sp at hs ⊢
  split at hs
  · exact hs
  · exact hs
  · exact hs
  · exact hs
  · obtain ⟨f, e1, g⟩ := hs
    exact ⟨f, e1, fun j hj => by obtain ⟨a, x, y⟩ := g j hj; exact ⟨a, x, h _ _ y⟩⟩
  · obtain ⟨f, e1, g⟩ := hs
    exact ⟨f, e1, fun j a hj => by obtain ⟨hh, g2, x, y⟩ := g j a hj; exact ⟨hh, g2, h _ _ x, y⟩⟩
  · obtain ⟨f, e1, g⟩ := hs
    exact ⟨f, e1, fun j hj => by obtain ⟨a, x, y⟩ := g j hj; exact ⟨a, x, h _ _ y⟩⟩
  · obtain ⟨f, e1, g⟩ := hs
    exact ⟨f, e1, fun j hj => by obtain ⟨a, x, y⟩ := g j hj; exact ⟨a, x, h _ _ y⟩⟩
  · exact hs
  · exact hs
  · obtain ⟨fs, e1, g⟩ := hs
    exact ⟨fs, e1, ob_le h g⟩
/-- the heap holds the cells X just so, and those of T, but the taken ones O, each by its kind -/
def HT (D : va_G) (cs : CS) (A : Nat → Prop) (T : TF) (O : List Nat) (X : va_W) (H : Heap) : Prop :=
  ∃ ws : va_W, va_P D cls (X ++ ws) H ∧ va_D A (X ++ ws) ∧ (∀ (a : Nat) (tg : Tg), T a = some tg → a ∉ O → ∃ (k : Nat) (e : va_E), ws[k]? = some (a, e) ∧ sp cs T tg e) ∧ ∀ (k : Nat) (q : Nat × va_E), ws[k]? = some q → ∃ tg, T q.1 = some tg
def AT (T : TF) (O : List Nat) (X : va_W) (sz : Nat) : Nat → Prop := fun q => (∃ tg, T q = some tg ∧ q ∉ O) ∨ (∃ (k : Nat) (e : va_E), X[k]? = some (q, e)) ∨ sz ≤ q
theorem HT.weaken {D : va_G} {cs : CS} {A B : Nat → Prop} {T : TF} {O : List Nat} {X : va_W} {H : Heap} (h : HT D cs A T O X H) (hAB : ∀ q, A q → B q) : HT D cs B T O X H := by
  obtain ⟨ws, h1, h2, h3, h4⟩ := h
  exact ⟨ws, h1, h2.weaken (fun _ q _ z => hAB q.1 z), h3, h4⟩
theorem HT.self {D : va_G} {cs : CS} {A : Nat → Prop} {T : TF} {O : List Nat} {X : va_W} {H : Heap} {sz : Nat} (h : HT D cs A T O X H) (hOX : ∀ o ∈ O, ∃ (k : Nat) (e : va_E), X[k]? = some (o, e)) : HT D cs (AT T O X sz) T O X H := by
  obtain ⟨ws, h1, h2, h3, h4⟩ := h
  refine ⟨ws, h1, ⟨h2.1, fun k q hk => ?_⟩, h3, h4⟩
  by_cases hl : k < X.length
  · rw [List.getElem?_append_left hl] at hk
    exact Or.inr (Or.inl ⟨k, q.2, hk⟩)
  · rw [List.getElem?_append_right (by omega)] at hk
    by_cases ho : q.1 ∈ O
    · obtain ⟨k2, e2, hx⟩ := hOX _ ho
      exact Or.inr (Or.inl ⟨k2, e2, hx⟩)
    · obtain ⟨tg, ht⟩ := h4 _ _ hk
      exact Or.inl ⟨tg, ht, ho⟩
theorem HT.in {D : va_G} {cs : CS} {A : Nat → Prop} {T : TF} {O : List Nat} {X : va_W} {H H0 : Heap} {locs : List Loc} (h : HT D cs A T O X H) (hS : va_S A H0 H locs) (hA : ∀ q, H0.size ≤ q → A q) : ∀ q, AT T O X H.size q → A q := by
  obtain ⟨ws, h1, h2, h3, h4⟩ := h
  intro q hq
  rcases hq with ⟨tg, hq, ho⟩ | ⟨k, e, hq⟩ | hq
  · obtain ⟨k, e, hk, -⟩ := h3 q tg hq ho
    exact h2.2 (X.length + k) (q, e) (by rw [List.getElem?_append_right (by omega), show X.length + k - X.length = k by omega]; exact hk)
  · have hl : k < X.length := (List.getElem?_eq_some_iff.mp hq).1
    exact h2.2 k (q, e) (by rw [List.getElem?_append_left hl]; exact hq)
  · exact hA q (Nat.le_trans hS.1 hq)
theorem ap_r {X ws : va_W} {j : Nat} {q : Nat × va_E} (h : ws[j]? = some q) : (X ++ ws)[X.length + j]? = some q := by rw [List.getElem?_append_right (by omega), show X.length + j - X.length = j by omega]; exact h
theorem ap_set {X ws : va_W} {j : Nat} {q : Nat × va_E} : (X ++ ws).set (X.length + j) q = X ++ ws.set j q := by rw [List.set_append_right _ _ (by omega), show X.length + j - X.length = j by omega]
/-- a cell of a kind is written, and stays of its kind -/
theorem HT.put {D : va_G} {cs : CS} {A : Nat → Prop} {T : TF} {O : List Nat} {X ws : va_W} {H1 : Heap} {j a : Nat} {tg : Tg} {e e1 : va_E} (hj : ws[j]? = some (a, e)) (ht : T a = some tg) (h3 : ∀ (a : Nat) (tg : Tg), T a = some tg → a ∉ O → ∃ (k : Nat) (e : va_E), ws[k]? = some (a, e) ∧ sp cs T tg e) (h4 : ∀ (k : Nat) (q : Nat × va_E), ws[k]? = some q → ∃ tg, T q.1 = some tg) (hs : sp cs T tg e1)
    (hP : va_P D cls ((X ++ ws).set (X.length + j) (a, e1)) H1) (hD : va_D A ((X ++ ws).set (X.length + j) (a, e1))) : HT D cs A T O X H1 := by
  rw [ap_set] at hP hD
  have hl : j < ws.length := (List.getElem?_eq_some_iff.mp hj).1
  refine ⟨ws.set j (a, e1), hP, hD, fun b tb hb hO => ?_, fun k q hk => ?_⟩
  · obtain ⟨k, eb, hk, hsb⟩ := h3 b tb hb hO
    by_cases hkj : j = k
    · subst hkj
      have hab : b = a := by rw [hj] at hk; exact (Prod.mk.inj (Option.some.inj hk)).1.symm
      subst hab
      have : tb = tg := Option.some.inj (hb.symm.trans ht)
      subst this
      exact ⟨j, e1, by rw [List.getElem?_set_self hl], hs⟩
    · exact ⟨k, eb, by rw [List.getElem?_set_ne hkj]; exact hk, hsb⟩
  · by_cases hkj : j = k
    · subst hkj
      rw [List.getElem?_set_self hl] at hk
      cases hk
      exact ⟨tg, ht⟩
    · rw [List.getElem?_set_ne hkj] at hk
      exact h4 k q hk
/-- the tapes: taken out at all times -/
def okT (tg : Tg) : Prop := (tg.1 = 0 ∨ tg.1 = 9) ∧ tg.2.1 = 900
/-- the kinds K, but for the tapes, are none of the taken ones -/
def okO (T : TF) (O : List Nat) (K : List Nat) : Prop := ∀ o ∈ O, ∃ tg, T o = some tg ∧ (tg.1 ∉ K ∨ okT tg)
theorem okO.no {T : TF} {O K : List Nat} (h : okO T O K) {a k p q : Nat} (ha : T a = some (k, p, q)) (hk : k ∈ K ∧ k ≠ 0 ∧ k ≠ 9) : a ∉ O := fun ho => by
  obtain ⟨tg, h1, h2⟩ := h a ho
  rw [ha] at h1
  cases h1
  rcases h2 with h2 | h2
  · exact h2 hk.1
  · rcases h2.1 with q1 | q1
    · exact hk.2.1 q1
    · exact hk.2.2 q1
theorem okO.no9 {T : TF} {O K : List Nat} (h : okO T O K) {a k p q : Nat} (ha : T a = some (k, p, q)) (hk : k ∈ K ∧ p ≠ 900) : a ∉ O := fun ho => by
  obtain ⟨tg, h1, h2⟩ := h a ho
  rw [ha] at h1
  cases h1
  rcases h2 with h2 | h2
  · exact h2 hk.1
  · exact hk.2 h2.2
theorem okO.sub {T : TF} {O K K' : List Nat} (h : okO T O K) (hs : ∀ k ∈ K', k ∈ K) : okO T O K' := fun o ho => by
  obtain ⟨tg, h1, h2⟩ := h o ho
  exact ⟨tg, h1, h2.imp (fun h3 q => h3 (hs _ q)) id⟩
theorem okO.cons {T : TF} {O K : List Nat} (h : okO T O K) {a k p q : Nat} (ha : T a = some (k, p, q)) (hk : k ∉ K) : okO T (a :: O) K := fun o ho => by
  rcases List.mem_cons.mp ho with rfl | ho
  · exact ⟨_, ha, Or.inl hk⟩
  · exact h o ho
theorem okO.consT {T : TF} {O K : List Nat} (h : okO T O K) {a k q : Nat} (ha : T a = some (k, 900, q)) (hk : k = 0 ∨ k = 9) : okO T (a :: O) K := fun o ho => by
  rcases List.mem_cons.mp ho with rfl | ho
  · exact ⟨_, ha, Or.inr ⟨hk, rfl⟩⟩
  · exact h o ho
theorem okO.pm {T : TF} {O O' K : List Nat} (h : okO T O K) (hs : ∀ a ∈ O', a ∈ O) : okO T O' K := fun o ho => h o (hs o ho)
theorem okL_n {T : TF} : okL T [] [] := ⟨rfl, fun k P v h => by simp at h⟩
theorem okL_c {T : TF} {P : FT} {l : List FT} {v : Value} {fs : List Value} (h : P T v) (hl : okL T l fs) : okL T (P :: l) (v :: fs) := by
  refine ⟨by rw [List.length_cons, List.length_cons, hl.1], fun k P' v' h1 h2 => ?_⟩
  cases k with
  | zero => cases h1; cases h2; exact h
  | succ k => exact hl.2 k P' v' h1 h2
theorem okL_i {T : TF} {P : FT} {l : List FT} {fs : List Value} (h : okL T (P :: l) fs) : ∃ (v : Value) (fs' : List Value), fs = v :: fs' ∧ P T v ∧ okL T l fs' := by
  obtain ⟨h1, h2⟩ := h
  cases fs with
  | nil => simp at h1
  | cons v fs' => exact ⟨v, fs', rfl, h2 0 P v rfl rfl, by simpa using h1, fun k P' v' a b => h2 (k + 1) P' v' a b⟩
theorem okL_z {T : TF} {fs : List Value} (h : okL T [] fs) : fs = [] := List.length_eq_zero_iff.mp h.1
/-- a cell is taken out: it stands among the exact ones -/
theorem HT.take {D : va_G} {cs : CS} {A : Nat → Prop} {T : TF} {O : List Nat} {X : va_W} {H : Heap} {a ci p q : Nat} (h : HT D cs A T O X H) (ha : T a = some (ci + 10, p, q)) (ho : a ∉ O) : ∃ fs, ob T ci p q fs ∧ HT D cs A T (a :: O) ((a, .inr (ci, fs)) :: X) H := by
  obtain ⟨ws, hP, hD, h3, h4⟩ := h
  obtain ⟨j, e0, hj, hs⟩ := h3 a _ ha ho
  obtain ⟨fs, rfl, hob⟩ : ∃ fs : List Value, e0 = .inr (ci, fs) ∧ ob T ci p q fs := hs
  have hl : j < ws.length := (List.getElem?_eq_some_iff.mp hj).1
  -- the others of ws
  have hg : ∀ (k : Nat) (x : Nat × va_E), (((a, Sum.inr (ci, fs)) :: X) ++ ws.eraseIdx j)[k]? = some x → (X ++ ws)[if k = 0 then X.length + j else if k ≤ X.length then k - 1 else if k - 1 - X.length < j then k - 1 else k]? = some x := by
    intro k x hk
    cases k with
    | zero => rw [if_pos rfl, ap_r hj]; simpa using hk
    | succ k =>
      rw [if_neg (by omega)]
      have hk : (X ++ ws.eraseIdx j)[k]? = some x := hk
      by_cases h1 : k < X.length
      · rw [if_pos (by omega)]
        rw [List.getElem?_append_left h1] at hk
        rw [show k + 1 - 1 = k by omega, List.getElem?_append_left h1]
        exact hk
      · rw [if_neg (by omega)]
        rw [List.getElem?_append_right (by omega), List.getElem?_eraseIdx] at hk
        by_cases h2 : k - X.length < j
        · rw [if_pos h2] at hk
          rw [if_pos (by omega), List.getElem?_append_right (by omega)]
          exact hk
        · rw [if_neg h2] at hk
          rw [if_neg (by omega), List.getElem?_append_right (by omega), show k + 1 - X.length = k - X.length + 1 by omega]
          exact hk
  refine ⟨fs, hob, ws.eraseIdx j, hP.by _ hg, hD.by _ hg ?_, fun b tb hb hO => ?_, fun k x hk => ?_⟩
  · intro i1 i2 hi1 hi2 he
    rw [List.length_append, List.length_cons, List.length_eraseIdx, if_pos hl] at hi1 hi2
    split at he <;> split at he <;> (try split at he) <;> (try split at he) <;> (try split at he) <;> (try split at he) <;> omega
  · have hb2 : b ∉ O := fun z => hO (List.mem_cons_of_mem _ z)
    have hba : b ≠ a := fun z => hO (z ▸ List.mem_cons_self)
    obtain ⟨k, eb, hk, hsb⟩ := h3 b tb hb hb2
    have hkj : k ≠ j := fun z => by
      subst z
      rw [hj] at hk
      exact hba (Prod.mk.inj (Option.some.inj hk)).1.symm
    by_cases h1 : k < j
    · exact ⟨k, eb, by rw [List.getElem?_eraseIdx, if_pos h1]; exact hk, hsb⟩
    · exact ⟨k - 1, eb, by rw [List.getElem?_eraseIdx, if_neg (by omega), show k - 1 + 1 = k by omega]; exact hk, hsb⟩
  · rw [List.getElem?_eraseIdx] at hk
    split at hk
    · exact h4 _ _ hk
    · exact h4 _ _ hk
/-- and laid back -/
theorem HT.lay {D : va_G} {cs : CS} {A : Nat → Prop} {T : TF} {O : List Nat} {X : va_W} {H : Heap} {a ci p q : Nat} {fs : List Value} (h : HT D cs A T (a :: O) ((a, .inr (ci, fs)) :: X) H) (ha : T a = some (ci + 10, p, q)) (hob : ob T ci p q fs) : HT D cs A T O X H := by
  obtain ⟨ws, hP, hD, h3, h4⟩ := h
  have hg : ∀ (k : Nat) (x : Nat × va_E), (X ++ (ws ++ [(a, Sum.inr (ci, fs))]))[k]? = some x → (((a, Sum.inr (ci, fs)) :: X) ++ ws)[if k < X.length + ws.length then k + 1 else 0]? = some x := by
    intro k x hk
    rw [← List.append_assoc] at hk
    by_cases h1 : k < X.length + ws.length
    · rw [if_pos h1]
      rw [List.getElem?_append_left (by rw [List.length_append]; exact h1)] at hk
      exact hk
    · rw [if_neg h1]
      rw [List.getElem?_append_right (by rw [List.length_append]; omega)] at hk
      have hz : k - (X ++ ws).length < 1 := (List.getElem?_eq_some_iff.mp hk).1
      rw [show k - (X ++ ws).length = 0 by omega] at hk
      simpa using hk
  refine ⟨ws ++ [(a, .inr (ci, fs))], hP.by _ hg, hD.by _ hg ?_, fun b tb hb hO => ?_, fun k x hk => ?_⟩
  · intro i1 i2 hi1 hi2 he
    simp only [List.length_append, List.length_cons, List.length_nil] at hi1 hi2
    split at he <;> split at he <;> omega
  · by_cases hba : b = a
    · subst hba
      have : tb = (ci + 10, p, q) := Option.some.inj (hb.symm.trans ha)
      subst this
      exact ⟨ws.length, _, by rw [List.getElem?_append_right (Nat.le_refl _)]; simp, ⟨fs, rfl, hob⟩⟩
    · obtain ⟨k, eb, hk, hsb⟩ := h3 b tb hb (fun z => (List.mem_cons.mp z).elim hba hO)
      exact ⟨k, eb, by rw [List.getElem?_append_left (List.getElem?_eq_some_iff.mp hk).1]; exact hk, hsb⟩
  · by_cases h1 : k < ws.length
    · rw [List.getElem?_append_left h1] at hk
      exact h4 _ _ hk
    · rw [List.getElem?_append_right (by omega)] at hk
      have hz : k - ws.length < 1 := (List.getElem?_eq_some_iff.mp hk).1
      rw [show k - ws.length = 0 by omega] at hk
      cases hk
      exact ⟨_, ha⟩
theorem in_t {t : Int32} {n : Nat} (h0 : 0 ≤ t.toInt) (h3 : t.toInt < n) : vp_in t n := by
  intro q
  have h : t.toNatClampNeg = t.toInt.toNat := rfl
  rcases q with q | q
  · have := Int32.lt_iff_toInt_lt.mp q
    have z : (0 : Int32).toInt = 0 := by decide
    omega
  · omega
section ThRows
variable {p : Program} {l : Launch} {e : Env} {R : Room} {s : State} {m : MethodId} {args : Array Value} {below : List Frame} {meth : Method} {c : Code} {H : Heap} {locs : List Loc} {cells slots : Nat} {Q : State → Prop}
variable {cc : ByteArray} {pc : Nat} {ls : Array Slot} {rest : List Value} {D : va_G} {A : Nat → Prop} {a : Nat} {cs : CS} {T : TF} {O : List Nat} {X : va_W} {H0 : Heap}
abbrev tyc (cs : CS) : List (ClassId × FieldType) := tyl cs.1 cs.2.1 cs.2.2.1 cs.2.2.2.1 cs.2.2.2.2.1 cs.2.2.2.2.2.1 cs.2.2.2.2.2.2.1 cs.2.2.2.2.2.2.2
/-- a field of an object of a kind -/
theorem t_get {own ref C : String} {F : u_T} {N ci p0 q0 index : Nat} {P : FT} {lst : List FT} (hx : p.tables.exec = Jvm.exec) (hb : c.code = cc) (hts : ∀ w ∈ gw, w.before args s = true) (hin : ∀ w ∈ u_ws C F N, w ∈ gw) (hown : s.vm.findClass own = some m.cls) (hkb : kb D (tyc cs) s) (hH : HT D cs A T O X H) (ha : T a = some (ci + 10, p0, q0)) (hno : a ∉ O) (hob : ∀ fs, ob T ci p0 q0 fs → okL T lst fs) (hc : cls[ci]? = some (C, F, N)) (hN : lst.length = N) (k : Nat) (hk : k < N) (hf : lst[k]? = some P) (hlink : Cond.fieldLink own index ref (F k).2.1 (F k).2.2.1 ∈ gw) (hsame : ∀ x, s.fieldFound? (F k).1 (F k).2.1 (F k).2.2.1 = some x → s.fieldFound? ref (F k).2.1 (F k).2.2.1 = some x) (hdg : decode cc pc = .ok (.getfield index, 3))
    (kk : ∀ v : Value, P T v → W p l e R s m args below meth c H locs cells slots Q (F0 m (pc + 3) ls (v :: rest))) : W p l e R s m args below meth c H locs cells slots Q (F0 m pc ls (.ref a :: rest)) := by
  obtain ⟨ws, hP, hD, h3, h4⟩ := hH
  obtain ⟨j, e0, hj, hs⟩ := h3 a _ ha hno
  obtain ⟨fs, rfl, ho⟩ : ∃ fs : List Value, e0 = .inr (ci, fs) ∧ ob T ci p0 q0 fs := hs
  have ho := hob fs ho
  have hkl : k < fs.length := by rw [ho.1, hN]; exact hk
  have hv : fs[k]? = some fs[k] := List.getElem?_eq_getElem hkl
  exact va_get (D := D) hx hb hts hin hown hkb.1 hP (X.length + j) (ap_r hj) hc k hk (hts _ hlink) hsame hv hdg (kk _ (ho.2 k P _ hf hv))
end ThRows
/-! rows over the typed heap -/
section ThRows2
variable {p : Program} {l : Launch} {e : Env} {R : Room} {s : State} {m : MethodId} {args : Array Value} {below : List Frame} {meth : Method} {c : Code} {H : Heap} {locs : List Loc} {cells slots : Nat} {Q : State → Prop}
variable {cc : ByteArray} {pc : Nat} {ls : Array Slot} {rest : List Value} {D : va_G} {A : Nat → Prop} {a : Nat} {cs : CS} {T : TF} {O : List Nat} {X : va_W} {H0 : Heap}
theorem okL_set {T : TF} {l : List FT} {fs : List Value} {k : Nat} {P : FT} {v : Value} (ho : okL T l fs) (hf : l[k]? = some P) (hv : P T v) : okL T l (fs.set k v) := by
  refine ⟨by rw [List.length_set]; exact ho.1, fun j P' v' h1 h2 => ?_⟩
  by_cases hj : k = j
  · subst hj
    have hl : k < fs.length := by
      have := (List.getElem?_eq_some_iff.mp h2).1
      rw [List.length_set] at this
      exact this
    rw [List.getElem?_set_self hl] at h2
    rw [hf] at h1
    cases h1
    cases h2
    exact hv
  · rw [List.getElem?_set_ne hj] at h2
    exact ho.2 j P' v' h1 h2
theorem t_put {own ref C : String} {F : u_T} {N ci p0 q0 index : Nat} {P : FT} {lst : List FT} {v : Value} {ty : FieldType} (hx : p.tables.exec = Jvm.exec) (hb : c.code = cc) (hts : ∀ w ∈ gw, w.before args s = true) (hin : ∀ w ∈ u_ws C F N, w ∈ gw) (ty0 : Nat → FieldType) (hty : ∀ k, k < N → parseFieldDescriptor (F k).2.2.1 = some (ty0 k)) (hnm : ∀ a, a < N → ∀ b, b < N → a ≠ b → (F a).2.1 ≠ (F b).2.1) (hown : s.vm.findClass own = some m.cls) (hkb : kb D (tyc cs) s) (hH : HT D cs A T O X H) (hS : va_S A H0 H locs) (ha : T a = some (ci + 10, p0, q0)) (hno : a ∉ O) (hob : ∀ fs, ob T ci p0 q0 fs ↔ okL T lst fs) (hc : cls[ci]? = some (C, F, N)) (hN : lst.length = N) (k : Nat) (hk : k < N) (hf : lst[k]? = some P) (hv : P T v) (hlink : Cond.fieldLink own index ref (F k).2.1 (F k).2.2.1 ∈ gw) (hsame : ∀ x, s.fieldFound? (F k).1 (F k).2.1 (F k).2.2.1 = some x → s.fieldFound? ref (F k).2.1 (F k).2.2.1 = some x) (hfin : (F k).2.2.2 = false) (hd : parseFieldDescriptor (F k).2.2.1 = some ty) (hn : narrow ty v = v) (hfit : fits ty v = true) (hdg : decode cc pc = .ok (.putfield index, 3))
    (kk : ∀ (H1 : Heap) (locs1 : List Loc), HT D cs A T O X H1 → va_S A H0 H1 locs1 → W p l e R s m args below meth c H1 locs1 cells slots Q (F0 m (pc + 3) ls rest)) : W p l e R s m args below meth c H locs cells slots Q (F0 m pc ls (v :: .ref a :: rest)) := by
  obtain ⟨ws, hP, hD, h3, h4⟩ := hH
  obtain ⟨j, e0, hj, hs⟩ := h3 a _ ha hno
  obtain ⟨fs, rfl, ho⟩ : ∃ fs : List Value, e0 = .inr (ci, fs) ∧ ob T ci p0 q0 fs := hs
  have ho := (hob fs).mp ho
  have hkl : k < fs.length := by rw [ho.1, hN]; exact hk
  refine va_put (D := D) hx hb hts hin ty0 hty hnm hown hkb.1 hP hD hS (X.length + j) (ap_r hj) hc k hk (hts _ hlink) hsame hfin hd hn hfit hkl hdg (fun H1 locs1 hP hD hS => ?_)
  exact kk H1 locs1 (HT.put hj ha h3 h4 (show sp cs T (ci + 10, p0, q0) (.inr (ci, fs.set k v)) from ⟨_, rfl, (hob _).mpr (okL_set ho hf hv)⟩) hP hD) hS
/-- arrays of ints, bytes, booleans, longs -/
theorem t_ild {n k : Nat} {i : Int32} (hx : p.tables.exec = Jvm.exec) (hb : c.code = cc) (hkb : kb D (tyc cs) s) (hH : HT D cs A T O X H) (ha : T a = some (1, n, k)) (hno : a ∉ O) (h0 : 0 ≤ i.toInt) (h1 : i.toInt < n) (hdg : decode cc pc = .ok (.iaload, 1))
    (kk : ∀ x : Int32, cp k x → W p l e R s m args below meth c H locs cells slots Q (F0 m (pc + 1) ls (.int x :: rest))) : W p l e R s m args below meth c H locs cells slots Q (F0 m pc ls (.int i :: .ref a :: rest)) := by
  obtain ⟨ws, hP, hD, h3, h4⟩ := hH
  obtain ⟨j, e0, hj, hs⟩ := h3 a _ ha hno
  obtain ⟨f, rfl, hf⟩ : ∃ f : Nat → Int32, e0 = .inl (cs.2.1, n, .inl f) ∧ ∀ j, cp k (f j) := hs
  exact va_iald hx hb hkb.1 hP (X.length + j) 1 (ap_r hj) rfl (in_t h0 h1) hdg (kk _ (hf _))
theorem t_ist {n k : Nat} {i x : Int32} (hx : p.tables.exec = Jvm.exec) (hb : c.code = cc) (hkb : kb D (tyc cs) s) (hH : HT D cs A T O X H) (hS : va_S A H0 H locs) (ha : T a = some (1, n, k)) (hno : a ∉ O) (h0 : 0 ≤ i.toInt) (h1 : i.toInt < n) (hv : cp k x) (hdg : decode cc pc = .ok (.iastore, 1))
    (kk : ∀ (H1 : Heap) (locs1 : List Loc), HT D cs A T O X H1 → va_S A H0 H1 locs1 → W p l e R s m args below meth c H1 locs1 cells slots Q (F0 m (pc + 1) ls rest)) : W p l e R s m args below meth c H locs cells slots Q (F0 m pc ls (.int x :: .int i :: .ref a :: rest)) := by
  obtain ⟨ws, hP, hD, h3, h4⟩ := hH
  obtain ⟨j, e0, hj, hs⟩ := h3 a _ ha hno
  obtain ⟨f, rfl, hf⟩ : ∃ f : Nat → Int32, e0 = .inl (cs.2.1, n, .inl f) ∧ ∀ j, cp k (f j) := hs
  refine va_iast hx hb hkb.1 hP hD hS (X.length + j) 1 (ap_r hj) rfl (in_t h0 h1) hdg (fun H1 locs1 hP hD hS => ?_)
  refine kk H1 locs1 (HT.put hj ha h3 h4 (show sp cs T (1, n, k) _ from ⟨_, rfl, fun q => ?_⟩) hP hD) hS
  unfold upd
  split
  · exact hv
  · exact hf q
theorem t_bld {n k : Nat} {i : Int32} (hx : p.tables.exec = Jvm.exec) (hb : c.code = cc) (hkb : kb D (tyc cs) s) (hH : HT D cs A T O X H) (ha : T a = some (0, n, k)) (hno : a ∉ O) (h0 : 0 ≤ i.toInt) (h1 : i.toInt < n) (hdg : decode cc pc = .ok (.baload, 1))
    (kk : ∀ x : Int32, W p l e R s m args below meth c H locs cells slots Q (F0 m (pc + 1) ls (.int x :: rest))) : W p l e R s m args below meth c H locs cells slots Q (F0 m pc ls (.int i :: .ref a :: rest)) := by
  obtain ⟨ws, hP, hD, h3, h4⟩ := hH
  obtain ⟨j, e0, hj, hs⟩ := h3 a _ ha hno
  obtain ⟨f, rfl⟩ : ∃ f : Nat → Int32, e0 = .inl (cs.1, n, .inl f) := hs
  exact va_bald hx hb hkb.1 hP (X.length + j) 0 (ap_r hj) rfl (in_t h0 h1) hdg (kk _)
theorem t_bst {n k : Nat} {i x : Int32} (hx : p.tables.exec = Jvm.exec) (hb : c.code = cc) (hkb : kb D (tyc cs) s) (hH : HT D cs A T O X H) (hS : va_S A H0 H locs) (ha : T a = some (0, n, k)) (hno : a ∉ O) (h0 : 0 ≤ i.toInt) (h1 : i.toInt < n) (hdg : decode cc pc = .ok (.bastore, 1))
    (kk : ∀ (H1 : Heap) (locs1 : List Loc), HT D cs A T O X H1 → va_S A H0 H1 locs1 → W p l e R s m args below meth c H1 locs1 cells slots Q (F0 m (pc + 1) ls rest)) : W p l e R s m args below meth c H locs cells slots Q (F0 m pc ls (.int x :: .int i :: .ref a :: rest)) := by
  obtain ⟨ws, hP, hD, h3, h4⟩ := hH
  obtain ⟨j, e0, hj, hs⟩ := h3 a _ ha hno
  obtain ⟨f, rfl⟩ : ∃ f : Nat → Int32, e0 = .inl (cs.1, n, .inl f) := hs
  refine va_bast hx hb hkb.1 hP hD hS (X.length + j) 0 (ap_r hj) rfl (in_t h0 h1) hdg (fun H1 locs1 hP hD hS => ?_)
  exact kk H1 locs1 (HT.put hj ha h3 h4 (show sp cs T (0, n, k) _ from ⟨_, rfl⟩) hP hD) hS
theorem t_zld {n k : Nat} {i : Int32} (hx : p.tables.exec = Jvm.exec) (hb : c.code = cc) (hkb : kb D (tyc cs) s) (hH : HT D cs A T O X H) (ha : T a = some (3, n, k)) (hno : a ∉ O) (h0 : 0 ≤ i.toInt) (h1 : i.toInt < n) (hdg : decode cc pc = .ok (.baload, 1))
    (kk : ∀ x : Int32, W p l e R s m args below meth c H locs cells slots Q (F0 m (pc + 1) ls (.int x :: rest))) : W p l e R s m args below meth c H locs cells slots Q (F0 m pc ls (.int i :: .ref a :: rest)) := by
  obtain ⟨ws, hP, hD, h3, h4⟩ := hH
  obtain ⟨j, e0, hj, hs⟩ := h3 a _ ha hno
  obtain ⟨f, rfl⟩ : ∃ f : Nat → Int32, e0 = .inl (cs.2.2.2.1, n, .inl f) := hs
  exact va_zald hx hb hkb.1 hP (X.length + j) 3 (ap_r hj) rfl (in_t h0 h1) hdg (kk _)
theorem t_zst {n k : Nat} {i x : Int32} (hx : p.tables.exec = Jvm.exec) (hb : c.code = cc) (hkb : kb D (tyc cs) s) (hH : HT D cs A T O X H) (hS : va_S A H0 H locs) (ha : T a = some (3, n, k)) (hno : a ∉ O) (h0 : 0 ≤ i.toInt) (h1 : i.toInt < n) (hdg : decode cc pc = .ok (.bastore, 1))
    (kk : ∀ (H1 : Heap) (locs1 : List Loc), HT D cs A T O X H1 → va_S A H0 H1 locs1 → W p l e R s m args below meth c H1 locs1 cells slots Q (F0 m (pc + 1) ls rest)) : W p l e R s m args below meth c H locs cells slots Q (F0 m pc ls (.int x :: .int i :: .ref a :: rest)) := by
  obtain ⟨ws, hP, hD, h3, h4⟩ := hH
  obtain ⟨j, e0, hj, hs⟩ := h3 a _ ha hno
  obtain ⟨f, rfl⟩ : ∃ f : Nat → Int32, e0 = .inl (cs.2.2.2.1, n, .inl f) := hs
  refine va_zast hx hb hkb.1 hP hD hS (X.length + j) 3 (ap_r hj) rfl (in_t h0 h1) hdg (fun H1 locs1 hP hD hS => ?_)
  exact kk H1 locs1 (HT.put hj ha h3 h4 (show sp cs T (3, n, k) _ from ⟨_, rfl⟩) hP hD) hS
theorem t_lld {n k : Nat} {i : Int32} (hx : p.tables.exec = Jvm.exec) (hb : c.code = cc) (hkb : kb D (tyc cs) s) (hH : HT D cs A T O X H) (ha : T a = some (2, n, k)) (hno : a ∉ O) (h0 : 0 ≤ i.toInt) (h1 : i.toInt < n) (hdg : decode cc pc = .ok (.laload, 1))
    (kk : ∀ x : Int64, W p l e R s m args below meth c H locs cells slots Q (F0 m (pc + 1) ls (.long x :: rest))) : W p l e R s m args below meth c H locs cells slots Q (F0 m pc ls (.int i :: .ref a :: rest)) := by
  obtain ⟨ws, hP, hD, h3, h4⟩ := hH
  obtain ⟨j, e0, hj, hs⟩ := h3 a _ ha hno
  obtain ⟨f, rfl⟩ : ∃ f : Nat → Int64, e0 = .inl (cs.2.2.1, n, .inr (.inl f)) := hs
  exact va_lald hx hb hkb.1 hP (X.length + j) 2 (ap_r hj) rfl (in_t h0 h1) hdg (kk _)
theorem t_lst {n k : Nat} {i : Int32} {x : Int64} (hx : p.tables.exec = Jvm.exec) (hb : c.code = cc) (hkb : kb D (tyc cs) s) (hH : HT D cs A T O X H) (hS : va_S A H0 H locs) (ha : T a = some (2, n, k)) (hno : a ∉ O) (h0 : 0 ≤ i.toInt) (h1 : i.toInt < n) (hdg : decode cc pc = .ok (.lastore, 1))
    (kk : ∀ (H1 : Heap) (locs1 : List Loc), HT D cs A T O X H1 → va_S A H0 H1 locs1 → W p l e R s m args below meth c H1 locs1 cells slots Q (F0 m (pc + 1) ls rest)) : W p l e R s m args below meth c H locs cells slots Q (F0 m pc ls (.long x :: .int i :: .ref a :: rest)) := by
  obtain ⟨ws, hP, hD, h3, h4⟩ := hH
  obtain ⟨j, e0, hj, hs⟩ := h3 a _ ha hno
  obtain ⟨f, rfl⟩ : ∃ f : Nat → Int64, e0 = .inl (cs.2.2.1, n, .inr (.inl f)) := hs
  refine va_last hx hb hkb.1 hP hD hS (X.length + j) 2 (ap_r hj) rfl (in_t h0 h1) hdg (fun H1 locs1 hP hD hS => ?_)
  exact kk H1 locs1 (HT.put hj ha h3 h4 (show sp cs T (2, n, k) _ from ⟨_, rfl⟩) hP hD) hS
/-- arrays of States, Trays, Rows (all told), of Walls (some none) -/
theorem t_qld4 {n k : Nat} {i : Int32} (hx : p.tables.exec = Jvm.exec) (hb : c.code = cc) (hkb : kb D (tyc cs) s) (hH : HT D cs A T O X H) (ha : T a = some (4, n, k)) (hno : a ∉ O) (h0 : 0 ≤ i.toInt) (h1 : i.toInt < n) (hdg : decode cc pc = .ok (.aaload, 1))
    (kk : ∀ r : Nat, T r = some (16, 0, 0) → W p l e R s m args below meth c H locs cells slots Q (F0 m (pc + 1) ls (.ref r :: rest))) : W p l e R s m args below meth c H locs cells slots Q (F0 m pc ls (.int i :: .ref a :: rest)) := by
  obtain ⟨ws, hP, hD, h3, h4⟩ := hH
  obtain ⟨j, e0, hj, hs⟩ := h3 a _ ha hno
  obtain ⟨f, rfl, hf⟩ : ∃ f : Nat → Option Nat, e0 = .inl (cs.2.2.2.2.1, n, .inr (.inr (.inr (.inr f)))) ∧ ∀ j, j < n → ∃ a, f j = some a ∧ T a = some (16, 0, 0) := hs
  obtain ⟨r, hr, ht⟩ := hf i.toNatClampNeg (show i.toInt.toNat < n by omega)
  exact va_aldq (C := RX6) hx hb hkb.1 hP (X.length + j) 4 (ap_r hj) rfl (in_t h0 h1) hdg (by rw [hr]; exact kk r ht)
theorem t_qld6 {n k : Nat} {i : Int32} (hx : p.tables.exec = Jvm.exec) (hb : c.code = cc) (hkb : kb D (tyc cs) s) (hH : HT D cs A T O X H) (ha : T a = some (6, n, k)) (hno : a ∉ O) (h0 : 0 ≤ i.toInt) (h1 : i.toInt < n) (hdg : decode cc pc = .ok (.aaload, 1))
    (kk : ∀ r : Nat, T r = some (18, 0, 0) → W p l e R s m args below meth c H locs cells slots Q (F0 m (pc + 1) ls (.ref r :: rest))) : W p l e R s m args below meth c H locs cells slots Q (F0 m pc ls (.int i :: .ref a :: rest)) := by
  obtain ⟨ws, hP, hD, h3, h4⟩ := hH
  obtain ⟨j, e0, hj, hs⟩ := h3 a _ ha hno
  obtain ⟨f, rfl, hf⟩ : ∃ f : Nat → Option Nat, e0 = .inl (cs.2.2.2.2.2.2.1, n, .inr (.inr (.inr (.inr f)))) ∧ ∀ j, j < n → ∃ a, f j = some a ∧ T a = some (18, 0, 0) := hs
  obtain ⟨r, hr, ht⟩ := hf i.toNatClampNeg (show i.toInt.toNat < n by omega)
  exact va_aldq (C := RX8) hx hb hkb.1 hP (X.length + j) 6 (ap_r hj) rfl (in_t h0 h1) hdg (by rw [hr]; exact kk r ht)
theorem t_qld7 {n k : Nat} {i : Int32} (hx : p.tables.exec = Jvm.exec) (hb : c.code = cc) (hkb : kb D (tyc cs) s) (hH : HT D cs A T O X H) (ha : T a = some (7, n, k)) (hno : a ∉ O) (h0 : 0 ≤ i.toInt) (h1 : i.toInt < n) (hdg : decode cc pc = .ok (.aaload, 1))
    (kk : ∀ r : Nat, T r = some (15, 0, 0) → W p l e R s m args below meth c H locs cells slots Q (F0 m (pc + 1) ls (.ref r :: rest))) : W p l e R s m args below meth c H locs cells slots Q (F0 m pc ls (.int i :: .ref a :: rest)) := by
  obtain ⟨ws, hP, hD, h3, h4⟩ := hH
  obtain ⟨j, e0, hj, hs⟩ := h3 a _ ha hno
  obtain ⟨f, rfl, hf⟩ : ∃ f : Nat → Option Nat, e0 = .inl (cs.2.2.2.2.2.2.2, n, .inr (.inr (.inr (.inr f)))) ∧ ∀ j, j < n → ∃ a, f j = some a ∧ T a = some (15, 0, 0) := hs
  obtain ⟨r, hr, ht⟩ := hf i.toNatClampNeg (show i.toInt.toNat < n by omega)
  exact va_aldq (C := RX5) hx hb hkb.1 hP (X.length + j) 7 (ap_r hj) rfl (in_t h0 h1) hdg (by rw [hr]; exact kk r ht)
theorem t_qld5 {n k : Nat} {i : Int32} (hx : p.tables.exec = Jvm.exec) (hb : c.code = cc) (hkb : kb D (tyc cs) s) (hH : HT D cs A T O X H) (ha : T a = some (5, n, k)) (hno : a ∉ O) (h0 : 0 ≤ i.toInt) (h1 : i.toInt < n) (hdg : decode cc pc = .ok (.aaload, 1))
    (k1 : W p l e R s m args below meth c H locs cells slots Q (F0 m (pc + 1) ls (.null :: rest))) (k2 : ∀ r h g : Nat, isW T r h g → W p l e R s m args below meth c H locs cells slots Q (F0 m (pc + 1) ls (.ref r :: rest))) : W p l e R s m args below meth c H locs cells slots Q (F0 m pc ls (.int i :: .ref a :: rest)) := by
  obtain ⟨ws, hP, hD, h3, h4⟩ := hH
  obtain ⟨j, e0, hj, hs⟩ := h3 a _ ha hno
  obtain ⟨f, rfl, hf⟩ : ∃ f : Nat → Option Nat, e0 = .inl (cs.2.2.2.2.2.1, n, .inr (.inr (.inr (.inr f)))) ∧ ∀ j a, f j = some a → ∃ h g, isW T a h g := hs
  refine va_aldq (C := RX9) hx hb hkb.1 hP (X.length + j) 5 (ap_r hj) rfl (in_t h0 h1) hdg ?_
  cases hr : f i.toNatClampNeg with
  | none => exact k1
  | some r =>
    obtain ⟨h, g, hw⟩ := hf _ r hr
    exact k2 r h g hw
/-- a State into an array of States -/
theorem t_qst4 {n k v : Nat} {i : Int32} (hx : p.tables.exec = Jvm.exec) (hb : c.code = cc) (hkb : kb D (tyc cs) s) (hH : HT D cs A T O X H) (hS : va_S A H0 H locs) (ha : T a = some (4, n, k)) (hno : a ∉ O) (hv : T v = some (16, 0, 0)) (hnv : v ∉ O) (h0 : 0 ≤ i.toInt) (h1 : i.toInt < n) (hdg : decode cc pc = .ok (.aastore, 1))
    (kk : ∀ (H1 : Heap) (locs1 : List Loc), HT D cs A T O X H1 → va_S A H0 H1 locs1 → W p l e R s m args below meth c H1 locs1 cells slots Q (F0 m (pc + 1) ls rest)) : W p l e R s m args below meth c H locs cells slots Q (F0 m pc ls (.ref v :: .int i :: .ref a :: rest)) := by
  obtain ⟨ws, hP, hD, h3, h4⟩ := hH
  obtain ⟨j, e0, hj, hs⟩ := h3 a _ ha hno
  obtain ⟨f, rfl, hf⟩ : ∃ f : Nat → Option Nat, e0 = .inl (cs.2.2.2.2.1, n, .inr (.inr (.inr (.inr f)))) ∧ ∀ j, j < n → ∃ a, f j = some a ∧ T a = some (16, 0, 0) := hs
  obtain ⟨jv, ev, hjv, hsv⟩ := h3 v _ hv hnv
  obtain ⟨vs, rfl, -⟩ : ∃ fs : List Value, ev = .inr (6, fs) ∧ ob T 6 0 0 fs := hsv
  refine va_astq (r := (RX6, TX6, 6)) hx hb hkb.1 hP hD hS (X.length + j) 4 (X.length + jv) 6 (ap_r hj) rfl (ap_r hjv) rfl (in_t h0 h1) hdg (fun H1 locs1 hP hD hS => ?_)
  refine kk H1 locs1 (HT.put hj ha h3 h4 (show sp cs T (4, n, k) _ from ⟨_, rfl, fun q hq => ?_⟩) hP hD) hS
  unfold va_up
  split
  · exact ⟨v, rfl, hv⟩
  · exact hf q hq
theorem t_qst5 {n k v hh gg : Nat} {i : Int32} (hx : p.tables.exec = Jvm.exec) (hb : c.code = cc) (hkb : kb D (tyc cs) s) (hH : HT D cs A T O X H) (hS : va_S A H0 H locs) (ha : T a = some (5, n, k)) (hno : a ∉ O) (hv : isW T v hh gg) (hnv : v ∉ O) (h0 : 0 ≤ i.toInt) (h1 : i.toInt < n) (hdg : decode cc pc = .ok (.aastore, 1))
    (kk : ∀ (H1 : Heap) (locs1 : List Loc), HT D cs A T O X H1 → va_S A H0 H1 locs1 → W p l e R s m args below meth c H1 locs1 cells slots Q (F0 m (pc + 1) ls rest)) : W p l e R s m args below meth c H locs cells slots Q (F0 m pc ls (.ref v :: .int i :: .ref a :: rest)) := by
  obtain ⟨ws, hP, hD, h3, h4⟩ := hH
  obtain ⟨j, e0, hj, hs⟩ := h3 a _ ha hno
  obtain ⟨f, rfl, hf⟩ : ∃ f : Nat → Option Nat, e0 = .inl (cs.2.2.2.2.2.1, n, .inr (.inr (.inr (.inr f)))) ∧ ∀ j a, f j = some a → ∃ h g, isW T a h g := hs
  obtain ⟨jv, ev, hjv, hsv⟩ := h3 v _ hv.1 hnv
  obtain ⟨vs, rfl, -⟩ : ∃ fs : List Value, ev = .inr (9, fs) ∧ ob T 9 hh gg fs := hsv
  refine va_astq (r := (RX9, TX9, 14)) hx hb hkb.1 hP hD hS (X.length + j) 5 (X.length + jv) 9 (ap_r hj) rfl (ap_r hjv) rfl (in_t h0 h1) hdg (fun H1 locs1 hP hD hS => ?_)
  refine kk H1 locs1 (HT.put hj ha h3 h4 (show sp cs T (5, n, k) _ from ⟨_, rfl, fun q b hq => ?_⟩) hP hD) hS
  unfold va_up at hq
  split at hq
  · cases hq; exact ⟨hh, gg, hv⟩
  · exact hf q b hq
/-- System.arraycopy of ints -/
theorem t_copy {own : String} {index n0 n1 k0 k : Nat} {a0 : Nat} {sp' dp n : Int32} (hx : p.tables.exec = Jvm.exec) (hb : c.code = cc) (hml : c.maxLocals = ls.size) (hown : s.vm.findClass own = some m.cls) (hlink : (Cond.methodLink own index arraycopyName).before args s = true) (hnat : (Cond.native arraycopyName).before args s = true) (hstat : (Cond.static arraycopyName).before args s = true) (hini : (Cond.initialized "java/lang/System").before args s = true) (hkb : kb D (tyc cs) s) (hH : HT D cs A T O X H) (hS : va_S A H0 H locs) (hcp : ∀ x : Int32, cp k0 x → cp k x) (ha0 : T a0 = some (1, n0, k0)) (hno0 : a0 ∉ O) (ha : T a = some (1, n1, k)) (hno : a ∉ O) (h1 : 0 ≤ sp'.toInt) (h2 : 0 ≤ dp.toInt) (h3 : 0 ≤ n.toInt) (h4 : sp'.toInt + n.toInt ≤ n0) (h5 : dp.toInt + n.toInt ≤ n1)
    (hframes : 1 ≤ R.frames) (hlocals : (rest.map fun v => v.category).sum + (nativeFrameWords "java/lang/System" "arraycopy" 5 + 11) ≤ R.locals) (hdg : decode cc pc = .ok (.invokestatic index, 3))
    (kk : ∀ (H1 : Heap) (locs1 : List Loc), HT D cs A T O X H1 → va_S A H0 H1 locs1 → W p l e R s m args below meth c H1 locs1 cells slots Q (F0 m (pc + 3) ls rest)) : W p l e R s m args below meth c H locs cells slots Q (F0 m pc ls (.int n :: .int dp :: .ref a :: .int sp' :: .ref a0 :: rest)) := by
  obtain ⟨ws, hP, hD, h3', h4'⟩ := hH
  obtain ⟨j0, e0, hj0, hs0⟩ := h3' a0 _ ha0 hno0
  obtain ⟨f, rfl, hf⟩ : ∃ f : Nat → Int32, e0 = .inl (cs.2.1, n0, .inl f) ∧ ∀ j, cp k0 (f j) := hs0
  obtain ⟨j, e1, hj, hs⟩ := h3' a _ ha hno
  obtain ⟨g, rfl, hg⟩ : ∃ f : Nat → Int32, e1 = .inl (cs.2.1, n1, .inl f) ∧ ∀ j, cp k (f j) := hs
  have z : (0 : Int32).toInt = 0 := by decide
  have ng : ∀ w : Int32, 0 ≤ w.toInt → ¬ w < 0 := fun w hw q => by
    have := Int32.lt_iff_toInt_lt.mp q
    omega
  have c1 : sp'.toNatClampNeg = sp'.toInt.toNat := rfl
  have c2 : dp.toNatClampNeg = dp.toInt.toNat := rfl
  have c3 : n.toNatClampNeg = n.toInt.toNat := rfl
  refine va_copyi (f := f) (g := g) hx hb hml hown hlink hnat hstat hini hkb.1 hP hD hS (X.length + j0) (X.length + j) 1 1 (ap_r hj0) (ap_r hj) rfl rfl rfl (ng _ h1) (ng _ h2) (ng _ h3) (by omega) (by omega) (fun _ _ => rfl) hframes hlocals hdg (fun H1 locs1 hP hD hS => ?_)
  refine kk H1 locs1 (HT.put hj ha h3' h4' (show sp cs T (1, n1, k) _ from ⟨_, rfl, fun q => ?_⟩) hP hD) hS
  unfold va_cpy
  split
  · exact hcp _ (hf _)
  · exact hg q
/-- lengths -/
theorem t_len1 {n k : Nat} (hx : p.tables.exec = Jvm.exec) (hb : c.code = cc) (hkb : kb D (tyc cs) s) (hH : HT D cs A T O X H) (ha : T a = some (1, n, k)) (hno : a ∉ O) (hdg : decode cc pc = .ok (.arraylength, 1))
    (kk : W p l e R s m args below meth c H locs cells slots Q (F0 m (pc + 1) ls (.int (nI n) :: rest))) : W p l e R s m args below meth c H locs cells slots Q (F0 m pc ls (.ref a :: rest)) := by
  obtain ⟨ws, hP, hD, h3, h4⟩ := hH
  obtain ⟨j, e0, hj, hs⟩ := h3 a _ ha hno
  obtain ⟨f, rfl, hf⟩ : ∃ f : Nat → Int32, e0 = .inl (cs.2.1, n, .inl f) ∧ ∀ j, cp k (f j) := hs
  exact va_alen (v := nI n) hx hb hkb.1 hP (X.length + j) 1 (ap_r hj) rfl rfl hdg kk
theorem t_len0 {n k : Nat} (hx : p.tables.exec = Jvm.exec) (hb : c.code = cc) (hkb : kb D (tyc cs) s) (hH : HT D cs A T O X H) (ha : T a = some (0, n, k)) (hno : a ∉ O) (hdg : decode cc pc = .ok (.arraylength, 1))
    (kk : W p l e R s m args below meth c H locs cells slots Q (F0 m (pc + 1) ls (.int (nI n) :: rest))) : W p l e R s m args below meth c H locs cells slots Q (F0 m pc ls (.ref a :: rest)) := by
  obtain ⟨ws, hP, hD, h3, h4⟩ := hH
  obtain ⟨j, e0, hj, hs⟩ := h3 a _ ha hno
  obtain ⟨f, rfl⟩ : ∃ f : Nat → Int32, e0 = .inl (cs.1, n, .inl f) := hs
  exact va_alen (v := nI n) hx hb hkb.1 hP (X.length + j) 0 (ap_r hj) rfl rfl hdg kk
theorem t_len2 {n k : Nat} (hx : p.tables.exec = Jvm.exec) (hb : c.code = cc) (hkb : kb D (tyc cs) s) (hH : HT D cs A T O X H) (ha : T a = some (2, n, k)) (hno : a ∉ O) (hdg : decode cc pc = .ok (.arraylength, 1))
    (kk : W p l e R s m args below meth c H locs cells slots Q (F0 m (pc + 1) ls (.int (nI n) :: rest))) : W p l e R s m args below meth c H locs cells slots Q (F0 m pc ls (.ref a :: rest)) := by
  obtain ⟨ws, hP, hD, h3, h4⟩ := hH
  obtain ⟨j, e0, hj, hs⟩ := h3 a _ ha hno
  obtain ⟨f, rfl⟩ : ∃ f : Nat → Int64, e0 = .inl (cs.2.2.1, n, .inr (.inl f)) := hs
  exact va_alen (v := nI n) hx hb hkb.1 hP (X.length + j) 2 (ap_r hj) rfl rfl hdg kk
end ThRows2
/-! the String constants: where they are told, their lengths and bytes -/
abbrev KF : Type := (Nat → Nat) × (Nat → Nat)
def sts : List (String × Nat × String × Nat) := [("FootholdWall$Tokens", 53, ";:+-*()[]=<>", 0), ("FootholdWall$Reader", 81, "hold", 1), ("FootholdWall$Reader", 141, "ice", 2), ("FootholdWall$Reader", 142, "start", 3), ("FootholdWall$Reader", 147, "top", 4), ("FootholdWall$Reader", 152, "wide", 5), ("FootholdWall$Reader", 90, "guide", 6), ("FootholdWall$Reader", 160, "leg", 7), ("FootholdWall$Reader", 170, "weight", 8), ("FootholdWall$Reader", 95, "step", 9), ("FootholdWall$LawReader", 65, "not", 10), ("FootholdWall$LawReader", 99, "dx", 11), ("FootholdWall$LawReader", 101, "up", 12), ("FootholdWall$LawReader", 103, "far", 13), ("FootholdWall$LawReader", 105, "leg", 7), ("FootholdWall$LawReader", 107, "weight", 8), ("FootholdWall$LawReader", 109, "wide", 5), ("FootholdWall$LawReader", 111, "day", 14), ("FootholdWall$LawReader", 63, "and", 15), ("FootholdWall$LawReader", 41, "or", 16), ("FootholdWall$Reader", 103, "used", 17), ("FootholdWall$Reader", 178, "by", 18), ("FootholdWall$Reader", 108, "broken", 19), ("FootholdWall$Reader", 113, "day", 14), ("FootholdWallModel", 88, " hold guide leg weight step used by broken day start top wide ice or and not dx up far ", 20), ("FootholdWallModel", 126, ";:+-*()[]=<>", 0)]
def slen : List Nat := [12, 4, 3, 5, 3, 4, 5, 3, 6, 4, 3, 2, 2, 3, 3, 3, 2, 4, 2, 6, 87]
def sbyt : List (List Int32) := [[59, 58, 43, 45, 42, 40, 41, 91, 93, 61, 60, 62], [104, 111, 108, 100], [105, 99, 101], [115, 116, 97, 114, 116], [116, 111, 112], [119, 105, 100, 101], [103, 117, 105, 100, 101], [108, 101, 103], [119, 101, 105, 103, 104, 116], [115, 116, 101, 112], [110, 111, 116], [100, 120], [117, 112], [102, 97, 114], [100, 97, 121], [97, 110, 100], [111, 114], [117, 115, 101, 100], [98, 121], [98, 114, 111, 107, 101, 110], [32, 104, 111, 108, 100, 32, 103, 117, 105, 100, 101, 32, 108, 101, 103, 32, 119, 101, 105, 103, 104, 116, 32, 115, 116, 101, 112, 32, 117, 115, 101, 100, 32, 98, 121, 32, 98, 114, 111, 107, 101, 110, 32, 100, 97, 121, 32, 115, 116, 97, 114, 116, 32, 116, 111, 112, 32, 119, 105, 100, 101, 32, 105, 99, 101, 32, 111, 114, 32, 97, 110, 100, 32, 110, 111, 116, 32, 100, 120, 32, 117, 112, 32, 102, 97, 114, 32]]
theorem slen_b (i : Nat) : slen.getD i 0 ≤ 88 := by
  by_cases h : i < 21
  · have : ∀ j, j < 21 → slen.getD j 0 ≤ 88 := by decide
    exact this i h
  · rw [List.getD_eq_getElem?_getD, List.getElem?_eq_none (by show 21 ≤ i; omega)]
    decide
def kS (kf : KF) (U : State) : Prop := ∀ q ∈ sts, vk_R q.1 q.2.1 q.2.2.1 (kf.1 q.2.2.2) U
theorem kS.warm {kf : KF} {s U : State} (hW : s.WarmedH U.vm) (h : kS kf s) : kS kf U := fun q hq => vk_R.warm hW (h q hq)
theorem kS.same {kf : KF} {s U : State} (hv : U.vm = s.vm) (h : kS kf s) : kS kf U := fun q hq => vk_R.same hv (h q hq)
def kE (kf : KF) (A : Nat → Prop) (U : State) (H : Heap) : Prop := vk_S 21 slen sbyt kf.1 kf.2 A U H ∧ va_Z "java/lang/String" "COMPACT_STRINGS" "Z" (.int 1) A U H ∧ ∃ fo : Option Nat, va_Z "jdk/internal/util/Preconditions" "SIOOBE_FORMATTER" "Ljava/util/function/BiFunction;" (va_rf fo) A U H
theorem kE.moved {kf : KF} {A : Nat → Prop} {u U : State} {H : Heap} (hvm : u.vm.Alike U.vm) (h : kE kf A u H) : kE kf A U H := by
  obtain ⟨h1, h2, fo, h3⟩ := h
  exact ⟨vk_S.moved hvm h1, va_Z.moved hvm h2, fo, va_Z.moved hvm h3⟩
theorem kE.kept {kf : KF} {A : Nat → Prop} {U : State} {H H1 : Heap} (h : kE kf A U H) (hq : ∀ a : Nat, a < H.size → ¬ A a → H1[a]? = H[a]?) : kE kf A U H1 := by
  obtain ⟨h1, h2, fo, h3⟩ := h
  exact ⟨h1.kept hq, h2.kept hq, fo, h3.kept hq⟩
theorem kE.narrow {kf : KF} {A B : Nat → Prop} {U : State} {H : Heap} (h : kE kf A U H) (hAB : ∀ q, B q → A q) : kE kf B U H := by
  obtain ⟨h1, h2, fo, h3⟩ := h
  exact ⟨h1.narrow hAB, h2.narrow hAB, fo, h3.narrow hAB⟩
/-! contracts over the typed heap -/
def prT (D : va_G) (cs : CS) (kf : KF) (T : TF) (O : List Nat) (X : va_W) (sz : Nat) (U : State) : Prop := U.heap.size = sz ∧ HT D cs (fun _ => True) T O X U.heap ∧ kb D (tyc cs) U ∧ (∀ o ∈ O, ∃ (k : Nat) (e : va_E), X[k]? = some (o, e)) ∧ kS kf U ∧ kE kf (AT T O X sz) U U.heap
theorem prT.blind {D : va_G} {cs : CS} {kf : KF} {T : TF} {O : List Nat} {X : va_W} {sz : Nat} {as : List Value} : FrameBlind (va_Pc as (prT D cs kf T O X sz)) := fun a U g mk q => by
  obtain ⟨q0, q1, qP, qK, qO, qS, qE⟩ := q
  exact ⟨q0, q1, qP, kb.same rfl qK, qO, kS.same rfl qS, kE.moved (u := U) (U := U.calling g mk a) (Vm.Alike.refl U.vm) qE⟩
abbrev TX : Type := TF × List Nat × va_W
def bT (D : va_G) (cs : CS) (A : Nat → Prop) (u : TX) (t : State) : Prop := HT D cs A u.1 u.2.1 u.2.2 t.heap
def bTr (D : va_G) (cs : CS) (A : Nat → Prop) (u : TX × Nat) (a : Nat) (t : State) : Prop := a = u.2 ∧ HT D cs A u.1.1 u.1.2.1 u.1.2.2 t.heap
abbrev Ti (D : va_G) (cs : CS) (post : Int32 → TX → Prop) (A : Nat → Prop) : Array Value → State → Outcome → State → Prop := va_Qi post (bT D cs A) A
abbrev Tl (D : va_G) (cs : CS) (post : Int64 → TX → Prop) (A : Nat → Prop) : Array Value → State → Outcome → State → Prop := va_Ql post (bT D cs A) A
abbrev Tv (D : va_G) (cs : CS) (post : TX → Prop) (A : Nat → Prop) : Array Value → State → Outcome → State → Prop := va_Qv post (bT D cs A) A
abbrev Tr (D : va_G) (cs : CS) (post : TX × Nat → Prop) (A : Nat → Prop) : Array Value → State → Outcome → State → Prop := va_Qr post (bTr D cs A) A
def TK (l : Launch) (D : va_G) (cs : CS) (kf : KF) (y : MethodName) (b : ByteArray) (n : Nat) (r : Option FieldType) (rm : Room) (as : List Value) (T : TF) (O : List Nat) (X : va_W) (Q : (Nat → Prop) → Array Value → State → Outcome → State → Prop) : Prop :=
  ∀ sz : Nat, Met l y (wl y b n r) rm (va_Pc as (prT D cs kf T O X sz)) (Q (AT T O X sz)) rm.cells rm.slots (AT T O X sz)
theorem tk_of {l : Launch} {D : va_G} {cs : CS} {kf : KF} {y : MethodName} {b : ByteArray} {n : Nat} {r : Option FieldType} {rm : Room} {as : List Value} {T : TF} {O : List Nat} {X : va_W} {Q : (Nat → Prop) → Array Value → State → Outcome → State → Prop} (hy : plainName y.cls = true) (hlen : (lg_sl as).length ≤ n)
    (body : ∀ (p : Program) (e : Env) (s : State) (m : MethodId) (below : List Frame) (meth : Method) (c : Code) (ls : Array Slot) (A : Nat → Prop) (H : Heap) (locs : List Loc), p.tables.exec = Jvm.exec → c.code = b → meth.sig.returnType = r → c.maxLocals = n → s.vm.findClass y.cls = some m.cls → (∀ w ∈ gw, w.before as.toArray s = true) → meth.locks = false → meth.name = y.name → kb D (tyc cs) s → HT D cs A T O X H → va_S A s.heap H locs → (∀ q : Nat, s.heap.size ≤ q → A q) → (∀ o ∈ O, ∃ (k : Nat) (e : va_E), X[k]? = some (o, e)) → kS kf s → kE kf A s s.heap → lv_has ls n (lv_args 0 as) →
      W p l e rm s m as.toArray below meth c H locs 0 0 (MQ below (Q A) as.toArray s rm.cells rm.slots A) (F0 m 0 ls [])) : TK l D cs kf y b n r rm as T O X Q := by
  intro sz
  refine Met.ofW (cc := b) (maxL := n) (ret := r) hy rfl ?_
  intro p e s m args below meth c s₁ B hml hv
  obtain ⟨rfl, hsz, hH, hK, hOX, hks, hE⟩ := hv
  have hts := atoms_spec (ws := wl y b n r) B.pre
  subst hsz
  rw [lg_entry_eq]
  exact body p e s m below meth c _ _ _ [] B.exec B.bytes B.returns hml (findClass_of_methodNamed B.named) (fun w hw => hts w (List.mem_cons_of_mem _ hw)) B.notSynchronized (name_of_methodNamed B.named B.method).1 hK (hH.self hOX) va_S.rf (fun q h => Or.inr (Or.inr h)) hOX hks hE (lv_entry as hlen)
section ThRows3
variable {p : Program} {l : Launch} {e : Env} {R : Room} {s : State} {m : MethodId} {args : Array Value} {below : List Frame} {meth : Method} {c : Code} {H : Heap} {locs : List Loc} {cells slots : Nat} {Q : State → Prop}
variable {cc : ByteArray} {pc : Nat} {ls : Array Slot} {rest : List Value} {D : va_G} {A : Nat → Prop} {a : Nat} {cs : CS} {T : TF} {O : List Nat} {X : va_W} {H0 : Heap}
theorem HT.recv {ci p0 q0 : Nat} {b : Nat} {C : String} {F : u_T} {N : Nat} (hkb : kb D (tyc cs) s) (hH : HT D cs A T O X H) (hb : T b = some (ci + 10, p0, q0)) (hno : b ∉ O) (hc : cls[ci]? = some (C, F, N)) : ∃ cell : Cell, H[b]? = some cell ∧ cell.vm.isStatics = false ∧ s.vm.findClass C = some cell.cls := by
  obtain ⟨ws, hP, hD, h3, h4⟩ := hH
  obtain ⟨j, e0, hj, hs⟩ := h3 b _ hb hno
  obtain ⟨fs, rfl, ho⟩ : ∃ fs : List Value, e0 = .inr (ci, fs) ∧ ob T ci p0 q0 fs := hs
  exact va_recv hkb.1 hP hc (ap_r hj)
theorem tr_V {kf : KF} {own C : String} {idx n n' nL : Nat} {y : MethodName} {yb : ByteArray} {r : Option FieldType} {rm : Room} {b : Addr} {As st : List Value} {Qm : (Nat → Prop) → Array Value → State → Outcome → State → Prop}
    (hx : p.tables.exec = Jvm.exec) (hb : c.code = cc) (hml : c.maxLocals = nL) (hown : s.vm.findClass own = some m.cls) (hts : ∀ w ∈ gw, w.before args s = true) (hkb : kb D (tyc cs) s) (hH : HT D cs A T O X H) (hOX : ∀ o ∈ O, ∃ (k : Nat) (e : va_E), X[k]? = some (o, e)) (hks : kS kf s) (hE : kE kf A s s.heap) (hS : va_S A s.heap H locs) (hA : ∀ q, s.heap.size ≤ q → A q)
    (hM : TK l D cs kf y yb n' r rm (.ref b :: As) T O X Qm) (h1 : Cond.methodLink own idx y ∈ gw) (h2 : Cond.instanceMethod y ∈ gw) (h3 : Cond.selects C y y ∈ gw) (h4 : Cond.initialized C ∈ gw) (h5 : Cond.code y yb n' r ∈ gw)
    (hd : y.cls = C ∧ y.cls ≠ "java/lang/invoke/MethodHandle" ∧ y.cls ≠ "java/lang/invoke/VarHandle" ∧ (parseMethodDescriptor y.desc).map (fun d => d.parameters.length) = some n) (hR : rm.frames + 1 ≤ R.frames ∧ 8 + (n' + 11) + rm.locals ≤ R.locals)
    (he : ∃ cell : Cell, H[b]? = some cell ∧ cell.vm.isStatics = false ∧ s.vm.findClass C = some cell.cls) (hn : As.length = n) (hst : st = As.reverse ++ .ref b :: rest) (hsz : ls.size = nL) (hW : (rest.map fun v => v.category).sum ≤ 8) (hdg : decode cc pc = .ok (.invokevirtual idx, 3)) (hf : cells + rm.cells ≤ R.cells ∧ slots + rm.slots ≤ R.slots) :
    va_Run p l e R s m args below meth c H locs cells slots rm.cells rm.slots (F0 m pc ls st) rest (Qm (AT T O X H.size) (Value.ref b :: As).toArray) (AT T O X H.size) := by
  subst hst
  have hG : GoodIn gw (wsV own idx C y (wl y yb n' r)) := gi_app (fun w hw => by
    simp only [List.mem_cons, List.not_mem_nil, or_false] at hw
    rcases hw with rfl | rfl | rfl | rfl
    · exact h1
    · exact h2
    · exact h3
    · exact h4) (gi_M h5)
  exact va_runV (As := As) (rest := rest) ⟨hx, hb, hml, hown, hts⟩ (hM H.size) (cwV n hts hG rfl rfl rfl hd hR) ⟨prT.blind, he, fun U hU hW => ⟨rfl, by rw [hU], by rw [hU]; exact hH.weaken (fun _ _ => trivial), kb.warm hW hkb, hOX, kS.warm hW hks, by rw [hU]; exact (kE.moved hW.alike (hE.kept hS.2.1)).narrow (hH.in hS hA)⟩⟩ rfl hn hsz rfl (lv_room hW) hdg hf
theorem tr_S {kf : KF} {own : String} {idx n n' nL : Nat} {y : MethodName} {yb : ByteArray} {r : Option FieldType} {rm : Room} {As st : List Value} {Qm : (Nat → Prop) → Array Value → State → Outcome → State → Prop}
    (hx : p.tables.exec = Jvm.exec) (hb : c.code = cc) (hml : c.maxLocals = nL) (hown : s.vm.findClass own = some m.cls) (hts : ∀ w ∈ gw, w.before args s = true) (hkb : kb D (tyc cs) s) (hH : HT D cs A T O X H) (hOX : ∀ o ∈ O, ∃ (k : Nat) (e : va_E), X[k]? = some (o, e)) (hks : kS kf s) (hE : kE kf A s s.heap) (hS : va_S A s.heap H locs) (hA : ∀ q, s.heap.size ≤ q → A q)
    (hM : TK l D cs kf y yb n' r rm As T O X Qm) (h1 : Cond.methodLink own idx y ∈ gw) (h2 : Cond.static y ∈ gw) (h4 : Cond.initialized y.cls ∈ gw) (h5 : Cond.code y yb n' r ∈ gw)
    (hd : y.cls ≠ "java/lang/invoke/MethodHandle" ∧ y.cls ≠ "java/lang/invoke/VarHandle" ∧ (parseMethodDescriptor y.desc).map (fun d => d.parameters.length) = some n) (hR : rm.frames + 1 ≤ R.frames ∧ 8 + (n' + 11) + rm.locals ≤ R.locals)
    (hn : As.length = n) (hst : st = As.reverse ++ rest) (hsz : ls.size = nL) (hW : (rest.map fun v => v.category).sum ≤ 8) (hdg : decode cc pc = .ok (.invokestatic idx, 3)) (hf : cells + rm.cells ≤ R.cells ∧ slots + rm.slots ≤ R.slots) :
    va_Run p l e R s m args below meth c H locs cells slots rm.cells rm.slots (F0 m pc ls st) rest (Qm (AT T O X H.size) As.toArray) (AT T O X H.size) := by
  subst hst
  exact va_runS (As := As) (rest := rest) ⟨hx, hb, hml, hown, hts⟩ (hM H.size) ⟨callB_of n hts (gi_M h5) rfl rfl rfl (hts _ h4) (hts _ h1) hd hR, hts _ h2⟩ ⟨prT.blind, fun U hU hW => ⟨rfl, by rw [hU], by rw [hU]; exact hH.weaken (fun _ _ => trivial), kb.warm hW hkb, hOX, kS.warm hW hks, by rw [hU]; exact (kE.moved hW.alike (hE.kept hS.2.1)).narrow (hH.in hS hA)⟩⟩ rfl hn hsz rfl (lv_room hW) hdg hf
/-- behind a call -/
theorem tk_i {post : Int32 → TX → Prop} {mc ms : Nat} {st : List Value} {av : Array Value} (hH : HT D cs A T O X H) (hS : va_S A H0 H locs) (hA : ∀ q, H0.size ≤ q → A q)
    (hr : va_Run p l e R s m args below meth c H locs cells slots mc ms (F0 m pc ls st) rest (Ti D cs post (AT T O X H.size) av) (AT T O X H.size))
    (kk : ∀ (r : Int32) (u : TX) (H1 : Heap) (locs1 : List Loc), post r u → HT D cs A u.1 u.2.1 u.2.2 H1 → va_S A H0 H1 locs1 → W p l e R s m args below meth c H1 locs1 (cells + mc) (slots + ms) Q (F0 m (pc + 3) ls (.int r :: rest))) : W p l e R s m args below meth c H locs cells slots Q (F0 m pc ls st) := by
  have hFc := hH.in hS hA
  refine va_calli hr hS (fun q _ h => hFc q h) hFc (fun r u t H1 locs1 ht hvm hw hB hz1 hk1 hS => ?_)
  have hB : HT D cs (AT T O X H.size) u.1 u.2.1 u.2.2 t.heap := hB
  rw [ht] at hB
  exact kk r u H1 locs1 hw (hB.weaken hFc) hS
theorem tk_l {post : Int64 → TX → Prop} {mc ms : Nat} {st : List Value} {av : Array Value} (hH : HT D cs A T O X H) (hS : va_S A H0 H locs) (hA : ∀ q, H0.size ≤ q → A q)
    (hr : va_Run p l e R s m args below meth c H locs cells slots mc ms (F0 m pc ls st) rest (Tl D cs post (AT T O X H.size) av) (AT T O X H.size))
    (kk : ∀ (r : Int64) (u : TX) (H1 : Heap) (locs1 : List Loc), post r u → HT D cs A u.1 u.2.1 u.2.2 H1 → va_S A H0 H1 locs1 → W p l e R s m args below meth c H1 locs1 (cells + mc) (slots + ms) Q (F0 m (pc + 3) ls (.long r :: rest))) : W p l e R s m args below meth c H locs cells slots Q (F0 m pc ls st) := by
  have hFc := hH.in hS hA
  refine va_calll hr hS (fun q _ h => hFc q h) hFc (fun r u t H1 locs1 ht hvm hw hB hz1 hk1 hS => ?_)
  have hB : HT D cs (AT T O X H.size) u.1 u.2.1 u.2.2 t.heap := hB
  rw [ht] at hB
  exact kk r u H1 locs1 hw (hB.weaken hFc) hS
theorem tk_v {post : TX → Prop} {mc ms : Nat} {st : List Value} {av : Array Value} (hH : HT D cs A T O X H) (hS : va_S A H0 H locs) (hA : ∀ q, H0.size ≤ q → A q)
    (hr : va_Run p l e R s m args below meth c H locs cells slots mc ms (F0 m pc ls st) rest (Tv D cs post (AT T O X H.size) av) (AT T O X H.size))
    (kk : ∀ (u : TX) (H1 : Heap) (locs1 : List Loc), post u → HT D cs A u.1 u.2.1 u.2.2 H1 → va_S A H0 H1 locs1 → W p l e R s m args below meth c H1 locs1 (cells + mc) (slots + ms) Q (F0 m (pc + 3) ls rest)) : W p l e R s m args below meth c H locs cells slots Q (F0 m pc ls st) := by
  have hFc := hH.in hS hA
  refine va_callv hr hS (fun q _ h => hFc q h) hFc (fun u t H1 locs1 ht hvm hw hB hz1 hk1 hS => ?_)
  have hB : HT D cs (AT T O X H.size) u.1 u.2.1 u.2.2 t.heap := hB
  rw [ht] at hB
  exact kk u H1 locs1 hw (hB.weaken hFc) hS
theorem tk_r {post : TX × Nat → Prop} {mc ms : Nat} {st : List Value} {av : Array Value} (hH : HT D cs A T O X H) (hS : va_S A H0 H locs) (hA : ∀ q, H0.size ≤ q → A q)
    (hr : va_Run p l e R s m args below meth c H locs cells slots mc ms (F0 m pc ls st) rest (Tr D cs post (AT T O X H.size) av) (AT T O X H.size))
    (kk : ∀ (ra : Nat) (u : TX) (H1 : Heap) (locs1 : List Loc), post (u, ra) → HT D cs A u.1 u.2.1 u.2.2 H1 → va_S A H0 H1 locs1 → W p l e R s m args below meth c H1 locs1 (cells + mc) (slots + ms) Q (F0 m (pc + 3) ls (.ref ra :: rest))) : W p l e R s m args below meth c H locs cells slots Q (F0 m pc ls st) := by
  have hFc := hH.in hS hA
  refine va_callr hr hS (fun q _ h => hFc q h) hFc (fun u ra t H1 locs1 ht hvm hw hB hz1 hk1 hS => ?_)
  obtain ⟨u, ra'⟩ := u
  obtain ⟨rfl, hB⟩ := hB
  have hB : HT D cs (AT T O X H.size) u.1 u.2.1 u.2.2 t.heap := hB
  rw [ht] at hB
  exact kk _ u H1 locs1 hw (hB.weaken hFc) hS
/-- the ends -/
theorem te_i {post : Int32 → TX → Prop} {v : Int32} (hx : p.tables.exec = Jvm.exec) (hb : c.code = cc) (hr : meth.sig.returnType = some .int) (hlocks : meth.locks = false) (hH : HT D cs A T O X H) (hS : va_S A s.heap H locs) (hp : post v (T, O, X)) (hdg : decode cc pc = .ok (.ireturn, 1)) : W p l e R s m args below meth c H locs cells slots (MQ below (Ti D cs post A) args s cells slots A) (F0 m pc ls [.int v]) :=
  W.iret hx hb hr (fun t ht _ => ⟨⟨v, (T, O, X), rfl, hp, by show HT D cs A T O X t.heap; rw [ht]; exact hH⟩, hS.F ht⟩) hS.2.2 hdg hlocks
theorem te_z {post : Int32 → TX → Prop} {v : Int32} (hx : p.tables.exec = Jvm.exec) (hb : c.code = cc) (hr : meth.sig.returnType = some .boolean) (hlocks : meth.locks = false) (hn : narrow .boolean (.int v) = .int v) (hH : HT D cs A T O X H) (hS : va_S A s.heap H locs) (hp : post v (T, O, X)) (hdg : decode cc pc = .ok (.ireturn, 1)) : W p l e R s m args below meth c H locs cells slots (MQ below (Ti D cs post A) args s cells slots A) (F0 m pc ls [.int v]) :=
  W.zret hx hb hr hn (fun t ht _ => ⟨⟨v, (T, O, X), rfl, hp, by show HT D cs A T O X t.heap; rw [ht]; exact hH⟩, hS.F ht⟩) hS.2.2 hdg hlocks
theorem te_l {post : Int64 → TX → Prop} {v : Int64} (hx : p.tables.exec = Jvm.exec) (hb : c.code = cc) (hr : meth.sig.returnType = some .long) (hlocks : meth.locks = false) (hH : HT D cs A T O X H) (hS : va_S A s.heap H locs) (hp : post v (T, O, X)) (hdg : decode cc pc = .ok (.lreturn, 1)) : W p l e R s m args below meth c H locs cells slots (MQ below (Tl D cs post A) args s cells slots A) (F0 m pc ls [.long v]) :=
  W.lret hx hb hr (fun t ht _ => ⟨⟨v, (T, O, X), rfl, hp, by show HT D cs A T O X t.heap; rw [ht]; exact hH⟩, hS.F ht⟩) hS.2.2 hdg hlocks
theorem te_v {post : TX → Prop} (hx : p.tables.exec = Jvm.exec) (hb : c.code = cc) (hr : meth.sig.returnType = none) (hlocks : meth.locks = false) (hH : HT D cs A T O X H) (hS : va_S A s.heap H locs) (hp : post (T, O, X)) (hdg : decode cc pc = .ok (.return_, 1)) : W p l e R s m args below meth c H locs cells slots (MQ below (Tv D cs post A) args s cells slots A) (F0 m pc ls []) :=
  W.vret hx hb hr (fun t ht _ => ⟨⟨(T, O, X), rfl, hp, by show HT D cs A T O X t.heap; rw [ht]; exact hH⟩, hS.F ht⟩) hS.2.2 hdg hlocks
theorem te_r {post : TX × Nat → Prop} {v : Nat} {C : String} (hx : p.tables.exec = Jvm.exec) (hb : c.code = cc) (hr : meth.sig.returnType = some (.object C)) (hlocks : meth.locks = false) (hH : HT D cs A T O X H) (hS : va_S A s.heap H locs) (hp : post ((T, O, X), v)) (hdg : decode cc pc = .ok (.areturn, 1)) : W p l e R s m args below meth c H locs cells slots (MQ below (Tr D cs post A) args s cells slots A) (F0 m pc ls [.ref v]) :=
  W.aret hx hb hr (Or.inl ⟨C, rfl⟩) (Or.inr ⟨v, rfl⟩) (fun t ht _ => ⟨⟨((T, O, X), v), v, rfl, hp, rfl, by show HT D cs A T O X t.heap; rw [ht]; exact hH⟩, hS.F ht⟩) hS.2.2 hdg hlocks
end ThRows3
/-! rows over a cell that is taken out (the first of the exact ones) -/
section ThRows4
variable {p : Program} {l : Launch} {e : Env} {R : Room} {s : State} {m : MethodId} {args : Array Value} {below : List Frame} {meth : Method} {c : Code} {H : Heap} {locs : List Loc} {cells slots : Nat} {Q : State → Prop}
variable {cc : ByteArray} {pc : Nat} {ls : Array Slot} {rest : List Value} {D : va_G} {A : Nat → Prop} {a : Nat} {cs : CS} {T : TF} {O : List Nat} {X : va_W} {H0 : Heap}
theorem ox_c {O : List Nat} {X : va_W} {a : Nat} {e0 : va_E} (h : ∀ o ∈ O, ∃ (k : Nat) (e : va_E), X[k]? = some (o, e)) : ∀ o ∈ a :: O, ∃ (k : Nat) (e : va_E), ((a, e0) :: X)[k]? = some (o, e) := fun o ho => by
  rcases List.mem_cons.mp ho with rfl | ho
  · exact ⟨0, e0, rfl⟩
  · obtain ⟨k, e1, h1⟩ := h o ho
    exact ⟨k + 1, e1, h1⟩
theorem x_get {own ref C : String} {F : u_T} {N ci index : Nat} {fs : List Value} {v : Value} (hx : p.tables.exec = Jvm.exec) (hb : c.code = cc) (hts : ∀ w ∈ gw, w.before args s = true) (hin : ∀ w ∈ u_ws C F N, w ∈ gw) (hown : s.vm.findClass own = some m.cls) (hkb : kb D (tyc cs) s) (hH : HT D cs A T O ((a, .inr (ci, fs)) :: X) H) (hc : cls[ci]? = some (C, F, N)) (k : Nat) (hk : k < N) (hv : fs[k]? = some v) (hlink : Cond.fieldLink own index ref (F k).2.1 (F k).2.2.1 ∈ gw) (hsame : ∀ x, s.fieldFound? (F k).1 (F k).2.1 (F k).2.2.1 = some x → s.fieldFound? ref (F k).2.1 (F k).2.2.1 = some x) (hdg : decode cc pc = .ok (.getfield index, 3))
    (kk : W p l e R s m args below meth c H locs cells slots Q (F0 m (pc + 3) ls (v :: rest))) : W p l e R s m args below meth c H locs cells slots Q (F0 m pc ls (.ref a :: rest)) := by
  obtain ⟨ws, hP, hD, h3, h4⟩ := hH
  exact va_get (D := D) hx hb hts hin hown hkb.1 hP 0 rfl hc k hk (hts _ hlink) hsame hv hdg kk
theorem x_put {own ref C : String} {F : u_T} {N ci index : Nat} {fs : List Value} {v : Value} {ty : FieldType} (hx : p.tables.exec = Jvm.exec) (hb : c.code = cc) (hts : ∀ w ∈ gw, w.before args s = true) (hin : ∀ w ∈ u_ws C F N, w ∈ gw) (ty0 : Nat → FieldType) (hty : ∀ k, k < N → parseFieldDescriptor (F k).2.2.1 = some (ty0 k)) (hnm : ∀ a, a < N → ∀ b, b < N → a ≠ b → (F a).2.1 ≠ (F b).2.1) (hown : s.vm.findClass own = some m.cls) (hkb : kb D (tyc cs) s) (hH : HT D cs A T O ((a, .inr (ci, fs)) :: X) H) (hS : va_S A H0 H locs) (hc : cls[ci]? = some (C, F, N)) (k : Nat) (hk : k < N) (hlink : Cond.fieldLink own index ref (F k).2.1 (F k).2.2.1 ∈ gw) (hsame : ∀ x, s.fieldFound? (F k).1 (F k).2.1 (F k).2.2.1 = some x → s.fieldFound? ref (F k).2.1 (F k).2.2.1 = some x) (hfin : (F k).2.2.2 = false) (hd : parseFieldDescriptor (F k).2.2.1 = some ty) (hn : narrow ty v = v) (hfit : fits ty v = true) (hl : k < fs.length) (hdg : decode cc pc = .ok (.putfield index, 3))
    (kk : ∀ (H1 : Heap) (locs1 : List Loc), HT D cs A T O ((a, .inr (ci, fs.set k v)) :: X) H1 → va_S A H0 H1 locs1 → W p l e R s m args below meth c H1 locs1 cells slots Q (F0 m (pc + 3) ls rest)) : W p l e R s m args below meth c H locs cells slots Q (F0 m pc ls (v :: .ref a :: rest)) := by
  obtain ⟨ws, hP, hD, h3, h4⟩ := hH
  exact va_put (D := D) hx hb hts hin ty0 hty hnm hown hkb.1 hP hD hS 0 rfl hc k hk (hts _ hlink) hsame hfin hd hn hfit hl hdg (fun H1 locs1 hP hD hS => kk H1 locs1 ⟨ws, hP, hD, h3, h4⟩ hS)
theorem max_i {x y : Int32} {a b : Int} (hx : x.toInt = a) (hy : y.toInt = b) : (if x < y then y else x).toInt = max a b := by
  split
  · rename_i h
    have := Int32.lt_iff_toInt_lt.mp h
    omega
  · rename_i h
    have := Int.not_lt.mp (fun q => h (Int32.lt_iff_toInt_lt.mpr q))
    omega
theorem min_i {x y : Int32} {a b : Int} (hx : x.toInt = a) (hy : y.toInt = b) : (if y < x then y else x).toInt = min a b := by
  split
  · rename_i h
    have := Int32.lt_iff_toInt_lt.mp h
    omega
  · rename_i h
    have := Int.not_lt.mp (fun q => h (Int32.lt_iff_toInt_lt.mpr q))
    omega
end ThRows4
/-! bounds of numbers -/
theorem add_i {x y : Int32} {a b : Int} (hx : x.toInt = a) (hy : y.toInt = b) (h1 : -2147483648 ≤ a + b) (h2 : a + b ≤ 2147483647) : (x + y).toInt = a + b := by
  rw [Int32.toInt_add, hx, hy, Int.bmod_def]
  split <;> omega
theorem sub_i {x y : Int32} {a b : Int} (hx : x.toInt = a) (hy : y.toInt = b) (h1 : -2147483648 ≤ a - b) (h2 : a - b ≤ 2147483647) : (x - y).toInt = a - b := by
  rw [Int32.toInt_sub, hx, hy, Int.bmod_def]
  split <;> omega
theorem mul_i {x y : Int32} {a b : Int} (hx : x.toInt = a) (hy : y.toInt = b) (h1 : -2147483648 ≤ a * b) (h2 : a * b ≤ 2147483647) : (x * y).toInt = a * b := by
  rw [Int32.toInt_mul, hx, hy, Int.bmod_def]
  generalize a * b = z at h1 h2
  split <;> omega
theorem nn_i {x : Int32} (h : 0 ≤ x.toInt) : x.toInt = (x.toBitVec.toNat : Int) ∧ x.toBitVec.toNat < 2147483648 := by
  have e : x.toInt = x.toBitVec.toInt := rfl
  rw [e, BitVec.toInt_eq_toNat_cond] at h
  rw [e, BitVec.toInt_eq_toNat_cond]
  have hl := x.toBitVec.isLt
  split at h
  · rw [if_pos (by assumption)]
    omega
  · omega
theorem nn_of {x : Int32} (h : x.toBitVec.toNat < 2147483648) : x.toInt = (x.toBitVec.toNat : Int) := by
  have e : x.toInt = x.toBitVec.toInt := rfl
  rw [e, BitVec.toInt_eq_toNat_cond, if_pos (by omega)]
theorem and_l {x y : Int32} (h : 0 ≤ x.toInt) : 0 ≤ (x &&& y).toInt ∧ (x &&& y).toInt ≤ x.toInt := by
  obtain ⟨h1, h2⟩ := nn_i h
  have e : (x &&& y).toBitVec.toNat = x.toBitVec.toNat &&& y.toBitVec.toNat := by rw [Int32.toBitVec_and, BitVec.toNat_and]
  have hle : x.toBitVec.toNat &&& y.toBitVec.toNat ≤ x.toBitVec.toNat := Nat.and_le_left
  have := nn_of (x := x &&& y) (by omega)
  omega
theorem and_r {x y : Int32} (h : 0 ≤ y.toInt) : 0 ≤ (x &&& y).toInt ∧ (x &&& y).toInt ≤ y.toInt := by
  have := and_l (x := y) (y := x) h
  rw [Int32.and_comm] at this
  exact this
theorem or_b {x y : Int32} (k : Nat) (hk : k ≤ 31) (hx0 : 0 ≤ x.toInt) (hy0 : 0 ≤ y.toInt) (hx : x.toInt < 2 ^ k) (hy : y.toInt < 2 ^ k) : 0 ≤ (x ||| y).toInt ∧ (x ||| y).toInt < 2 ^ k := by
  obtain ⟨h1, h2⟩ := nn_i hx0
  obtain ⟨h3, h4⟩ := nn_i hy0
  have e : (x ||| y).toBitVec.toNat = x.toBitVec.toNat ||| y.toBitVec.toNat := by rw [Int32.toBitVec_or, BitVec.toNat_or]
  have g : x.toBitVec.toNat ||| y.toBitVec.toNat < 2 ^ k := Nat.or_lt_two_pow (by rw [h1] at hx; exact_mod_cast hx) (by rw [h3] at hy; exact_mod_cast hy)
  have hp : (2 : Nat) ^ k ≤ 2 ^ 31 := Nat.pow_le_pow_right (by decide) hk
  have := nn_of (x := x ||| y) (by omega)
  rw [this, e]
  exact ⟨by omega, by exact_mod_cast g⟩
theorem xor_b {x y : Int32} (k : Nat) (hk : k ≤ 31) (hx0 : 0 ≤ x.toInt) (hy0 : 0 ≤ y.toInt) (hx : x.toInt < 2 ^ k) (hy : y.toInt < 2 ^ k) : 0 ≤ (x ^^^ y).toInt ∧ (x ^^^ y).toInt < 2 ^ k := by
  obtain ⟨h1, h2⟩ := nn_i hx0
  obtain ⟨h3, h4⟩ := nn_i hy0
  have e : (x ^^^ y).toBitVec.toNat = x.toBitVec.toNat ^^^ y.toBitVec.toNat := by rw [Int32.toBitVec_xor, BitVec.toNat_xor]
  have g : x.toBitVec.toNat ^^^ y.toBitVec.toNat < 2 ^ k := Nat.xor_lt_two_pow (by rw [h1] at hx; exact_mod_cast hx) (by rw [h3] at hy; exact_mod_cast hy)
  have hp : (2 : Nat) ^ k ≤ 2 ^ 31 := Nat.pow_le_pow_right (by decide) hk
  have := nn_of (x := x ^^^ y) (by omega)
  rw [this, e]
  exact ⟨by omega, by exact_mod_cast g⟩
/-- an int by its number -/
theorem is_nI {x : Int32} (h0 : 0 ≤ x.toInt) : x = nI x.toInt.toNat := by
  apply Int32.toInt_inj.mp
  have h2 : x.toInt < 2 ^ 31 := Int32.toInt_lt x
  rw [nI_toInt (by omega)]
  omega
theorem sh_tab : ∀ k, k < 31 → ((1 : Int32) <<< (nI k &&& 31)).toInt = 2 ^ k := by decide +kernel
theorem shl_b {h : Int32} (k : Nat) (hk : k < 31) (h0 : 0 ≤ h.toInt) (h1 : h.toInt ≤ k) : 1 ≤ ((1 : Int32) <<< (h &&& 31)).toInt ∧ ((1 : Int32) <<< (h &&& 31)).toInt ≤ 2 ^ k := by
  have e := is_nI h0
  rw [e, sh_tab _ (by omega)]
  have hp : (2 : Nat) ^ h.toInt.toNat ≤ 2 ^ k := Nat.pow_le_pow_right (by decide) (by omega)
  have hq : 0 < (2 : Nat) ^ h.toInt.toNat := Nat.pow_pos (by decide)
  constructor
  · exact_mod_cast hq
  · exact_mod_cast hp
theorem shr_b {x y : Int32} (h : 0 ≤ x.toInt) : 0 ≤ (x >>> (y &&& 31)).toInt ∧ (x >>> (y &&& 31)).toInt ≤ x.toInt := by
  have e : (x >>> (y &&& 31)).toInt = x.toInt >>> ((y &&& 31).toBitVec.smod 32).toNat := by
    show (x >>> (y &&& 31)).toBitVec.toInt = _
    rw [Int32.toBitVec_shiftRight, BitVec.toInt_sshiftRight']
    rfl
  rw [e]
  constructor
  · rw [Int.shiftRight_eq_div_pow]
    exact Int.ediv_nonneg h (by exact_mod_cast Nat.zero_le _)
  · exact Int.shiftRight_le_of_nonneg h
theorem nar01 {v : Int32} (h0 : 0 ≤ v.toInt) (h1 : v.toInt ≤ 1) : narrow .boolean (.int v) = .int v := by
  have e := is_nI h0
  rcases (show v.toInt.toNat = 0 ∨ v.toInt.toNat = 1 by omega) with q | q <;> rw [e, q] <;> rfl
theorem g_lt {x y : Int32} (h : x < y) : x.toInt < y.toInt := Int32.lt_iff_toInt_lt.mp h
theorem g_nlt {x y : Int32} (h : ¬ x < y) : y.toInt ≤ x.toInt := Int.not_lt.mp (fun q => h (Int32.lt_iff_toInt_lt.mpr q))
theorem g_le {x y : Int32} (h : x ≤ y) : x.toInt ≤ y.toInt := Int32.le_iff_toInt_le.mp h
theorem g_nle {x y : Int32} (h : ¬ x ≤ y) : y.toInt < x.toInt := Int.not_le.mp (fun q => h (Int32.le_iff_toInt_le.mpr q))
theorem g_eq {x y : Int32} (h : x = y) : x.toInt = y.toInt := by rw [h]
theorem g_ne {x y : Int32} (h : ¬ x = y) : ¬ x.toInt = y.toInt := fun q => h (Int32.toInt_inj.mp q)
theorem full_i (x : Int32) : -2147483648 ≤ x.toInt ∧ x.toInt ≤ 2147483647 := by
  have h1 : -2 ^ 31 ≤ x.toInt := Int32.le_toInt x
  have h2 : x.toInt < 2 ^ 31 := Int32.toInt_lt x
  omega
theorem cp_0 (x : Int32) : cp 0 x := full_i x
theorem cp_9 (x : Int32) : cp 9 x := full_i x
theorem lt_l {x y : Int64} (h : lg_cmp x y < 0) : x.toInt < y.toInt := Int64.lt_iff_toInt_lt.mp ((lg_cmp_lt x y).mp h)
theorem nlt_l {x y : Int64} (h : ¬ lg_cmp x y < 0) : y.toInt ≤ x.toInt := Int.not_lt.mp (fun q => h ((lg_cmp_lt x y).mpr (Int64.lt_iff_toInt_lt.mpr q)))
theorem gt_l {x y : Int64} (h : 0 < lg_cmp x y) : y.toInt < x.toInt := Int64.lt_iff_toInt_lt.mp ((lg_cmp_gt x y).mp h)
theorem ngt_l {x y : Int64} (h : ¬ 0 < lg_cmp x y) : x.toInt ≤ y.toInt := Int.not_lt.mp (fun q => h ((lg_cmp_gt x y).mpr (Int64.lt_iff_toInt_lt.mpr q)))
theorem ge_l {x y : Int64} (h : 0 ≤ lg_cmp x y) : y.toInt ≤ x.toInt := Int64.le_iff_toInt_le.mp ((lg_cmp_ge x y).mp h)
theorem nge_l {x y : Int64} (h : ¬ 0 ≤ lg_cmp x y) : x.toInt < y.toInt := Int.not_le.mp (fun q => h ((lg_cmp_ge x y).mpr (Int64.le_iff_toInt_le.mpr q)))
theorem le_l {x y : Int64} (h : lg_cmp x y ≤ 0) : x.toInt ≤ y.toInt := Int64.le_iff_toInt_le.mp ((lg_cmp_le x y).mp h)
theorem nle_l {x y : Int64} (h : ¬ lg_cmp x y ≤ 0) : y.toInt < x.toInt := Int.not_le.mp (fun q => h ((lg_cmp_le x y).mpr (Int64.le_iff_toInt_le.mpr q)))
theorem eq_l {x y : Int64} (h : lg_cmp x y = 0) : x.toInt = y.toInt := by rw [(lg_cmp_eq x y).mp h]
theorem ne_l {x y : Int64} (h : ¬ lg_cmp x y = 0) : ¬ x.toInt = y.toInt := fun q => h ((lg_cmp_eq x y).mpr (Int64.toInt_inj.mp q))
theorem l2i_b {x : Int64} (h0 : -2147483648 ≤ x.toInt) (h1 : x.toInt ≤ 2147483647) : x.toInt32.toInt = x.toInt := by
  rw [Int64.toInt_toInt32, Int.bmod_def]
  split <;> omega
theorem tm_le {a b : Int} (ha : 0 ≤ a) (hb : 0 < b) : 0 ≤ a.tmod b ∧ a.tmod b ≤ a := by
  refine ⟨Int.tmod_nonneg b ha, ?_⟩
  have h2 := Int.mul_tdiv_add_tmod a b
  have h3 : 0 ≤ b * a.tdiv b := Int.mul_nonneg (by omega) (Int.tdiv_nonneg ha (by omega))
  omega
theorem tm_bd (a : Int) {b : Int} (hb : 0 < b) : (0 ≤ a → 0 ≤ a.tmod b ∧ a.tmod b ≤ a) ∧ (a ≤ 0 → a.tmod b ≤ 0 ∧ a ≤ a.tmod b) := by
  refine ⟨fun h => tm_le h hb, fun h => ?_⟩
  have e := tm_le (a := -a) (by omega) hb
  rw [Int.neg_tmod] at e
  omega
theorem irem_e {x y : Int32} {b : Int} (hy : y.toInt = b) (hb : 0 < b) : (x - x / y * y).toInt = x.toInt.tmod b := by
  have hne : y ≠ -1 := fun h => by
    rw [h] at hy
    have : (-1 : Int32).toInt = -1 := by decide
    omega
  have hd : (x / y).toInt = x.toInt.tdiv b := by rw [Int32.toInt_div_of_ne_right _ _ hne, hy]
  have h1 := full_i x
  have h2 := Int.mul_tdiv_add_tmod x.toInt b
  have h3 : x.toInt.tdiv b * b = x.toInt - x.toInt.tmod b := by rw [Int.mul_comm]; omega
  obtain ⟨h6, h7⟩ := tm_bd x.toInt hb
  have h8 : -2147483648 ≤ x.toInt - x.toInt.tmod b ∧ x.toInt - x.toInt.tmod b ≤ 2147483647 := by
    rcases Int.le_total 0 x.toInt with q | q
    · have := h6 q
      omega
    · have := h7 q
      omega
  have hm : (x / y * y).toInt = x.toInt - x.toInt.tmod b := by
    rw [← h3]
    exact mul_i hd hy (by rw [h3]; exact h8.1) (by rw [h3]; exact h8.2)
  have h9 : -2147483648 ≤ x.toInt.tmod b ∧ x.toInt.tmod b ≤ 2147483647 := by
    rcases Int.le_total 0 x.toInt with q | q
    · have := h6 q
      omega
    · have := h7 q
      omega
  rw [sub_i rfl hm (by omega) (by omega)]
  omega
theorem irem_b {x y : Int32} {b : Int} (hy : y.toInt = b) (hb : 0 < b) : (0 ≤ x.toInt → 0 ≤ (x - x / y * y).toInt) ∧ (x - x / y * y).toInt < b ∧ -b < (x - x / y * y).toInt ∧ (x.toInt ≤ 0 → (x - x / y * y).toInt ≤ 0) := by
  rw [irem_e hy hb]
  exact ⟨fun h => Int.tmod_nonneg b h, Int.tmod_lt_of_pos _ hb, Int.lt_tmod_of_pos _ hb, fun h => ((tm_bd x.toInt hb).2 h).1⟩
theorem shr_c {x y : Int32} (k : Nat) (hk : y &&& 31 = nI k) (h31 : k < 32) : (x >>> (y &&& 31)).toInt = x.toInt / 2 ^ k := by
  have e : (x >>> (y &&& 31)).toInt = x.toInt >>> ((y &&& 31).toBitVec.smod 32).toNat := by
    show (x >>> (y &&& 31)).toBitVec.toInt = _
    rw [Int32.toBitVec_shiftRight, BitVec.toInt_sshiftRight']
    rfl
  have hs : ((y &&& 31).toBitVec.smod 32).toNat = k := by
    rw [hk]
    have ht : ∀ j, j < 32 → ((nI j).toBitVec.smod 32).toNat = j := by decide +kernel
    exact ht k h31
  rw [e, hs, Int.shiftRight_eq_div_pow]
  rfl
theorem neg_b {x : Int32} : x.toInt < 0 ↔ x.toBitVec.msb = true := by
  have e : x.toInt = x.toBitVec.toInt := rfl
  rw [e, BitVec.msb_eq_toInt]
  simp
theorem xor_s {x y : Int32} (hy : 0 ≤ y.toInt) : (x ^^^ y).toInt < 0 ↔ x.toInt < 0 := by
  have h2 : y.toBitVec.msb = false := by
    cases hm : y.toBitVec.msb with
    | false => rfl
    | true => exact absurd (neg_b.mpr hm) (by omega)
  rw [neg_b, neg_b, Int32.toBitVec_xor, BitVec.msb_xor, h2]
  simp
theorem ushr_c {x y : Int32} (k : Nat) (hk : y.toUInt32 &&& Int32.toUInt32 31 = UInt32.ofNat k) (h0 : 0 < k) (h31 : k < 32) : 0 ≤ (x.toUInt32 >>> (y.toUInt32 &&& Int32.toUInt32 31)).toInt32.toInt ∧ (x.toUInt32 >>> (y.toUInt32 &&& Int32.toUInt32 31)).toInt32.toInt < 2 ^ (32 - k) := by
  rw [hk]
  have e : (x.toUInt32 >>> UInt32.ofNat k).toNat = x.toUInt32.toNat >>> k := by
    rw [UInt32.toNat_shiftRight]
    have : (UInt32.ofNat k).toNat % 32 = k := by rw [UInt32.toNat_ofNat']; omega
    rw [this]
  have hx : x.toUInt32.toNat < 2 ^ 32 := UInt32.toNat_lt _
  have hlt : x.toUInt32.toNat >>> k < 2 ^ (32 - k) := by
    rw [Nat.shiftRight_eq_div_pow]
    apply Nat.div_lt_of_lt_mul
    rw [← Nat.pow_add, show k + (32 - k) = 32 by omega]
    exact hx
  have hp : (2 : Nat) ^ (32 - k) ≤ 2 ^ 31 := Nat.pow_le_pow_right (by decide) (by omega)
  have hb : ((x.toUInt32 >>> UInt32.ofNat k).toInt32).toBitVec.toNat = x.toUInt32.toNat >>> k := by
    show (x.toUInt32 >>> UInt32.ofNat k).toBitVec.toNat = _
    exact e
  have := nn_of (x := (x.toUInt32 >>> UInt32.ofNat k).toInt32) (by rw [hb]; omega)
  rw [this, hb]
  exact ⟨by omega, by exact_mod_cast hlt⟩
theorem uX0 : ∀ w ∈ u_ws RX0 TX0 4, w ∈ gw := u_gw (by decide +kernel)
theorem dfX0 : ∀ j, j < 4 → defaultValue (tyX0 j) = vp_V [.null, .int 0, .null, .null] j := by decide +kernel
theorem uX1 : ∀ w ∈ u_ws RX1 TX1 7, w ∈ gw := u_gw (by decide +kernel)
theorem dfX1 : ∀ j, j < 7 → defaultValue (tyX1 j) = vp_V [.null, .null, .int 0, .null, .int 0, .int 0, .null] j := by decide +kernel
theorem uX2 : ∀ w ∈ u_ws RX2 TX2 3, w ∈ gw := u_gw (by decide +kernel)
theorem dfX2 : ∀ j, j < 3 → defaultValue (tyX2 j) = vp_V [.null, .null, .null] j := by decide +kernel
theorem uX3 : ∀ w ∈ u_ws RX3 TX3 3, w ∈ gw := u_gw (by decide +kernel)
theorem dfX3 : ∀ j, j < 3 → defaultValue (tyX3 j) = vp_V [.null, .null, .int 0] j := by decide +kernel
theorem uX4 : ∀ w ∈ u_ws RX4 TX4 5, w ∈ gw := u_gw (by decide +kernel)
theorem dfX4 : ∀ j, j < 5 → defaultValue (tyX4 j) = vp_V [.null, .null, .null, .int 0, .null] j := by decide +kernel
theorem uX5 : ∀ w ∈ u_ws RX5 TX5 6, w ∈ gw := u_gw (by decide +kernel)
theorem dfX5 : ∀ j, j < 6 → defaultValue (tyX5 j) = vp_V [.null, .int 0, .int 0, .int 0, .null, .null] j := by decide +kernel
theorem uX6 : ∀ w ∈ u_ws RX6 TX6 6, w ∈ gw := u_gw (by decide +kernel)
theorem dfX6 : ∀ j, j < 6 → defaultValue (tyX6 j) = vp_V [.int 0, .int 0, .int 0, .int 0, .null, .null] j := by decide +kernel
theorem uX7 : ∀ w ∈ u_ws RX7 TX7 8, w ∈ gw := u_gw (by decide +kernel)
theorem dfX7 : ∀ j, j < 8 → defaultValue (tyX7 j) = vp_V [.null, .int 0, .int 0, .int 0, .int 0, .int 0, .int 0, .int 0] j := by decide +kernel
theorem uX8 : ∀ w ∈ u_ws RX8 TX8 3, w ∈ gw := u_gw (by decide +kernel)
theorem dfX8 : ∀ j, j < 3 → defaultValue (tyX8 j) = vp_V [.null, .int 0, .int 0] j := by decide +kernel
theorem uX9 : ∀ w ∈ u_ws RX9 TX9 14, w ∈ gw := u_gw (by decide +kernel)
theorem dfX9 : ∀ j, j < 14 → defaultValue (tyX9 j) = vp_V [.int 0, .int 0, .int 0, .int 0, .int 0, .int 0, .null, .null, .null, .null, .null, .null, .int 0, .int 0] j := by decide +kernel
theorem uX10 : ∀ w ∈ u_ws RX10 TX10 7, w ∈ gw := u_gw (by decide +kernel)
theorem dfX10 : ∀ j, j < 7 → defaultValue (tyX10 j) = vp_V [.null, .null, .int 0, .null, .null, .null, .int 0] j := by decide +kernel
theorem uX11 : ∀ w ∈ u_ws RX11 TX11 20, w ∈ gw := u_gw (by decide +kernel)
theorem dfX11 : ∀ j, j < 20 → defaultValue (tyX11 j) = vp_V [.null, .int 0, .null, .null, .null, .null, .null, .int 0, .int 0, .null, .null, .null, .null, .null, .null, .null, .null, .null, .null, .int 0] j := by decide +kernel
theorem uX12 : ∀ w ∈ u_ws RX12 TX12 36, w ∈ gw := u_gw (by decide +kernel)
theorem dfX12 : ∀ j, j < 36 → defaultValue (tyX12 j) = vp_V [.int 0, .null, .null, .null, .null, .int 0, .int 0, .int 0, .int 0, .int 0, .int 0, .int 0, .int 0, .int 0, .int 0, .null, .int 0, .null, .null, .null, .int 0, .null, .null, .int 0, .int 0, .int 0, .null, .null, .null, .null, .null, .null, .int 0, .null, .null, .null] j := by decide +kernel
theorem dJ6_bitCount_0f7a4_0 : decode cJ6_bitCount_0f7a4 0 = .ok (.iload_n 0, 1) := by decide +kernel
theorem dJ6_bitCount_0f7a4_1 : decode cJ6_bitCount_0f7a4 1 = .ok (.iload_n 0, 1) := by decide +kernel
theorem dJ6_bitCount_0f7a4_2 : decode cJ6_bitCount_0f7a4 2 = .ok (.iconst 1, 1) := by decide +kernel
theorem dJ6_bitCount_0f7a4_3 : decode cJ6_bitCount_0f7a4 3 = .ok (.iushr, 1) := by decide +kernel
theorem dJ6_bitCount_0f7a4_4 : decode cJ6_bitCount_0f7a4 4 = .ok (.ldc_w 265, 3) := by decide +kernel
theorem dJ6_bitCount_0f7a4_7 : decode cJ6_bitCount_0f7a4 7 = .ok (.iand, 1) := by decide +kernel
theorem dJ6_bitCount_0f7a4_8 : decode cJ6_bitCount_0f7a4 8 = .ok (.isub, 1) := by decide +kernel
theorem dJ6_bitCount_0f7a4_9 : decode cJ6_bitCount_0f7a4 9 = .ok (.istore_n 0, 1) := by decide +kernel
theorem dJ6_bitCount_0f7a4_10 : decode cJ6_bitCount_0f7a4 10 = .ok (.iload_n 0, 1) := by decide +kernel
theorem dJ6_bitCount_0f7a4_11 : decode cJ6_bitCount_0f7a4 11 = .ok (.ldc_w 266, 3) := by decide +kernel
theorem dJ6_bitCount_0f7a4_14 : decode cJ6_bitCount_0f7a4 14 = .ok (.iand, 1) := by decide +kernel
theorem dJ6_bitCount_0f7a4_15 : decode cJ6_bitCount_0f7a4 15 = .ok (.iload_n 0, 1) := by decide +kernel
theorem dJ6_bitCount_0f7a4_16 : decode cJ6_bitCount_0f7a4 16 = .ok (.iconst 2, 1) := by decide +kernel
theorem dJ6_bitCount_0f7a4_17 : decode cJ6_bitCount_0f7a4 17 = .ok (.iushr, 1) := by decide +kernel
theorem dJ6_bitCount_0f7a4_18 : decode cJ6_bitCount_0f7a4 18 = .ok (.ldc_w 266, 3) := by decide +kernel
theorem dJ6_bitCount_0f7a4_21 : decode cJ6_bitCount_0f7a4 21 = .ok (.iand, 1) := by decide +kernel
theorem dJ6_bitCount_0f7a4_22 : decode cJ6_bitCount_0f7a4 22 = .ok (.iadd, 1) := by decide +kernel
theorem dJ6_bitCount_0f7a4_23 : decode cJ6_bitCount_0f7a4 23 = .ok (.istore_n 0, 1) := by decide +kernel
theorem dJ6_bitCount_0f7a4_24 : decode cJ6_bitCount_0f7a4 24 = .ok (.iload_n 0, 1) := by decide +kernel
theorem dJ6_bitCount_0f7a4_25 : decode cJ6_bitCount_0f7a4 25 = .ok (.iload_n 0, 1) := by decide +kernel
theorem dJ6_bitCount_0f7a4_26 : decode cJ6_bitCount_0f7a4 26 = .ok (.iconst 4, 1) := by decide +kernel
theorem dJ6_bitCount_0f7a4_27 : decode cJ6_bitCount_0f7a4 27 = .ok (.iushr, 1) := by decide +kernel
theorem dJ6_bitCount_0f7a4_28 : decode cJ6_bitCount_0f7a4 28 = .ok (.iadd, 1) := by decide +kernel
theorem dJ6_bitCount_0f7a4_29 : decode cJ6_bitCount_0f7a4 29 = .ok (.ldc_w 267, 3) := by decide +kernel
theorem dJ6_bitCount_0f7a4_32 : decode cJ6_bitCount_0f7a4 32 = .ok (.iand, 1) := by decide +kernel
theorem dJ6_bitCount_0f7a4_33 : decode cJ6_bitCount_0f7a4 33 = .ok (.istore_n 0, 1) := by decide +kernel
theorem dJ6_bitCount_0f7a4_34 : decode cJ6_bitCount_0f7a4 34 = .ok (.iload_n 0, 1) := by decide +kernel
theorem dJ6_bitCount_0f7a4_35 : decode cJ6_bitCount_0f7a4 35 = .ok (.iload_n 0, 1) := by decide +kernel
theorem dJ6_bitCount_0f7a4_36 : decode cJ6_bitCount_0f7a4 36 = .ok (.bipush 8, 2) := by decide +kernel
theorem dJ6_bitCount_0f7a4_38 : decode cJ6_bitCount_0f7a4 38 = .ok (.iushr, 1) := by decide +kernel
theorem dJ6_bitCount_0f7a4_39 : decode cJ6_bitCount_0f7a4 39 = .ok (.iadd, 1) := by decide +kernel
theorem dJ6_bitCount_0f7a4_40 : decode cJ6_bitCount_0f7a4 40 = .ok (.istore_n 0, 1) := by decide +kernel
theorem dJ6_bitCount_0f7a4_41 : decode cJ6_bitCount_0f7a4 41 = .ok (.iload_n 0, 1) := by decide +kernel
theorem dJ6_bitCount_0f7a4_42 : decode cJ6_bitCount_0f7a4 42 = .ok (.iload_n 0, 1) := by decide +kernel
theorem dJ6_bitCount_0f7a4_43 : decode cJ6_bitCount_0f7a4 43 = .ok (.bipush 16, 2) := by decide +kernel
theorem dJ6_bitCount_0f7a4_45 : decode cJ6_bitCount_0f7a4 45 = .ok (.iushr, 1) := by decide +kernel
theorem dJ6_bitCount_0f7a4_46 : decode cJ6_bitCount_0f7a4 46 = .ok (.iadd, 1) := by decide +kernel
theorem dJ6_bitCount_0f7a4_47 : decode cJ6_bitCount_0f7a4 47 = .ok (.istore_n 0, 1) := by decide +kernel
theorem dJ6_bitCount_0f7a4_48 : decode cJ6_bitCount_0f7a4 48 = .ok (.iload_n 0, 1) := by decide +kernel
theorem dJ6_bitCount_0f7a4_49 : decode cJ6_bitCount_0f7a4 49 = .ok (.bipush 63, 2) := by decide +kernel
theorem dJ6_bitCount_0f7a4_51 : decode cJ6_bitCount_0f7a4 51 = .ok (.iand, 1) := by decide +kernel
theorem dJ6_bitCount_0f7a4_52 : decode cJ6_bitCount_0f7a4 52 = .ok (.ireturn, 1) := by decide +kernel
theorem dJ6_numberOfLeadingZeros_0f7a4_0 : decode cJ6_numberOfLeadingZeros_0f7a4 0 = .ok (.iload_n 0, 1) := by decide +kernel
theorem dJ6_numberOfLeadingZeros_0f7a4_1 : decode cJ6_numberOfLeadingZeros_0f7a4 1 = .ok (.ifCond .gt 14, 3) := by decide +kernel
theorem dJ6_numberOfLeadingZeros_0f7a4_4 : decode cJ6_numberOfLeadingZeros_0f7a4 4 = .ok (.iload_n 0, 1) := by decide +kernel
theorem dJ6_numberOfLeadingZeros_0f7a4_5 : decode cJ6_numberOfLeadingZeros_0f7a4 5 = .ok (.ifCond .ne 8, 3) := by decide +kernel
theorem dJ6_numberOfLeadingZeros_0f7a4_8 : decode cJ6_numberOfLeadingZeros_0f7a4 8 = .ok (.bipush 32, 2) := by decide +kernel
theorem dJ6_numberOfLeadingZeros_0f7a4_10 : decode cJ6_numberOfLeadingZeros_0f7a4 10 = .ok (.goto 4, 3) := by decide +kernel
theorem dJ6_numberOfLeadingZeros_0f7a4_13 : decode cJ6_numberOfLeadingZeros_0f7a4 13 = .ok (.iconst 0, 1) := by decide +kernel
theorem dJ6_numberOfLeadingZeros_0f7a4_14 : decode cJ6_numberOfLeadingZeros_0f7a4 14 = .ok (.ireturn, 1) := by decide +kernel
theorem dJ6_numberOfLeadingZeros_0f7a4_15 : decode cJ6_numberOfLeadingZeros_0f7a4 15 = .ok (.bipush 31, 2) := by decide +kernel
theorem dJ6_numberOfLeadingZeros_0f7a4_17 : decode cJ6_numberOfLeadingZeros_0f7a4 17 = .ok (.istore_n 1, 1) := by decide +kernel
theorem dJ6_numberOfLeadingZeros_0f7a4_18 : decode cJ6_numberOfLeadingZeros_0f7a4 18 = .ok (.iload_n 0, 1) := by decide +kernel
theorem dJ6_numberOfLeadingZeros_0f7a4_19 : decode cJ6_numberOfLeadingZeros_0f7a4 19 = .ok (.ldc_w 264, 3) := by decide +kernel
theorem dJ6_numberOfLeadingZeros_0f7a4_22 : decode cJ6_numberOfLeadingZeros_0f7a4 22 = .ok (.if_icmp .lt 11, 3) := by decide +kernel
theorem dJ6_numberOfLeadingZeros_0f7a4_25 : decode cJ6_numberOfLeadingZeros_0f7a4 25 = .ok (.iinc 1 (-16), 3) := by decide +kernel
theorem dJ6_numberOfLeadingZeros_0f7a4_28 : decode cJ6_numberOfLeadingZeros_0f7a4 28 = .ok (.iload_n 0, 1) := by decide +kernel
theorem dJ6_numberOfLeadingZeros_0f7a4_29 : decode cJ6_numberOfLeadingZeros_0f7a4 29 = .ok (.bipush 16, 2) := by decide +kernel
theorem dJ6_numberOfLeadingZeros_0f7a4_31 : decode cJ6_numberOfLeadingZeros_0f7a4 31 = .ok (.iushr, 1) := by decide +kernel
theorem dJ6_numberOfLeadingZeros_0f7a4_32 : decode cJ6_numberOfLeadingZeros_0f7a4 32 = .ok (.istore_n 0, 1) := by decide +kernel
theorem dJ6_numberOfLeadingZeros_0f7a4_33 : decode cJ6_numberOfLeadingZeros_0f7a4 33 = .ok (.iload_n 0, 1) := by decide +kernel
theorem dJ6_numberOfLeadingZeros_0f7a4_34 : decode cJ6_numberOfLeadingZeros_0f7a4 34 = .ok (.sipush 256, 3) := by decide +kernel
theorem dJ6_numberOfLeadingZeros_0f7a4_37 : decode cJ6_numberOfLeadingZeros_0f7a4 37 = .ok (.if_icmp .lt 11, 3) := by decide +kernel
theorem dJ6_numberOfLeadingZeros_0f7a4_40 : decode cJ6_numberOfLeadingZeros_0f7a4 40 = .ok (.iinc 1 (-8), 3) := by decide +kernel
theorem dJ6_numberOfLeadingZeros_0f7a4_43 : decode cJ6_numberOfLeadingZeros_0f7a4 43 = .ok (.iload_n 0, 1) := by decide +kernel
theorem dJ6_numberOfLeadingZeros_0f7a4_44 : decode cJ6_numberOfLeadingZeros_0f7a4 44 = .ok (.bipush 8, 2) := by decide +kernel
theorem dJ6_numberOfLeadingZeros_0f7a4_46 : decode cJ6_numberOfLeadingZeros_0f7a4 46 = .ok (.iushr, 1) := by decide +kernel
theorem dJ6_numberOfLeadingZeros_0f7a4_47 : decode cJ6_numberOfLeadingZeros_0f7a4 47 = .ok (.istore_n 0, 1) := by decide +kernel
theorem dJ6_numberOfLeadingZeros_0f7a4_48 : decode cJ6_numberOfLeadingZeros_0f7a4 48 = .ok (.iload_n 0, 1) := by decide +kernel
theorem dJ6_numberOfLeadingZeros_0f7a4_49 : decode cJ6_numberOfLeadingZeros_0f7a4 49 = .ok (.bipush 16, 2) := by decide +kernel
theorem dJ6_numberOfLeadingZeros_0f7a4_51 : decode cJ6_numberOfLeadingZeros_0f7a4 51 = .ok (.if_icmp .lt 10, 3) := by decide +kernel
theorem dJ6_numberOfLeadingZeros_0f7a4_54 : decode cJ6_numberOfLeadingZeros_0f7a4 54 = .ok (.iinc 1 (-4), 3) := by decide +kernel
theorem dJ6_numberOfLeadingZeros_0f7a4_57 : decode cJ6_numberOfLeadingZeros_0f7a4 57 = .ok (.iload_n 0, 1) := by decide +kernel
theorem dJ6_numberOfLeadingZeros_0f7a4_58 : decode cJ6_numberOfLeadingZeros_0f7a4 58 = .ok (.iconst 4, 1) := by decide +kernel
theorem dJ6_numberOfLeadingZeros_0f7a4_59 : decode cJ6_numberOfLeadingZeros_0f7a4 59 = .ok (.iushr, 1) := by decide +kernel
theorem dJ6_numberOfLeadingZeros_0f7a4_60 : decode cJ6_numberOfLeadingZeros_0f7a4 60 = .ok (.istore_n 0, 1) := by decide +kernel
theorem dJ6_numberOfLeadingZeros_0f7a4_61 : decode cJ6_numberOfLeadingZeros_0f7a4 61 = .ok (.iload_n 0, 1) := by decide +kernel
theorem dJ6_numberOfLeadingZeros_0f7a4_62 : decode cJ6_numberOfLeadingZeros_0f7a4 62 = .ok (.iconst 4, 1) := by decide +kernel
theorem dJ6_numberOfLeadingZeros_0f7a4_63 : decode cJ6_numberOfLeadingZeros_0f7a4 63 = .ok (.if_icmp .lt 10, 3) := by decide +kernel
theorem dJ6_numberOfLeadingZeros_0f7a4_66 : decode cJ6_numberOfLeadingZeros_0f7a4 66 = .ok (.iinc 1 (-2), 3) := by decide +kernel
theorem dJ6_numberOfLeadingZeros_0f7a4_69 : decode cJ6_numberOfLeadingZeros_0f7a4 69 = .ok (.iload_n 0, 1) := by decide +kernel
theorem dJ6_numberOfLeadingZeros_0f7a4_70 : decode cJ6_numberOfLeadingZeros_0f7a4 70 = .ok (.iconst 2, 1) := by decide +kernel
theorem dJ6_numberOfLeadingZeros_0f7a4_71 : decode cJ6_numberOfLeadingZeros_0f7a4 71 = .ok (.iushr, 1) := by decide +kernel
theorem dJ6_numberOfLeadingZeros_0f7a4_72 : decode cJ6_numberOfLeadingZeros_0f7a4 72 = .ok (.istore_n 0, 1) := by decide +kernel
theorem dJ6_numberOfLeadingZeros_0f7a4_73 : decode cJ6_numberOfLeadingZeros_0f7a4 73 = .ok (.iload_n 1, 1) := by decide +kernel
theorem dJ6_numberOfLeadingZeros_0f7a4_74 : decode cJ6_numberOfLeadingZeros_0f7a4 74 = .ok (.iload_n 0, 1) := by decide +kernel
theorem dJ6_numberOfLeadingZeros_0f7a4_75 : decode cJ6_numberOfLeadingZeros_0f7a4 75 = .ok (.iconst 1, 1) := by decide +kernel
theorem dJ6_numberOfLeadingZeros_0f7a4_76 : decode cJ6_numberOfLeadingZeros_0f7a4 76 = .ok (.iushr, 1) := by decide +kernel
theorem dJ6_numberOfLeadingZeros_0f7a4_77 : decode cJ6_numberOfLeadingZeros_0f7a4 77 = .ok (.isub, 1) := by decide +kernel
theorem dJ6_numberOfLeadingZeros_0f7a4_78 : decode cJ6_numberOfLeadingZeros_0f7a4 78 = .ok (.ireturn, 1) := by decide +kernel
theorem dJ6_numberOfTrailingZeros_0f7a4_0 : decode cJ6_numberOfTrailingZeros_0f7a4 0 = .ok (.iload_n 0, 1) := by decide +kernel
theorem dJ6_numberOfTrailingZeros_0f7a4_1 : decode cJ6_numberOfTrailingZeros_0f7a4 1 = .ok (.iconst (-1), 1) := by decide +kernel
theorem dJ6_numberOfTrailingZeros_0f7a4_2 : decode cJ6_numberOfTrailingZeros_0f7a4 2 = .ok (.ixor, 1) := by decide +kernel
theorem dJ6_numberOfTrailingZeros_0f7a4_3 : decode cJ6_numberOfTrailingZeros_0f7a4 3 = .ok (.iload_n 0, 1) := by decide +kernel
theorem dJ6_numberOfTrailingZeros_0f7a4_4 : decode cJ6_numberOfTrailingZeros_0f7a4 4 = .ok (.iconst 1, 1) := by decide +kernel
theorem dJ6_numberOfTrailingZeros_0f7a4_5 : decode cJ6_numberOfTrailingZeros_0f7a4 5 = .ok (.isub, 1) := by decide +kernel
theorem dJ6_numberOfTrailingZeros_0f7a4_6 : decode cJ6_numberOfTrailingZeros_0f7a4 6 = .ok (.iand, 1) := by decide +kernel
theorem dJ6_numberOfTrailingZeros_0f7a4_7 : decode cJ6_numberOfTrailingZeros_0f7a4 7 = .ok (.istore_n 0, 1) := by decide +kernel
theorem dJ6_numberOfTrailingZeros_0f7a4_8 : decode cJ6_numberOfTrailingZeros_0f7a4 8 = .ok (.iload_n 0, 1) := by decide +kernel
theorem dJ6_numberOfTrailingZeros_0f7a4_9 : decode cJ6_numberOfTrailingZeros_0f7a4 9 = .ok (.ifCond .gt 8, 3) := by decide +kernel
theorem dJ6_numberOfTrailingZeros_0f7a4_12 : decode cJ6_numberOfTrailingZeros_0f7a4 12 = .ok (.iload_n 0, 1) := by decide +kernel
theorem dJ6_numberOfTrailingZeros_0f7a4_13 : decode cJ6_numberOfTrailingZeros_0f7a4 13 = .ok (.bipush 32, 2) := by decide +kernel
theorem dJ6_numberOfTrailingZeros_0f7a4_15 : decode cJ6_numberOfTrailingZeros_0f7a4 15 = .ok (.iand, 1) := by decide +kernel
theorem dJ6_numberOfTrailingZeros_0f7a4_16 : decode cJ6_numberOfTrailingZeros_0f7a4 16 = .ok (.ireturn, 1) := by decide +kernel
theorem dJ6_numberOfTrailingZeros_0f7a4_17 : decode cJ6_numberOfTrailingZeros_0f7a4 17 = .ok (.iconst 1, 1) := by decide +kernel
theorem dJ6_numberOfTrailingZeros_0f7a4_18 : decode cJ6_numberOfTrailingZeros_0f7a4 18 = .ok (.istore_n 1, 1) := by decide +kernel
theorem dJ6_numberOfTrailingZeros_0f7a4_19 : decode cJ6_numberOfTrailingZeros_0f7a4 19 = .ok (.iload_n 0, 1) := by decide +kernel
theorem dJ6_numberOfTrailingZeros_0f7a4_20 : decode cJ6_numberOfTrailingZeros_0f7a4 20 = .ok (.ldc_w 264, 3) := by decide +kernel
theorem dJ6_numberOfTrailingZeros_0f7a4_23 : decode cJ6_numberOfTrailingZeros_0f7a4 23 = .ok (.if_icmp .le 11, 3) := by decide +kernel
theorem dJ6_numberOfTrailingZeros_0f7a4_26 : decode cJ6_numberOfTrailingZeros_0f7a4 26 = .ok (.iinc 1 16, 3) := by decide +kernel
theorem dJ6_numberOfTrailingZeros_0f7a4_29 : decode cJ6_numberOfTrailingZeros_0f7a4 29 = .ok (.iload_n 0, 1) := by decide +kernel
theorem dJ6_numberOfTrailingZeros_0f7a4_30 : decode cJ6_numberOfTrailingZeros_0f7a4 30 = .ok (.bipush 16, 2) := by decide +kernel
theorem dJ6_numberOfTrailingZeros_0f7a4_32 : decode cJ6_numberOfTrailingZeros_0f7a4 32 = .ok (.iushr, 1) := by decide +kernel
theorem dJ6_numberOfTrailingZeros_0f7a4_33 : decode cJ6_numberOfTrailingZeros_0f7a4 33 = .ok (.istore_n 0, 1) := by decide +kernel
theorem dJ6_numberOfTrailingZeros_0f7a4_34 : decode cJ6_numberOfTrailingZeros_0f7a4 34 = .ok (.iload_n 0, 1) := by decide +kernel
theorem dJ6_numberOfTrailingZeros_0f7a4_35 : decode cJ6_numberOfTrailingZeros_0f7a4 35 = .ok (.sipush 256, 3) := by decide +kernel
theorem dJ6_numberOfTrailingZeros_0f7a4_38 : decode cJ6_numberOfTrailingZeros_0f7a4 38 = .ok (.if_icmp .le 11, 3) := by decide +kernel
theorem dJ6_numberOfTrailingZeros_0f7a4_41 : decode cJ6_numberOfTrailingZeros_0f7a4 41 = .ok (.iinc 1 8, 3) := by decide +kernel
theorem dJ6_numberOfTrailingZeros_0f7a4_44 : decode cJ6_numberOfTrailingZeros_0f7a4 44 = .ok (.iload_n 0, 1) := by decide +kernel
theorem dJ6_numberOfTrailingZeros_0f7a4_45 : decode cJ6_numberOfTrailingZeros_0f7a4 45 = .ok (.bipush 8, 2) := by decide +kernel
theorem dJ6_numberOfTrailingZeros_0f7a4_47 : decode cJ6_numberOfTrailingZeros_0f7a4 47 = .ok (.iushr, 1) := by decide +kernel
theorem dJ6_numberOfTrailingZeros_0f7a4_48 : decode cJ6_numberOfTrailingZeros_0f7a4 48 = .ok (.istore_n 0, 1) := by decide +kernel
theorem dJ6_numberOfTrailingZeros_0f7a4_49 : decode cJ6_numberOfTrailingZeros_0f7a4 49 = .ok (.iload_n 0, 1) := by decide +kernel
theorem dJ6_numberOfTrailingZeros_0f7a4_50 : decode cJ6_numberOfTrailingZeros_0f7a4 50 = .ok (.bipush 16, 2) := by decide +kernel
theorem dJ6_numberOfTrailingZeros_0f7a4_52 : decode cJ6_numberOfTrailingZeros_0f7a4 52 = .ok (.if_icmp .le 10, 3) := by decide +kernel
theorem dJ6_numberOfTrailingZeros_0f7a4_55 : decode cJ6_numberOfTrailingZeros_0f7a4 55 = .ok (.iinc 1 4, 3) := by decide +kernel
theorem dJ6_numberOfTrailingZeros_0f7a4_58 : decode cJ6_numberOfTrailingZeros_0f7a4 58 = .ok (.iload_n 0, 1) := by decide +kernel
theorem dJ6_numberOfTrailingZeros_0f7a4_59 : decode cJ6_numberOfTrailingZeros_0f7a4 59 = .ok (.iconst 4, 1) := by decide +kernel
theorem dJ6_numberOfTrailingZeros_0f7a4_60 : decode cJ6_numberOfTrailingZeros_0f7a4 60 = .ok (.iushr, 1) := by decide +kernel
theorem dJ6_numberOfTrailingZeros_0f7a4_61 : decode cJ6_numberOfTrailingZeros_0f7a4 61 = .ok (.istore_n 0, 1) := by decide +kernel
theorem dJ6_numberOfTrailingZeros_0f7a4_62 : decode cJ6_numberOfTrailingZeros_0f7a4 62 = .ok (.iload_n 0, 1) := by decide +kernel
theorem dJ6_numberOfTrailingZeros_0f7a4_63 : decode cJ6_numberOfTrailingZeros_0f7a4 63 = .ok (.iconst 4, 1) := by decide +kernel
theorem dJ6_numberOfTrailingZeros_0f7a4_64 : decode cJ6_numberOfTrailingZeros_0f7a4 64 = .ok (.if_icmp .le 10, 3) := by decide +kernel
theorem dJ6_numberOfTrailingZeros_0f7a4_67 : decode cJ6_numberOfTrailingZeros_0f7a4 67 = .ok (.iinc 1 2, 3) := by decide +kernel
theorem dJ6_numberOfTrailingZeros_0f7a4_70 : decode cJ6_numberOfTrailingZeros_0f7a4 70 = .ok (.iload_n 0, 1) := by decide +kernel
theorem dJ6_numberOfTrailingZeros_0f7a4_71 : decode cJ6_numberOfTrailingZeros_0f7a4 71 = .ok (.iconst 2, 1) := by decide +kernel
theorem dJ6_numberOfTrailingZeros_0f7a4_72 : decode cJ6_numberOfTrailingZeros_0f7a4 72 = .ok (.iushr, 1) := by decide +kernel
theorem dJ6_numberOfTrailingZeros_0f7a4_73 : decode cJ6_numberOfTrailingZeros_0f7a4 73 = .ok (.istore_n 0, 1) := by decide +kernel
theorem dJ6_numberOfTrailingZeros_0f7a4_74 : decode cJ6_numberOfTrailingZeros_0f7a4 74 = .ok (.iload_n 1, 1) := by decide +kernel
theorem dJ6_numberOfTrailingZeros_0f7a4_75 : decode cJ6_numberOfTrailingZeros_0f7a4 75 = .ok (.iload_n 0, 1) := by decide +kernel
theorem dJ6_numberOfTrailingZeros_0f7a4_76 : decode cJ6_numberOfTrailingZeros_0f7a4 76 = .ok (.iconst 1, 1) := by decide +kernel
theorem dJ6_numberOfTrailingZeros_0f7a4_77 : decode cJ6_numberOfTrailingZeros_0f7a4 77 = .ok (.iushr, 1) := by decide +kernel
theorem dJ6_numberOfTrailingZeros_0f7a4_78 : decode cJ6_numberOfTrailingZeros_0f7a4 78 = .ok (.iadd, 1) := by decide +kernel
theorem dJ6_numberOfTrailingZeros_0f7a4_79 : decode cJ6_numberOfTrailingZeros_0f7a4 79 = .ok (.ireturn, 1) := by decide +kernel
theorem kw_694 : Cond.constant "java/lang/Integer" 265 1431655765 ∈ gw := gw_of (tb_of 694 (by decide +kernel)) (by decide +kernel)
theorem kw_695 : Cond.constant "java/lang/Integer" 266 858993459 ∈ gw := gw_of (tb_of 695 (by decide +kernel)) (by decide +kernel)
theorem kw_696 : Cond.constant "java/lang/Integer" 267 252645135 ∈ gw := gw_of (tb_of 696 (by decide +kernel)) (by decide +kernel)
theorem kw_861 : Cond.constant "java/lang/Integer" 264 65536 ∈ gw := gw_of (tb_of 861 (by decide +kernel)) (by decide +kernel)
set_option maxHeartbeats 4000000 in
set_option maxRecDepth 100000 in
theorem s_bitCount (l : Launch) (D : va_G) (cs : CS) (kf : KF) (T : TF) (O : List Nat) (X : va_W) (x0 : Int32)  (hO : okO T O []) : TK l D cs kf yJ6_bitCount_0f7a4 cJ6_bitCount_0f7a4 1 (some (.int)) { frames := 0, cells := 0, slots := 0, locals := 0 } [.int x0] T O X (Ti D cs (fun r u => u = (T, O, X) ∧ 0 ≤ r.toInt ∧ r.toInt ≤ 63)) := by
  refine tk_of (by decide) (Nat.le_of_ble_eq_true rfl) (fun p e s m below meth c ls A H locs hx hb hr hml hown hts hlocks hnm hkb hH hS hA hOX hks hE hl => ?_)
  have hown : s.vm.findClass RJ6 = some m.cls := hown
  have hl : lv_has ls 1 [(0, .int x0)] := hl
  refine lv_iload_n hx hb dJ6_bitCount_0f7a4_0 rfl (lv_at hl 0 rfl) ?_
  refine lv_iload_n hx hb dJ6_bitCount_0f7a4_1 rfl (lv_at hl 0 rfl) ?_
  refine lv_iconst (v := 1) hx hb dJ6_bitCount_0f7a4_2 (by decide) ?_
  refine lv_iushr hx hb dJ6_bitCount_0f7a4_3 rfl ?_
  refine lv_topi (fun v3 ev3 => ?_)
  have tv3 : 0 ≤ v3.toInt ∧ v3.toInt < 2147483648 := by rw [ev3]; exact ushr_c 1 (by decide +kernel) (by decide) (by decide)
  refine lv_ldcw hx hb hown (hts _ kw_694) dJ6_bitCount_0f7a4_4 ?_
  refine lv_iand hx hb dJ6_bitCount_0f7a4_7 ?_
  refine lv_topi (fun v7 ev7 => ?_)
  have tv7 : 0 ≤ v7.toInt ∧ v7.toInt ≤ 1431655765 := by rw [ev7]; exact and_r (by decide)
  refine lv_isub hx hb dJ6_bitCount_0f7a4_8 ?_
  refine lv_topi (fun v8 ev8 => ?_)
  refine lv_istore_n (lv' := [(0, .int v8)]) hx hb dJ6_bitCount_0f7a4_9 rfl hl (by decide) rfl (fun ls hl => ?_)
  refine lv_iload_n hx hb dJ6_bitCount_0f7a4_10 rfl (lv_at hl 0 rfl) ?_
  refine lv_ldcw hx hb hown (hts _ kw_695) dJ6_bitCount_0f7a4_11 ?_
  refine lv_iand hx hb dJ6_bitCount_0f7a4_14 ?_
  refine lv_topi (fun v14 ev14 => ?_)
  have tv14 : 0 ≤ v14.toInt ∧ v14.toInt ≤ 858993459 := by rw [ev14]; exact and_r (by decide)
  refine lv_iload_n hx hb dJ6_bitCount_0f7a4_15 rfl (lv_at hl 0 rfl) ?_
  refine lv_iconst (v := 2) hx hb dJ6_bitCount_0f7a4_16 (by decide) ?_
  refine lv_iushr hx hb dJ6_bitCount_0f7a4_17 rfl ?_
  refine lv_topi (fun v17 ev17 => ?_)
  have tv17 : 0 ≤ v17.toInt ∧ v17.toInt < 1073741824 := by rw [ev17]; exact ushr_c 2 (by decide +kernel) (by decide) (by decide)
  refine lv_ldcw hx hb hown (hts _ kw_695) dJ6_bitCount_0f7a4_18 ?_
  refine lv_iand hx hb dJ6_bitCount_0f7a4_21 ?_
  refine lv_topi (fun v21 ev21 => ?_)
  have tv21 : 0 ≤ v21.toInt ∧ v21.toInt ≤ 858993459 := by rw [ev21]; exact and_r (by decide)
  refine lv_iadd hx hb dJ6_bitCount_0f7a4_22 ?_
  refine lv_topi (fun v22 ev22 => ?_)
  have tv22 : v22.toInt = v14.toInt + v21.toInt := by rw [ev22]; exact add_i rfl rfl (by omega) (by omega)
  refine lv_istore_n (lv' := [(0, .int v22)]) hx hb dJ6_bitCount_0f7a4_23 rfl hl (by decide) rfl (fun ls hl => ?_)
  refine lv_iload_n hx hb dJ6_bitCount_0f7a4_24 rfl (lv_at hl 0 rfl) ?_
  refine lv_iload_n hx hb dJ6_bitCount_0f7a4_25 rfl (lv_at hl 0 rfl) ?_
  refine lv_iconst (v := 4) hx hb dJ6_bitCount_0f7a4_26 (by decide) ?_
  refine lv_iushr hx hb dJ6_bitCount_0f7a4_27 rfl ?_
  refine lv_topi (fun v27 ev27 => ?_)
  have tv27 : 0 ≤ v27.toInt ∧ v27.toInt < 268435456 := by rw [ev27]; exact ushr_c 4 (by decide +kernel) (by decide) (by decide)
  refine lv_iadd hx hb dJ6_bitCount_0f7a4_28 ?_
  refine lv_topi (fun v28 ev28 => ?_)
  have tv28 : v28.toInt = v22.toInt + v27.toInt := by rw [ev28]; exact add_i rfl rfl (by omega) (by omega)
  refine lv_ldcw hx hb hown (hts _ kw_696) dJ6_bitCount_0f7a4_29 ?_
  refine lv_iand hx hb dJ6_bitCount_0f7a4_32 ?_
  refine lv_topi (fun v32 ev32 => ?_)
  have tv32 : 0 ≤ v32.toInt ∧ v32.toInt ≤ 252645135 := by rw [ev32]; exact and_r (by decide)
  refine lv_istore_n (lv' := [(0, .int v32)]) hx hb dJ6_bitCount_0f7a4_33 rfl hl (by decide) rfl (fun ls hl => ?_)
  refine lv_iload_n hx hb dJ6_bitCount_0f7a4_34 rfl (lv_at hl 0 rfl) ?_
  refine lv_iload_n hx hb dJ6_bitCount_0f7a4_35 rfl (lv_at hl 0 rfl) ?_
  refine lv_bipush (v := 8) hx hb dJ6_bitCount_0f7a4_36 (by decide) ?_
  refine lv_iushr hx hb dJ6_bitCount_0f7a4_38 rfl ?_
  refine lv_topi (fun v38 ev38 => ?_)
  have tv38 : 0 ≤ v38.toInt ∧ v38.toInt < 16777216 := by rw [ev38]; exact ushr_c 8 (by decide +kernel) (by decide) (by decide)
  refine lv_iadd hx hb dJ6_bitCount_0f7a4_39 ?_
  refine lv_topi (fun v39 ev39 => ?_)
  have tv39 : v39.toInt = v32.toInt + v38.toInt := by rw [ev39]; exact add_i rfl rfl (by omega) (by omega)
  refine lv_istore_n (lv' := [(0, .int v39)]) hx hb dJ6_bitCount_0f7a4_40 rfl hl (by decide) rfl (fun ls hl => ?_)
  refine lv_iload_n hx hb dJ6_bitCount_0f7a4_41 rfl (lv_at hl 0 rfl) ?_
  refine lv_iload_n hx hb dJ6_bitCount_0f7a4_42 rfl (lv_at hl 0 rfl) ?_
  refine lv_bipush (v := 16) hx hb dJ6_bitCount_0f7a4_43 (by decide) ?_
  refine lv_iushr hx hb dJ6_bitCount_0f7a4_45 rfl ?_
  refine lv_topi (fun v45 ev45 => ?_)
  have tv45 : 0 ≤ v45.toInt ∧ v45.toInt < 65536 := by rw [ev45]; exact ushr_c 16 (by decide +kernel) (by decide) (by decide)
  refine lv_iadd hx hb dJ6_bitCount_0f7a4_46 ?_
  refine lv_topi (fun v46 ev46 => ?_)
  have tv46 : v46.toInt = v39.toInt + v45.toInt := by rw [ev46]; exact add_i rfl rfl (by omega) (by omega)
  refine lv_istore_n (lv' := [(0, .int v46)]) hx hb dJ6_bitCount_0f7a4_47 rfl hl (by decide) rfl (fun ls hl => ?_)
  refine lv_iload_n hx hb dJ6_bitCount_0f7a4_48 rfl (lv_at hl 0 rfl) ?_
  refine lv_bipush (v := 63) hx hb dJ6_bitCount_0f7a4_49 (by decide) ?_
  refine lv_iand hx hb dJ6_bitCount_0f7a4_51 ?_
  refine lv_topi (fun v51 ev51 => ?_)
  have tv51 : 0 ≤ v51.toInt ∧ v51.toInt ≤ 63 := by rw [ev51]; exact and_r (by decide)
  exact te_i hx hb hr hlocks hH hS (⟨rfl, by omega, by omega⟩) dJ6_bitCount_0f7a4_52
set_option maxHeartbeats 4000000 in
set_option maxRecDepth 100000 in
theorem s_ntz (l : Launch) (D : va_G) (cs : CS) (kf : KF) (T : TF) (O : List Nat) (X : va_W) (x0 : Int32)  (hO : okO T O []) : TK l D cs kf yJ6_numberOfTrailingZeros_0f7a4 cJ6_numberOfTrailingZeros_0f7a4 2 (some (.int)) { frames := 0, cells := 0, slots := 0, locals := 0 } [.int x0] T O X (Ti D cs (fun r u => u = (T, O, X))) := by
  refine tk_of (by decide) (Nat.le_of_ble_eq_true rfl) (fun p e s m below meth c ls A H locs hx hb hr hml hown hts hlocks hnm hkb hH hS hA hOX hks hE hl => ?_)
  have hown : s.vm.findClass RJ6 = some m.cls := hown
  have hl : lv_has ls 2 [(0, .int x0)] := hl
  refine lv_iload_n hx hb dJ6_numberOfTrailingZeros_0f7a4_0 rfl (lv_at hl 0 rfl) ?_
  refine lv_iconst (v := (-1)) hx hb dJ6_numberOfTrailingZeros_0f7a4_1 (by decide) ?_
  refine lv_ixor hx hb dJ6_numberOfTrailingZeros_0f7a4_2 ?_
  refine lv_topi (fun v2 ev2 => ?_)
  refine lv_iload_n hx hb dJ6_numberOfTrailingZeros_0f7a4_3 rfl (lv_at hl 0 rfl) ?_
  refine lv_iconst (v := 1) hx hb dJ6_numberOfTrailingZeros_0f7a4_4 (by decide) ?_
  refine lv_isub hx hb dJ6_numberOfTrailingZeros_0f7a4_5 ?_
  refine lv_topi (fun v5 ev5 => ?_)
  refine lv_iand hx hb dJ6_numberOfTrailingZeros_0f7a4_6 ?_
  refine lv_topi (fun v6 ev6 => ?_)
  refine lv_istore_n (lv' := [(0, .int v6)]) hx hb dJ6_numberOfTrailingZeros_0f7a4_7 rfl hl (by decide) rfl (fun ls hl => ?_)
  refine lv_iload_n hx hb dJ6_numberOfTrailingZeros_0f7a4_8 rfl (lv_at hl 0 rfl) ?_
  refine lv_if_gt (tgt := 17) hx hb dJ6_numberOfTrailingZeros_0f7a4_9 (by decide) (fun c9 => ?_) (fun c9 => ?_)
  · skip
    have tc9 := f_gt (k := 0) (by decide) c9
    refine lv_iconst (v := 1) hx hb dJ6_numberOfTrailingZeros_0f7a4_17 (by decide) ?_
    refine lv_istore_n (lv' := [(1, .int 1), (0, .int v6)]) hx hb dJ6_numberOfTrailingZeros_0f7a4_18 rfl hl (by decide) rfl (fun ls hl => ?_)
    refine lv_iload_n hx hb dJ6_numberOfTrailingZeros_0f7a4_19 rfl (lv_at hl 1 rfl) ?_
    refine lv_ldcw hx hb hown (hts _ kw_861) dJ6_numberOfTrailingZeros_0f7a4_20 ?_
    have J34 : ∀ (p34_1 : Int32) (p34_0 : Int32) (H : Heap) (locs : List Loc) (ls : Array Slot), (1 ≤ p34_1.toInt) → (p34_1.toInt ≤ 17) → (0 ≤ p34_0.toInt) → (p34_0.toInt ≤ 65536) → HT D cs A T O X H → va_S A s.heap H locs → lv_has ls 2 [(1, .int p34_1), (0, .int p34_0)] → W p l e { frames := 0, cells := 0, slots := 0, locals := 0 } s m [.int x0].toArray below meth c H locs 0 0 (MQ below (Ti D cs (fun r u => u = (T, O, X)) A) [.int x0].toArray s 0 0 A) (F0 m 34 ls []) := by
      intro p34_1 p34_0 H locs ls l_p34_1 u_p34_1 l_p34_0 u_p34_0 hH hS hl
      refine lv_iload_n hx hb dJ6_numberOfTrailingZeros_0f7a4_34 rfl (lv_at hl 1 rfl) ?_
      refine lv_sipush (v := 256) hx hb dJ6_numberOfTrailingZeros_0f7a4_35 (by decide) ?_
      have J49 : ∀ (p49_1 : Int32) (p49_0 : Int32) (H : Heap) (locs : List Loc) (ls : Array Slot), (1 ≤ p49_1.toInt) → (p49_1.toInt ≤ 25) → (0 ≤ p49_0.toInt) → (p49_0.toInt ≤ 16777215) → HT D cs A T O X H → va_S A s.heap H locs → lv_has ls 2 [(1, .int p49_1), (0, .int p49_0)] → W p l e { frames := 0, cells := 0, slots := 0, locals := 0 } s m [.int x0].toArray below meth c H locs 0 0 (MQ below (Ti D cs (fun r u => u = (T, O, X)) A) [.int x0].toArray s 0 0 A) (F0 m 49 ls []) := by
        intro p49_1 p49_0 H locs ls l_p49_1 u_p49_1 l_p49_0 u_p49_0 hH hS hl
        refine lv_iload_n hx hb dJ6_numberOfTrailingZeros_0f7a4_49 rfl (lv_at hl 1 rfl) ?_
        refine lv_bipush (v := 16) hx hb dJ6_numberOfTrailingZeros_0f7a4_50 (by decide) ?_
        have J62 : ∀ (p62_1 : Int32) (p62_0 : Int32) (H : Heap) (locs : List Loc) (ls : Array Slot), (1 ≤ p62_1.toInt) → (p62_1.toInt ≤ 29) → (0 ≤ p62_0.toInt) → (p62_0.toInt ≤ 268435455) → HT D cs A T O X H → va_S A s.heap H locs → lv_has ls 2 [(1, .int p62_1), (0, .int p62_0)] → W p l e { frames := 0, cells := 0, slots := 0, locals := 0 } s m [.int x0].toArray below meth c H locs 0 0 (MQ below (Ti D cs (fun r u => u = (T, O, X)) A) [.int x0].toArray s 0 0 A) (F0 m 62 ls []) := by
          intro p62_1 p62_0 H locs ls l_p62_1 u_p62_1 l_p62_0 u_p62_0 hH hS hl
          refine lv_iload_n hx hb dJ6_numberOfTrailingZeros_0f7a4_62 rfl (lv_at hl 1 rfl) ?_
          refine lv_iconst (v := 4) hx hb dJ6_numberOfTrailingZeros_0f7a4_63 (by decide) ?_
          have J74 : ∀ (p74_1 : Int32) (p74_0 : Int32) (H : Heap) (locs : List Loc) (ls : Array Slot), (1 ≤ p74_1.toInt) → (p74_1.toInt ≤ 31) → (0 ≤ p74_0.toInt) → (p74_0.toInt ≤ 1073741823) → HT D cs A T O X H → va_S A s.heap H locs → lv_has ls 2 [(1, .int p74_1), (0, .int p74_0)] → W p l e { frames := 0, cells := 0, slots := 0, locals := 0 } s m [.int x0].toArray below meth c H locs 0 0 (MQ below (Ti D cs (fun r u => u = (T, O, X)) A) [.int x0].toArray s 0 0 A) (F0 m 74 ls []) := by
            intro p74_1 p74_0 H locs ls l_p74_1 u_p74_1 l_p74_0 u_p74_0 hH hS hl
            refine lv_iload_n hx hb dJ6_numberOfTrailingZeros_0f7a4_74 rfl (lv_at hl 0 rfl) ?_
            refine lv_iload_n hx hb dJ6_numberOfTrailingZeros_0f7a4_75 rfl (lv_at hl 1 rfl) ?_
            refine lv_iconst (v := 1) hx hb dJ6_numberOfTrailingZeros_0f7a4_76 (by decide) ?_
            refine lv_iushr hx hb dJ6_numberOfTrailingZeros_0f7a4_77 rfl ?_
            refine lv_topi (fun v77 ev77 => ?_)
            have tv77 : 0 ≤ v77.toInt ∧ v77.toInt < 2147483648 := by rw [ev77]; exact ushr_c 1 (by decide +kernel) (by decide) (by decide)
            refine lv_iadd hx hb dJ6_numberOfTrailingZeros_0f7a4_78 ?_
            refine lv_topi (fun v78 ev78 => ?_)
            exact te_i hx hb hr hlocks hH hS (rfl) dJ6_numberOfTrailingZeros_0f7a4_79
          refine lv_icmp_le (tgt := 74) hx hb dJ6_numberOfTrailingZeros_0f7a4_64 (by decide) (fun c64 => ?_) (fun c64 => ?_)
          · skip
            have tc64 := f_le (k := 4) (by decide) c64
            exact J74 p62_1 p62_0 _ _ _ (by omega) (by omega) (by omega) (by omega) hH hS (lv_sub hl [0, 1] rfl)
          · skip
            have tc64 := f_nle (k := 4) (by decide) c64
            obtain ⟨v67, ev67⟩ : ∃ y : Int32, y = p62_1 + 2 := ⟨_, rfl⟩
            have tv67 : v67.toInt = p62_1.toInt + (2) := by rw [ev67]; exact add_i rfl (by decide) (by omega) (by omega)
            refine lv_iinc (v := v67) (lv' := [(1, .int v67), (0, .int p62_0)]) hx hb dJ6_numberOfTrailingZeros_0f7a4_67 hl (k := 0) rfl (by rw [ev67]; rfl) (by decide) rfl (fun ls hl => ?_)
            refine lv_iload_n hx hb dJ6_numberOfTrailingZeros_0f7a4_70 rfl (lv_at hl 1 rfl) ?_
            refine lv_iconst (v := 2) hx hb dJ6_numberOfTrailingZeros_0f7a4_71 (by decide) ?_
            refine lv_iushr hx hb dJ6_numberOfTrailingZeros_0f7a4_72 rfl ?_
            refine lv_topi (fun v72 ev72 => ?_)
            have tv72 : 0 ≤ v72.toInt ∧ v72.toInt < 1073741824 := by rw [ev72]; exact ushr_c 2 (by decide +kernel) (by decide) (by decide)
            refine lv_istore_n (lv' := [(0, .int v72), (1, .int v67)]) hx hb dJ6_numberOfTrailingZeros_0f7a4_73 rfl hl (by decide) rfl (fun ls hl => ?_)
            exact J74 v67 v72 _ _ _ (by omega) (by omega) (by omega) (by omega) hH hS (lv_sub hl [1, 0] rfl)
        refine lv_icmp_le (tgt := 62) hx hb dJ6_numberOfTrailingZeros_0f7a4_52 (by decide) (fun c52 => ?_) (fun c52 => ?_)
        · skip
          have tc52 := f_le (k := 16) (by decide) c52
          exact J62 p49_1 p49_0 _ _ _ (by omega) (by omega) (by omega) (by omega) hH hS (lv_sub hl [0, 1] rfl)
        · skip
          have tc52 := f_nle (k := 16) (by decide) c52
          obtain ⟨v55, ev55⟩ : ∃ y : Int32, y = p49_1 + 4 := ⟨_, rfl⟩
          have tv55 : v55.toInt = p49_1.toInt + (4) := by rw [ev55]; exact add_i rfl (by decide) (by omega) (by omega)
          refine lv_iinc (v := v55) (lv' := [(1, .int v55), (0, .int p49_0)]) hx hb dJ6_numberOfTrailingZeros_0f7a4_55 hl (k := 0) rfl (by rw [ev55]; rfl) (by decide) rfl (fun ls hl => ?_)
          refine lv_iload_n hx hb dJ6_numberOfTrailingZeros_0f7a4_58 rfl (lv_at hl 1 rfl) ?_
          refine lv_iconst (v := 4) hx hb dJ6_numberOfTrailingZeros_0f7a4_59 (by decide) ?_
          refine lv_iushr hx hb dJ6_numberOfTrailingZeros_0f7a4_60 rfl ?_
          refine lv_topi (fun v60 ev60 => ?_)
          have tv60 : 0 ≤ v60.toInt ∧ v60.toInt < 268435456 := by rw [ev60]; exact ushr_c 4 (by decide +kernel) (by decide) (by decide)
          refine lv_istore_n (lv' := [(0, .int v60), (1, .int v55)]) hx hb dJ6_numberOfTrailingZeros_0f7a4_61 rfl hl (by decide) rfl (fun ls hl => ?_)
          exact J62 v55 v60 _ _ _ (by omega) (by omega) (by omega) (by omega) hH hS (lv_sub hl [1, 0] rfl)
      refine lv_icmp_le (tgt := 49) hx hb dJ6_numberOfTrailingZeros_0f7a4_38 (by decide) (fun c38 => ?_) (fun c38 => ?_)
      · skip
        have tc38 := f_le (k := 256) (by decide) c38
        exact J49 p34_1 p34_0 _ _ _ (by omega) (by omega) (by omega) (by omega) hH hS (lv_sub hl [0, 1] rfl)
      · skip
        have tc38 := f_nle (k := 256) (by decide) c38
        obtain ⟨v41, ev41⟩ : ∃ y : Int32, y = p34_1 + 8 := ⟨_, rfl⟩
        have tv41 : v41.toInt = p34_1.toInt + (8) := by rw [ev41]; exact add_i rfl (by decide) (by omega) (by omega)
        refine lv_iinc (v := v41) (lv' := [(1, .int v41), (0, .int p34_0)]) hx hb dJ6_numberOfTrailingZeros_0f7a4_41 hl (k := 0) rfl (by rw [ev41]; rfl) (by decide) rfl (fun ls hl => ?_)
        refine lv_iload_n hx hb dJ6_numberOfTrailingZeros_0f7a4_44 rfl (lv_at hl 1 rfl) ?_
        refine lv_bipush (v := 8) hx hb dJ6_numberOfTrailingZeros_0f7a4_45 (by decide) ?_
        refine lv_iushr hx hb dJ6_numberOfTrailingZeros_0f7a4_47 rfl ?_
        refine lv_topi (fun v47 ev47 => ?_)
        have tv47 : 0 ≤ v47.toInt ∧ v47.toInt < 16777216 := by rw [ev47]; exact ushr_c 8 (by decide +kernel) (by decide) (by decide)
        refine lv_istore_n (lv' := [(0, .int v47), (1, .int v41)]) hx hb dJ6_numberOfTrailingZeros_0f7a4_48 rfl hl (by decide) rfl (fun ls hl => ?_)
        exact J49 v41 v47 _ _ _ (by omega) (by omega) (by omega) (by omega) hH hS (lv_sub hl [1, 0] rfl)
    refine lv_icmp_le (tgt := 34) hx hb dJ6_numberOfTrailingZeros_0f7a4_23 (by decide) (fun c23 => ?_) (fun c23 => ?_)
    · skip
      have tc23 := f_le (k := 65536) (by decide) c23
      exact J34 1 v6 _ _ _ (by decide) (by decide) (by omega) (by omega) hH hS (lv_sub hl [0, 1] rfl)
    · skip
      have tc23 := f_nle (k := 65536) (by decide) c23
      refine lv_iinc (v := 17) (lv' := [(1, .int 17), (0, .int v6)]) hx hb dJ6_numberOfTrailingZeros_0f7a4_26 hl (k := 0) rfl (by decide) (by decide) rfl (fun ls hl => ?_)
      refine lv_iload_n hx hb dJ6_numberOfTrailingZeros_0f7a4_29 rfl (lv_at hl 1 rfl) ?_
      refine lv_bipush (v := 16) hx hb dJ6_numberOfTrailingZeros_0f7a4_30 (by decide) ?_
      refine lv_iushr hx hb dJ6_numberOfTrailingZeros_0f7a4_32 rfl ?_
      refine lv_topi (fun v32 ev32 => ?_)
      have tv32 : 0 ≤ v32.toInt ∧ v32.toInt < 65536 := by rw [ev32]; exact ushr_c 16 (by decide +kernel) (by decide) (by decide)
      refine lv_istore_n (lv' := [(0, .int v32), (1, .int 17)]) hx hb dJ6_numberOfTrailingZeros_0f7a4_33 rfl hl (by decide) rfl (fun ls hl => ?_)
      exact J34 17 v32 _ _ _ (by decide) (by decide) (by omega) (by omega) hH hS (lv_sub hl [1, 0] rfl)
  · skip
    have tc9 := f_ngt (k := 0) (by decide) c9
    refine lv_iload_n hx hb dJ6_numberOfTrailingZeros_0f7a4_12 rfl (lv_at hl 0 rfl) ?_
    refine lv_bipush (v := 32) hx hb dJ6_numberOfTrailingZeros_0f7a4_13 (by decide) ?_
    refine lv_iand hx hb dJ6_numberOfTrailingZeros_0f7a4_15 ?_
    refine lv_topi (fun v15 ev15 => ?_)
    have tv15 : 0 ≤ v15.toInt ∧ v15.toInt ≤ 32 := by rw [ev15]; exact and_r (by decide)
    exact te_i hx hb hr hlocks hH hS (rfl) dJ6_numberOfTrailingZeros_0f7a4_16
set_option maxHeartbeats 4000000 in
set_option maxRecDepth 100000 in
theorem s_nlz (l : Launch) (D : va_G) (cs : CS) (kf : KF) (T : TF) (O : List Nat) (X : va_W) (x0 : Int32)  (hO : okO T O []) : TK l D cs kf yJ6_numberOfLeadingZeros_0f7a4 cJ6_numberOfLeadingZeros_0f7a4 2 (some (.int)) { frames := 0, cells := 0, slots := 0, locals := 0 } [.int x0] T O X (Ti D cs (fun r u => u = (T, O, X) ∧ -2147483646 ≤ r.toInt ∧ r.toInt ≤ 32)) := by
  refine tk_of (by decide) (Nat.le_of_ble_eq_true rfl) (fun p e s m below meth c ls A H locs hx hb hr hml hown hts hlocks hnm hkb hH hS hA hOX hks hE hl => ?_)
  have hown : s.vm.findClass RJ6 = some m.cls := hown
  have hl : lv_has ls 2 [(0, .int x0)] := hl
  refine lv_iload_n hx hb dJ6_numberOfLeadingZeros_0f7a4_0 rfl (lv_at hl 0 rfl) ?_
  refine lv_if_gt (tgt := 15) hx hb dJ6_numberOfLeadingZeros_0f7a4_1 (by decide) (fun c1 => ?_) (fun c1 => ?_)
  · skip
    have tc1 := f_gt (k := 0) (by decide) c1
    refine lv_bipush (v := 31) hx hb dJ6_numberOfLeadingZeros_0f7a4_15 (by decide) ?_
    refine lv_istore_n (lv' := [(1, .int 31), (0, .int x0)]) hx hb dJ6_numberOfLeadingZeros_0f7a4_17 rfl hl (by decide) rfl (fun ls hl => ?_)
    refine lv_iload_n hx hb dJ6_numberOfLeadingZeros_0f7a4_18 rfl (lv_at hl 1 rfl) ?_
    refine lv_ldcw hx hb hown (hts _ kw_861) dJ6_numberOfLeadingZeros_0f7a4_19 ?_
    have J33 : ∀ (p33_1 : Int32) (p33_0 : Int32) (H : Heap) (locs : List Loc) (ls : Array Slot), (15 ≤ p33_1.toInt) → (p33_1.toInt ≤ 31) → (0 ≤ p33_0.toInt) → (p33_0.toInt ≤ 65535) → HT D cs A T O X H → va_S A s.heap H locs → lv_has ls 2 [(1, .int p33_1), (0, .int p33_0)] → W p l e { frames := 0, cells := 0, slots := 0, locals := 0 } s m [.int x0].toArray below meth c H locs 0 0 (MQ below (Ti D cs (fun r u => u = (T, O, X) ∧ -2147483646 ≤ r.toInt ∧ r.toInt ≤ 32) A) [.int x0].toArray s 0 0 A) (F0 m 33 ls []) := by
      intro p33_1 p33_0 H locs ls l_p33_1 u_p33_1 l_p33_0 u_p33_0 hH hS hl
      refine lv_iload_n hx hb dJ6_numberOfLeadingZeros_0f7a4_33 rfl (lv_at hl 1 rfl) ?_
      refine lv_sipush (v := 256) hx hb dJ6_numberOfLeadingZeros_0f7a4_34 (by decide) ?_
      have J48 : ∀ (p48_1 : Int32) (p48_0 : Int32) (H : Heap) (locs : List Loc) (ls : Array Slot), (7 ≤ p48_1.toInt) → (p48_1.toInt ≤ 31) → (0 ≤ p48_0.toInt) → (p48_0.toInt ≤ 16777215) → HT D cs A T O X H → va_S A s.heap H locs → lv_has ls 2 [(1, .int p48_1), (0, .int p48_0)] → W p l e { frames := 0, cells := 0, slots := 0, locals := 0 } s m [.int x0].toArray below meth c H locs 0 0 (MQ below (Ti D cs (fun r u => u = (T, O, X) ∧ -2147483646 ≤ r.toInt ∧ r.toInt ≤ 32) A) [.int x0].toArray s 0 0 A) (F0 m 48 ls []) := by
        intro p48_1 p48_0 H locs ls l_p48_1 u_p48_1 l_p48_0 u_p48_0 hH hS hl
        refine lv_iload_n hx hb dJ6_numberOfLeadingZeros_0f7a4_48 rfl (lv_at hl 1 rfl) ?_
        refine lv_bipush (v := 16) hx hb dJ6_numberOfLeadingZeros_0f7a4_49 (by decide) ?_
        have J61 : ∀ (p61_1 : Int32) (p61_0 : Int32) (H : Heap) (locs : List Loc) (ls : Array Slot), (3 ≤ p61_1.toInt) → (p61_1.toInt ≤ 31) → (0 ≤ p61_0.toInt) → (p61_0.toInt ≤ 268435455) → HT D cs A T O X H → va_S A s.heap H locs → lv_has ls 2 [(1, .int p61_1), (0, .int p61_0)] → W p l e { frames := 0, cells := 0, slots := 0, locals := 0 } s m [.int x0].toArray below meth c H locs 0 0 (MQ below (Ti D cs (fun r u => u = (T, O, X) ∧ -2147483646 ≤ r.toInt ∧ r.toInt ≤ 32) A) [.int x0].toArray s 0 0 A) (F0 m 61 ls []) := by
          intro p61_1 p61_0 H locs ls l_p61_1 u_p61_1 l_p61_0 u_p61_0 hH hS hl
          refine lv_iload_n hx hb dJ6_numberOfLeadingZeros_0f7a4_61 rfl (lv_at hl 1 rfl) ?_
          refine lv_iconst (v := 4) hx hb dJ6_numberOfLeadingZeros_0f7a4_62 (by decide) ?_
          have J73 : ∀ (p73_1 : Int32) (p73_0 : Int32) (H : Heap) (locs : List Loc) (ls : Array Slot), (1 ≤ p73_1.toInt) → (p73_1.toInt ≤ 31) → (0 ≤ p73_0.toInt) → (p73_0.toInt ≤ 1073741823) → HT D cs A T O X H → va_S A s.heap H locs → lv_has ls 2 [(1, .int p73_1), (0, .int p73_0)] → W p l e { frames := 0, cells := 0, slots := 0, locals := 0 } s m [.int x0].toArray below meth c H locs 0 0 (MQ below (Ti D cs (fun r u => u = (T, O, X) ∧ -2147483646 ≤ r.toInt ∧ r.toInt ≤ 32) A) [.int x0].toArray s 0 0 A) (F0 m 73 ls []) := by
            intro p73_1 p73_0 H locs ls l_p73_1 u_p73_1 l_p73_0 u_p73_0 hH hS hl
            refine lv_iload_n hx hb dJ6_numberOfLeadingZeros_0f7a4_73 rfl (lv_at hl 0 rfl) ?_
            refine lv_iload_n hx hb dJ6_numberOfLeadingZeros_0f7a4_74 rfl (lv_at hl 1 rfl) ?_
            refine lv_iconst (v := 1) hx hb dJ6_numberOfLeadingZeros_0f7a4_75 (by decide) ?_
            refine lv_iushr hx hb dJ6_numberOfLeadingZeros_0f7a4_76 rfl ?_
            refine lv_topi (fun v76 ev76 => ?_)
            have tv76 : 0 ≤ v76.toInt ∧ v76.toInt < 2147483648 := by rw [ev76]; exact ushr_c 1 (by decide +kernel) (by decide) (by decide)
            refine lv_isub hx hb dJ6_numberOfLeadingZeros_0f7a4_77 ?_
            refine lv_topi (fun v77 ev77 => ?_)
            have tv77 : v77.toInt = p73_1.toInt - v76.toInt := by rw [ev77]; exact sub_i rfl rfl (by omega) (by omega)
            exact te_i hx hb hr hlocks hH hS (⟨rfl, by omega, by omega⟩) dJ6_numberOfLeadingZeros_0f7a4_78
          refine lv_icmp_lt (tgt := 73) hx hb dJ6_numberOfLeadingZeros_0f7a4_63 (by decide) (fun c63 => ?_) (fun c63 => ?_)
          · skip
            have tc63 := f_lt (k := 4) (by decide) c63
            exact J73 p61_1 p61_0 _ _ _ (by omega) (by omega) (by omega) (by omega) hH hS (lv_sub hl [0, 1] rfl)
          · skip
            have tc63 := f_nlt (k := 4) (by decide) c63
            obtain ⟨v66, ev66⟩ : ∃ y : Int32, y = p61_1 + (-2) := ⟨_, rfl⟩
            have tv66 : v66.toInt = p61_1.toInt + (-2) := by rw [ev66]; exact add_i rfl (by decide) (by omega) (by omega)
            refine lv_iinc (v := v66) (lv' := [(1, .int v66), (0, .int p61_0)]) hx hb dJ6_numberOfLeadingZeros_0f7a4_66 hl (k := 0) rfl (by rw [ev66]; rfl) (by decide) rfl (fun ls hl => ?_)
            refine lv_iload_n hx hb dJ6_numberOfLeadingZeros_0f7a4_69 rfl (lv_at hl 1 rfl) ?_
            refine lv_iconst (v := 2) hx hb dJ6_numberOfLeadingZeros_0f7a4_70 (by decide) ?_
            refine lv_iushr hx hb dJ6_numberOfLeadingZeros_0f7a4_71 rfl ?_
            refine lv_topi (fun v71 ev71 => ?_)
            have tv71 : 0 ≤ v71.toInt ∧ v71.toInt < 1073741824 := by rw [ev71]; exact ushr_c 2 (by decide +kernel) (by decide) (by decide)
            refine lv_istore_n (lv' := [(0, .int v71), (1, .int v66)]) hx hb dJ6_numberOfLeadingZeros_0f7a4_72 rfl hl (by decide) rfl (fun ls hl => ?_)
            exact J73 v66 v71 _ _ _ (by omega) (by omega) (by omega) (by omega) hH hS (lv_sub hl [1, 0] rfl)
        refine lv_icmp_lt (tgt := 61) hx hb dJ6_numberOfLeadingZeros_0f7a4_51 (by decide) (fun c51 => ?_) (fun c51 => ?_)
        · skip
          have tc51 := f_lt (k := 16) (by decide) c51
          exact J61 p48_1 p48_0 _ _ _ (by omega) (by omega) (by omega) (by omega) hH hS (lv_sub hl [0, 1] rfl)
        · skip
          have tc51 := f_nlt (k := 16) (by decide) c51
          obtain ⟨v54, ev54⟩ : ∃ y : Int32, y = p48_1 + (-4) := ⟨_, rfl⟩
          have tv54 : v54.toInt = p48_1.toInt + (-4) := by rw [ev54]; exact add_i rfl (by decide) (by omega) (by omega)
          refine lv_iinc (v := v54) (lv' := [(1, .int v54), (0, .int p48_0)]) hx hb dJ6_numberOfLeadingZeros_0f7a4_54 hl (k := 0) rfl (by rw [ev54]; rfl) (by decide) rfl (fun ls hl => ?_)
          refine lv_iload_n hx hb dJ6_numberOfLeadingZeros_0f7a4_57 rfl (lv_at hl 1 rfl) ?_
          refine lv_iconst (v := 4) hx hb dJ6_numberOfLeadingZeros_0f7a4_58 (by decide) ?_
          refine lv_iushr hx hb dJ6_numberOfLeadingZeros_0f7a4_59 rfl ?_
          refine lv_topi (fun v59 ev59 => ?_)
          have tv59 : 0 ≤ v59.toInt ∧ v59.toInt < 268435456 := by rw [ev59]; exact ushr_c 4 (by decide +kernel) (by decide) (by decide)
          refine lv_istore_n (lv' := [(0, .int v59), (1, .int v54)]) hx hb dJ6_numberOfLeadingZeros_0f7a4_60 rfl hl (by decide) rfl (fun ls hl => ?_)
          exact J61 v54 v59 _ _ _ (by omega) (by omega) (by omega) (by omega) hH hS (lv_sub hl [1, 0] rfl)
      refine lv_icmp_lt (tgt := 48) hx hb dJ6_numberOfLeadingZeros_0f7a4_37 (by decide) (fun c37 => ?_) (fun c37 => ?_)
      · skip
        have tc37 := f_lt (k := 256) (by decide) c37
        exact J48 p33_1 p33_0 _ _ _ (by omega) (by omega) (by omega) (by omega) hH hS (lv_sub hl [0, 1] rfl)
      · skip
        have tc37 := f_nlt (k := 256) (by decide) c37
        obtain ⟨v40, ev40⟩ : ∃ y : Int32, y = p33_1 + (-8) := ⟨_, rfl⟩
        have tv40 : v40.toInt = p33_1.toInt + (-8) := by rw [ev40]; exact add_i rfl (by decide) (by omega) (by omega)
        refine lv_iinc (v := v40) (lv' := [(1, .int v40), (0, .int p33_0)]) hx hb dJ6_numberOfLeadingZeros_0f7a4_40 hl (k := 0) rfl (by rw [ev40]; rfl) (by decide) rfl (fun ls hl => ?_)
        refine lv_iload_n hx hb dJ6_numberOfLeadingZeros_0f7a4_43 rfl (lv_at hl 1 rfl) ?_
        refine lv_bipush (v := 8) hx hb dJ6_numberOfLeadingZeros_0f7a4_44 (by decide) ?_
        refine lv_iushr hx hb dJ6_numberOfLeadingZeros_0f7a4_46 rfl ?_
        refine lv_topi (fun v46 ev46 => ?_)
        have tv46 : 0 ≤ v46.toInt ∧ v46.toInt < 16777216 := by rw [ev46]; exact ushr_c 8 (by decide +kernel) (by decide) (by decide)
        refine lv_istore_n (lv' := [(0, .int v46), (1, .int v40)]) hx hb dJ6_numberOfLeadingZeros_0f7a4_47 rfl hl (by decide) rfl (fun ls hl => ?_)
        exact J48 v40 v46 _ _ _ (by omega) (by omega) (by omega) (by omega) hH hS (lv_sub hl [1, 0] rfl)
    refine lv_icmp_lt (tgt := 33) hx hb dJ6_numberOfLeadingZeros_0f7a4_22 (by decide) (fun c22 => ?_) (fun c22 => ?_)
    · skip
      have tc22 := f_lt (k := 65536) (by decide) c22
      exact J33 31 x0 _ _ _ (by decide) (by decide) (by omega) (by omega) hH hS (lv_sub hl [0, 1] rfl)
    · skip
      have tc22 := f_nlt (k := 65536) (by decide) c22
      refine lv_iinc (v := 15) (lv' := [(1, .int 15), (0, .int x0)]) hx hb dJ6_numberOfLeadingZeros_0f7a4_25 hl (k := 0) rfl (by decide) (by decide) rfl (fun ls hl => ?_)
      refine lv_iload_n hx hb dJ6_numberOfLeadingZeros_0f7a4_28 rfl (lv_at hl 1 rfl) ?_
      refine lv_bipush (v := 16) hx hb dJ6_numberOfLeadingZeros_0f7a4_29 (by decide) ?_
      refine lv_iushr hx hb dJ6_numberOfLeadingZeros_0f7a4_31 rfl ?_
      refine lv_topi (fun v31 ev31 => ?_)
      have tv31 : 0 ≤ v31.toInt ∧ v31.toInt < 65536 := by rw [ev31]; exact ushr_c 16 (by decide +kernel) (by decide) (by decide)
      refine lv_istore_n (lv' := [(0, .int v31), (1, .int 15)]) hx hb dJ6_numberOfLeadingZeros_0f7a4_32 rfl hl (by decide) rfl (fun ls hl => ?_)
      exact J33 15 v31 _ _ _ (by decide) (by decide) (by omega) (by omega) hH hS (lv_sub hl [1, 0] rfl)
  · skip
    have tc1 := f_ngt (k := 0) (by decide) c1
    refine lv_iload_n hx hb dJ6_numberOfLeadingZeros_0f7a4_4 rfl (lv_at hl 0 rfl) ?_
    have J14 : ∀ (k14_0 : Int32) (H : Heap) (locs : List Loc) (ls : Array Slot), (0 ≤ k14_0.toInt) → (k14_0.toInt ≤ 32) → HT D cs A T O X H → va_S A s.heap H locs → lv_has ls 2 [] → W p l e { frames := 0, cells := 0, slots := 0, locals := 0 } s m [.int x0].toArray below meth c H locs 0 0 (MQ below (Ti D cs (fun r u => u = (T, O, X) ∧ -2147483646 ≤ r.toInt ∧ r.toInt ≤ 32) A) [.int x0].toArray s 0 0 A) (F0 m 14 ls [.int k14_0]) := by
      intro k14_0 H locs ls l_k14_0 u_k14_0 hH hS hl
      exact te_i hx hb hr hlocks hH hS (⟨rfl, by omega, by omega⟩) dJ6_numberOfLeadingZeros_0f7a4_14
    refine lv_if_ne (tgt := 13) hx hb dJ6_numberOfLeadingZeros_0f7a4_5 (by decide) (fun c5 => ?_) (fun c5 => ?_)
    · skip
      have tc5 := f_ne (k := 0) (by decide) c5
      refine lv_iconst (v := 0) hx hb dJ6_numberOfLeadingZeros_0f7a4_13 (by decide) ?_
      exact J14 0 _ _ _ (by decide) (by decide) hH hS (lv_sub hl [] rfl)
    · skip
      have tc5 := f_eq (k := 0) (by decide) c5
      refine lv_bipush (v := 32) hx hb dJ6_numberOfLeadingZeros_0f7a4_8 (by decide) ?_
      refine lv_goto (tgt := 14) hx hb dJ6_numberOfLeadingZeros_0f7a4_10 (by decide) ?_
      exact J14 32 _ _ _ (by decide) (by decide) hH hS (lv_sub hl [] rfl)
theorem dX6_breakDown_0 : decode cX6_breakDown 0 = .ok (.aload_n 0, 1) := by decide +kernel
theorem dX6_breakDown_1 : decode cX6_breakDown 1 = .ok (.getfield 9, 3) := by decide +kernel
theorem dX6_breakDown_4 : decode cX6_breakDown 4 = .ok (.iload_n 1, 1) := by decide +kernel
theorem dX6_breakDown_5 : decode cX6_breakDown 5 = .ok (.ishr, 1) := by decide +kernel
theorem dX6_breakDown_6 : decode cX6_breakDown 6 = .ok (.iconst 1, 1) := by decide +kernel
theorem dX6_breakDown_7 : decode cX6_breakDown 7 = .ok (.iand, 1) := by decide +kernel
theorem dX6_breakDown_8 : decode cX6_breakDown 8 = .ok (.istore_n 2, 1) := by decide +kernel
theorem dX6_breakDown_9 : decode cX6_breakDown 9 = .ok (.aload_n 0, 1) := by decide +kernel
theorem dX6_breakDown_10 : decode cX6_breakDown 10 = .ok (.dup, 1) := by decide +kernel
theorem dX6_breakDown_11 : decode cX6_breakDown 11 = .ok (.getfield 9, 3) := by decide +kernel
theorem dX6_breakDown_14 : decode cX6_breakDown 14 = .ok (.iconst 1, 1) := by decide +kernel
theorem dX6_breakDown_15 : decode cX6_breakDown 15 = .ok (.iload_n 1, 1) := by decide +kernel
theorem dX6_breakDown_16 : decode cX6_breakDown 16 = .ok (.ishl, 1) := by decide +kernel
theorem dX6_breakDown_17 : decode cX6_breakDown 17 = .ok (.iconst (-1), 1) := by decide +kernel
theorem dX6_breakDown_18 : decode cX6_breakDown 18 = .ok (.ixor, 1) := by decide +kernel
theorem dX6_breakDown_19 : decode cX6_breakDown 19 = .ok (.iand, 1) := by decide +kernel
theorem dX6_breakDown_20 : decode cX6_breakDown 20 = .ok (.putfield 9, 3) := by decide +kernel
theorem dX6_breakDown_23 : decode cX6_breakDown 23 = .ok (.aload_n 0, 1) := by decide +kernel
theorem dX6_breakDown_24 : decode cX6_breakDown 24 = .ok (.dup, 1) := by decide +kernel
theorem dX6_breakDown_25 : decode cX6_breakDown 25 = .ok (.getfield 15, 3) := by decide +kernel
theorem dX6_breakDown_28 : decode cX6_breakDown 28 = .ok (.iconst 1, 1) := by decide +kernel
theorem dX6_breakDown_29 : decode cX6_breakDown 29 = .ok (.iload_n 1, 1) := by decide +kernel
theorem dX6_breakDown_30 : decode cX6_breakDown 30 = .ok (.ishl, 1) := by decide +kernel
theorem dX6_breakDown_31 : decode cX6_breakDown 31 = .ok (.ior, 1) := by decide +kernel
theorem dX6_breakDown_32 : decode cX6_breakDown 32 = .ok (.putfield 15, 3) := by decide +kernel
theorem dX6_breakDown_35 : decode cX6_breakDown 35 = .ok (.iload_n 2, 1) := by decide +kernel
theorem dX6_breakDown_36 : decode cX6_breakDown 36 = .ok (.ireturn, 1) := by decide +kernel
theorem dX6_comeBack_0 : decode cX6_comeBack 0 = .ok (.iconst 0, 1) := by decide +kernel
theorem dX6_comeBack_1 : decode cX6_comeBack 1 = .ok (.istore_n 2, 1) := by decide +kernel
theorem dX6_comeBack_2 : decode cX6_comeBack 2 = .ok (.iconst 0, 1) := by decide +kernel
theorem dX6_comeBack_3 : decode cX6_comeBack 3 = .ok (.istore_n 3, 1) := by decide +kernel
theorem dX6_comeBack_4 : decode cX6_comeBack 4 = .ok (.iload_n 3, 1) := by decide +kernel
theorem dX6_comeBack_5 : decode cX6_comeBack 5 = .ok (.iload_n 1, 1) := by decide +kernel
theorem dX6_comeBack_6 : decode cX6_comeBack 6 = .ok (.if_icmp .ge 89, 3) := by decide +kernel
theorem dX6_comeBack_9 : decode cX6_comeBack 9 = .ok (.aload_n 0, 1) := by decide +kernel
theorem dX6_comeBack_10 : decode cX6_comeBack 10 = .ok (.getfield 9, 3) := by decide +kernel
theorem dX6_comeBack_13 : decode cX6_comeBack 13 = .ok (.ifCond .eq 82, 3) := by decide +kernel
theorem dX6_comeBack_16 : decode cX6_comeBack 16 = .ok (.iconst (-1), 1) := by decide +kernel
theorem dX6_comeBack_17 : decode cX6_comeBack 17 = .ok (.istore 4, 2) := by decide +kernel
theorem dX6_comeBack_19 : decode cX6_comeBack 19 = .ok (.iconst 0, 1) := by decide +kernel
theorem dX6_comeBack_20 : decode cX6_comeBack 20 = .ok (.istore 5, 2) := by decide +kernel
theorem dX6_comeBack_22 : decode cX6_comeBack 22 = .ok (.iload 5, 2) := by decide +kernel
theorem dX6_comeBack_24 : decode cX6_comeBack 24 = .ok (.bipush 14, 2) := by decide +kernel
theorem dX6_comeBack_26 : decode cX6_comeBack 26 = .ok (.if_icmp .ge 45, 3) := by decide +kernel
theorem dX6_comeBack_29 : decode cX6_comeBack 29 = .ok (.aload_n 0, 1) := by decide +kernel
theorem dX6_comeBack_30 : decode cX6_comeBack 30 = .ok (.iload 5, 2) := by decide +kernel
theorem dX6_comeBack_32 : decode cX6_comeBack 32 = .ok (.invokevirtual 37, 3) := by decide +kernel
theorem dX6_comeBack_35 : decode cX6_comeBack 35 = .ok (.ifCond .eq 30, 3) := by decide +kernel
theorem dX6_comeBack_38 : decode cX6_comeBack 38 = .ok (.iload 4, 2) := by decide +kernel
theorem dX6_comeBack_40 : decode cX6_comeBack 40 = .ok (.iconst (-1), 1) := by decide +kernel
theorem dX6_comeBack_41 : decode cX6_comeBack 41 = .ok (.if_icmp .eq 20, 3) := by decide +kernel
theorem dX6_comeBack_44 : decode cX6_comeBack 44 = .ok (.aload_n 0, 1) := by decide +kernel
theorem dX6_comeBack_45 : decode cX6_comeBack 45 = .ok (.getfield 28, 3) := by decide +kernel
theorem dX6_comeBack_48 : decode cX6_comeBack 48 = .ok (.iload 5, 2) := by decide +kernel
theorem dX6_comeBack_50 : decode cX6_comeBack 50 = .ok (.iaload, 1) := by decide +kernel
theorem dX6_comeBack_51 : decode cX6_comeBack 51 = .ok (.aload_n 0, 1) := by decide +kernel
theorem dX6_comeBack_52 : decode cX6_comeBack 52 = .ok (.getfield 28, 3) := by decide +kernel
theorem dX6_comeBack_55 : decode cX6_comeBack 55 = .ok (.iload 4, 2) := by decide +kernel
theorem dX6_comeBack_57 : decode cX6_comeBack 57 = .ok (.iaload, 1) := by decide +kernel
theorem dX6_comeBack_58 : decode cX6_comeBack 58 = .ok (.if_icmp .ge 7, 3) := by decide +kernel
theorem dX6_comeBack_61 : decode cX6_comeBack 61 = .ok (.iload 5, 2) := by decide +kernel
theorem dX6_comeBack_63 : decode cX6_comeBack 63 = .ok (.istore 4, 2) := by decide +kernel
theorem dX6_comeBack_65 : decode cX6_comeBack 65 = .ok (.iinc 5 1, 3) := by decide +kernel
theorem dX6_comeBack_68 : decode cX6_comeBack 68 = .ok (.goto (-46), 3) := by decide +kernel
theorem dX6_comeBack_71 : decode cX6_comeBack 71 = .ok (.aload_n 0, 1) := by decide +kernel
theorem dX6_comeBack_72 : decode cX6_comeBack 72 = .ok (.dup, 1) := by decide +kernel
theorem dX6_comeBack_73 : decode cX6_comeBack 73 = .ok (.getfield 9, 3) := by decide +kernel
theorem dX6_comeBack_76 : decode cX6_comeBack 76 = .ok (.iconst 1, 1) := by decide +kernel
theorem dX6_comeBack_77 : decode cX6_comeBack 77 = .ok (.iload 4, 2) := by decide +kernel
theorem dX6_comeBack_79 : decode cX6_comeBack 79 = .ok (.ishl, 1) := by decide +kernel
theorem dX6_comeBack_80 : decode cX6_comeBack 80 = .ok (.iconst (-1), 1) := by decide +kernel
theorem dX6_comeBack_81 : decode cX6_comeBack 81 = .ok (.ixor, 1) := by decide +kernel
theorem dX6_comeBack_82 : decode cX6_comeBack 82 = .ok (.iand, 1) := by decide +kernel
theorem dX6_comeBack_83 : decode cX6_comeBack 83 = .ok (.putfield 9, 3) := by decide +kernel
theorem dX6_comeBack_86 : decode cX6_comeBack 86 = .ok (.iinc 2 1, 3) := by decide +kernel
theorem dX6_comeBack_89 : decode cX6_comeBack 89 = .ok (.iinc 3 1, 3) := by decide +kernel
theorem dX6_comeBack_92 : decode cX6_comeBack 92 = .ok (.goto (-88), 3) := by decide +kernel
theorem dX6_comeBack_95 : decode cX6_comeBack 95 = .ok (.iload_n 2, 1) := by decide +kernel
theorem dX6_comeBack_96 : decode cX6_comeBack 96 = .ok (.ireturn, 1) := by decide +kernel
theorem dX6_forget_0 : decode cX6_forget 0 = .ok (.aload_n 0, 1) := by decide +kernel
theorem dX6_forget_1 : decode cX6_forget 1 = .ok (.iconst 0, 1) := by decide +kernel
theorem dX6_forget_2 : decode cX6_forget 2 = .ok (.putfield 9, 3) := by decide +kernel
theorem dX6_forget_5 : decode cX6_forget 5 = .ok (.aload_n 0, 1) := by decide +kernel
theorem dX6_forget_6 : decode cX6_forget 6 = .ok (.iconst 0, 1) := by decide +kernel
theorem dX6_forget_7 : decode cX6_forget 7 = .ok (.putfield 15, 3) := by decide +kernel
theorem dX6_forget_10 : decode cX6_forget 10 = .ok (.aload_n 0, 1) := by decide +kernel
theorem dX6_forget_11 : decode cX6_forget 11 = .ok (.iconst 0, 1) := by decide +kernel
theorem dX6_forget_12 : decode cX6_forget 12 = .ok (.putfield 18, 3) := by decide +kernel
theorem dX6_forget_15 : decode cX6_forget 15 = .ok (.aload_n 0, 1) := by decide +kernel
theorem dX6_forget_16 : decode cX6_forget 16 = .ok (.iconst 0, 1) := by decide +kernel
theorem dX6_forget_17 : decode cX6_forget 17 = .ok (.putfield 21, 3) := by decide +kernel
theorem dX6_forget_20 : decode cX6_forget 20 = .ok (.return_, 1) := by decide +kernel
theorem dX6_isUsed_0 : decode cX6_isUsed 0 = .ok (.aload_n 0, 1) := by decide +kernel
theorem dX6_isUsed_1 : decode cX6_isUsed 1 = .ok (.getfield 9, 3) := by decide +kernel
theorem dX6_isUsed_4 : decode cX6_isUsed 4 = .ok (.iload_n 1, 1) := by decide +kernel
theorem dX6_isUsed_5 : decode cX6_isUsed 5 = .ok (.ishr, 1) := by decide +kernel
theorem dX6_isUsed_6 : decode cX6_isUsed 6 = .ok (.iconst 1, 1) := by decide +kernel
theorem dX6_isUsed_7 : decode cX6_isUsed 7 = .ok (.iand, 1) := by decide +kernel
theorem dX6_isUsed_8 : decode cX6_isUsed 8 = .ok (.ifCond .eq 7, 3) := by decide +kernel
theorem dX6_isUsed_11 : decode cX6_isUsed 11 = .ok (.iconst 1, 1) := by decide +kernel
theorem dX6_isUsed_12 : decode cX6_isUsed 12 = .ok (.goto 4, 3) := by decide +kernel
theorem dX6_isUsed_15 : decode cX6_isUsed 15 = .ok (.iconst 0, 1) := by decide +kernel
theorem dX6_isUsed_16 : decode cX6_isUsed 16 = .ok (.ireturn, 1) := by decide +kernel
theorem dX6_take_0 : decode cX6_take 0 = .ok (.aload_n 0, 1) := by decide +kernel
theorem dX6_take_1 : decode cX6_take 1 = .ok (.aload_n 1, 1) := by decide +kernel
theorem dX6_take_2 : decode cX6_take 2 = .ok (.getfield 9, 3) := by decide +kernel
theorem dX6_take_5 : decode cX6_take 5 = .ok (.putfield 9, 3) := by decide +kernel
theorem dX6_take_8 : decode cX6_take 8 = .ok (.aload_n 0, 1) := by decide +kernel
theorem dX6_take_9 : decode cX6_take 9 = .ok (.aload_n 1, 1) := by decide +kernel
theorem dX6_take_10 : decode cX6_take 10 = .ok (.getfield 15, 3) := by decide +kernel
theorem dX6_take_13 : decode cX6_take 13 = .ok (.putfield 15, 3) := by decide +kernel
theorem dX6_take_16 : decode cX6_take 16 = .ok (.aload_n 0, 1) := by decide +kernel
theorem dX6_take_17 : decode cX6_take 17 = .ok (.aload_n 1, 1) := by decide +kernel
theorem dX6_take_18 : decode cX6_take 18 = .ok (.getfield 18, 3) := by decide +kernel
theorem dX6_take_21 : decode cX6_take 21 = .ok (.putfield 18, 3) := by decide +kernel
theorem dX6_take_24 : decode cX6_take 24 = .ok (.aload_n 0, 1) := by decide +kernel
theorem dX6_take_25 : decode cX6_take 25 = .ok (.aload_n 1, 1) := by decide +kernel
theorem dX6_take_26 : decode cX6_take 26 = .ok (.getfield 21, 3) := by decide +kernel
theorem dX6_take_29 : decode cX6_take 29 = .ok (.putfield 21, 3) := by decide +kernel
theorem dX6_take_32 : decode cX6_take 32 = .ok (.aload_n 1, 1) := by decide +kernel
theorem dX6_take_33 : decode cX6_take 33 = .ok (.getfield 24, 3) := by decide +kernel
theorem dX6_take_36 : decode cX6_take 36 = .ok (.iconst 0, 1) := by decide +kernel
theorem dX6_take_37 : decode cX6_take 37 = .ok (.aload_n 0, 1) := by decide +kernel
theorem dX6_take_38 : decode cX6_take 38 = .ok (.getfield 24, 3) := by decide +kernel
theorem dX6_take_41 : decode cX6_take 41 = .ok (.iconst 0, 1) := by decide +kernel
theorem dX6_take_42 : decode cX6_take 42 = .ok (.bipush 14, 2) := by decide +kernel
theorem dX6_take_44 : decode cX6_take 44 = .ok (.invokestatic 31, 3) := by decide +kernel
theorem dX6_take_47 : decode cX6_take 47 = .ok (.aload_n 1, 1) := by decide +kernel
theorem dX6_take_48 : decode cX6_take 48 = .ok (.getfield 28, 3) := by decide +kernel
theorem dX6_take_51 : decode cX6_take 51 = .ok (.iconst 0, 1) := by decide +kernel
theorem dX6_take_52 : decode cX6_take 52 = .ok (.aload_n 0, 1) := by decide +kernel
theorem dX6_take_53 : decode cX6_take 53 = .ok (.getfield 28, 3) := by decide +kernel
theorem dX6_take_56 : decode cX6_take 56 = .ok (.iconst 0, 1) := by decide +kernel
theorem dX6_take_57 : decode cX6_take 57 = .ok (.bipush 14, 2) := by decide +kernel
theorem dX6_take_59 : decode cX6_take 59 = .ok (.invokestatic 31, 3) := by decide +kernel
theorem dX6_take_62 : decode cX6_take 62 = .ok (.return_, 1) := by decide +kernel
theorem dX6_use_0 : decode cX6_use 0 = .ok (.iconst 0, 1) := by decide +kernel
theorem dX6_use_1 : decode cX6_use 1 = .ok (.istore_n 3, 1) := by decide +kernel
theorem dX6_use_2 : decode cX6_use 2 = .ok (.iload_n 3, 1) := by decide +kernel
theorem dX6_use_3 : decode cX6_use 3 = .ok (.bipush 14, 2) := by decide +kernel
theorem dX6_use_5 : decode cX6_use 5 = .ok (.if_icmp .ge 34, 3) := by decide +kernel
theorem dX6_use_8 : decode cX6_use 8 = .ok (.iload_n 1, 1) := by decide +kernel
theorem dX6_use_9 : decode cX6_use 9 = .ok (.iload_n 3, 1) := by decide +kernel
theorem dX6_use_10 : decode cX6_use 10 = .ok (.ishr, 1) := by decide +kernel
theorem dX6_use_11 : decode cX6_use 11 = .ok (.iconst 1, 1) := by decide +kernel
theorem dX6_use_12 : decode cX6_use 12 = .ok (.iand, 1) := by decide +kernel
theorem dX6_use_13 : decode cX6_use 13 = .ok (.ifCond .eq 20, 3) := by decide +kernel
theorem dX6_use_16 : decode cX6_use 16 = .ok (.aload_n 0, 1) := by decide +kernel
theorem dX6_use_17 : decode cX6_use 17 = .ok (.getfield 24, 3) := by decide +kernel
theorem dX6_use_20 : decode cX6_use 20 = .ok (.iload_n 3, 1) := by decide +kernel
theorem dX6_use_21 : decode cX6_use 21 = .ok (.iload_n 2, 1) := by decide +kernel
theorem dX6_use_22 : decode cX6_use 22 = .ok (.iastore, 1) := by decide +kernel
theorem dX6_use_23 : decode cX6_use 23 = .ok (.aload_n 0, 1) := by decide +kernel
theorem dX6_use_24 : decode cX6_use 24 = .ok (.getfield 28, 3) := by decide +kernel
theorem dX6_use_27 : decode cX6_use 27 = .ok (.iload_n 3, 1) := by decide +kernel
theorem dX6_use_28 : decode cX6_use 28 = .ok (.aload_n 0, 1) := by decide +kernel
theorem dX6_use_29 : decode cX6_use 29 = .ok (.getfield 18, 3) := by decide +kernel
theorem dX6_use_32 : decode cX6_use 32 = .ok (.iastore, 1) := by decide +kernel
theorem dX6_use_33 : decode cX6_use 33 = .ok (.iinc 3 1, 3) := by decide +kernel
theorem dX6_use_36 : decode cX6_use 36 = .ok (.goto (-34), 3) := by decide +kernel
theorem dX6_use_39 : decode cX6_use 39 = .ok (.aload_n 0, 1) := by decide +kernel
theorem dX6_use_40 : decode cX6_use 40 = .ok (.dup, 1) := by decide +kernel
theorem dX6_use_41 : decode cX6_use 41 = .ok (.getfield 9, 3) := by decide +kernel
theorem dX6_use_44 : decode cX6_use 44 = .ok (.iload_n 1, 1) := by decide +kernel
theorem dX6_use_45 : decode cX6_use 45 = .ok (.ior, 1) := by decide +kernel
theorem dX6_use_46 : decode cX6_use 46 = .ok (.putfield 9, 3) := by decide +kernel
theorem dX6_use_49 : decode cX6_use 49 = .ok (.iload_n 1, 1) := by decide +kernel
theorem dX6_use_50 : decode cX6_use 50 = .ok (.invokestatic 41, 3) := by decide +kernel
theorem dX6_use_53 : decode cX6_use 53 = .ok (.ireturn, 1) := by decide +kernel
theorem dX6_useSinceToday_0 : decode cX6_useSinceToday 0 = .ok (.iconst 0, 1) := by decide +kernel
theorem dX6_useSinceToday_1 : decode cX6_useSinceToday 1 = .ok (.istore_n 1, 1) := by decide +kernel
theorem dX6_useSinceToday_2 : decode cX6_useSinceToday 2 = .ok (.iload_n 1, 1) := by decide +kernel
theorem dX6_useSinceToday_3 : decode cX6_useSinceToday 3 = .ok (.bipush 14, 2) := by decide +kernel
theorem dX6_useSinceToday_5 : decode cX6_useSinceToday 5 = .ok (.if_icmp .ge 19, 3) := by decide +kernel
theorem dX6_useSinceToday_8 : decode cX6_useSinceToday 8 = .ok (.aload_n 0, 1) := by decide +kernel
theorem dX6_useSinceToday_9 : decode cX6_useSinceToday 9 = .ok (.getfield 28, 3) := by decide +kernel
theorem dX6_useSinceToday_12 : decode cX6_useSinceToday 12 = .ok (.iload_n 1, 1) := by decide +kernel
theorem dX6_useSinceToday_13 : decode cX6_useSinceToday 13 = .ok (.aload_n 0, 1) := by decide +kernel
theorem dX6_useSinceToday_14 : decode cX6_useSinceToday 14 = .ok (.getfield 18, 3) := by decide +kernel
theorem dX6_useSinceToday_17 : decode cX6_useSinceToday 17 = .ok (.iastore, 1) := by decide +kernel
theorem dX6_useSinceToday_18 : decode cX6_useSinceToday 18 = .ok (.iinc 1 1, 3) := by decide +kernel
theorem dX6_useSinceToday_21 : decode cX6_useSinceToday 21 = .ok (.goto (-19), 3) := by decide +kernel
theorem dX6_useSinceToday_24 : decode cX6_useSinceToday 24 = .ok (.return_, 1) := by decide +kernel
theorem dX6_usedBy_0 : decode cX6_usedBy 0 = .ok (.iconst 0, 1) := by decide +kernel
theorem dX6_usedBy_1 : decode cX6_usedBy 1 = .ok (.istore_n 2, 1) := by decide +kernel
theorem dX6_usedBy_2 : decode cX6_usedBy 2 = .ok (.iconst 0, 1) := by decide +kernel
theorem dX6_usedBy_3 : decode cX6_usedBy 3 = .ok (.istore_n 3, 1) := by decide +kernel
theorem dX6_usedBy_4 : decode cX6_usedBy 4 = .ok (.iload_n 3, 1) := by decide +kernel
theorem dX6_usedBy_5 : decode cX6_usedBy 5 = .ok (.bipush 14, 2) := by decide +kernel
theorem dX6_usedBy_7 : decode cX6_usedBy 7 = .ok (.if_icmp .ge 33, 3) := by decide +kernel
theorem dX6_usedBy_10 : decode cX6_usedBy 10 = .ok (.aload_n 0, 1) := by decide +kernel
theorem dX6_usedBy_11 : decode cX6_usedBy 11 = .ok (.iload_n 3, 1) := by decide +kernel
theorem dX6_usedBy_12 : decode cX6_usedBy 12 = .ok (.invokevirtual 37, 3) := by decide +kernel
theorem dX6_usedBy_15 : decode cX6_usedBy 15 = .ok (.ifCond .eq 19, 3) := by decide +kernel
theorem dX6_usedBy_18 : decode cX6_usedBy 18 = .ok (.aload_n 0, 1) := by decide +kernel
theorem dX6_usedBy_19 : decode cX6_usedBy 19 = .ok (.getfield 24, 3) := by decide +kernel
theorem dX6_usedBy_22 : decode cX6_usedBy 22 = .ok (.iload_n 3, 1) := by decide +kernel
theorem dX6_usedBy_23 : decode cX6_usedBy 23 = .ok (.iaload, 1) := by decide +kernel
theorem dX6_usedBy_24 : decode cX6_usedBy 24 = .ok (.iload_n 1, 1) := by decide +kernel
theorem dX6_usedBy_25 : decode cX6_usedBy 25 = .ok (.if_icmp .ne 9, 3) := by decide +kernel
theorem dX6_usedBy_28 : decode cX6_usedBy 28 = .ok (.iload_n 2, 1) := by decide +kernel
theorem dX6_usedBy_29 : decode cX6_usedBy 29 = .ok (.iconst 1, 1) := by decide +kernel
theorem dX6_usedBy_30 : decode cX6_usedBy 30 = .ok (.iload_n 3, 1) := by decide +kernel
theorem dX6_usedBy_31 : decode cX6_usedBy 31 = .ok (.ishl, 1) := by decide +kernel
theorem dX6_usedBy_32 : decode cX6_usedBy 32 = .ok (.ior, 1) := by decide +kernel
theorem dX6_usedBy_33 : decode cX6_usedBy 33 = .ok (.istore_n 2, 1) := by decide +kernel
theorem dX6_usedBy_34 : decode cX6_usedBy 34 = .ok (.iinc 3 1, 3) := by decide +kernel
theorem dX6_usedBy_37 : decode cX6_usedBy 37 = .ok (.goto (-33), 3) := by decide +kernel
theorem dX6_usedBy_40 : decode cX6_usedBy 40 = .ok (.iload_n 2, 1) := by decide +kernel
theorem dX6_usedBy_41 : decode cX6_usedBy 41 = .ok (.ireturn, 1) := by decide +kernel
theorem kw_7 : Cond.initialized "FootholdWall$State" ∈ gw := gw_of (tb_of 7 (by decide +kernel)) (by decide +kernel)
theorem kw_20 : Cond.initialized "java/lang/Integer" ∈ gw := gw_of (tb_of 20 (by decide +kernel)) (by decide +kernel)
theorem kw_23 : Cond.initialized "java/lang/System" ∈ gw := gw_of (tb_of 23 (by decide +kernel)) (by decide +kernel)
theorem kw_185 : Cond.fieldLink "FootholdWall$State" 9 "FootholdWall$State" "used" "I" ∈ gw := gw_of (tb_of 185 (by decide +kernel)) (by decide +kernel)
theorem kw_187 : Cond.fieldLink "FootholdWall$State" 15 "FootholdWall$State" "broken" "I" ∈ gw := gw_of (tb_of 187 (by decide +kernel)) (by decide +kernel)
theorem kw_189 : Cond.fieldLink "FootholdWall$State" 18 "FootholdWall$State" "day" "I" ∈ gw := gw_of (tb_of 189 (by decide +kernel)) (by decide +kernel)
theorem kw_192 : Cond.fieldLink "FootholdWall$State" 21 "FootholdWall$State" "years" "I" ∈ gw := gw_of (tb_of 192 (by decide +kernel)) (by decide +kernel)
theorem kw_194 : Cond.fieldLink "FootholdWall$State" 24 "FootholdWall$State" "by" "[I" ∈ gw := gw_of (tb_of 194 (by decide +kernel)) (by decide +kernel)
theorem kw_196 : Cond.fieldLink "FootholdWall$State" 28 "FootholdWall$State" "since" "[I" ∈ gw := gw_of (tb_of 196 (by decide +kernel)) (by decide +kernel)
theorem kw_691 : Cond.methodLink "FootholdWall$State" 41 yJ6_bitCount_0f7a4 ∈ gw := gw_of (tb_of 691 (by decide +kernel)) (by decide +kernel)
theorem kw_692 : Cond.static yJ6_bitCount_0f7a4 ∈ gw := gw_of (tb_of 692 (by decide +kernel)) (by decide +kernel)
theorem kw_693 : Cond.code yJ6_bitCount_0f7a4 cJ6_bitCount_0f7a4 1 (some (.int)) ∈ gw := gw_of (tb_of 693 (by decide +kernel)) (by decide +kernel)
theorem kw_733 : Cond.static arraycopyName ∈ gw := gw_of (tb_of 733 (by decide +kernel)) (by decide +kernel)
theorem kw_734 : Cond.native arraycopyName ∈ gw := gw_of (tb_of 734 (by decide +kernel)) (by decide +kernel)
theorem kw_761 : Cond.methodLink "FootholdWall$State" 31 arraycopyName ∈ gw := gw_of (tb_of 761 (by decide +kernel)) (by decide +kernel)
theorem kw_787 : Cond.instanceMethod yX6_isUsed ∈ gw := gw_of (tb_of 787 (by decide +kernel)) (by decide +kernel)
theorem kw_788 : Cond.selects "FootholdWall$State" yX6_isUsed yX6_isUsed ∈ gw := gw_of (tb_of 788 (by decide +kernel)) (by decide +kernel)
theorem kw_789 : Cond.code yX6_isUsed cX6_isUsed 2 (some (.boolean)) ∈ gw := gw_of (tb_of 789 (by decide +kernel)) (by decide +kernel)
theorem kw_802 : Cond.methodLink "FootholdWall$State" 37 yX6_isUsed ∈ gw := gw_of (tb_of 802 (by decide +kernel)) (by decide +kernel)
set_option maxHeartbeats 4000000 in
set_option maxRecDepth 100000 in
theorem s_State_forget (l : Launch) (D : va_G) (cs : CS) (kf : KF) (T : TF) (O : List Nat) (X : va_W) (a0 : Nat) (t_a0 : T a0 = some (16, 0, 0)) (hO : okO T O [16]) : TK l D cs kf yX6_forget cX6_forget 1 none { frames := 0, cells := 0, slots := 0, locals := 0 } [.ref a0] T O X (Tv D cs (fun u => u = (T, O, X))) := by
  refine tk_of (by decide) (Nat.le_of_ble_eq_true rfl) (fun p e s m below meth c ls A H locs hx hb hr hml hown hts hlocks hnm hkb hH hS hA hOX hks hE hl => ?_)
  have hown : s.vm.findClass RX6 = some m.cls := hown
  have hl : lv_has ls 1 [(0, .ref a0)] := hl
  refine lv_aload_n hx hb dX6_forget_0 rfl (lv_at hl 0 rfl) ?_
  refine lv_iconst (v := 0) hx hb dX6_forget_1 (by decide) ?_
  refine t_put (ci := 6) (lst := ft6 0 0) (v := .int 0) (ty := tyX6 0) (C := RX6) (F := TX6) (N := 6) hx hb hts uX6 tyX6 tyX6_ok nmX6 hown hkb hH hS t_a0 (hO.no t_a0 (by decide)) (fun _ => Iff.rfl) rfl rfl 0 (by decide) rfl (⟨_, rfl⟩) kw_185 (fun _ h9 => h9) rfl (tyX6_ok 0 (by decide)) rfl rfl dX6_forget_2 (fun H locs hH hS => ?_)
  refine lv_aload_n hx hb dX6_forget_5 rfl (lv_at hl 0 rfl) ?_
  refine lv_iconst (v := 0) hx hb dX6_forget_6 (by decide) ?_
  refine t_put (ci := 6) (lst := ft6 0 0) (v := .int 0) (ty := tyX6 1) (C := RX6) (F := TX6) (N := 6) hx hb hts uX6 tyX6 tyX6_ok nmX6 hown hkb hH hS t_a0 (hO.no t_a0 (by decide)) (fun _ => Iff.rfl) rfl rfl 1 (by decide) rfl (⟨_, rfl⟩) kw_187 (fun _ h9 => h9) rfl (tyX6_ok 1 (by decide)) rfl rfl dX6_forget_7 (fun H locs hH hS => ?_)
  refine lv_aload_n hx hb dX6_forget_10 rfl (lv_at hl 0 rfl) ?_
  refine lv_iconst (v := 0) hx hb dX6_forget_11 (by decide) ?_
  refine t_put (ci := 6) (lst := ft6 0 0) (v := .int 0) (ty := tyX6 2) (C := RX6) (F := TX6) (N := 6) hx hb hts uX6 tyX6 tyX6_ok nmX6 hown hkb hH hS t_a0 (hO.no t_a0 (by decide)) (fun _ => Iff.rfl) rfl rfl 2 (by decide) rfl (⟨_, rfl⟩) kw_189 (fun _ h9 => h9) rfl (tyX6_ok 2 (by decide)) rfl rfl dX6_forget_12 (fun H locs hH hS => ?_)
  refine lv_aload_n hx hb dX6_forget_15 rfl (lv_at hl 0 rfl) ?_
  refine lv_iconst (v := 0) hx hb dX6_forget_16 (by decide) ?_
  refine t_put (ci := 6) (lst := ft6 0 0) (v := .int 0) (ty := tyX6 3) (C := RX6) (F := TX6) (N := 6) hx hb hts uX6 tyX6 tyX6_ok nmX6 hown hkb hH hS t_a0 (hO.no t_a0 (by decide)) (fun _ => Iff.rfl) rfl rfl 3 (by decide) rfl (⟨_, rfl⟩) kw_192 (fun _ h9 => h9) rfl (tyX6_ok 3 (by decide)) rfl rfl dX6_forget_17 (fun H locs hH hS => ?_)
  exact te_v hx hb hr hlocks hH hS rfl dX6_forget_20
set_option maxHeartbeats 4000000 in
set_option maxRecDepth 100000 in
theorem s_State_useSinceToday (l : Launch) (D : va_G) (cs : CS) (kf : KF) (T : TF) (O : List Nat) (X : va_W) (a0 : Nat) (t_a0 : T a0 = some (16, 0, 0)) (hO : okO T O [1, 16]) : TK l D cs kf yX6_useSinceToday cX6_useSinceToday 2 none { frames := 0, cells := 0, slots := 0, locals := 0 } [.ref a0] T O X (Tv D cs (fun u => u = (T, O, X))) := by
  refine tk_of (by decide) (Nat.le_of_ble_eq_true rfl) (fun p e s m below meth c ls A H locs hx hb hr hml hown hts hlocks hnm hkb hH hS hA hOX hks hE hl => ?_)
  have hown : s.vm.findClass RX6 = some m.cls := hown
  have hl : lv_has ls 2 [(0, .ref a0)] := hl
  refine lv_iconst (v := 0) hx hb dX6_useSinceToday_0 (by decide) ?_
  have J2 : ∀ (n : Nat) (p2_1 : Int32) (H : Heap) (locs : List Loc) (ls : Array Slot), (14 - p2_1.toInt).toNat = n → (0 ≤ p2_1.toInt) → (p2_1.toInt ≤ 14) → HT D cs A T O X H → va_S A s.heap H locs → lv_has ls 2 [(1, .int p2_1), (0, .ref a0)] → W p l e { frames := 0, cells := 0, slots := 0, locals := 0 } s m [.ref a0].toArray below meth c H locs 0 0 (MQ below (Tv D cs (fun u => u = (T, O, X)) A) [.ref a0].toArray s 0 0 A) (F0 m 2 ls []) := by
    intro n
    induction n using Nat.strongRecOn with
    | _ n ih2 =>
      intro p2_1 H locs ls hm2 l_p2_1 u_p2_1 hH hS hl
      refine lv_iload_n hx hb dX6_useSinceToday_2 rfl (lv_at hl 0 rfl) ?_
      refine lv_bipush (v := 14) hx hb dX6_useSinceToday_3 (by decide) ?_
      refine lv_icmp_ge (tgt := 24) hx hb dX6_useSinceToday_5 (by decide) (fun c5 => ?_) (fun c5 => ?_)
      · skip
        have tc5 := f_ge (k := 14) (by decide) c5
        exact te_v hx hb hr hlocks hH hS rfl dX6_useSinceToday_24
      · skip
        have tc5 := f_nge (k := 14) (by decide) c5
        refine lv_aload_n hx hb dX6_useSinceToday_8 rfl (lv_at hl 1 rfl) ?_
        refine t_get (ci := 6) (lst := ft6 0 0) (C := RX6) (F := TX6) (N := 6) hx hb hts uX6 hown hkb hH t_a0 (hO.no t_a0 (by decide)) (fun _ h9 => h9) rfl rfl 5 (by decide) rfl kw_196 (fun _ h9 => h9) dX6_useSinceToday_9 (fun v9 h9 => ?_)
        obtain ⟨v9, rfl, t_v9⟩ := h9
        refine lv_iload_n hx hb dX6_useSinceToday_12 rfl (lv_at hl 0 rfl) ?_
        refine lv_aload_n hx hb dX6_useSinceToday_13 rfl (lv_at hl 1 rfl) ?_
        refine t_get (ci := 6) (lst := ft6 0 0) (C := RX6) (F := TX6) (N := 6) hx hb hts uX6 hown hkb hH t_a0 (hO.no t_a0 (by decide)) (fun _ h9 => h9) rfl rfl 2 (by decide) rfl kw_189 (fun _ h9 => h9) dX6_useSinceToday_14 (fun v9 h9 => ?_)
        obtain ⟨v14, rfl⟩ := h9
        refine t_ist hx hb hkb hH hS t_v9 (hO.no t_v9 (by decide)) (by omega) (by omega) (cp_0 _) dX6_useSinceToday_17 (fun H locs hH hS => ?_)
        obtain ⟨v18, ev18⟩ : ∃ y : Int32, y = p2_1 + 1 := ⟨_, rfl⟩
        have tv18 : v18.toInt = p2_1.toInt + (1) := by rw [ev18]; exact add_i rfl (by decide) (by omega) (by omega)
        refine lv_iinc (v := v18) (lv' := [(1, .int v18), (0, .ref a0)]) hx hb dX6_useSinceToday_18 hl (k := 0) rfl (by rw [ev18]; rfl) (by decide) rfl (fun ls hl => ?_)
        refine lv_goto (tgt := 2) hx hb dX6_useSinceToday_21 (by decide) ?_
        exact ih2 _ (by omega) v18 _ _ _ rfl (by omega) (by omega) hH hS (lv_sub hl [0, 1] rfl)
  refine lv_istore_n (lv' := [(1, .int 0), (0, .ref a0)]) hx hb dX6_useSinceToday_1 rfl hl (by decide) rfl (fun ls hl => ?_)
  exact J2 _ 0 _ _ _ rfl (by decide) (by decide) hH hS (lv_sub hl [0, 1] rfl)
set_option maxHeartbeats 4000000 in
set_option maxRecDepth 100000 in
theorem s_State_isUsed (l : Launch) (D : va_G) (cs : CS) (kf : KF) (T : TF) (O : List Nat) (X : va_W) (a0 : Nat) (x1 : Int32) (t_a0 : T a0 = some (16, 0, 0)) (hO : okO T O [16]) : TK l D cs kf yX6_isUsed cX6_isUsed 2 (some (.boolean)) { frames := 0, cells := 0, slots := 0, locals := 0 } [.ref a0, .int x1] T O X (Ti D cs (fun r u => u = (T, O, X) ∧ 0 ≤ r.toInt ∧ r.toInt ≤ 1)) := by
  refine tk_of (by decide) (Nat.le_of_ble_eq_true rfl) (fun p e s m below meth c ls A H locs hx hb hr hml hown hts hlocks hnm hkb hH hS hA hOX hks hE hl => ?_)
  have hown : s.vm.findClass RX6 = some m.cls := hown
  have hl : lv_has ls 2 [(0, .ref a0), (1, .int x1)] := hl
  refine lv_aload_n hx hb dX6_isUsed_0 rfl (lv_at hl 0 rfl) ?_
  refine t_get (ci := 6) (lst := ft6 0 0) (C := RX6) (F := TX6) (N := 6) hx hb hts uX6 hown hkb hH t_a0 (hO.no t_a0 (by decide)) (fun _ h9 => h9) rfl rfl 0 (by decide) rfl kw_185 (fun _ h9 => h9) dX6_isUsed_1 (fun v9 h9 => ?_)
  obtain ⟨v1, rfl⟩ := h9
  refine lv_iload_n hx hb dX6_isUsed_4 rfl (lv_at hl 1 rfl) ?_
  refine lv_ishr hx hb dX6_isUsed_5 ?_
  refine lv_topi (fun v5 ev5 => ?_)
  refine lv_iconst (v := 1) hx hb dX6_isUsed_6 (by decide) ?_
  refine lv_iand hx hb dX6_isUsed_7 ?_
  refine lv_topi (fun v7 ev7 => ?_)
  have tv7 : 0 ≤ v7.toInt ∧ v7.toInt ≤ 1 := by rw [ev7]; exact and_r (by decide)
  have J16 : ∀ (k16_0 : Int32) (H : Heap) (locs : List Loc) (ls : Array Slot), (0 ≤ k16_0.toInt) → (k16_0.toInt ≤ 1) → HT D cs A T O X H → va_S A s.heap H locs → lv_has ls 2 [] → W p l e { frames := 0, cells := 0, slots := 0, locals := 0 } s m [.ref a0, .int x1].toArray below meth c H locs 0 0 (MQ below (Ti D cs (fun r u => u = (T, O, X) ∧ 0 ≤ r.toInt ∧ r.toInt ≤ 1) A) [.ref a0, .int x1].toArray s 0 0 A) (F0 m 16 ls [.int k16_0]) := by
    intro k16_0 H locs ls l_k16_0 u_k16_0 hH hS hl
    exact te_z hx hb hr hlocks (nar01 (by omega) (by omega)) hH hS (⟨rfl, by omega, by omega⟩) dX6_isUsed_16
  refine lv_if_eq (tgt := 15) hx hb dX6_isUsed_8 (by decide) (fun c8 => ?_) (fun c8 => ?_)
  · skip
    have tc8 := f_eq (k := 0) (by decide) c8
    refine lv_iconst (v := 0) hx hb dX6_isUsed_15 (by decide) ?_
    exact J16 0 _ _ _ (by decide) (by decide) hH hS (lv_sub hl [] rfl)
  · skip
    have tc8 := f_ne (k := 0) (by decide) c8
    refine lv_iconst (v := 1) hx hb dX6_isUsed_11 (by decide) ?_
    refine lv_goto (tgt := 16) hx hb dX6_isUsed_12 (by decide) ?_
    exact J16 1 _ _ _ (by decide) (by decide) hH hS (lv_sub hl [] rfl)
set_option maxHeartbeats 4000000 in
set_option maxRecDepth 100000 in
theorem s_State_usedBy (l : Launch) (D : va_G) (cs : CS) (kf : KF) (T : TF) (O : List Nat) (X : va_W) (a0 : Nat) (x1 : Int32) (t_a0 : T a0 = some (16, 0, 0)) (hO : okO T O [1, 16]) : TK l D cs kf yX6_usedBy cX6_usedBy 4 (some (.int)) { frames := 1, cells := 0, slots := 0, locals := 21 } [.ref a0, .int x1] T O X (Ti D cs (fun r u => u = (T, O, X) ∧ 0 ≤ r.toInt ∧ r.toInt ≤ 16383)) := by
  refine tk_of (by decide) (Nat.le_of_ble_eq_true rfl) (fun p e s m below meth c ls A H locs hx hb hr hml hown hts hlocks hnm hkb hH hS hA hOX hks hE hl => ?_)
  have hown : s.vm.findClass RX6 = some m.cls := hown
  have hl : lv_has ls 4 [(0, .ref a0), (1, .int x1)] := hl
  refine lv_iconst (v := 0) hx hb dX6_usedBy_0 (by decide) ?_
  refine lv_istore_n (lv' := [(2, .int 0), (0, .ref a0), (1, .int x1)]) hx hb dX6_usedBy_1 rfl hl (by decide) rfl (fun ls hl => ?_)
  refine lv_iconst (v := 0) hx hb dX6_usedBy_2 (by decide) ?_
  have J4 : ∀ (n : Nat) (p4_3 : Int32) (p4_2 : Int32) (H : Heap) (locs : List Loc) (ls : Array Slot), (14 - p4_3.toInt).toNat = n → (0 ≤ p4_3.toInt) → (p4_3.toInt ≤ 14) → (0 ≤ p4_2.toInt) → (p4_2.toInt ≤ 16383) → HT D cs A T O X H → va_S A s.heap H locs → lv_has ls 4 [(3, .int p4_3), (2, .int p4_2), (0, .ref a0), (1, .int x1)] → W p l e { frames := 1, cells := 0, slots := 0, locals := 21 } s m [.ref a0, .int x1].toArray below meth c H locs 0 0 (MQ below (Ti D cs (fun r u => u = (T, O, X) ∧ 0 ≤ r.toInt ∧ r.toInt ≤ 16383) A) [.ref a0, .int x1].toArray s 0 0 A) (F0 m 4 ls []) := by
    intro n
    induction n using Nat.strongRecOn with
    | _ n ih4 =>
      intro p4_3 p4_2 H locs ls hm4 l_p4_3 u_p4_3 l_p4_2 u_p4_2 hH hS hl
      refine lv_iload_n hx hb dX6_usedBy_4 rfl (lv_at hl 0 rfl) ?_
      refine lv_bipush (v := 14) hx hb dX6_usedBy_5 (by decide) ?_
      refine lv_icmp_ge (tgt := 40) hx hb dX6_usedBy_7 (by decide) (fun c7 => ?_) (fun c7 => ?_)
      · skip
        have tc7 := f_ge (k := 14) (by decide) c7
        refine lv_iload_n hx hb dX6_usedBy_40 rfl (lv_at hl 1 rfl) ?_
        exact te_i hx hb hr hlocks hH hS (⟨rfl, by omega, by omega⟩) dX6_usedBy_41
      · skip
        have tc7 := f_nge (k := 14) (by decide) c7
        refine lv_aload_n hx hb dX6_usedBy_10 rfl (lv_at hl 2 rfl) ?_
        refine lv_iload_n hx hb dX6_usedBy_11 rfl (lv_at hl 0 rfl) ?_
        refine tk_i hH hS hA (tr_V (n := 1) (As := [.int p4_3]) hx hb hml hown hts hkb hH hOX hks hE hS hA (s_State_isUsed l D cs kf T O X a0 p4_3 t_a0 (hO.sub (by decide))) kw_802 kw_787 kw_788 kw_7 kw_789 (by decide +kernel) ⟨Nat.le_of_ble_eq_true rfl, Nat.le_of_ble_eq_true rfl⟩ (HT.recv (ci := 6) hkb hH t_a0 (hO.no t_a0 (by decide)) rfl) rfl rfl hl.1 (Nat.le_of_ble_eq_true rfl) dX6_usedBy_12 ⟨Nat.le_of_ble_eq_true rfl, Nat.le_of_ble_eq_true rfl⟩) (fun v12 u H locs hz9 hH hS => ?_)
        obtain ⟨rfl, l_v12, u_v12⟩ := hz9
        have hH : HT D cs A T O X H := hH
        refine W.widen (k := 0) (n := 0) (Nat.le_of_ble_eq_true rfl) (Nat.le_of_ble_eq_true rfl) ?_
        have J34 : ∀ (p34_2 : Int32) (H : Heap) (locs : List Loc) (ls : Array Slot), (0 ≤ p34_2.toInt) → (p34_2.toInt ≤ 16383) → HT D cs A T O X H → va_S A s.heap H locs → lv_has ls 4 [(3, .int p4_3), (2, .int p34_2), (0, .ref a0), (1, .int x1)] → W p l e { frames := 1, cells := 0, slots := 0, locals := 21 } s m [.ref a0, .int x1].toArray below meth c H locs 0 0 (MQ below (Ti D cs (fun r u => u = (T, O, X) ∧ 0 ≤ r.toInt ∧ r.toInt ≤ 16383) A) [.ref a0, .int x1].toArray s 0 0 A) (F0 m 34 ls []) := by
          intro p34_2 H locs ls l_p34_2 u_p34_2 hH hS hl
          obtain ⟨v34, ev34⟩ : ∃ y : Int32, y = p4_3 + 1 := ⟨_, rfl⟩
          have tv34 : v34.toInt = p4_3.toInt + (1) := by rw [ev34]; exact add_i rfl (by decide) (by omega) (by omega)
          refine lv_iinc (v := v34) (lv' := [(3, .int v34), (2, .int p34_2), (0, .ref a0), (1, .int x1)]) hx hb dX6_usedBy_34 hl (k := 0) rfl (by rw [ev34]; rfl) (by decide) rfl (fun ls hl => ?_)
          refine lv_goto (tgt := 4) hx hb dX6_usedBy_37 (by decide) ?_
          exact ih4 _ (by omega) v34 p34_2 _ _ _ rfl (by omega) (by omega) (by omega) (by omega) hH hS (lv_sub hl [0, 1, 2, 3] rfl)
        refine lv_if_eq (tgt := 34) hx hb dX6_usedBy_15 (by decide) (fun c15 => ?_) (fun c15 => ?_)
        · skip
          have tc15 := f_eq (k := 0) (by decide) c15
          exact J34 p4_2 _ _ _ (by omega) (by omega) hH hS (lv_sub hl [0, 1, 2, 3] rfl)
        · skip
          have tc15 := f_ne (k := 0) (by decide) c15
          refine lv_aload_n hx hb dX6_usedBy_18 rfl (lv_at hl 2 rfl) ?_
          refine t_get (ci := 6) (lst := ft6 0 0) (C := RX6) (F := TX6) (N := 6) hx hb hts uX6 hown hkb hH t_a0 (hO.no t_a0 (by decide)) (fun _ h9 => h9) rfl rfl 4 (by decide) rfl kw_194 (fun _ h9 => h9) dX6_usedBy_19 (fun v9 h9 => ?_)
          obtain ⟨v19, rfl, t_v19⟩ := h9
          refine lv_iload_n hx hb dX6_usedBy_22 rfl (lv_at hl 0 rfl) ?_
          refine t_ild hx hb hkb hH t_v19 (hO.no t_v19 (by decide)) (by omega) (by omega) dX6_usedBy_23 (fun v23 h9 => ?_)
          refine lv_iload_n hx hb dX6_usedBy_24 rfl (lv_at hl 3 rfl) ?_
          refine lv_icmp_ne (tgt := 34) hx hb dX6_usedBy_25 (by decide) (fun c25 => ?_) (fun c25 => ?_)
          · skip
            have fuc25 := full_i v23
            have fvc25 := full_i x1
            have tc25 := g_ne c25
            exact J34 p4_2 _ _ _ (by omega) (by omega) hH hS (lv_sub hl [0, 1, 2, 3] rfl)
          · skip
            have fuc25 := full_i v23
            have fvc25 := full_i x1
            have tc25 := g_eq c25
            refine lv_iload_n hx hb dX6_usedBy_28 rfl (lv_at hl 1 rfl) ?_
            refine lv_iconst (v := 1) hx hb dX6_usedBy_29 (by decide) ?_
            refine lv_iload_n hx hb dX6_usedBy_30 rfl (lv_at hl 0 rfl) ?_
            refine lv_ishl hx hb dX6_usedBy_31 ?_
            refine lv_topi (fun v31 ev31 => ?_)
            have tv31 : 1 ≤ v31.toInt ∧ v31.toInt ≤ 8192 := by rw [ev31]; exact shl_b 13 (by decide) (by omega) (by omega)
            refine lv_ior hx hb dX6_usedBy_32 ?_
            refine lv_topi (fun v32 ev32 => ?_)
            have tv32 : 0 ≤ v32.toInt ∧ v32.toInt < 16384 := by rw [ev32]; exact or_b 14 (by decide) (by omega) (by omega) (by omega) (by omega)
            refine lv_istore_n (lv' := [(2, .int v32), (3, .int p4_3), (0, .ref a0), (1, .int x1)]) hx hb dX6_usedBy_33 rfl hl (by decide) rfl (fun ls hl => ?_)
            exact J34 v32 _ _ _ (by omega) (by omega) hH hS (lv_sub hl [1, 0, 2, 3] rfl)
  refine lv_istore_n (lv' := [(3, .int 0), (2, .int 0), (0, .ref a0), (1, .int x1)]) hx hb dX6_usedBy_3 rfl hl (by decide) rfl (fun ls hl => ?_)
  exact J4 _ 0 0 _ _ _ rfl (by decide) (by decide) (by decide) (by decide) hH hS (lv_sub hl [0, 1, 2, 3] rfl)
set_option maxHeartbeats 4000000 in
set_option maxRecDepth 100000 in
theorem s_State_breakDown (l : Launch) (D : va_G) (cs : CS) (kf : KF) (T : TF) (O : List Nat) (X : va_W) (a0 : Nat) (x1 : Int32) (t_a0 : T a0 = some (16, 0, 0)) (hO : okO T O [16]) : TK l D cs kf yX6_breakDown cX6_breakDown 3 (some (.int)) { frames := 0, cells := 0, slots := 0, locals := 0 } [.ref a0, .int x1] T O X (Ti D cs (fun r u => u = (T, O, X) ∧ 0 ≤ r.toInt ∧ r.toInt ≤ 1)) := by
  refine tk_of (by decide) (Nat.le_of_ble_eq_true rfl) (fun p e s m below meth c ls A H locs hx hb hr hml hown hts hlocks hnm hkb hH hS hA hOX hks hE hl => ?_)
  have hown : s.vm.findClass RX6 = some m.cls := hown
  have hl : lv_has ls 3 [(0, .ref a0), (1, .int x1)] := hl
  refine lv_aload_n hx hb dX6_breakDown_0 rfl (lv_at hl 0 rfl) ?_
  refine t_get (ci := 6) (lst := ft6 0 0) (C := RX6) (F := TX6) (N := 6) hx hb hts uX6 hown hkb hH t_a0 (hO.no t_a0 (by decide)) (fun _ h9 => h9) rfl rfl 0 (by decide) rfl kw_185 (fun _ h9 => h9) dX6_breakDown_1 (fun v9 h9 => ?_)
  obtain ⟨v1, rfl⟩ := h9
  refine lv_iload_n hx hb dX6_breakDown_4 rfl (lv_at hl 1 rfl) ?_
  refine lv_ishr hx hb dX6_breakDown_5 ?_
  refine lv_topi (fun v5 ev5 => ?_)
  refine lv_iconst (v := 1) hx hb dX6_breakDown_6 (by decide) ?_
  refine lv_iand hx hb dX6_breakDown_7 ?_
  refine lv_topi (fun v7 ev7 => ?_)
  have tv7 : 0 ≤ v7.toInt ∧ v7.toInt ≤ 1 := by rw [ev7]; exact and_r (by decide)
  refine lv_istore_n (lv' := [(2, .int v7), (0, .ref a0), (1, .int x1)]) hx hb dX6_breakDown_8 rfl hl (by decide) rfl (fun ls hl => ?_)
  refine lv_aload_n hx hb dX6_breakDown_9 rfl (lv_at hl 1 rfl) ?_
  refine lv_dup hx hb dX6_breakDown_10 rfl ?_
  refine t_get (ci := 6) (lst := ft6 0 0) (C := RX6) (F := TX6) (N := 6) hx hb hts uX6 hown hkb hH t_a0 (hO.no t_a0 (by decide)) (fun _ h9 => h9) rfl rfl 0 (by decide) rfl kw_185 (fun _ h9 => h9) dX6_breakDown_11 (fun v9 h9 => ?_)
  obtain ⟨v11, rfl⟩ := h9
  refine lv_iconst (v := 1) hx hb dX6_breakDown_14 (by decide) ?_
  refine lv_iload_n hx hb dX6_breakDown_15 rfl (lv_at hl 2 rfl) ?_
  refine lv_ishl hx hb dX6_breakDown_16 ?_
  refine lv_topi (fun v16 ev16 => ?_)
  refine lv_iconst (v := (-1)) hx hb dX6_breakDown_17 (by decide) ?_
  refine lv_ixor hx hb dX6_breakDown_18 ?_
  refine lv_topi (fun v18 ev18 => ?_)
  refine lv_iand hx hb dX6_breakDown_19 ?_
  refine lv_topi (fun v19 ev19 => ?_)
  refine t_put (ci := 6) (lst := ft6 0 0) (v := .int v19) (ty := tyX6 0) (C := RX6) (F := TX6) (N := 6) hx hb hts uX6 tyX6 tyX6_ok nmX6 hown hkb hH hS t_a0 (hO.no t_a0 (by decide)) (fun _ => Iff.rfl) rfl rfl 0 (by decide) rfl (⟨_, rfl⟩) kw_185 (fun _ h9 => h9) rfl (tyX6_ok 0 (by decide)) rfl rfl dX6_breakDown_20 (fun H locs hH hS => ?_)
  refine lv_aload_n hx hb dX6_breakDown_23 rfl (lv_at hl 1 rfl) ?_
  refine lv_dup hx hb dX6_breakDown_24 rfl ?_
  refine t_get (ci := 6) (lst := ft6 0 0) (C := RX6) (F := TX6) (N := 6) hx hb hts uX6 hown hkb hH t_a0 (hO.no t_a0 (by decide)) (fun _ h9 => h9) rfl rfl 1 (by decide) rfl kw_187 (fun _ h9 => h9) dX6_breakDown_25 (fun v9 h9 => ?_)
  obtain ⟨v25, rfl⟩ := h9
  refine lv_iconst (v := 1) hx hb dX6_breakDown_28 (by decide) ?_
  refine lv_iload_n hx hb dX6_breakDown_29 rfl (lv_at hl 2 rfl) ?_
  refine lv_ishl hx hb dX6_breakDown_30 ?_
  refine lv_topi (fun v30 ev30 => ?_)
  refine lv_ior hx hb dX6_breakDown_31 ?_
  refine lv_topi (fun v31 ev31 => ?_)
  refine t_put (ci := 6) (lst := ft6 0 0) (v := .int v31) (ty := tyX6 1) (C := RX6) (F := TX6) (N := 6) hx hb hts uX6 tyX6 tyX6_ok nmX6 hown hkb hH hS t_a0 (hO.no t_a0 (by decide)) (fun _ => Iff.rfl) rfl rfl 1 (by decide) rfl (⟨_, rfl⟩) kw_187 (fun _ h9 => h9) rfl (tyX6_ok 1 (by decide)) rfl rfl dX6_breakDown_32 (fun H locs hH hS => ?_)
  refine lv_iload_n hx hb dX6_breakDown_35 rfl (lv_at hl 0 rfl) ?_
  exact te_i hx hb hr hlocks hH hS (⟨rfl, by omega, by omega⟩) dX6_breakDown_36
set_option maxHeartbeats 4000000 in
set_option maxRecDepth 100000 in
theorem s_State_take (l : Launch) (D : va_G) (cs : CS) (kf : KF) (T : TF) (O : List Nat) (X : va_W) (a0 : Nat) (a1 : Nat) (t_a0 : T a0 = some (16, 0, 0)) (t_a1 : T a1 = some (16, 0, 0)) (hO : okO T O [1, 16]) : TK l D cs kf yX6_take cX6_take 2 none { frames := 1, cells := 0, slots := 0, locals := 60 } [.ref a0, .ref a1] T O X (Tv D cs (fun u => u = (T, O, X))) := by
  refine tk_of (by decide) (Nat.le_of_ble_eq_true rfl) (fun p e s m below meth c ls A H locs hx hb hr hml hown hts hlocks hnm hkb hH hS hA hOX hks hE hl => ?_)
  have hown : s.vm.findClass RX6 = some m.cls := hown
  have hl : lv_has ls 2 [(0, .ref a0), (1, .ref a1)] := hl
  refine lv_aload_n hx hb dX6_take_0 rfl (lv_at hl 0 rfl) ?_
  refine lv_aload_n hx hb dX6_take_1 rfl (lv_at hl 1 rfl) ?_
  refine t_get (ci := 6) (lst := ft6 0 0) (C := RX6) (F := TX6) (N := 6) hx hb hts uX6 hown hkb hH t_a1 (hO.no t_a1 (by decide)) (fun _ h9 => h9) rfl rfl 0 (by decide) rfl kw_185 (fun _ h9 => h9) dX6_take_2 (fun v9 h9 => ?_)
  obtain ⟨v2, rfl⟩ := h9
  refine t_put (ci := 6) (lst := ft6 0 0) (v := .int v2) (ty := tyX6 0) (C := RX6) (F := TX6) (N := 6) hx hb hts uX6 tyX6 tyX6_ok nmX6 hown hkb hH hS t_a0 (hO.no t_a0 (by decide)) (fun _ => Iff.rfl) rfl rfl 0 (by decide) rfl (⟨_, rfl⟩) kw_185 (fun _ h9 => h9) rfl (tyX6_ok 0 (by decide)) rfl rfl dX6_take_5 (fun H locs hH hS => ?_)
  refine lv_aload_n hx hb dX6_take_8 rfl (lv_at hl 0 rfl) ?_
  refine lv_aload_n hx hb dX6_take_9 rfl (lv_at hl 1 rfl) ?_
  refine t_get (ci := 6) (lst := ft6 0 0) (C := RX6) (F := TX6) (N := 6) hx hb hts uX6 hown hkb hH t_a1 (hO.no t_a1 (by decide)) (fun _ h9 => h9) rfl rfl 1 (by decide) rfl kw_187 (fun _ h9 => h9) dX6_take_10 (fun v9 h9 => ?_)
  obtain ⟨v10, rfl⟩ := h9
  refine t_put (ci := 6) (lst := ft6 0 0) (v := .int v10) (ty := tyX6 1) (C := RX6) (F := TX6) (N := 6) hx hb hts uX6 tyX6 tyX6_ok nmX6 hown hkb hH hS t_a0 (hO.no t_a0 (by decide)) (fun _ => Iff.rfl) rfl rfl 1 (by decide) rfl (⟨_, rfl⟩) kw_187 (fun _ h9 => h9) rfl (tyX6_ok 1 (by decide)) rfl rfl dX6_take_13 (fun H locs hH hS => ?_)
  refine lv_aload_n hx hb dX6_take_16 rfl (lv_at hl 0 rfl) ?_
  refine lv_aload_n hx hb dX6_take_17 rfl (lv_at hl 1 rfl) ?_
  refine t_get (ci := 6) (lst := ft6 0 0) (C := RX6) (F := TX6) (N := 6) hx hb hts uX6 hown hkb hH t_a1 (hO.no t_a1 (by decide)) (fun _ h9 => h9) rfl rfl 2 (by decide) rfl kw_189 (fun _ h9 => h9) dX6_take_18 (fun v9 h9 => ?_)
  obtain ⟨v18, rfl⟩ := h9
  refine t_put (ci := 6) (lst := ft6 0 0) (v := .int v18) (ty := tyX6 2) (C := RX6) (F := TX6) (N := 6) hx hb hts uX6 tyX6 tyX6_ok nmX6 hown hkb hH hS t_a0 (hO.no t_a0 (by decide)) (fun _ => Iff.rfl) rfl rfl 2 (by decide) rfl (⟨_, rfl⟩) kw_189 (fun _ h9 => h9) rfl (tyX6_ok 2 (by decide)) rfl rfl dX6_take_21 (fun H locs hH hS => ?_)
  refine lv_aload_n hx hb dX6_take_24 rfl (lv_at hl 0 rfl) ?_
  refine lv_aload_n hx hb dX6_take_25 rfl (lv_at hl 1 rfl) ?_
  refine t_get (ci := 6) (lst := ft6 0 0) (C := RX6) (F := TX6) (N := 6) hx hb hts uX6 hown hkb hH t_a1 (hO.no t_a1 (by decide)) (fun _ h9 => h9) rfl rfl 3 (by decide) rfl kw_192 (fun _ h9 => h9) dX6_take_26 (fun v9 h9 => ?_)
  obtain ⟨v26, rfl⟩ := h9
  refine t_put (ci := 6) (lst := ft6 0 0) (v := .int v26) (ty := tyX6 3) (C := RX6) (F := TX6) (N := 6) hx hb hts uX6 tyX6 tyX6_ok nmX6 hown hkb hH hS t_a0 (hO.no t_a0 (by decide)) (fun _ => Iff.rfl) rfl rfl 3 (by decide) rfl (⟨_, rfl⟩) kw_192 (fun _ h9 => h9) rfl (tyX6_ok 3 (by decide)) rfl rfl dX6_take_29 (fun H locs hH hS => ?_)
  refine lv_aload_n hx hb dX6_take_32 rfl (lv_at hl 1 rfl) ?_
  refine t_get (ci := 6) (lst := ft6 0 0) (C := RX6) (F := TX6) (N := 6) hx hb hts uX6 hown hkb hH t_a1 (hO.no t_a1 (by decide)) (fun _ h9 => h9) rfl rfl 4 (by decide) rfl kw_194 (fun _ h9 => h9) dX6_take_33 (fun v9 h9 => ?_)
  obtain ⟨v33, rfl, t_v33⟩ := h9
  refine lv_iconst (v := 0) hx hb dX6_take_36 (by decide) ?_
  refine lv_aload_n hx hb dX6_take_37 rfl (lv_at hl 0 rfl) ?_
  refine t_get (ci := 6) (lst := ft6 0 0) (C := RX6) (F := TX6) (N := 6) hx hb hts uX6 hown hkb hH t_a0 (hO.no t_a0 (by decide)) (fun _ h9 => h9) rfl rfl 4 (by decide) rfl kw_194 (fun _ h9 => h9) dX6_take_38 (fun v9 h9 => ?_)
  obtain ⟨v38, rfl, t_v38⟩ := h9
  refine lv_iconst (v := 0) hx hb dX6_take_41 (by decide) ?_
  refine lv_bipush (v := 14) hx hb dX6_take_42 (by decide) ?_
  refine t_copy hx hb (by rw [hml]; exact hl.1.symm) hown (hts _ kw_761) (hts _ kw_734) (hts _ kw_733) (hts _ kw_23) hkb hH hS (fun _ h9 => h9) t_v33 (hO.no t_v33 (by decide)) t_v38 (hO.no t_v38 (by decide)) (by decide) (by decide) (by decide) (by decide) (by decide) (Nat.le_of_ble_eq_true rfl) (Nat.le_of_ble_eq_true rfl) dX6_take_44 (fun H locs hH hS => ?_)
  refine lv_aload_n hx hb dX6_take_47 rfl (lv_at hl 1 rfl) ?_
  refine t_get (ci := 6) (lst := ft6 0 0) (C := RX6) (F := TX6) (N := 6) hx hb hts uX6 hown hkb hH t_a1 (hO.no t_a1 (by decide)) (fun _ h9 => h9) rfl rfl 5 (by decide) rfl kw_196 (fun _ h9 => h9) dX6_take_48 (fun v9 h9 => ?_)
  obtain ⟨v48, rfl, t_v48⟩ := h9
  refine lv_iconst (v := 0) hx hb dX6_take_51 (by decide) ?_
  refine lv_aload_n hx hb dX6_take_52 rfl (lv_at hl 0 rfl) ?_
  refine t_get (ci := 6) (lst := ft6 0 0) (C := RX6) (F := TX6) (N := 6) hx hb hts uX6 hown hkb hH t_a0 (hO.no t_a0 (by decide)) (fun _ h9 => h9) rfl rfl 5 (by decide) rfl kw_196 (fun _ h9 => h9) dX6_take_53 (fun v9 h9 => ?_)
  obtain ⟨v53, rfl, t_v53⟩ := h9
  refine lv_iconst (v := 0) hx hb dX6_take_56 (by decide) ?_
  refine lv_bipush (v := 14) hx hb dX6_take_57 (by decide) ?_
  refine t_copy hx hb (by rw [hml]; exact hl.1.symm) hown (hts _ kw_761) (hts _ kw_734) (hts _ kw_733) (hts _ kw_23) hkb hH hS (fun _ h9 => h9) t_v48 (hO.no t_v48 (by decide)) t_v53 (hO.no t_v53 (by decide)) (by decide) (by decide) (by decide) (by decide) (by decide) (Nat.le_of_ble_eq_true rfl) (Nat.le_of_ble_eq_true rfl) dX6_take_59 (fun H locs hH hS => ?_)
  exact te_v hx hb hr hlocks hH hS rfl dX6_take_62
set_option maxHeartbeats 4000000 in
set_option maxRecDepth 100000 in
theorem s_State_use (l : Launch) (D : va_G) (cs : CS) (kf : KF) (T : TF) (O : List Nat) (X : va_W) (a0 : Nat) (x1 : Int32) (x2 : Int32) (t_a0 : T a0 = some (16, 0, 0)) (hO : okO T O [1, 16]) : TK l D cs kf yX6_use cX6_use 4 (some (.int)) { frames := 1, cells := 0, slots := 0, locals := 20 } [.ref a0, .int x1, .int x2] T O X (Ti D cs (fun r u => u = (T, O, X) ∧ 0 ≤ r.toInt ∧ r.toInt ≤ 63)) := by
  refine tk_of (by decide) (Nat.le_of_ble_eq_true rfl) (fun p e s m below meth c ls A H locs hx hb hr hml hown hts hlocks hnm hkb hH hS hA hOX hks hE hl => ?_)
  have hown : s.vm.findClass RX6 = some m.cls := hown
  have hl : lv_has ls 4 [(0, .ref a0), (1, .int x1), (2, .int x2)] := hl
  refine lv_iconst (v := 0) hx hb dX6_use_0 (by decide) ?_
  have J2 : ∀ (n : Nat) (p2_3 : Int32) (H : Heap) (locs : List Loc) (ls : Array Slot), (14 - p2_3.toInt).toNat = n → (0 ≤ p2_3.toInt) → (p2_3.toInt ≤ 14) → HT D cs A T O X H → va_S A s.heap H locs → lv_has ls 4 [(3, .int p2_3), (0, .ref a0), (1, .int x1), (2, .int x2)] → W p l e { frames := 1, cells := 0, slots := 0, locals := 20 } s m [.ref a0, .int x1, .int x2].toArray below meth c H locs 0 0 (MQ below (Ti D cs (fun r u => u = (T, O, X) ∧ 0 ≤ r.toInt ∧ r.toInt ≤ 63) A) [.ref a0, .int x1, .int x2].toArray s 0 0 A) (F0 m 2 ls []) := by
    intro n
    induction n using Nat.strongRecOn with
    | _ n ih2 =>
      intro p2_3 H locs ls hm2 l_p2_3 u_p2_3 hH hS hl
      refine lv_iload_n hx hb dX6_use_2 rfl (lv_at hl 0 rfl) ?_
      refine lv_bipush (v := 14) hx hb dX6_use_3 (by decide) ?_
      refine lv_icmp_ge (tgt := 39) hx hb dX6_use_5 (by decide) (fun c5 => ?_) (fun c5 => ?_)
      · skip
        have tc5 := f_ge (k := 14) (by decide) c5
        refine lv_aload_n hx hb dX6_use_39 rfl (lv_at hl 1 rfl) ?_
        refine lv_dup hx hb dX6_use_40 rfl ?_
        refine t_get (ci := 6) (lst := ft6 0 0) (C := RX6) (F := TX6) (N := 6) hx hb hts uX6 hown hkb hH t_a0 (hO.no t_a0 (by decide)) (fun _ h9 => h9) rfl rfl 0 (by decide) rfl kw_185 (fun _ h9 => h9) dX6_use_41 (fun v9 h9 => ?_)
        obtain ⟨v41, rfl⟩ := h9
        refine lv_iload_n hx hb dX6_use_44 rfl (lv_at hl 2 rfl) ?_
        refine lv_ior hx hb dX6_use_45 ?_
        refine lv_topi (fun v45 ev45 => ?_)
        refine t_put (ci := 6) (lst := ft6 0 0) (v := .int v45) (ty := tyX6 0) (C := RX6) (F := TX6) (N := 6) hx hb hts uX6 tyX6 tyX6_ok nmX6 hown hkb hH hS t_a0 (hO.no t_a0 (by decide)) (fun _ => Iff.rfl) rfl rfl 0 (by decide) rfl (⟨_, rfl⟩) kw_185 (fun _ h9 => h9) rfl (tyX6_ok 0 (by decide)) rfl rfl dX6_use_46 (fun H locs hH hS => ?_)
        refine lv_iload_n hx hb dX6_use_49 rfl (lv_at hl 2 rfl) ?_
        refine tk_i hH hS hA (tr_S (n := 1) (As := [.int x1]) hx hb hml hown hts hkb hH hOX hks hE hS hA (s_bitCount l D cs kf T O X x1  (hO.sub (by decide))) kw_691 kw_692 kw_20 kw_693 (by decide +kernel) ⟨Nat.le_of_ble_eq_true rfl, Nat.le_of_ble_eq_true rfl⟩ rfl rfl hl.1 (Nat.le_of_ble_eq_true rfl) dX6_use_50 ⟨Nat.le_of_ble_eq_true rfl, Nat.le_of_ble_eq_true rfl⟩) (fun v50 u H locs hz9 hH hS => ?_)
        obtain ⟨rfl, l_v50, u_v50⟩ := hz9
        have hH : HT D cs A T O X H := hH
        refine W.widen (k := 0) (n := 0) (Nat.le_of_ble_eq_true rfl) (Nat.le_of_ble_eq_true rfl) ?_
        exact te_i hx hb hr hlocks hH hS (⟨rfl, by omega, by omega⟩) dX6_use_53
      · skip
        have tc5 := f_nge (k := 14) (by decide) c5
        refine lv_iload_n hx hb dX6_use_8 rfl (lv_at hl 2 rfl) ?_
        refine lv_iload_n hx hb dX6_use_9 rfl (lv_at hl 0 rfl) ?_
        refine lv_ishr hx hb dX6_use_10 ?_
        refine lv_topi (fun v10 ev10 => ?_)
        refine lv_iconst (v := 1) hx hb dX6_use_11 (by decide) ?_
        refine lv_iand hx hb dX6_use_12 ?_
        refine lv_topi (fun v12 ev12 => ?_)
        have tv12 : 0 ≤ v12.toInt ∧ v12.toInt ≤ 1 := by rw [ev12]; exact and_r (by decide)
        have J33 : ∀  (H : Heap) (locs : List Loc) (ls : Array Slot), HT D cs A T O X H → va_S A s.heap H locs → lv_has ls 4 [(3, .int p2_3), (0, .ref a0), (1, .int x1), (2, .int x2)] → W p l e { frames := 1, cells := 0, slots := 0, locals := 20 } s m [.ref a0, .int x1, .int x2].toArray below meth c H locs 0 0 (MQ below (Ti D cs (fun r u => u = (T, O, X) ∧ 0 ≤ r.toInt ∧ r.toInt ≤ 63) A) [.ref a0, .int x1, .int x2].toArray s 0 0 A) (F0 m 33 ls []) := by
          intro  H locs ls  hH hS hl
          obtain ⟨v33, ev33⟩ : ∃ y : Int32, y = p2_3 + 1 := ⟨_, rfl⟩
          have tv33 : v33.toInt = p2_3.toInt + (1) := by rw [ev33]; exact add_i rfl (by decide) (by omega) (by omega)
          refine lv_iinc (v := v33) (lv' := [(3, .int v33), (0, .ref a0), (1, .int x1), (2, .int x2)]) hx hb dX6_use_33 hl (k := 0) rfl (by rw [ev33]; rfl) (by decide) rfl (fun ls hl => ?_)
          refine lv_goto (tgt := 2) hx hb dX6_use_36 (by decide) ?_
          exact ih2 _ (by omega) v33 _ _ _ rfl (by omega) (by omega) hH hS (lv_sub hl [0, 1, 2, 3] rfl)
        refine lv_if_eq (tgt := 33) hx hb dX6_use_13 (by decide) (fun c13 => ?_) (fun c13 => ?_)
        · skip
          have tc13 := f_eq (k := 0) (by decide) c13
          exact J33  _ _ _  hH hS (lv_sub hl [0, 1, 2, 3] rfl)
        · skip
          have tc13 := f_ne (k := 0) (by decide) c13
          refine lv_aload_n hx hb dX6_use_16 rfl (lv_at hl 1 rfl) ?_
          refine t_get (ci := 6) (lst := ft6 0 0) (C := RX6) (F := TX6) (N := 6) hx hb hts uX6 hown hkb hH t_a0 (hO.no t_a0 (by decide)) (fun _ h9 => h9) rfl rfl 4 (by decide) rfl kw_194 (fun _ h9 => h9) dX6_use_17 (fun v9 h9 => ?_)
          obtain ⟨v17, rfl, t_v17⟩ := h9
          refine lv_iload_n hx hb dX6_use_20 rfl (lv_at hl 0 rfl) ?_
          refine lv_iload_n hx hb dX6_use_21 rfl (lv_at hl 3 rfl) ?_
          refine t_ist hx hb hkb hH hS t_v17 (hO.no t_v17 (by decide)) (by omega) (by omega) (cp_0 _) dX6_use_22 (fun H locs hH hS => ?_)
          refine lv_aload_n hx hb dX6_use_23 rfl (lv_at hl 1 rfl) ?_
          refine t_get (ci := 6) (lst := ft6 0 0) (C := RX6) (F := TX6) (N := 6) hx hb hts uX6 hown hkb hH t_a0 (hO.no t_a0 (by decide)) (fun _ h9 => h9) rfl rfl 5 (by decide) rfl kw_196 (fun _ h9 => h9) dX6_use_24 (fun v9 h9 => ?_)
          obtain ⟨v24, rfl, t_v24⟩ := h9
          refine lv_iload_n hx hb dX6_use_27 rfl (lv_at hl 0 rfl) ?_
          refine lv_aload_n hx hb dX6_use_28 rfl (lv_at hl 1 rfl) ?_
          refine t_get (ci := 6) (lst := ft6 0 0) (C := RX6) (F := TX6) (N := 6) hx hb hts uX6 hown hkb hH t_a0 (hO.no t_a0 (by decide)) (fun _ h9 => h9) rfl rfl 2 (by decide) rfl kw_189 (fun _ h9 => h9) dX6_use_29 (fun v9 h9 => ?_)
          obtain ⟨v29, rfl⟩ := h9
          refine t_ist hx hb hkb hH hS t_v24 (hO.no t_v24 (by decide)) (by omega) (by omega) (cp_0 _) dX6_use_32 (fun H locs hH hS => ?_)
          exact J33  _ _ _  hH hS (lv_sub hl [0, 1, 2, 3] rfl)
  refine lv_istore_n (lv' := [(3, .int 0), (0, .ref a0), (1, .int x1), (2, .int x2)]) hx hb dX6_use_1 rfl hl (by decide) rfl (fun ls hl => ?_)
  exact J2 _ 0 _ _ _ rfl (by decide) (by decide) hH hS (lv_sub hl [0, 1, 2, 3] rfl)
set_option maxHeartbeats 4000000 in
set_option maxRecDepth 100000 in
theorem s_State_comeBack (l : Launch) (D : va_G) (cs : CS) (kf : KF) (T : TF) (O : List Nat) (X : va_W) (a0 : Nat) (x1 : Int32) (t_a0 : T a0 = some (16, 0, 0)) (hO : okO T O [1, 16]) : TK l D cs kf yX6_comeBack cX6_comeBack 6 (some (.int)) { frames := 1, cells := 0, slots := 0, locals := 21 } [.ref a0, .int x1] T O X (Ti D cs (fun r u => u = (T, O, X))) := by
  refine tk_of (by decide) (Nat.le_of_ble_eq_true rfl) (fun p e s m below meth c ls A H locs hx hb hr hml hown hts hlocks hnm hkb hH hS hA hOX hks hE hl => ?_)
  have hown : s.vm.findClass RX6 = some m.cls := hown
  have hl : lv_has ls 6 [(0, .ref a0), (1, .int x1)] := hl
  refine lv_iconst (v := 0) hx hb dX6_comeBack_0 (by decide) ?_
  refine lv_istore_n (lv' := [(2, .int 0), (0, .ref a0), (1, .int x1)]) hx hb dX6_comeBack_1 rfl hl (by decide) rfl (fun ls hl => ?_)
  refine lv_iconst (v := 0) hx hb dX6_comeBack_2 (by decide) ?_
  have J4 : ∀ (n : Nat) (p4_3 : Int32) (p4_2 : Int32) (H : Heap) (locs : List Loc) (ls : Array Slot), (2147483647 - p4_3.toInt).toNat = n → (0 ≤ p4_3.toInt) → HT D cs A T O X H → va_S A s.heap H locs → lv_has ls 6 [(3, .int p4_3), (2, .int p4_2), (0, .ref a0), (1, .int x1)] → W p l e { frames := 1, cells := 0, slots := 0, locals := 21 } s m [.ref a0, .int x1].toArray below meth c H locs 0 0 (MQ below (Ti D cs (fun r u => u = (T, O, X)) A) [.ref a0, .int x1].toArray s 0 0 A) (F0 m 4 ls []) := by
    intro n
    induction n using Nat.strongRecOn with
    | _ n ih4 =>
      intro p4_3 p4_2 H locs ls hm4 l_p4_3 hH hS hl
      refine lv_iload_n hx hb dX6_comeBack_4 rfl (lv_at hl 0 rfl) ?_
      refine lv_iload_n hx hb dX6_comeBack_5 rfl (lv_at hl 3 rfl) ?_
      have J95 : ∀  (H : Heap) (locs : List Loc) (ls : Array Slot), HT D cs A T O X H → va_S A s.heap H locs → lv_has ls 6 [(2, .int p4_2)] → W p l e { frames := 1, cells := 0, slots := 0, locals := 21 } s m [.ref a0, .int x1].toArray below meth c H locs 0 0 (MQ below (Ti D cs (fun r u => u = (T, O, X)) A) [.ref a0, .int x1].toArray s 0 0 A) (F0 m 95 ls []) := by
        intro  H locs ls  hH hS hl
        refine lv_iload_n hx hb dX6_comeBack_95 rfl (lv_at hl 0 rfl) ?_
        exact te_i hx hb hr hlocks hH hS (rfl) dX6_comeBack_96
      refine lv_icmp_ge (tgt := 95) hx hb dX6_comeBack_6 (by decide) (fun c6 => ?_) (fun c6 => ?_)
      · skip
        have fuc6 := full_i p4_3
        have fvc6 := full_i x1
        have tc6 := g_le c6
        exact J95  _ _ _  hH hS (lv_sub hl [1] rfl)
      · skip
        have fuc6 := full_i p4_3
        have fvc6 := full_i x1
        have tc6 := g_nle c6
        refine lv_aload_n hx hb dX6_comeBack_9 rfl (lv_at hl 2 rfl) ?_
        refine t_get (ci := 6) (lst := ft6 0 0) (C := RX6) (F := TX6) (N := 6) hx hb hts uX6 hown hkb hH t_a0 (hO.no t_a0 (by decide)) (fun _ h9 => h9) rfl rfl 0 (by decide) rfl kw_185 (fun _ h9 => h9) dX6_comeBack_10 (fun v9 h9 => ?_)
        obtain ⟨v10, rfl⟩ := h9
        refine lv_if_eq (tgt := 95) hx hb dX6_comeBack_13 (by decide) (fun c13 => ?_) (fun c13 => ?_)
        · skip
          have tc13 := f_eq (k := 0) (by decide) c13
          exact J95  _ _ _  hH hS (lv_sub hl [1] rfl)
        · skip
          have tc13 := f_ne (k := 0) (by decide) c13
          refine lv_iconst (v := (-1)) hx hb dX6_comeBack_16 (by decide) ?_
          refine lv_istore (lv' := [(4, .int (-1)), (3, .int p4_3), (2, .int p4_2), (0, .ref a0), (1, .int x1)]) hx hb dX6_comeBack_17 hl (by decide) rfl (fun ls hl => ?_)
          refine lv_iconst (v := 0) hx hb dX6_comeBack_19 (by decide) ?_
          have J22 : ∀ (n : Nat) (p22_5 : Int32) (p22_4 : Int32) (H : Heap) (locs : List Loc) (ls : Array Slot), (14 - p22_5.toInt).toNat = n → (0 ≤ p22_5.toInt) → (p22_5.toInt ≤ 14) → (-1 ≤ p22_4.toInt) → (p22_4.toInt ≤ 13) → HT D cs A T O X H → va_S A s.heap H locs → lv_has ls 6 [(5, .int p22_5), (4, .int p22_4), (3, .int p4_3), (2, .int p4_2), (0, .ref a0), (1, .int x1)] → W p l e { frames := 1, cells := 0, slots := 0, locals := 21 } s m [.ref a0, .int x1].toArray below meth c H locs 0 0 (MQ below (Ti D cs (fun r u => u = (T, O, X)) A) [.ref a0, .int x1].toArray s 0 0 A) (F0 m 22 ls []) := by
            intro n
            induction n using Nat.strongRecOn with
            | _ n ih22 =>
              intro p22_5 p22_4 H locs ls hm22 l_p22_5 u_p22_5 l_p22_4 u_p22_4 hH hS hl
              refine lv_iload hx hb dX6_comeBack_22 (lv_at hl 0 rfl) ?_
              refine lv_bipush (v := 14) hx hb dX6_comeBack_24 (by decide) ?_
              refine lv_icmp_ge (tgt := 71) hx hb dX6_comeBack_26 (by decide) (fun c26 => ?_) (fun c26 => ?_)
              · skip
                have tc26 := f_ge (k := 14) (by decide) c26
                refine lv_aload_n hx hb dX6_comeBack_71 rfl (lv_at hl 4 rfl) ?_
                refine lv_dup hx hb dX6_comeBack_72 rfl ?_
                refine t_get (ci := 6) (lst := ft6 0 0) (C := RX6) (F := TX6) (N := 6) hx hb hts uX6 hown hkb hH t_a0 (hO.no t_a0 (by decide)) (fun _ h9 => h9) rfl rfl 0 (by decide) rfl kw_185 (fun _ h9 => h9) dX6_comeBack_73 (fun v9 h9 => ?_)
                obtain ⟨v73, rfl⟩ := h9
                refine lv_iconst (v := 1) hx hb dX6_comeBack_76 (by decide) ?_
                refine lv_iload hx hb dX6_comeBack_77 (lv_at hl 1 rfl) ?_
                refine lv_ishl hx hb dX6_comeBack_79 ?_
                refine lv_topi (fun v79 ev79 => ?_)
                refine lv_iconst (v := (-1)) hx hb dX6_comeBack_80 (by decide) ?_
                refine lv_ixor hx hb dX6_comeBack_81 ?_
                refine lv_topi (fun v81 ev81 => ?_)
                refine lv_iand hx hb dX6_comeBack_82 ?_
                refine lv_topi (fun v82 ev82 => ?_)
                refine t_put (ci := 6) (lst := ft6 0 0) (v := .int v82) (ty := tyX6 0) (C := RX6) (F := TX6) (N := 6) hx hb hts uX6 tyX6 tyX6_ok nmX6 hown hkb hH hS t_a0 (hO.no t_a0 (by decide)) (fun _ => Iff.rfl) rfl rfl 0 (by decide) rfl (⟨_, rfl⟩) kw_185 (fun _ h9 => h9) rfl (tyX6_ok 0 (by decide)) rfl rfl dX6_comeBack_83 (fun H locs hH hS => ?_)
                obtain ⟨v86, ev86⟩ : ∃ y : Int32, y = p4_2 + 1 := ⟨_, rfl⟩
                refine lv_iinc (v := v86) (lv' := [(2, .int v86), (5, .int p22_5), (4, .int p22_4), (3, .int p4_3), (0, .ref a0), (1, .int x1)]) hx hb dX6_comeBack_86 hl (k := 3) rfl (by rw [ev86]; rfl) (by decide) rfl (fun ls hl => ?_)
                obtain ⟨v89, ev89⟩ : ∃ y : Int32, y = p4_3 + 1 := ⟨_, rfl⟩
                have tv89 : v89.toInt = p4_3.toInt + (1) := by rw [ev89]; exact add_i rfl (by decide) (by omega) (by omega)
                refine lv_iinc (v := v89) (lv' := [(3, .int v89), (2, .int v86), (5, .int p22_5), (4, .int p22_4), (0, .ref a0), (1, .int x1)]) hx hb dX6_comeBack_89 hl (k := 3) rfl (by rw [ev89]; rfl) (by decide) rfl (fun ls hl => ?_)
                refine lv_goto (tgt := 4) hx hb dX6_comeBack_92 (by decide) ?_
                exact ih4 _ (by omega) v89 v86 _ _ _ rfl (by omega) hH hS (lv_sub hl [0, 1, 4, 5] rfl)
              · skip
                have tc26 := f_nge (k := 14) (by decide) c26
                refine lv_aload_n hx hb dX6_comeBack_29 rfl (lv_at hl 4 rfl) ?_
                refine lv_iload hx hb dX6_comeBack_30 (lv_at hl 0 rfl) ?_
                refine tk_i hH hS hA (tr_V (n := 1) (As := [.int p22_5]) hx hb hml hown hts hkb hH hOX hks hE hS hA (s_State_isUsed l D cs kf T O X a0 p22_5 t_a0 (hO.sub (by decide))) kw_802 kw_787 kw_788 kw_7 kw_789 (by decide +kernel) ⟨Nat.le_of_ble_eq_true rfl, Nat.le_of_ble_eq_true rfl⟩ (HT.recv (ci := 6) hkb hH t_a0 (hO.no t_a0 (by decide)) rfl) rfl rfl hl.1 (Nat.le_of_ble_eq_true rfl) dX6_comeBack_32 ⟨Nat.le_of_ble_eq_true rfl, Nat.le_of_ble_eq_true rfl⟩) (fun v32 u H locs hz9 hH hS => ?_)
                obtain ⟨rfl, l_v32, u_v32⟩ := hz9
                have hH : HT D cs A T O X H := hH
                refine W.widen (k := 0) (n := 0) (Nat.le_of_ble_eq_true rfl) (Nat.le_of_ble_eq_true rfl) ?_
                have J65 : ∀ (p65_4 : Int32) (H : Heap) (locs : List Loc) (ls : Array Slot), (-1 ≤ p65_4.toInt) → (p65_4.toInt ≤ 13) → HT D cs A T O X H → va_S A s.heap H locs → lv_has ls 6 [(5, .int p22_5), (4, .int p65_4), (3, .int p4_3), (2, .int p4_2), (0, .ref a0), (1, .int x1)] → W p l e { frames := 1, cells := 0, slots := 0, locals := 21 } s m [.ref a0, .int x1].toArray below meth c H locs 0 0 (MQ below (Ti D cs (fun r u => u = (T, O, X)) A) [.ref a0, .int x1].toArray s 0 0 A) (F0 m 65 ls []) := by
                  intro p65_4 H locs ls l_p65_4 u_p65_4 hH hS hl
                  obtain ⟨v65, ev65⟩ : ∃ y : Int32, y = p22_5 + 1 := ⟨_, rfl⟩
                  have tv65 : v65.toInt = p22_5.toInt + (1) := by rw [ev65]; exact add_i rfl (by decide) (by omega) (by omega)
                  refine lv_iinc (v := v65) (lv' := [(5, .int v65), (4, .int p65_4), (3, .int p4_3), (2, .int p4_2), (0, .ref a0), (1, .int x1)]) hx hb dX6_comeBack_65 hl (k := 0) rfl (by rw [ev65]; rfl) (by decide) rfl (fun ls hl => ?_)
                  refine lv_goto (tgt := 22) hx hb dX6_comeBack_68 (by decide) ?_
                  exact ih22 _ (by omega) v65 p65_4 _ _ _ rfl (by omega) (by omega) (by omega) (by omega) hH hS (lv_sub hl [0, 1, 2, 3, 4, 5] rfl)
                refine lv_if_eq (tgt := 65) hx hb dX6_comeBack_35 (by decide) (fun c35 => ?_) (fun c35 => ?_)
                · skip
                  have tc35 := f_eq (k := 0) (by decide) c35
                  exact J65 p22_4 _ _ _ (by omega) (by omega) hH hS (lv_sub hl [0, 1, 2, 3, 4, 5] rfl)
                · skip
                  have tc35 := f_ne (k := 0) (by decide) c35
                  refine lv_iload hx hb dX6_comeBack_38 (lv_at hl 1 rfl) ?_
                  refine lv_iconst (v := (-1)) hx hb dX6_comeBack_40 (by decide) ?_
                  have J61 : ∀  (H : Heap) (locs : List Loc) (ls : Array Slot), HT D cs A T O X H → va_S A s.heap H locs → lv_has ls 6 [(5, .int p22_5), (3, .int p4_3), (2, .int p4_2), (0, .ref a0), (1, .int x1)] → W p l e { frames := 1, cells := 0, slots := 0, locals := 21 } s m [.ref a0, .int x1].toArray below meth c H locs 0 0 (MQ below (Ti D cs (fun r u => u = (T, O, X)) A) [.ref a0, .int x1].toArray s 0 0 A) (F0 m 61 ls []) := by
                    intro  H locs ls  hH hS hl
                    refine lv_iload hx hb dX6_comeBack_61 (lv_at hl 0 rfl) ?_
                    refine lv_istore (lv' := [(4, .int p22_5), (5, .int p22_5), (3, .int p4_3), (2, .int p4_2), (0, .ref a0), (1, .int x1)]) hx hb dX6_comeBack_63 hl (by decide) rfl (fun ls hl => ?_)
                    exact J65 p22_5 _ _ _ (by omega) (by omega) hH hS (lv_sub hl [1, 0, 2, 3, 4, 5] rfl)
                  refine lv_icmp_eq (tgt := 61) hx hb dX6_comeBack_41 (by decide) (fun c41 => ?_) (fun c41 => ?_)
                  · skip
                    have tc41 := f_eq (k := -1) (by decide) c41
                    exact J61  _ _ _  hH hS (lv_sub hl [0, 2, 3, 4, 5] rfl)
                  · skip
                    have tc41 := f_ne (k := -1) (by decide) c41
                    refine lv_aload_n hx hb dX6_comeBack_44 rfl (lv_at hl 4 rfl) ?_
                    refine t_get (ci := 6) (lst := ft6 0 0) (C := RX6) (F := TX6) (N := 6) hx hb hts uX6 hown hkb hH t_a0 (hO.no t_a0 (by decide)) (fun _ h9 => h9) rfl rfl 5 (by decide) rfl kw_196 (fun _ h9 => h9) dX6_comeBack_45 (fun v9 h9 => ?_)
                    obtain ⟨v45, rfl, t_v45⟩ := h9
                    refine lv_iload hx hb dX6_comeBack_48 (lv_at hl 0 rfl) ?_
                    refine t_ild hx hb hkb hH t_v45 (hO.no t_v45 (by decide)) (by omega) (by omega) dX6_comeBack_50 (fun v50 h9 => ?_)
                    refine lv_aload_n hx hb dX6_comeBack_51 rfl (lv_at hl 4 rfl) ?_
                    refine t_get (ci := 6) (lst := ft6 0 0) (C := RX6) (F := TX6) (N := 6) hx hb hts uX6 hown hkb hH t_a0 (hO.no t_a0 (by decide)) (fun _ h9 => h9) rfl rfl 5 (by decide) rfl kw_196 (fun _ h9 => h9) dX6_comeBack_52 (fun v9 h9 => ?_)
                    obtain ⟨v52, rfl, t_v52⟩ := h9
                    refine lv_iload hx hb dX6_comeBack_55 (lv_at hl 1 rfl) ?_
                    refine t_ild hx hb hkb hH t_v52 (hO.no t_v52 (by decide)) (by omega) (by omega) dX6_comeBack_57 (fun v57 h9 => ?_)
                    refine lv_icmp_ge (tgt := 65) hx hb dX6_comeBack_58 (by decide) (fun c58 => ?_) (fun c58 => ?_)
                    · skip
                      have fuc58 := full_i v50
                      have fvc58 := full_i v57
                      have tc58 := g_le c58
                      exact J65 p22_4 _ _ _ (by omega) (by omega) hH hS (lv_sub hl [0, 1, 2, 3, 4, 5] rfl)
                    · skip
                      have fuc58 := full_i v50
                      have fvc58 := full_i v57
                      have tc58 := g_nle c58
                      exact J61  _ _ _  hH hS (lv_sub hl [0, 2, 3, 4, 5] rfl)
          refine lv_istore (lv' := [(5, .int 0), (4, .int (-1)), (3, .int p4_3), (2, .int p4_2), (0, .ref a0), (1, .int x1)]) hx hb dX6_comeBack_20 hl (by decide) rfl (fun ls hl => ?_)
          exact J22 _ 0 (-1) _ _ _ rfl (by decide) (by decide) (by decide) (by decide) hH hS (lv_sub hl [0, 1, 2, 3, 4, 5] rfl)
  refine lv_istore_n (lv' := [(3, .int 0), (2, .int 0), (0, .ref a0), (1, .int x1)]) hx hb dX6_comeBack_3 rfl hl (by decide) rfl (fun ls hl => ?_)
  exact J4 _ 0 0 _ _ _ rfl (by decide) hH hS (lv_sub hl [0, 1, 2, 3] rfl)
theorem dJ7_fill_d0a16_0 : decode cJ7_fill_d0a16 0 = .ok (.iconst 0, 1) := by decide +kernel
theorem dJ7_fill_d0a16_1 : decode cJ7_fill_d0a16 1 = .ok (.istore_n 3, 1) := by decide +kernel
theorem dJ7_fill_d0a16_2 : decode cJ7_fill_d0a16 2 = .ok (.aload_n 0, 1) := by decide +kernel
theorem dJ7_fill_d0a16_3 : decode cJ7_fill_d0a16 3 = .ok (.arraylength, 1) := by decide +kernel
theorem dJ7_fill_d0a16_4 : decode cJ7_fill_d0a16 4 = .ok (.istore 4, 2) := by decide +kernel
theorem dJ7_fill_d0a16_6 : decode cJ7_fill_d0a16 6 = .ok (.iload_n 3, 1) := by decide +kernel
theorem dJ7_fill_d0a16_7 : decode cJ7_fill_d0a16 7 = .ok (.iload 4, 2) := by decide +kernel
theorem dJ7_fill_d0a16_9 : decode cJ7_fill_d0a16 9 = .ok (.if_icmp .ge 13, 3) := by decide +kernel
theorem dJ7_fill_d0a16_12 : decode cJ7_fill_d0a16 12 = .ok (.aload_n 0, 1) := by decide +kernel
theorem dJ7_fill_d0a16_13 : decode cJ7_fill_d0a16 13 = .ok (.iload_n 3, 1) := by decide +kernel
theorem dJ7_fill_d0a16_14 : decode cJ7_fill_d0a16 14 = .ok (.lload_n 1, 1) := by decide +kernel
theorem dJ7_fill_d0a16_15 : decode cJ7_fill_d0a16 15 = .ok (.lastore, 1) := by decide +kernel
theorem dJ7_fill_d0a16_16 : decode cJ7_fill_d0a16 16 = .ok (.iinc 3 1, 3) := by decide +kernel
theorem dJ7_fill_d0a16_19 : decode cJ7_fill_d0a16 19 = .ok (.goto (-13), 3) := by decide +kernel
theorem dJ7_fill_d0a16_22 : decode cJ7_fill_d0a16 22 = .ok (.return_, 1) := by decide +kernel
theorem dX8_at_0 : decode cX8_at 0 = .ok (.iload_n 1, 1) := by decide +kernel
theorem dX8_at_1 : decode cX8_at 1 = .ok (.ifCond .lt 18, 3) := by decide +kernel
theorem dX8_at_4 : decode cX8_at 4 = .ok (.iload_n 1, 1) := by decide +kernel
theorem dX8_at_5 : decode cX8_at 5 = .ok (.bipush 40, 2) := by decide +kernel
theorem dX8_at_7 : decode cX8_at 7 = .ok (.if_icmp .ge 12, 3) := by decide +kernel
theorem dX8_at_10 : decode cX8_at 10 = .ok (.aload_n 0, 1) := by decide +kernel
theorem dX8_at_11 : decode cX8_at 11 = .ok (.getfield 9, 3) := by decide +kernel
theorem dX8_at_14 : decode cX8_at 14 = .ok (.iload_n 1, 1) := by decide +kernel
theorem dX8_at_15 : decode cX8_at 15 = .ok (.laload, 1) := by decide +kernel
theorem dX8_at_16 : decode cX8_at 16 = .ok (.goto 6, 3) := by decide +kernel
theorem dX8_at_19 : decode cX8_at 19 = .ok (.ldc2_w 28, 3) := by decide +kernel
theorem dX8_at_22 : decode cX8_at 22 = .ok (.lreturn, 1) := by decide +kernel
theorem dX8_isMissing_0 : decode cX8_isMissing 0 = .ok (.aload_n 0, 1) := by decide +kernel
theorem dX8_isMissing_1 : decode cX8_isMissing 1 = .ok (.getfield 19, 3) := by decide +kernel
theorem dX8_isMissing_4 : decode cX8_isMissing 4 = .ok (.iconst (-1), 1) := by decide +kernel
theorem dX8_isMissing_5 : decode cX8_isMissing 5 = .ok (.if_icmp .ne 7, 3) := by decide +kernel
theorem dX8_isMissing_8 : decode cX8_isMissing 8 = .ok (.iconst 1, 1) := by decide +kernel
theorem dX8_isMissing_9 : decode cX8_isMissing 9 = .ok (.goto 4, 3) := by decide +kernel
theorem dX8_isMissing_12 : decode cX8_isMissing 12 = .ok (.iconst 0, 1) := by decide +kernel
theorem dX8_isMissing_13 : decode cX8_isMissing 13 = .ok (.ireturn, 1) := by decide +kernel
theorem dX8_lay_0 : decode cX8_lay 0 = .ok (.aload_n 0, 1) := by decide +kernel
theorem dX8_lay_1 : decode cX8_lay 1 = .ok (.iload_n 1, 1) := by decide +kernel
theorem dX8_lay_2 : decode cX8_lay 2 = .ok (.putfield 15, 3) := by decide +kernel
theorem dX8_lay_5 : decode cX8_lay 5 = .ok (.aload_n 0, 1) := by decide +kernel
theorem dX8_lay_6 : decode cX8_lay 6 = .ok (.iload_n 2, 1) := by decide +kernel
theorem dX8_lay_7 : decode cX8_lay 7 = .ok (.putfield 19, 3) := by decide +kernel
theorem dX8_lay_10 : decode cX8_lay 10 = .ok (.aload_n 0, 1) := by decide +kernel
theorem dX8_lay_11 : decode cX8_lay 11 = .ok (.getfield 9, 3) := by decide +kernel
theorem dX8_lay_14 : decode cX8_lay 14 = .ok (.lconst 0, 1) := by decide +kernel
theorem dX8_lay_15 : decode cX8_lay 15 = .ok (.invokestatic 22, 3) := by decide +kernel
theorem dX8_lay_18 : decode cX8_lay 18 = .ok (.return_, 1) := by decide +kernel
theorem dX8_put_0 : decode cX8_put 0 = .ok (.iload_n 1, 1) := by decide +kernel
theorem dX8_put_1 : decode cX8_put 1 = .ok (.ifCond .lt 9, 3) := by decide +kernel
theorem dX8_put_4 : decode cX8_put 4 = .ok (.iload_n 1, 1) := by decide +kernel
theorem dX8_put_5 : decode cX8_put 5 = .ok (.bipush 40, 2) := by decide +kernel
theorem dX8_put_7 : decode cX8_put 7 = .ok (.if_icmp .lt 7, 3) := by decide +kernel
theorem dX8_put_10 : decode cX8_put 10 = .ok (.ldc2_w 28, 3) := by decide +kernel
theorem dX8_put_13 : decode cX8_put 13 = .ok (.lreturn, 1) := by decide +kernel
theorem dX8_put_14 : decode cX8_put 14 = .ok (.aload_n 0, 1) := by decide +kernel
theorem dX8_put_15 : decode cX8_put 15 = .ok (.getfield 15, 3) := by decide +kernel
theorem dX8_put_18 : decode cX8_put 18 = .ok (.tableswitch 64 0 2 #[26, 39, 52], 26) := by decide +kernel
theorem dX8_put_44 : decode cX8_put 44 = .ok (.aload_n 0, 1) := by decide +kernel
theorem dX8_put_45 : decode cX8_put 45 = .ok (.getfield 9, 3) := by decide +kernel
theorem dX8_put_48 : decode cX8_put 48 = .ok (.iload_n 1, 1) := by decide +kernel
theorem dX8_put_49 : decode cX8_put 49 = .ok (.lload_n 2, 1) := by decide +kernel
theorem dX8_put_50 : decode cX8_put 50 = .ok (.l2i, 1) := by decide +kernel
theorem dX8_put_51 : decode cX8_put 51 = .ok (.i2b, 1) := by decide +kernel
theorem dX8_put_52 : decode cX8_put 52 = .ok (.i2l, 1) := by decide +kernel
theorem dX8_put_53 : decode cX8_put 53 = .ok (.lastore, 1) := by decide +kernel
theorem dX8_put_54 : decode cX8_put 54 = .ok (.goto 35, 3) := by decide +kernel
theorem dX8_put_57 : decode cX8_put 57 = .ok (.aload_n 0, 1) := by decide +kernel
theorem dX8_put_58 : decode cX8_put 58 = .ok (.getfield 9, 3) := by decide +kernel
theorem dX8_put_61 : decode cX8_put 61 = .ok (.iload_n 1, 1) := by decide +kernel
theorem dX8_put_62 : decode cX8_put 62 = .ok (.lload_n 2, 1) := by decide +kernel
theorem dX8_put_63 : decode cX8_put 63 = .ok (.l2i, 1) := by decide +kernel
theorem dX8_put_64 : decode cX8_put 64 = .ok (.i2s, 1) := by decide +kernel
theorem dX8_put_65 : decode cX8_put 65 = .ok (.i2l, 1) := by decide +kernel
theorem dX8_put_66 : decode cX8_put 66 = .ok (.lastore, 1) := by decide +kernel
theorem dX8_put_67 : decode cX8_put 67 = .ok (.goto 22, 3) := by decide +kernel
theorem dX8_put_70 : decode cX8_put 70 = .ok (.aload_n 0, 1) := by decide +kernel
theorem dX8_put_71 : decode cX8_put 71 = .ok (.getfield 9, 3) := by decide +kernel
theorem dX8_put_74 : decode cX8_put 74 = .ok (.iload_n 1, 1) := by decide +kernel
theorem dX8_put_75 : decode cX8_put 75 = .ok (.lload_n 2, 1) := by decide +kernel
theorem dX8_put_76 : decode cX8_put 76 = .ok (.l2i, 1) := by decide +kernel
theorem dX8_put_77 : decode cX8_put 77 = .ok (.i2l, 1) := by decide +kernel
theorem dX8_put_78 : decode cX8_put 78 = .ok (.lastore, 1) := by decide +kernel
theorem dX8_put_79 : decode cX8_put 79 = .ok (.goto 10, 3) := by decide +kernel
theorem dX8_put_82 : decode cX8_put 82 = .ok (.aload_n 0, 1) := by decide +kernel
theorem dX8_put_83 : decode cX8_put 83 = .ok (.getfield 9, 3) := by decide +kernel
theorem dX8_put_86 : decode cX8_put 86 = .ok (.iload_n 1, 1) := by decide +kernel
theorem dX8_put_87 : decode cX8_put 87 = .ok (.lload_n 2, 1) := by decide +kernel
theorem dX8_put_88 : decode cX8_put 88 = .ok (.lastore, 1) := by decide +kernel
theorem dX8_put_89 : decode cX8_put 89 = .ok (.aload_n 0, 1) := by decide +kernel
theorem dX8_put_90 : decode cX8_put 90 = .ok (.getfield 9, 3) := by decide +kernel
theorem dX8_put_93 : decode cX8_put 93 = .ok (.iload_n 1, 1) := by decide +kernel
theorem dX8_put_94 : decode cX8_put 94 = .ok (.laload, 1) := by decide +kernel
theorem dX8_put_95 : decode cX8_put 95 = .ok (.lreturn, 1) := by decide +kernel
theorem kw_22 : Cond.initialized "java/util/Arrays" ∈ gw := gw_of (tb_of 22 (by decide +kernel)) (by decide +kernel)
theorem kw_349 : Cond.fieldLink "FootholdWall$Tray" 9 "FootholdWall$Tray" "numbers" "[J" ∈ gw := gw_of (tb_of 349 (by decide +kernel)) (by decide +kernel)
theorem kw_350 : Cond.fieldLink "FootholdWall$Tray" 15 "FootholdWall$Tray" "sort" "I" ∈ gw := gw_of (tb_of 350 (by decide +kernel)) (by decide +kernel)
theorem kw_351 : Cond.fieldLink "FootholdWall$Tray" 19 "FootholdWall$Tray" "size" "I" ∈ gw := gw_of (tb_of 351 (by decide +kernel)) (by decide +kernel)
theorem kw_886 : Cond.constantLong "FootholdWall$Tray" 28 (-1) ∈ gw := gw_of (tb_of 886 (by decide +kernel)) (by decide +kernel)
theorem kw_1181 : Cond.methodLink "FootholdWall$Tray" 22 yJ7_fill_d0a16 ∈ gw := gw_of (tb_of 1181 (by decide +kernel)) (by decide +kernel)
theorem kw_1182 : Cond.static yJ7_fill_d0a16 ∈ gw := gw_of (tb_of 1182 (by decide +kernel)) (by decide +kernel)
theorem kw_1183 : Cond.code yJ7_fill_d0a16 cJ7_fill_d0a16 5 none ∈ gw := gw_of (tb_of 1183 (by decide +kernel)) (by decide +kernel)
set_option maxHeartbeats 4000000 in
set_option maxRecDepth 100000 in
theorem s_Tray_isMissing (l : Launch) (D : va_G) (cs : CS) (kf : KF) (T : TF) (O : List Nat) (X : va_W) (a0 : Nat) (t_a0 : T a0 = some (18, 0, 0)) (hO : okO T O [18]) : TK l D cs kf yX8_isMissing cX8_isMissing 1 (some (.boolean)) { frames := 0, cells := 0, slots := 0, locals := 0 } [.ref a0] T O X (Ti D cs (fun r u => u = (T, O, X) ∧ 0 ≤ r.toInt ∧ r.toInt ≤ 1)) := by
  refine tk_of (by decide) (Nat.le_of_ble_eq_true rfl) (fun p e s m below meth c ls A H locs hx hb hr hml hown hts hlocks hnm hkb hH hS hA hOX hks hE hl => ?_)
  have hown : s.vm.findClass RX8 = some m.cls := hown
  have hl : lv_has ls 1 [(0, .ref a0)] := hl
  refine lv_aload_n hx hb dX8_isMissing_0 rfl (lv_at hl 0 rfl) ?_
  refine t_get (ci := 8) (lst := ft8 0 0) (C := RX8) (F := TX8) (N := 3) hx hb hts uX8 hown hkb hH t_a0 (hO.no t_a0 (by decide)) (fun _ h9 => h9) rfl rfl 2 (by decide) rfl kw_351 (fun _ h9 => h9) dX8_isMissing_1 (fun v9 h9 => ?_)
  obtain ⟨v1, rfl, l_v1, u_v1⟩ := h9
  refine lv_iconst (v := (-1)) hx hb dX8_isMissing_4 (by decide) ?_
  have J13 : ∀ (k13_0 : Int32) (H : Heap) (locs : List Loc) (ls : Array Slot), (0 ≤ k13_0.toInt) → (k13_0.toInt ≤ 1) → HT D cs A T O X H → va_S A s.heap H locs → lv_has ls 1 [] → W p l e { frames := 0, cells := 0, slots := 0, locals := 0 } s m [.ref a0].toArray below meth c H locs 0 0 (MQ below (Ti D cs (fun r u => u = (T, O, X) ∧ 0 ≤ r.toInt ∧ r.toInt ≤ 1) A) [.ref a0].toArray s 0 0 A) (F0 m 13 ls [.int k13_0]) := by
    intro k13_0 H locs ls l_k13_0 u_k13_0 hH hS hl
    exact te_z hx hb hr hlocks (nar01 (by omega) (by omega)) hH hS (⟨rfl, by omega, by omega⟩) dX8_isMissing_13
  refine lv_icmp_ne (tgt := 12) hx hb dX8_isMissing_5 (by decide) (fun c5 => ?_) (fun c5 => ?_)
  · skip
    have tc5 := f_ne (k := -1) (by decide) c5
    refine lv_iconst (v := 0) hx hb dX8_isMissing_12 (by decide) ?_
    exact J13 0 _ _ _ (by decide) (by decide) hH hS (lv_sub hl [] rfl)
  · skip
    have tc5 := f_eq (k := -1) (by decide) c5
    refine lv_iconst (v := 1) hx hb dX8_isMissing_8 (by decide) ?_
    refine lv_goto (tgt := 13) hx hb dX8_isMissing_9 (by decide) ?_
    exact J13 1 _ _ _ (by decide) (by decide) hH hS (lv_sub hl [] rfl)
set_option maxHeartbeats 4000000 in
set_option maxRecDepth 100000 in
theorem s_fill (l : Launch) (D : va_G) (cs : CS) (kf : KF) (T : TF) (O : List Nat) (X : va_W) (a0 : Nat) (x1 : Int64) (t_a0 : T a0 = some (2, 40, 0)) (hO : okO T O [2]) : TK l D cs kf yJ7_fill_d0a16 cJ7_fill_d0a16 5 none { frames := 0, cells := 0, slots := 0, locals := 0 } [.ref a0, .long x1] T O X (Tv D cs (fun u => u = (T, O, X))) := by
  refine tk_of (by decide) (Nat.le_of_ble_eq_true rfl) (fun p e s m below meth c ls A H locs hx hb hr hml hown hts hlocks hnm hkb hH hS hA hOX hks hE hl => ?_)
  have hown : s.vm.findClass RJ7 = some m.cls := hown
  have hl : lv_has ls 5 [(0, .ref a0), (1, .long x1)] := hl
  refine lv_iconst (v := 0) hx hb dJ7_fill_d0a16_0 (by decide) ?_
  refine lv_istore_n (lv' := [(3, .int 0), (0, .ref a0), (1, .long x1)]) hx hb dJ7_fill_d0a16_1 rfl hl (by decide) rfl (fun ls hl => ?_)
  refine lv_aload_n hx hb dJ7_fill_d0a16_2 rfl (lv_at hl 1 rfl) ?_
  refine t_len2 hx hb hkb hH t_a0 (hO.no t_a0 (by decide)) dJ7_fill_d0a16_3 ?_
  refine lv_topc (y := 40) (by rfl) ?_
  have J6 : ∀ (n : Nat) (p6_3 : Int32) (H : Heap) (locs : List Loc) (ls : Array Slot), (40 - p6_3.toInt).toNat = n → (0 ≤ p6_3.toInt) → (p6_3.toInt ≤ 40) → HT D cs A T O X H → va_S A s.heap H locs → lv_has ls 5 [(4, .int 40), (3, .int p6_3), (0, .ref a0), (1, .long x1)] → W p l e { frames := 0, cells := 0, slots := 0, locals := 0 } s m [.ref a0, .long x1].toArray below meth c H locs 0 0 (MQ below (Tv D cs (fun u => u = (T, O, X)) A) [.ref a0, .long x1].toArray s 0 0 A) (F0 m 6 ls []) := by
    intro n
    induction n using Nat.strongRecOn with
    | _ n ih6 =>
      intro p6_3 H locs ls hm6 l_p6_3 u_p6_3 hH hS hl
      refine lv_iload_n hx hb dJ7_fill_d0a16_6 rfl (lv_at hl 1 rfl) ?_
      refine lv_iload hx hb dJ7_fill_d0a16_7 (lv_at hl 0 rfl) ?_
      refine lv_icmp_ge (tgt := 22) hx hb dJ7_fill_d0a16_9 (by decide) (fun c9 => ?_) (fun c9 => ?_)
      · skip
        have tc9 := f_ge (k := 40) (by decide) c9
        exact te_v hx hb hr hlocks hH hS rfl dJ7_fill_d0a16_22
      · skip
        have tc9 := f_nge (k := 40) (by decide) c9
        refine lv_aload_n hx hb dJ7_fill_d0a16_12 rfl (lv_at hl 2 rfl) ?_
        refine lv_iload_n hx hb dJ7_fill_d0a16_13 rfl (lv_at hl 1 rfl) ?_
        refine lv_lload_n hx hb dJ7_fill_d0a16_14 rfl (lv_at hl 3 rfl) ?_
        refine t_lst hx hb hkb hH hS t_a0 (hO.no t_a0 (by decide)) (by omega) (by omega) dJ7_fill_d0a16_15 (fun H locs hH hS => ?_)
        obtain ⟨v16, ev16⟩ : ∃ y : Int32, y = p6_3 + 1 := ⟨_, rfl⟩
        have tv16 : v16.toInt = p6_3.toInt + (1) := by rw [ev16]; exact add_i rfl (by decide) (by omega) (by omega)
        refine lv_iinc (v := v16) (lv' := [(3, .int v16), (4, .int 40), (0, .ref a0), (1, .long x1)]) hx hb dJ7_fill_d0a16_16 hl (k := 1) rfl (by rw [ev16]; rfl) (by decide) rfl (fun ls hl => ?_)
        refine lv_goto (tgt := 6) hx hb dJ7_fill_d0a16_19 (by decide) ?_
        exact ih6 _ (by omega) v16 _ _ _ rfl (by omega) (by omega) hH hS (lv_sub hl [1, 0, 2, 3] rfl)
  refine lv_istore (lv' := [(4, .int 40), (3, .int 0), (0, .ref a0), (1, .long x1)]) hx hb dJ7_fill_d0a16_4 hl (by decide) rfl (fun ls hl => ?_)
  exact J6 _ 0 _ _ _ rfl (by decide) (by decide) hH hS (lv_sub hl [0, 1, 2, 3] rfl)
set_option maxHeartbeats 4000000 in
set_option maxRecDepth 100000 in
theorem s_Tray_lay (l : Launch) (D : va_G) (cs : CS) (kf : KF) (T : TF) (O : List Nat) (X : va_W) (a0 : Nat) (x1 : Int32) (x2 : Int32) (t_a0 : T a0 = some (18, 0, 0)) (l_x2 : 0 ≤ x2.toInt) (u_x2 : x2.toInt ≤ 40) (hO : okO T O [2, 18]) : TK l D cs kf yX8_lay cX8_lay 3 none { frames := 1, cells := 0, slots := 0, locals := 24 } [.ref a0, .int x1, .int x2] T O X (Tv D cs (fun u => u = (T, O, X))) := by
  refine tk_of (by decide) (Nat.le_of_ble_eq_true rfl) (fun p e s m below meth c ls A H locs hx hb hr hml hown hts hlocks hnm hkb hH hS hA hOX hks hE hl => ?_)
  have hown : s.vm.findClass RX8 = some m.cls := hown
  have hl : lv_has ls 3 [(0, .ref a0), (1, .int x1), (2, .int x2)] := hl
  refine lv_aload_n hx hb dX8_lay_0 rfl (lv_at hl 0 rfl) ?_
  refine lv_iload_n hx hb dX8_lay_1 rfl (lv_at hl 1 rfl) ?_
  refine t_put (ci := 8) (lst := ft8 0 0) (v := .int x1) (ty := tyX8 1) (C := RX8) (F := TX8) (N := 3) hx hb hts uX8 tyX8 tyX8_ok nmX8 hown hkb hH hS t_a0 (hO.no t_a0 (by decide)) (fun _ => Iff.rfl) rfl rfl 1 (by decide) rfl (⟨_, rfl⟩) kw_350 (fun _ h9 => h9) rfl (tyX8_ok 1 (by decide)) rfl rfl dX8_lay_2 (fun H locs hH hS => ?_)
  refine lv_aload_n hx hb dX8_lay_5 rfl (lv_at hl 0 rfl) ?_
  refine lv_iload_n hx hb dX8_lay_6 rfl (lv_at hl 2 rfl) ?_
  refine t_put (ci := 8) (lst := ft8 0 0) (v := .int x2) (ty := tyX8 2) (C := RX8) (F := TX8) (N := 3) hx hb hts uX8 tyX8 tyX8_ok nmX8 hown hkb hH hS t_a0 (hO.no t_a0 (by decide)) (fun _ => Iff.rfl) rfl rfl 2 (by decide) rfl (⟨_, rfl, by omega, by omega⟩) kw_351 (fun _ h9 => h9) rfl (tyX8_ok 2 (by decide)) rfl rfl dX8_lay_7 (fun H locs hH hS => ?_)
  refine lv_aload_n hx hb dX8_lay_10 rfl (lv_at hl 0 rfl) ?_
  refine t_get (ci := 8) (lst := ft8 0 0) (C := RX8) (F := TX8) (N := 3) hx hb hts uX8 hown hkb hH t_a0 (hO.no t_a0 (by decide)) (fun _ h9 => h9) rfl rfl 0 (by decide) rfl kw_349 (fun _ h9 => h9) dX8_lay_11 (fun v9 h9 => ?_)
  obtain ⟨v11, rfl, t_v11⟩ := h9
  refine lv_lconst (v := 0) hx hb dX8_lay_14 (by decide) ?_
  refine tk_v hH hS hA (tr_S (n := 2) (As := [.ref v11, .long 0]) hx hb hml hown hts hkb hH hOX hks hE hS hA (s_fill l D cs kf T O X v11 0 t_v11 (hO.sub (by decide))) kw_1181 kw_1182 kw_22 kw_1183 (by decide +kernel) ⟨Nat.le_of_ble_eq_true rfl, Nat.le_of_ble_eq_true rfl⟩ rfl rfl hl.1 (Nat.le_of_ble_eq_true rfl) dX8_lay_15 ⟨Nat.le_of_ble_eq_true rfl, Nat.le_of_ble_eq_true rfl⟩) (fun u H locs hz9 hH hS => ?_)
  have hz9 : u = (T, O, X) := hz9
  subst hz9
  have hH : HT D cs A T O X H := hH
  refine W.widen (k := 0) (n := 0) (Nat.le_of_ble_eq_true rfl) (Nat.le_of_ble_eq_true rfl) ?_
  exact te_v hx hb hr hlocks hH hS rfl dX8_lay_18
set_option maxHeartbeats 4000000 in
set_option maxRecDepth 100000 in
theorem s_Tray_at (l : Launch) (D : va_G) (cs : CS) (kf : KF) (T : TF) (O : List Nat) (X : va_W) (a0 : Nat) (x1 : Int32) (t_a0 : T a0 = some (18, 0, 0)) (hO : okO T O [2, 18]) : TK l D cs kf yX8_at cX8_at 2 (some (.long)) { frames := 0, cells := 0, slots := 0, locals := 0 } [.ref a0, .int x1] T O X (Tl D cs (fun _ u => u = (T, O, X))) := by
  refine tk_of (by decide) (Nat.le_of_ble_eq_true rfl) (fun p e s m below meth c ls A H locs hx hb hr hml hown hts hlocks hnm hkb hH hS hA hOX hks hE hl => ?_)
  have hown : s.vm.findClass RX8 = some m.cls := hown
  have hl : lv_has ls 2 [(0, .ref a0), (1, .int x1)] := hl
  refine lv_iload_n hx hb dX8_at_0 rfl (lv_at hl 1 rfl) ?_
  have J22 : ∀ (k22_0 : Int64) (H : Heap) (locs : List Loc) (ls : Array Slot), HT D cs A T O X H → va_S A s.heap H locs → lv_has ls 2 [] → W p l e { frames := 0, cells := 0, slots := 0, locals := 0 } s m [.ref a0, .int x1].toArray below meth c H locs 0 0 (MQ below (Tl D cs (fun _ u => u = (T, O, X)) A) [.ref a0, .int x1].toArray s 0 0 A) (F0 m 22 ls [.long k22_0]) := by
    intro k22_0 H locs ls  hH hS hl
    exact te_l hx hb hr hlocks hH hS rfl dX8_at_22
  have J19 : ∀  (H : Heap) (locs : List Loc) (ls : Array Slot), HT D cs A T O X H → va_S A s.heap H locs → lv_has ls 2 [] → W p l e { frames := 0, cells := 0, slots := 0, locals := 0 } s m [.ref a0, .int x1].toArray below meth c H locs 0 0 (MQ below (Tl D cs (fun _ u => u = (T, O, X)) A) [.ref a0, .int x1].toArray s 0 0 A) (F0 m 19 ls []) := by
    intro  H locs ls  hH hS hl
    refine lv_ldc2 hx hb hown (hts _ kw_886) dX8_at_19 ?_
    exact J22 (-1) _ _ _  hH hS (lv_sub hl [] rfl)
  refine lv_if_lt (tgt := 19) hx hb dX8_at_1 (by decide) (fun c1 => ?_) (fun c1 => ?_)
  · skip
    have tc1 := f_lt (k := 0) (by decide) c1
    exact J19  _ _ _  hH hS (lv_sub hl [] rfl)
  · skip
    have tc1 := f_nlt (k := 0) (by decide) c1
    refine lv_iload_n hx hb dX8_at_4 rfl (lv_at hl 1 rfl) ?_
    refine lv_bipush (v := 40) hx hb dX8_at_5 (by decide) ?_
    refine lv_icmp_ge (tgt := 19) hx hb dX8_at_7 (by decide) (fun c7 => ?_) (fun c7 => ?_)
    · skip
      have tc7 := f_ge (k := 40) (by decide) c7
      exact J19  _ _ _  hH hS (lv_sub hl [] rfl)
    · skip
      have tc7 := f_nge (k := 40) (by decide) c7
      refine lv_aload_n hx hb dX8_at_10 rfl (lv_at hl 0 rfl) ?_
      refine t_get (ci := 8) (lst := ft8 0 0) (C := RX8) (F := TX8) (N := 3) hx hb hts uX8 hown hkb hH t_a0 (hO.no t_a0 (by decide)) (fun _ h9 => h9) rfl rfl 0 (by decide) rfl kw_349 (fun _ h9 => h9) dX8_at_11 (fun v9 h9 => ?_)
      obtain ⟨v11, rfl, t_v11⟩ := h9
      refine lv_iload_n hx hb dX8_at_14 rfl (lv_at hl 1 rfl) ?_
      refine t_lld hx hb hkb hH t_v11 (hO.no t_v11 (by decide)) (by omega) (by omega) dX8_at_15 (fun v15 => ?_)
      refine lv_goto (tgt := 22) hx hb dX8_at_16 (by decide) ?_
      exact J22 v15 _ _ _  hH hS (lv_sub hl [] rfl)
set_option maxHeartbeats 4000000 in
set_option maxRecDepth 100000 in
theorem s_Tray_put (l : Launch) (D : va_G) (cs : CS) (kf : KF) (T : TF) (O : List Nat) (X : va_W) (a0 : Nat) (x1 : Int32) (x2 : Int64) (t_a0 : T a0 = some (18, 0, 0)) (hO : okO T O [2, 18]) : TK l D cs kf yX8_put cX8_put 4 (some (.long)) { frames := 0, cells := 0, slots := 0, locals := 0 } [.ref a0, .int x1, .long x2] T O X (Tl D cs (fun _ u => u = (T, O, X))) := by
  refine tk_of (by decide) (Nat.le_of_ble_eq_true rfl) (fun p e s m below meth c ls A H locs hx hb hr hml hown hts hlocks hnm hkb hH hS hA hOX hks hE hl => ?_)
  have hown : s.vm.findClass RX8 = some m.cls := hown
  have hl : lv_has ls 4 [(0, .ref a0), (1, .int x1), (2, .long x2)] := hl
  refine lv_iload_n hx hb dX8_put_0 rfl (lv_at hl 1 rfl) ?_
  have J10 : ∀  (H : Heap) (locs : List Loc) (ls : Array Slot), HT D cs A T O X H → va_S A s.heap H locs → lv_has ls 4 [] → W p l e { frames := 0, cells := 0, slots := 0, locals := 0 } s m [.ref a0, .int x1, .long x2].toArray below meth c H locs 0 0 (MQ below (Tl D cs (fun _ u => u = (T, O, X)) A) [.ref a0, .int x1, .long x2].toArray s 0 0 A) (F0 m 10 ls []) := by
    intro  H locs ls  hH hS hl
    refine lv_ldc2 hx hb hown (hts _ kw_886) dX8_put_10 ?_
    exact te_l hx hb hr hlocks hH hS rfl dX8_put_13
  refine lv_if_lt (tgt := 10) hx hb dX8_put_1 (by decide) (fun c1 => ?_) (fun c1 => ?_)
  · skip
    have tc1 := f_lt (k := 0) (by decide) c1
    exact J10  _ _ _  hH hS (lv_sub hl [] rfl)
  · skip
    have tc1 := f_nlt (k := 0) (by decide) c1
    refine lv_iload_n hx hb dX8_put_4 rfl (lv_at hl 1 rfl) ?_
    refine lv_bipush (v := 40) hx hb dX8_put_5 (by decide) ?_
    refine lv_icmp_lt (tgt := 14) hx hb dX8_put_7 (by decide) (fun c7 => ?_) (fun c7 => ?_)
    · skip
      have tc7 := f_lt (k := 40) (by decide) c7
      refine lv_aload_n hx hb dX8_put_14 rfl (lv_at hl 0 rfl) ?_
      refine t_get (ci := 8) (lst := ft8 0 0) (C := RX8) (F := TX8) (N := 3) hx hb hts uX8 hown hkb hH t_a0 (hO.no t_a0 (by decide)) (fun _ h9 => h9) rfl rfl 1 (by decide) rfl kw_350 (fun _ h9 => h9) dX8_put_15 (fun v9 h9 => ?_)
      obtain ⟨v15, rfl⟩ := h9
      have J89 : ∀  (H : Heap) (locs : List Loc) (ls : Array Slot), HT D cs A T O X H → va_S A s.heap H locs → lv_has ls 4 [(0, .ref a0), (1, .int x1)] → W p l e { frames := 0, cells := 0, slots := 0, locals := 0 } s m [.ref a0, .int x1, .long x2].toArray below meth c H locs 0 0 (MQ below (Tl D cs (fun _ u => u = (T, O, X)) A) [.ref a0, .int x1, .long x2].toArray s 0 0 A) (F0 m 89 ls []) := by
        intro  H locs ls  hH hS hl
        refine lv_aload_n hx hb dX8_put_89 rfl (lv_at hl 0 rfl) ?_
        refine t_get (ci := 8) (lst := ft8 0 0) (C := RX8) (F := TX8) (N := 3) hx hb hts uX8 hown hkb hH t_a0 (hO.no t_a0 (by decide)) (fun _ h9 => h9) rfl rfl 0 (by decide) rfl kw_349 (fun _ h9 => h9) dX8_put_90 (fun v9 h9 => ?_)
        obtain ⟨v90, rfl, t_v90⟩ := h9
        refine lv_iload_n hx hb dX8_put_93 rfl (lv_at hl 1 rfl) ?_
        refine t_lld hx hb hkb hH t_v90 (hO.no t_v90 (by decide)) (by omega) (by omega) dX8_put_94 (fun v94 => ?_)
        exact te_l hx hb hr hlocks hH hS rfl dX8_put_95
      by_cases c18_0 : v15 = 0
      · skip
        refine lv_topc c18_0 ?_
        have tc18_0 := f_eq (k := 0) (by decide) c18_0
        refine lv_tableIn (off := 26) (tgt := 44) hx hb dX8_put_18 (by decide) (by decide) (by decide) (by decide) ?_
        refine lv_aload_n hx hb dX8_put_44 rfl (lv_at hl 0 rfl) ?_
        refine t_get (ci := 8) (lst := ft8 0 0) (C := RX8) (F := TX8) (N := 3) hx hb hts uX8 hown hkb hH t_a0 (hO.no t_a0 (by decide)) (fun _ h9 => h9) rfl rfl 0 (by decide) rfl kw_349 (fun _ h9 => h9) dX8_put_45 (fun v9 h9 => ?_)
        obtain ⟨v45, rfl, t_v45⟩ := h9
        refine lv_iload_n hx hb dX8_put_48 rfl (lv_at hl 1 rfl) ?_
        refine lv_lload_n hx hb dX8_put_49 rfl (lv_at hl 2 rfl) ?_
        refine lv_l2i hx hb dX8_put_50 rfl ?_
        refine lv_topi (fun v50 ev50 => ?_)
        refine lv_i2b hx hb dX8_put_51 rfl ?_
        refine lv_topi (fun v51 ev51 => ?_)
        refine lv_i2l hx hb dX8_put_52 rfl ?_
        refine t_lst hx hb hkb hH hS t_v45 (hO.no t_v45 (by decide)) (by omega) (by omega) dX8_put_53 (fun H locs hH hS => ?_)
        refine lv_goto (tgt := 89) hx hb dX8_put_54 (by decide) ?_
        exact J89  _ _ _  hH hS (lv_sub hl [0, 1] rfl)
      have tc18_0 := f_ne (k := 0) (by decide) c18_0
      by_cases c18_1 : v15 = 1
      · skip
        refine lv_topc c18_1 ?_
        have tc18_1 := f_eq (k := 1) (by decide) c18_1
        refine lv_tableIn (off := 39) (tgt := 57) hx hb dX8_put_18 (by decide) (by decide) (by decide) (by decide) ?_
        refine lv_aload_n hx hb dX8_put_57 rfl (lv_at hl 0 rfl) ?_
        refine t_get (ci := 8) (lst := ft8 0 0) (C := RX8) (F := TX8) (N := 3) hx hb hts uX8 hown hkb hH t_a0 (hO.no t_a0 (by decide)) (fun _ h9 => h9) rfl rfl 0 (by decide) rfl kw_349 (fun _ h9 => h9) dX8_put_58 (fun v9 h9 => ?_)
        obtain ⟨v58, rfl, t_v58⟩ := h9
        refine lv_iload_n hx hb dX8_put_61 rfl (lv_at hl 1 rfl) ?_
        refine lv_lload_n hx hb dX8_put_62 rfl (lv_at hl 2 rfl) ?_
        refine lv_l2i hx hb dX8_put_63 rfl ?_
        refine lv_topi (fun v63 ev63 => ?_)
        refine lv_i2s hx hb dX8_put_64 rfl ?_
        refine lv_topi (fun v64 ev64 => ?_)
        refine lv_i2l hx hb dX8_put_65 rfl ?_
        refine t_lst hx hb hkb hH hS t_v58 (hO.no t_v58 (by decide)) (by omega) (by omega) dX8_put_66 (fun H locs hH hS => ?_)
        refine lv_goto (tgt := 89) hx hb dX8_put_67 (by decide) ?_
        exact J89  _ _ _  hH hS (lv_sub hl [0, 1] rfl)
      have tc18_1 := f_ne (k := 1) (by decide) c18_1
      by_cases c18_2 : v15 = 2
      · skip
        refine lv_topc c18_2 ?_
        have tc18_2 := f_eq (k := 2) (by decide) c18_2
        refine lv_tableIn (off := 52) (tgt := 70) hx hb dX8_put_18 (by decide) (by decide) (by decide) (by decide) ?_
        refine lv_aload_n hx hb dX8_put_70 rfl (lv_at hl 0 rfl) ?_
        refine t_get (ci := 8) (lst := ft8 0 0) (C := RX8) (F := TX8) (N := 3) hx hb hts uX8 hown hkb hH t_a0 (hO.no t_a0 (by decide)) (fun _ h9 => h9) rfl rfl 0 (by decide) rfl kw_349 (fun _ h9 => h9) dX8_put_71 (fun v9 h9 => ?_)
        obtain ⟨v71, rfl, t_v71⟩ := h9
        refine lv_iload_n hx hb dX8_put_74 rfl (lv_at hl 1 rfl) ?_
        refine lv_lload_n hx hb dX8_put_75 rfl (lv_at hl 2 rfl) ?_
        refine lv_l2i hx hb dX8_put_76 rfl ?_
        refine lv_topi (fun v76 ev76 => ?_)
        refine lv_i2l hx hb dX8_put_77 rfl ?_
        refine t_lst hx hb hkb hH hS t_v71 (hO.no t_v71 (by decide)) (by omega) (by omega) dX8_put_78 (fun H locs hH hS => ?_)
        refine lv_goto (tgt := 89) hx hb dX8_put_79 (by decide) ?_
        exact J89  _ _ _  hH hS (lv_sub hl [0, 1] rfl)
      have tc18_2 := f_ne (k := 2) (by decide) c18_2
      refine lv_tableOut (tgt := 82) hx hb dX8_put_18 (by omega) (by decide) ?_
      refine lv_aload_n hx hb dX8_put_82 rfl (lv_at hl 0 rfl) ?_
      refine t_get (ci := 8) (lst := ft8 0 0) (C := RX8) (F := TX8) (N := 3) hx hb hts uX8 hown hkb hH t_a0 (hO.no t_a0 (by decide)) (fun _ h9 => h9) rfl rfl 0 (by decide) rfl kw_349 (fun _ h9 => h9) dX8_put_83 (fun v9 h9 => ?_)
      obtain ⟨v83, rfl, t_v83⟩ := h9
      refine lv_iload_n hx hb dX8_put_86 rfl (lv_at hl 1 rfl) ?_
      refine lv_lload_n hx hb dX8_put_87 rfl (lv_at hl 2 rfl) ?_
      refine t_lst hx hb hkb hH hS t_v83 (hO.no t_v83 (by decide)) (by omega) (by omega) dX8_put_88 (fun H locs hH hS => ?_)
      exact J89  _ _ _  hH hS (lv_sub hl [0, 1] rfl)
    · skip
      have tc7 := f_nlt (k := 40) (by decide) c7
      exact J10  _ _ _  hH hS (lv_sub hl [] rfl)
theorem dX2_asks_0 : decode cX2_asks 0 = .ok (.iconst 1, 1) := by decide +kernel
theorem dX2_asks_1 : decode cX2_asks 1 = .ok (.iload_n 1, 1) := by decide +kernel
theorem dX2_asks_2 : decode cX2_asks 2 = .ok (.iconst 4, 1) := by decide +kernel
theorem dX2_asks_3 : decode cX2_asks 3 = .ok (.ishl, 1) := by decide +kernel
theorem dX2_asks_4 : decode cX2_asks 4 = .ok (.ior, 1) := by decide +kernel
theorem dX2_asks_5 : decode cX2_asks 5 = .ok (.istore_n 2, 1) := by decide +kernel
theorem dX2_asks_6 : decode cX2_asks 6 = .ok (.iconst 0, 1) := by decide +kernel
theorem dX2_asks_7 : decode cX2_asks 7 = .ok (.istore_n 3, 1) := by decide +kernel
theorem dX2_asks_8 : decode cX2_asks 8 = .ok (.iload_n 3, 1) := by decide +kernel
theorem dX2_asks_9 : decode cX2_asks 9 = .ok (.aload_n 0, 1) := by decide +kernel
theorem dX2_asks_10 : decode cX2_asks 10 = .ok (.getfield 16, 3) := by decide +kernel
theorem dX2_asks_13 : decode cX2_asks 13 = .ok (.arraylength, 1) := by decide +kernel
theorem dX2_asks_14 : decode cX2_asks 14 = .ok (.if_icmp .ge 21, 3) := by decide +kernel
theorem dX2_asks_17 : decode cX2_asks 17 = .ok (.aload_n 0, 1) := by decide +kernel
theorem dX2_asks_18 : decode cX2_asks 18 = .ok (.getfield 16, 3) := by decide +kernel
theorem dX2_asks_21 : decode cX2_asks 21 = .ok (.iload_n 3, 1) := by decide +kernel
theorem dX2_asks_22 : decode cX2_asks 22 = .ok (.iaload, 1) := by decide +kernel
theorem dX2_asks_23 : decode cX2_asks 23 = .ok (.iload_n 2, 1) := by decide +kernel
theorem dX2_asks_24 : decode cX2_asks 24 = .ok (.if_icmp .ne 5, 3) := by decide +kernel
theorem dX2_asks_27 : decode cX2_asks 27 = .ok (.iconst 1, 1) := by decide +kernel
theorem dX2_asks_28 : decode cX2_asks 28 = .ok (.ireturn, 1) := by decide +kernel
theorem dX2_asks_29 : decode cX2_asks 29 = .ok (.iinc 3 1, 3) := by decide +kernel
theorem dX2_asks_32 : decode cX2_asks 32 = .ok (.goto (-24), 3) := by decide +kernel
theorem dX2_asks_35 : decode cX2_asks 35 = .ok (.iconst 0, 1) := by decide +kernel
theorem dX2_asks_36 : decode cX2_asks 36 = .ok (.ireturn, 1) := by decide +kernel
theorem dX2_joined_0 : decode cX2_joined 0 = .ok (.lconst 0, 1) := by decide +kernel
theorem dX2_joined_1 : decode cX2_joined 1 = .ok (.lstore_n 3, 1) := by decide +kernel
theorem dX2_joined_2 : decode cX2_joined 2 = .ok (.iload_n 0, 1) := by decide +kernel
theorem dX2_joined_3 : decode cX2_joined 3 = .ok (.tableswitch 82 5 9 #[33, 42, 51, 60, 71], 33) := by decide +kernel
theorem dX2_joined_36 : decode cX2_joined 36 = .ok (.iload_n 1, 1) := by decide +kernel
theorem dX2_joined_37 : decode cX2_joined 37 = .ok (.i2l, 1) := by decide +kernel
theorem dX2_joined_38 : decode cX2_joined 38 = .ok (.iload_n 2, 1) := by decide +kernel
theorem dX2_joined_39 : decode cX2_joined 39 = .ok (.i2l, 1) := by decide +kernel
theorem dX2_joined_40 : decode cX2_joined 40 = .ok (.ladd, 1) := by decide +kernel
theorem dX2_joined_41 : decode cX2_joined 41 = .ok (.lstore_n 3, 1) := by decide +kernel
theorem dX2_joined_42 : decode cX2_joined 42 = .ok (.goto 54, 3) := by decide +kernel
theorem dX2_joined_45 : decode cX2_joined 45 = .ok (.iload_n 1, 1) := by decide +kernel
theorem dX2_joined_46 : decode cX2_joined 46 = .ok (.i2l, 1) := by decide +kernel
theorem dX2_joined_47 : decode cX2_joined 47 = .ok (.iload_n 2, 1) := by decide +kernel
theorem dX2_joined_48 : decode cX2_joined 48 = .ok (.i2l, 1) := by decide +kernel
theorem dX2_joined_49 : decode cX2_joined 49 = .ok (.lsub, 1) := by decide +kernel
theorem dX2_joined_50 : decode cX2_joined 50 = .ok (.lstore_n 3, 1) := by decide +kernel
theorem dX2_joined_51 : decode cX2_joined 51 = .ok (.goto 45, 3) := by decide +kernel
theorem dX2_joined_54 : decode cX2_joined 54 = .ok (.iload_n 1, 1) := by decide +kernel
theorem dX2_joined_55 : decode cX2_joined 55 = .ok (.i2l, 1) := by decide +kernel
theorem dX2_joined_56 : decode cX2_joined 56 = .ok (.iload_n 2, 1) := by decide +kernel
theorem dX2_joined_57 : decode cX2_joined 57 = .ok (.i2l, 1) := by decide +kernel
theorem dX2_joined_58 : decode cX2_joined 58 = .ok (.lmul, 1) := by decide +kernel
theorem dX2_joined_59 : decode cX2_joined 59 = .ok (.lstore_n 3, 1) := by decide +kernel
theorem dX2_joined_60 : decode cX2_joined 60 = .ok (.goto 36, 3) := by decide +kernel
theorem dX2_joined_63 : decode cX2_joined 63 = .ok (.iload_n 1, 1) := by decide +kernel
theorem dX2_joined_64 : decode cX2_joined 64 = .ok (.iload_n 2, 1) := by decide +kernel
theorem dX2_joined_65 : decode cX2_joined 65 = .ok (.if_icmp .ne 7, 3) := by decide +kernel
theorem dX2_joined_68 : decode cX2_joined 68 = .ok (.iconst 1, 1) := by decide +kernel
theorem dX2_joined_69 : decode cX2_joined 69 = .ok (.goto 4, 3) := by decide +kernel
theorem dX2_joined_72 : decode cX2_joined 72 = .ok (.iconst 0, 1) := by decide +kernel
theorem dX2_joined_73 : decode cX2_joined 73 = .ok (.ireturn, 1) := by decide +kernel
theorem dX2_joined_74 : decode cX2_joined 74 = .ok (.iload_n 1, 1) := by decide +kernel
theorem dX2_joined_75 : decode cX2_joined 75 = .ok (.iload_n 2, 1) := by decide +kernel
theorem dX2_joined_76 : decode cX2_joined 76 = .ok (.if_icmp .ge 7, 3) := by decide +kernel
theorem dX2_joined_79 : decode cX2_joined 79 = .ok (.iconst 1, 1) := by decide +kernel
theorem dX2_joined_80 : decode cX2_joined 80 = .ok (.goto 4, 3) := by decide +kernel
theorem dX2_joined_83 : decode cX2_joined 83 = .ok (.iconst 0, 1) := by decide +kernel
theorem dX2_joined_84 : decode cX2_joined 84 = .ok (.ireturn, 1) := by decide +kernel
theorem dX2_joined_85 : decode cX2_joined 85 = .ok (.iload_n 1, 1) := by decide +kernel
theorem dX2_joined_86 : decode cX2_joined 86 = .ok (.iload_n 2, 1) := by decide +kernel
theorem dX2_joined_87 : decode cX2_joined 87 = .ok (.if_icmp .le 7, 3) := by decide +kernel
theorem dX2_joined_90 : decode cX2_joined 90 = .ok (.iconst 1, 1) := by decide +kernel
theorem dX2_joined_91 : decode cX2_joined 91 = .ok (.goto 4, 3) := by decide +kernel
theorem dX2_joined_94 : decode cX2_joined 94 = .ok (.iconst 0, 1) := by decide +kernel
theorem dX2_joined_95 : decode cX2_joined 95 = .ok (.ireturn, 1) := by decide +kernel
theorem dX2_joined_96 : decode cX2_joined 96 = .ok (.lload_n 3, 1) := by decide +kernel
theorem dX2_joined_97 : decode cX2_joined 97 = .ok (.ldc2_w 29, 3) := by decide +kernel
theorem dX2_joined_100 : decode cX2_joined 100 = .ok (.lcmp, 1) := by decide +kernel
theorem dX2_joined_101 : decode cX2_joined 101 = .ok (.ifCond .le 8, 3) := by decide +kernel
theorem dX2_joined_104 : decode cX2_joined 104 = .ok (.ldc 31, 2) := by decide +kernel
theorem dX2_joined_106 : decode cX2_joined 106 = .ok (.goto 18, 3) := by decide +kernel
theorem dX2_joined_109 : decode cX2_joined 109 = .ok (.lload_n 3, 1) := by decide +kernel
theorem dX2_joined_110 : decode cX2_joined 110 = .ok (.ldc2_w 32, 3) := by decide +kernel
theorem dX2_joined_113 : decode cX2_joined 113 = .ok (.lcmp, 1) := by decide +kernel
theorem dX2_joined_114 : decode cX2_joined 114 = .ok (.ifCond .ge 8, 3) := by decide +kernel
theorem dX2_joined_117 : decode cX2_joined 117 = .ok (.ldc 34, 2) := by decide +kernel
theorem dX2_joined_119 : decode cX2_joined 119 = .ok (.goto 5, 3) := by decide +kernel
theorem dX2_joined_122 : decode cX2_joined 122 = .ok (.lload_n 3, 1) := by decide +kernel
theorem dX2_joined_123 : decode cX2_joined 123 = .ok (.l2i, 1) := by decide +kernel
theorem dX2_joined_124 : decode cX2_joined 124 = .ok (.ireturn, 1) := by decide +kernel
theorem kw_739 : Cond.fieldLink "FootholdWall$Law" 16 "FootholdWall$Law" "code" "[I" ∈ gw := gw_of (tb_of 739 (by decide +kernel)) (by decide +kernel)
theorem kw_821 : Cond.constantLong "FootholdWall$Law" 29 1000000 ∈ gw := gw_of (tb_of 821 (by decide +kernel)) (by decide +kernel)
theorem kw_822 : Cond.constant "FootholdWall$Law" 31 1000000 ∈ gw := gw_of (tb_of 822 (by decide +kernel)) (by decide +kernel)
theorem kw_823 : Cond.constantLong "FootholdWall$Law" 32 (-1000000) ∈ gw := gw_of (tb_of 823 (by decide +kernel)) (by decide +kernel)
theorem kw_824 : Cond.constant "FootholdWall$Law" 34 (-1000000) ∈ gw := gw_of (tb_of 824 (by decide +kernel)) (by decide +kernel)
set_option maxHeartbeats 4000000 in
set_option maxRecDepth 100000 in
theorem s_Law_joined (l : Launch) (D : va_G) (cs : CS) (kf : KF) (T : TF) (O : List Nat) (X : va_W) (x0 : Int32) (x1 : Int32) (x2 : Int32)  (hO : okO T O []) : TK l D cs kf yX2_joined cX2_joined 5 (some (.int)) { frames := 0, cells := 0, slots := 0, locals := 0 } [.int x0, .int x1, .int x2] T O X (Ti D cs (fun r u => u = (T, O, X))) := by
  refine tk_of (by decide) (Nat.le_of_ble_eq_true rfl) (fun p e s m below meth c ls A H locs hx hb hr hml hown hts hlocks hnm hkb hH hS hA hOX hks hE hl => ?_)
  have hown : s.vm.findClass RX2 = some m.cls := hown
  have hl : lv_has ls 5 [(0, .int x0), (1, .int x1), (2, .int x2)] := hl
  refine lv_lconst (v := 0) hx hb dX2_joined_0 (by decide) ?_
  refine lv_lstore_n (lv' := [(3, .long 0), (0, .int x0), (1, .int x1), (2, .int x2)]) hx hb dX2_joined_1 rfl hl (by decide) rfl (fun ls hl => ?_)
  refine lv_iload_n hx hb dX2_joined_2 rfl (lv_at hl 1 rfl) ?_
  have J96 : ∀ (p96_3 : Int64) (H : Heap) (locs : List Loc) (ls : Array Slot), HT D cs A T O X H → va_S A s.heap H locs → lv_has ls 5 [(3, .long p96_3)] → W p l e { frames := 0, cells := 0, slots := 0, locals := 0 } s m [.int x0, .int x1, .int x2].toArray below meth c H locs 0 0 (MQ below (Ti D cs (fun r u => u = (T, O, X)) A) [.int x0, .int x1, .int x2].toArray s 0 0 A) (F0 m 96 ls []) := by
    intro p96_3 H locs ls  hH hS hl
    refine lv_lload_n hx hb dX2_joined_96 rfl (lv_at hl 0 rfl) ?_
    refine lv_ldc2 hx hb hown (hts _ kw_821) dX2_joined_97 ?_
    refine W.lcmp hx hb dX2_joined_100 ?_
    have J124 : ∀ (k124_0 : Int32) (H : Heap) (locs : List Loc) (ls : Array Slot), HT D cs A T O X H → va_S A s.heap H locs → lv_has ls 5 [] → W p l e { frames := 0, cells := 0, slots := 0, locals := 0 } s m [.int x0, .int x1, .int x2].toArray below meth c H locs 0 0 (MQ below (Ti D cs (fun r u => u = (T, O, X)) A) [.int x0, .int x1, .int x2].toArray s 0 0 A) (F0 m 124 ls [.int k124_0]) := by
      intro k124_0 H locs ls  hH hS hl
      exact te_i hx hb hr hlocks hH hS (rfl) dX2_joined_124
    refine lv_if_le (tgt := 109) hx hb dX2_joined_101 (by decide) (fun c101 => ?_) (fun c101 => ?_)
    · skip
      have tc101 := le_l c101
      have kc101_1000000 : (1000000 : Int64).toInt = 1000000 := by decide
      refine lv_lload_n hx hb dX2_joined_109 rfl (lv_at hl 0 rfl) ?_
      refine lv_ldc2 hx hb hown (hts _ kw_823) dX2_joined_110 ?_
      refine W.lcmp hx hb dX2_joined_113 ?_
      refine lv_if_ge (tgt := 122) hx hb dX2_joined_114 (by decide) (fun c114 => ?_) (fun c114 => ?_)
      · skip
        have tc114 := ge_l c114
        have kc114_m1000000 : ((-1000000) : Int64).toInt = -1000000 := by decide
        refine lv_lload_n hx hb dX2_joined_122 rfl (lv_at hl 0 rfl) ?_
        refine lv_l2i hx hb dX2_joined_123 rfl ?_
        refine lv_topi (fun v123 ev123 => ?_)
        have tv123 : v123.toInt = p96_3.toInt := by rw [ev123]; exact l2i_b (by omega) (by omega)
        exact J124 v123 _ _ _  hH hS (lv_sub hl [] rfl)
      · skip
        have tc114 := nge_l c114
        have kc114_m1000000 : ((-1000000) : Int64).toInt = -1000000 := by decide
        refine lv_ldc hx hb hown (hts _ kw_824) dX2_joined_117 ?_
        refine lv_goto (tgt := 124) hx hb dX2_joined_119 (by decide) ?_
        exact J124 (-1000000) _ _ _  hH hS (lv_sub hl [] rfl)
    · skip
      have tc101 := nle_l c101
      have kc101_1000000 : (1000000 : Int64).toInt = 1000000 := by decide
      refine lv_ldc hx hb hown (hts _ kw_822) dX2_joined_104 ?_
      refine lv_goto (tgt := 124) hx hb dX2_joined_106 (by decide) ?_
      exact J124 1000000 _ _ _  hH hS (lv_sub hl [] rfl)
  by_cases c3_0 : x0 = 5
  · skip
    refine lv_topc c3_0 ?_
    have tc3_0 := f_eq (k := 5) (by decide) c3_0
    refine lv_tableIn (off := 33) (tgt := 36) hx hb dX2_joined_3 (by decide) (by decide) (by decide) (by decide) ?_
    refine lv_iload_n hx hb dX2_joined_36 rfl (lv_at hl 2 rfl) ?_
    refine lv_i2l hx hb dX2_joined_37 rfl ?_
    refine lv_iload_n hx hb dX2_joined_38 rfl (lv_at hl 3 rfl) ?_
    refine lv_i2l hx hb dX2_joined_39 rfl ?_
    refine lv_ladd hx hb dX2_joined_40 ?_
    refine lv_topl (fun v40 ev40 => ?_)
    refine lv_lstore_n (lv' := [(3, .long v40), (0, .int x0), (1, .int x1), (2, .int x2)]) hx hb dX2_joined_41 rfl hl (by decide) rfl (fun ls hl => ?_)
    refine lv_goto (tgt := 96) hx hb dX2_joined_42 (by decide) ?_
    exact J96 v40 _ _ _  hH hS (lv_sub hl [0] rfl)
  have tc3_0 := f_ne (k := 5) (by decide) c3_0
  by_cases c3_1 : x0 = 6
  · skip
    refine lv_topc c3_1 ?_
    have tc3_1 := f_eq (k := 6) (by decide) c3_1
    refine lv_tableIn (off := 42) (tgt := 45) hx hb dX2_joined_3 (by decide) (by decide) (by decide) (by decide) ?_
    refine lv_iload_n hx hb dX2_joined_45 rfl (lv_at hl 2 rfl) ?_
    refine lv_i2l hx hb dX2_joined_46 rfl ?_
    refine lv_iload_n hx hb dX2_joined_47 rfl (lv_at hl 3 rfl) ?_
    refine lv_i2l hx hb dX2_joined_48 rfl ?_
    refine lv_lsub hx hb dX2_joined_49 ?_
    refine lv_topl (fun v49 ev49 => ?_)
    refine lv_lstore_n (lv' := [(3, .long v49), (0, .int x0), (1, .int x1), (2, .int x2)]) hx hb dX2_joined_50 rfl hl (by decide) rfl (fun ls hl => ?_)
    refine lv_goto (tgt := 96) hx hb dX2_joined_51 (by decide) ?_
    exact J96 v49 _ _ _  hH hS (lv_sub hl [0] rfl)
  have tc3_1 := f_ne (k := 6) (by decide) c3_1
  by_cases c3_2 : x0 = 7
  · skip
    refine lv_topc c3_2 ?_
    have tc3_2 := f_eq (k := 7) (by decide) c3_2
    refine lv_tableIn (off := 51) (tgt := 54) hx hb dX2_joined_3 (by decide) (by decide) (by decide) (by decide) ?_
    refine lv_iload_n hx hb dX2_joined_54 rfl (lv_at hl 2 rfl) ?_
    refine lv_i2l hx hb dX2_joined_55 rfl ?_
    refine lv_iload_n hx hb dX2_joined_56 rfl (lv_at hl 3 rfl) ?_
    refine lv_i2l hx hb dX2_joined_57 rfl ?_
    refine lv_lmul hx hb dX2_joined_58 ?_
    refine lv_topl (fun v58 ev58 => ?_)
    refine lv_lstore_n (lv' := [(3, .long v58), (0, .int x0), (1, .int x1), (2, .int x2)]) hx hb dX2_joined_59 rfl hl (by decide) rfl (fun ls hl => ?_)
    refine lv_goto (tgt := 96) hx hb dX2_joined_60 (by decide) ?_
    exact J96 v58 _ _ _  hH hS (lv_sub hl [0] rfl)
  have tc3_2 := f_ne (k := 7) (by decide) c3_2
  by_cases c3_3 : x0 = 8
  · skip
    refine lv_topc c3_3 ?_
    have tc3_3 := f_eq (k := 8) (by decide) c3_3
    refine lv_tableIn (off := 60) (tgt := 63) hx hb dX2_joined_3 (by decide) (by decide) (by decide) (by decide) ?_
    refine lv_iload_n hx hb dX2_joined_63 rfl (lv_at hl 2 rfl) ?_
    refine lv_iload_n hx hb dX2_joined_64 rfl (lv_at hl 3 rfl) ?_
    have J73 : ∀ (k73_0 : Int32) (H : Heap) (locs : List Loc) (ls : Array Slot), (0 ≤ k73_0.toInt) → (k73_0.toInt ≤ 1) → HT D cs A T O X H → va_S A s.heap H locs → lv_has ls 5 [] → W p l e { frames := 0, cells := 0, slots := 0, locals := 0 } s m [.int x0, .int x1, .int x2].toArray below meth c H locs 0 0 (MQ below (Ti D cs (fun r u => u = (T, O, X)) A) [.int x0, .int x1, .int x2].toArray s 0 0 A) (F0 m 73 ls [.int k73_0]) := by
      intro k73_0 H locs ls l_k73_0 u_k73_0 hH hS hl
      exact te_i hx hb hr hlocks hH hS (rfl) dX2_joined_73
    refine lv_icmp_ne (tgt := 72) hx hb dX2_joined_65 (by decide) (fun c65 => ?_) (fun c65 => ?_)
    · skip
      have fuc65 := full_i x1
      have fvc65 := full_i x2
      have tc65 := g_ne c65
      refine lv_iconst (v := 0) hx hb dX2_joined_72 (by decide) ?_
      exact J73 0 _ _ _ (by decide) (by decide) hH hS (lv_sub hl [] rfl)
    · skip
      have fuc65 := full_i x1
      have fvc65 := full_i x2
      have tc65 := g_eq c65
      refine lv_iconst (v := 1) hx hb dX2_joined_68 (by decide) ?_
      refine lv_goto (tgt := 73) hx hb dX2_joined_69 (by decide) ?_
      exact J73 1 _ _ _ (by decide) (by decide) hH hS (lv_sub hl [] rfl)
  have tc3_3 := f_ne (k := 8) (by decide) c3_3
  by_cases c3_4 : x0 = 9
  · skip
    refine lv_topc c3_4 ?_
    have tc3_4 := f_eq (k := 9) (by decide) c3_4
    refine lv_tableIn (off := 71) (tgt := 74) hx hb dX2_joined_3 (by decide) (by decide) (by decide) (by decide) ?_
    refine lv_iload_n hx hb dX2_joined_74 rfl (lv_at hl 2 rfl) ?_
    refine lv_iload_n hx hb dX2_joined_75 rfl (lv_at hl 3 rfl) ?_
    have J84 : ∀ (k84_0 : Int32) (H : Heap) (locs : List Loc) (ls : Array Slot), (0 ≤ k84_0.toInt) → (k84_0.toInt ≤ 1) → HT D cs A T O X H → va_S A s.heap H locs → lv_has ls 5 [] → W p l e { frames := 0, cells := 0, slots := 0, locals := 0 } s m [.int x0, .int x1, .int x2].toArray below meth c H locs 0 0 (MQ below (Ti D cs (fun r u => u = (T, O, X)) A) [.int x0, .int x1, .int x2].toArray s 0 0 A) (F0 m 84 ls [.int k84_0]) := by
      intro k84_0 H locs ls l_k84_0 u_k84_0 hH hS hl
      exact te_i hx hb hr hlocks hH hS (rfl) dX2_joined_84
    refine lv_icmp_ge (tgt := 83) hx hb dX2_joined_76 (by decide) (fun c76 => ?_) (fun c76 => ?_)
    · skip
      have fuc76 := full_i x1
      have fvc76 := full_i x2
      have tc76 := g_le c76
      refine lv_iconst (v := 0) hx hb dX2_joined_83 (by decide) ?_
      exact J84 0 _ _ _ (by decide) (by decide) hH hS (lv_sub hl [] rfl)
    · skip
      have fuc76 := full_i x1
      have fvc76 := full_i x2
      have tc76 := g_nle c76
      refine lv_iconst (v := 1) hx hb dX2_joined_79 (by decide) ?_
      refine lv_goto (tgt := 84) hx hb dX2_joined_80 (by decide) ?_
      exact J84 1 _ _ _ (by decide) (by decide) hH hS (lv_sub hl [] rfl)
  have tc3_4 := f_ne (k := 9) (by decide) c3_4
  refine lv_tableOut (tgt := 85) hx hb dX2_joined_3 (by omega) (by decide) ?_
  refine lv_iload_n hx hb dX2_joined_85 rfl (lv_at hl 2 rfl) ?_
  refine lv_iload_n hx hb dX2_joined_86 rfl (lv_at hl 3 rfl) ?_
  have J95 : ∀ (k95_0 : Int32) (H : Heap) (locs : List Loc) (ls : Array Slot), (0 ≤ k95_0.toInt) → (k95_0.toInt ≤ 1) → HT D cs A T O X H → va_S A s.heap H locs → lv_has ls 5 [] → W p l e { frames := 0, cells := 0, slots := 0, locals := 0 } s m [.int x0, .int x1, .int x2].toArray below meth c H locs 0 0 (MQ below (Ti D cs (fun r u => u = (T, O, X)) A) [.int x0, .int x1, .int x2].toArray s 0 0 A) (F0 m 95 ls [.int k95_0]) := by
    intro k95_0 H locs ls l_k95_0 u_k95_0 hH hS hl
    exact te_i hx hb hr hlocks hH hS (rfl) dX2_joined_95
  refine lv_icmp_le (tgt := 94) hx hb dX2_joined_87 (by decide) (fun c87 => ?_) (fun c87 => ?_)
  · skip
    have fuc87 := full_i x1
    have fvc87 := full_i x2
    have tc87 := g_le c87
    refine lv_iconst (v := 0) hx hb dX2_joined_94 (by decide) ?_
    exact J95 0 _ _ _ (by decide) (by decide) hH hS (lv_sub hl [] rfl)
  · skip
    have fuc87 := full_i x1
    have fvc87 := full_i x2
    have tc87 := g_nle c87
    refine lv_iconst (v := 1) hx hb dX2_joined_90 (by decide) ?_
    refine lv_goto (tgt := 95) hx hb dX2_joined_91 (by decide) ?_
    exact J95 1 _ _ _ (by decide) (by decide) hH hS (lv_sub hl [] rfl)
set_option maxHeartbeats 4000000 in
set_option maxRecDepth 100000 in
theorem s_Law_asks (l : Launch) (D : va_G) (cs : CS) (kf : KF) (T : TF) (O : List Nat) (X : va_W) (a0 na0 : Nat) (x1 : Int32) (t_a0 : T a0 = some (12, na0, 0)) (b_a0 : na0 ≤ 900) (hO : okO T O [1, 12]) : TK l D cs kf yX2_asks cX2_asks 4 (some (.boolean)) { frames := 0, cells := 0, slots := 0, locals := 0 } [.ref a0, .int x1] T O X (Ti D cs (fun r u => u = (T, O, X) ∧ 0 ≤ r.toInt ∧ r.toInt ≤ 1)) := by
  refine tk_of (by decide) (Nat.le_of_ble_eq_true rfl) (fun p e s m below meth c ls A H locs hx hb hr hml hown hts hlocks hnm hkb hH hS hA hOX hks hE hl => ?_)
  have hown : s.vm.findClass RX2 = some m.cls := hown
  have hl : lv_has ls 4 [(0, .ref a0), (1, .int x1)] := hl
  refine lv_iconst (v := 1) hx hb dX2_asks_0 (by decide) ?_
  refine lv_iload_n hx hb dX2_asks_1 rfl (lv_at hl 1 rfl) ?_
  refine lv_iconst (v := 4) hx hb dX2_asks_2 (by decide) ?_
  refine lv_ishl hx hb dX2_asks_3 ?_
  refine lv_topi (fun v3 ev3 => ?_)
  refine lv_ior hx hb dX2_asks_4 ?_
  refine lv_topi (fun v4 ev4 => ?_)
  refine lv_istore_n (lv' := [(2, .int v4), (0, .ref a0), (1, .int x1)]) hx hb dX2_asks_5 rfl hl (by decide) rfl (fun ls hl => ?_)
  refine lv_iconst (v := 0) hx hb dX2_asks_6 (by decide) ?_
  have J8 : ∀ (n : Nat) (p8_3 : Int32) (H : Heap) (locs : List Loc) (ls : Array Slot), (900 - p8_3.toInt).toNat = n → (0 ≤ p8_3.toInt) → (p8_3.toInt ≤ 900) → HT D cs A T O X H → va_S A s.heap H locs → lv_has ls 4 [(3, .int p8_3), (2, .int v4), (0, .ref a0)] → W p l e { frames := 0, cells := 0, slots := 0, locals := 0 } s m [.ref a0, .int x1].toArray below meth c H locs 0 0 (MQ below (Ti D cs (fun r u => u = (T, O, X) ∧ 0 ≤ r.toInt ∧ r.toInt ≤ 1) A) [.ref a0, .int x1].toArray s 0 0 A) (F0 m 8 ls []) := by
    intro n
    induction n using Nat.strongRecOn with
    | _ n ih8 =>
      intro p8_3 H locs ls hm8 l_p8_3 u_p8_3 hH hS hl
      refine lv_iload_n hx hb dX2_asks_8 rfl (lv_at hl 0 rfl) ?_
      refine lv_aload_n hx hb dX2_asks_9 rfl (lv_at hl 2 rfl) ?_
      refine t_get (ci := 2) (lst := ft2 na0 0) (C := RX2) (F := TX2) (N := 3) hx hb hts uX2 hown hkb hH t_a0 (hO.no t_a0 (by decide)) (fun _ h9 => h9) rfl rfl 0 (by decide) rfl kw_739 (fun _ h9 => h9) dX2_asks_10 (fun v9 h9 => ?_)
      obtain ⟨v10, rfl, t_v10⟩ := h9
      refine t_len1 hx hb hkb hH t_v10 (hO.no t_v10 (by decide)) dX2_asks_13 ?_
      have e_na0 : (nI na0).toInt = na0 := nI_toInt (by omega)
      refine lv_icmp_ge (tgt := 35) hx hb dX2_asks_14 (by decide) (fun c14 => ?_) (fun c14 => ?_)
      · skip
        have fuc14 := full_i p8_3
        have fvc14 := full_i (nI na0)
        have tc14 := g_le c14
        refine lv_iconst (v := 0) hx hb dX2_asks_35 (by decide) ?_
        exact te_z hx hb hr hlocks (by rfl) hH hS (⟨rfl, by decide, by decide⟩) dX2_asks_36
      · skip
        have fuc14 := full_i p8_3
        have fvc14 := full_i (nI na0)
        have tc14 := g_nle c14
        refine lv_aload_n hx hb dX2_asks_17 rfl (lv_at hl 2 rfl) ?_
        refine t_get (ci := 2) (lst := ft2 na0 0) (C := RX2) (F := TX2) (N := 3) hx hb hts uX2 hown hkb hH t_a0 (hO.no t_a0 (by decide)) (fun _ h9 => h9) rfl rfl 0 (by decide) rfl kw_739 (fun _ h9 => h9) dX2_asks_18 (fun v9 h9 => ?_)
        obtain ⟨v18, rfl, t_v18⟩ := h9
        refine lv_iload_n hx hb dX2_asks_21 rfl (lv_at hl 0 rfl) ?_
        refine t_ild hx hb hkb hH t_v18 (hO.no t_v18 (by decide)) (by omega) (by omega) dX2_asks_22 (fun v22 h9 => ?_)
        refine lv_iload_n hx hb dX2_asks_23 rfl (lv_at hl 1 rfl) ?_
        refine lv_icmp_ne (tgt := 29) hx hb dX2_asks_24 (by decide) (fun c24 => ?_) (fun c24 => ?_)
        · skip
          have fuc24 := full_i v22
          have fvc24 := full_i v4
          have tc24 := g_ne c24
          obtain ⟨v29, ev29⟩ : ∃ y : Int32, y = p8_3 + 1 := ⟨_, rfl⟩
          have tv29 : v29.toInt = p8_3.toInt + (1) := by rw [ev29]; exact add_i rfl (by decide) (by omega) (by omega)
          refine lv_iinc (v := v29) (lv' := [(3, .int v29), (2, .int v4), (0, .ref a0)]) hx hb dX2_asks_29 hl (k := 0) rfl (by rw [ev29]; rfl) (by decide) rfl (fun ls hl => ?_)
          refine lv_goto (tgt := 8) hx hb dX2_asks_32 (by decide) ?_
          exact ih8 _ (by omega) v29 _ _ _ rfl (by omega) (by omega) hH hS (lv_sub hl [0, 1, 2] rfl)
        · skip
          have fuc24 := full_i v22
          have fvc24 := full_i v4
          have tc24 := g_eq c24
          refine lv_iconst (v := 1) hx hb dX2_asks_27 (by decide) ?_
          exact te_z hx hb hr hlocks (by rfl) hH hS (⟨rfl, by decide, by decide⟩) dX2_asks_28
  refine lv_istore_n (lv' := [(3, .int 0), (2, .int v4), (0, .ref a0), (1, .int x1)]) hx hb dX2_asks_7 rfl hl (by decide) rfl (fun ls hl => ?_)
  exact J8 _ 0 _ _ _ rfl (by decide) (by decide) hH hS (lv_sub hl [0, 1, 2] rfl)
theorem dX2_holds_0 : decode cX2_holds 0 = .ok (.iconst 0, 1) := by decide +kernel
theorem dX2_holds_1 : decode cX2_holds 1 = .ok (.istore_n 1, 1) := by decide +kernel
theorem dX2_holds_2 : decode cX2_holds 2 = .ok (.iconst 0, 1) := by decide +kernel
theorem dX2_holds_3 : decode cX2_holds 3 = .ok (.istore_n 2, 1) := by decide +kernel
theorem dX2_holds_4 : decode cX2_holds 4 = .ok (.iload_n 2, 1) := by decide +kernel
theorem dX2_holds_5 : decode cX2_holds 5 = .ok (.aload_n 0, 1) := by decide +kernel
theorem dX2_holds_6 : decode cX2_holds 6 = .ok (.getfield 16, 3) := by decide +kernel
theorem dX2_holds_9 : decode cX2_holds 9 = .ok (.arraylength, 1) := by decide +kernel
theorem dX2_holds_10 : decode cX2_holds 10 = .ok (.if_icmp .ge 196, 3) := by decide +kernel
theorem dX2_holds_13 : decode cX2_holds 13 = .ok (.aload_n 0, 1) := by decide +kernel
theorem dX2_holds_14 : decode cX2_holds 14 = .ok (.getfield 16, 3) := by decide +kernel
theorem dX2_holds_17 : decode cX2_holds 17 = .ok (.iload_n 2, 1) := by decide +kernel
theorem dX2_holds_18 : decode cX2_holds 18 = .ok (.iaload, 1) := by decide +kernel
theorem dX2_holds_19 : decode cX2_holds 19 = .ok (.bipush 15, 2) := by decide +kernel
theorem dX2_holds_21 : decode cX2_holds 21 = .ok (.iand, 1) := by decide +kernel
theorem dX2_holds_22 : decode cX2_holds 22 = .ok (.istore_n 3, 1) := by decide +kernel
theorem dX2_holds_23 : decode cX2_holds 23 = .ok (.aload_n 0, 1) := by decide +kernel
theorem dX2_holds_24 : decode cX2_holds 24 = .ok (.getfield 16, 3) := by decide +kernel
theorem dX2_holds_27 : decode cX2_holds 27 = .ok (.iload_n 2, 1) := by decide +kernel
theorem dX2_holds_28 : decode cX2_holds 28 = .ok (.iaload, 1) := by decide +kernel
theorem dX2_holds_29 : decode cX2_holds 29 = .ok (.iconst 4, 1) := by decide +kernel
theorem dX2_holds_30 : decode cX2_holds 30 = .ok (.ishr, 1) := by decide +kernel
theorem dX2_holds_31 : decode cX2_holds 31 = .ok (.istore 4, 2) := by decide +kernel
theorem dX2_holds_33 : decode cX2_holds 33 = .ok (.iload_n 3, 1) := by decide +kernel
theorem dX2_holds_34 : decode cX2_holds 34 = .ok (.iconst 1, 1) := by decide +kernel
theorem dX2_holds_35 : decode cX2_holds 35 = .ok (.if_icmp .gt 42, 3) := by decide +kernel
theorem dX2_holds_38 : decode cX2_holds 38 = .ok (.iload_n 1, 1) := by decide +kernel
theorem dX2_holds_39 : decode cX2_holds 39 = .ok (.bipush 24, 2) := by decide +kernel
theorem dX2_holds_41 : decode cX2_holds 41 = .ok (.if_icmp .lt 5, 3) := by decide +kernel
theorem dX2_holds_44 : decode cX2_holds 44 = .ok (.iconst 0, 1) := by decide +kernel
theorem dX2_holds_45 : decode cX2_holds 45 = .ok (.ireturn, 1) := by decide +kernel
theorem dX2_holds_46 : decode cX2_holds 46 = .ok (.aload_n 0, 1) := by decide +kernel
theorem dX2_holds_47 : decode cX2_holds 47 = .ok (.getfield 13, 3) := by decide +kernel
theorem dX2_holds_50 : decode cX2_holds 50 = .ok (.iload_n 1, 1) := by decide +kernel
theorem dX2_holds_51 : decode cX2_holds 51 = .ok (.iload_n 3, 1) := by decide +kernel
theorem dX2_holds_52 : decode cX2_holds 52 = .ok (.ifCond .ne 8, 3) := by decide +kernel
theorem dX2_holds_55 : decode cX2_holds 55 = .ok (.iload 4, 2) := by decide +kernel
theorem dX2_holds_57 : decode cX2_holds 57 = .ok (.goto 13, 3) := by decide +kernel
theorem dX2_holds_60 : decode cX2_holds 60 = .ok (.aload_n 0, 1) := by decide +kernel
theorem dX2_holds_61 : decode cX2_holds 61 = .ok (.getfield 9, 3) := by decide +kernel
theorem dX2_holds_64 : decode cX2_holds 64 = .ok (.iload 4, 2) := by decide +kernel
theorem dX2_holds_66 : decode cX2_holds 66 = .ok (.bipush 7, 2) := by decide +kernel
theorem dX2_holds_68 : decode cX2_holds 68 = .ok (.iand, 1) := by decide +kernel
theorem dX2_holds_69 : decode cX2_holds 69 = .ok (.iaload, 1) := by decide +kernel
theorem dX2_holds_70 : decode cX2_holds 70 = .ok (.iastore, 1) := by decide +kernel
theorem dX2_holds_71 : decode cX2_holds 71 = .ok (.iinc 1 1, 3) := by decide +kernel
theorem dX2_holds_74 : decode cX2_holds 74 = .ok (.goto 126, 3) := by decide +kernel
theorem dX2_holds_77 : decode cX2_holds 77 = .ok (.iload_n 1, 1) := by decide +kernel
theorem dX2_holds_78 : decode cX2_holds 78 = .ok (.iload_n 3, 1) := by decide +kernel
theorem dX2_holds_79 : decode cX2_holds 79 = .ok (.iconst 4, 1) := by decide +kernel
theorem dX2_holds_80 : decode cX2_holds 80 = .ok (.if_icmp .gt 7, 3) := by decide +kernel
theorem dX2_holds_83 : decode cX2_holds 83 = .ok (.iconst 1, 1) := by decide +kernel
theorem dX2_holds_84 : decode cX2_holds 84 = .ok (.goto 4, 3) := by decide +kernel
theorem dX2_holds_87 : decode cX2_holds 87 = .ok (.iconst 2, 1) := by decide +kernel
theorem dX2_holds_88 : decode cX2_holds 88 = .ok (.if_icmp .ge 5, 3) := by decide +kernel
theorem dX2_holds_91 : decode cX2_holds 91 = .ok (.iconst 0, 1) := by decide +kernel
theorem dX2_holds_92 : decode cX2_holds 92 = .ok (.ireturn, 1) := by decide +kernel
theorem dX2_holds_93 : decode cX2_holds 93 = .ok (.iload_n 3, 1) := by decide +kernel
theorem dX2_holds_94 : decode cX2_holds 94 = .ok (.iconst 4, 1) := by decide +kernel
theorem dX2_holds_95 : decode cX2_holds 95 = .ok (.if_icmp .le 35, 3) := by decide +kernel
theorem dX2_holds_98 : decode cX2_holds 98 = .ok (.iinc 1 (-1), 3) := by decide +kernel
theorem dX2_holds_101 : decode cX2_holds 101 = .ok (.aload_n 0, 1) := by decide +kernel
theorem dX2_holds_102 : decode cX2_holds 102 = .ok (.getfield 13, 3) := by decide +kernel
theorem dX2_holds_105 : decode cX2_holds 105 = .ok (.iload_n 1, 1) := by decide +kernel
theorem dX2_holds_106 : decode cX2_holds 106 = .ok (.iconst 1, 1) := by decide +kernel
theorem dX2_holds_107 : decode cX2_holds 107 = .ok (.isub, 1) := by decide +kernel
theorem dX2_holds_108 : decode cX2_holds 108 = .ok (.iload_n 3, 1) := by decide +kernel
theorem dX2_holds_109 : decode cX2_holds 109 = .ok (.aload_n 0, 1) := by decide +kernel
theorem dX2_holds_110 : decode cX2_holds 110 = .ok (.getfield 13, 3) := by decide +kernel
theorem dX2_holds_113 : decode cX2_holds 113 = .ok (.iload_n 1, 1) := by decide +kernel
theorem dX2_holds_114 : decode cX2_holds 114 = .ok (.iconst 1, 1) := by decide +kernel
theorem dX2_holds_115 : decode cX2_holds 115 = .ok (.isub, 1) := by decide +kernel
theorem dX2_holds_116 : decode cX2_holds 116 = .ok (.iaload, 1) := by decide +kernel
theorem dX2_holds_117 : decode cX2_holds 117 = .ok (.aload_n 0, 1) := by decide +kernel
theorem dX2_holds_118 : decode cX2_holds 118 = .ok (.getfield 13, 3) := by decide +kernel
theorem dX2_holds_121 : decode cX2_holds 121 = .ok (.iload_n 1, 1) := by decide +kernel
theorem dX2_holds_122 : decode cX2_holds 122 = .ok (.iaload, 1) := by decide +kernel
theorem dX2_holds_123 : decode cX2_holds 123 = .ok (.invokestatic 19, 3) := by decide +kernel
theorem dX2_holds_126 : decode cX2_holds 126 = .ok (.iastore, 1) := by decide +kernel
theorem dX2_holds_127 : decode cX2_holds 127 = .ok (.goto 73, 3) := by decide +kernel
theorem dX2_holds_130 : decode cX2_holds 130 = .ok (.iload_n 3, 1) := by decide +kernel
theorem dX2_holds_131 : decode cX2_holds 131 = .ok (.iconst 2, 1) := by decide +kernel
theorem dX2_holds_132 : decode cX2_holds 132 = .ok (.if_icmp .ne 24, 3) := by decide +kernel
theorem dX2_holds_135 : decode cX2_holds 135 = .ok (.aload_n 0, 1) := by decide +kernel
theorem dX2_holds_136 : decode cX2_holds 136 = .ok (.getfield 13, 3) := by decide +kernel
theorem dX2_holds_139 : decode cX2_holds 139 = .ok (.iload_n 1, 1) := by decide +kernel
theorem dX2_holds_140 : decode cX2_holds 140 = .ok (.iconst 1, 1) := by decide +kernel
theorem dX2_holds_141 : decode cX2_holds 141 = .ok (.isub, 1) := by decide +kernel
theorem dX2_holds_142 : decode cX2_holds 142 = .ok (.iconst 1, 1) := by decide +kernel
theorem dX2_holds_143 : decode cX2_holds 143 = .ok (.aload_n 0, 1) := by decide +kernel
theorem dX2_holds_144 : decode cX2_holds 144 = .ok (.getfield 13, 3) := by decide +kernel
theorem dX2_holds_147 : decode cX2_holds 147 = .ok (.iload_n 1, 1) := by decide +kernel
theorem dX2_holds_148 : decode cX2_holds 148 = .ok (.iconst 1, 1) := by decide +kernel
theorem dX2_holds_149 : decode cX2_holds 149 = .ok (.isub, 1) := by decide +kernel
theorem dX2_holds_150 : decode cX2_holds 150 = .ok (.iaload, 1) := by decide +kernel
theorem dX2_holds_151 : decode cX2_holds 151 = .ok (.isub, 1) := by decide +kernel
theorem dX2_holds_152 : decode cX2_holds 152 = .ok (.iastore, 1) := by decide +kernel
theorem dX2_holds_153 : decode cX2_holds 153 = .ok (.goto 47, 3) := by decide +kernel
theorem dX2_holds_156 : decode cX2_holds 156 = .ok (.aload_n 0, 1) := by decide +kernel
theorem dX2_holds_157 : decode cX2_holds 157 = .ok (.getfield 13, 3) := by decide +kernel
theorem dX2_holds_160 : decode cX2_holds 160 = .ok (.iload_n 1, 1) := by decide +kernel
theorem dX2_holds_161 : decode cX2_holds 161 = .ok (.iconst 1, 1) := by decide +kernel
theorem dX2_holds_162 : decode cX2_holds 162 = .ok (.isub, 1) := by decide +kernel
theorem dX2_holds_163 : decode cX2_holds 163 = .ok (.iaload, 1) := by decide +kernel
theorem dX2_holds_164 : decode cX2_holds 164 = .ok (.ifCond .eq 7, 3) := by decide +kernel
theorem dX2_holds_167 : decode cX2_holds 167 = .ok (.iconst 1, 1) := by decide +kernel
theorem dX2_holds_168 : decode cX2_holds 168 = .ok (.goto 4, 3) := by decide +kernel
theorem dX2_holds_171 : decode cX2_holds 171 = .ok (.iconst 0, 1) := by decide +kernel
theorem dX2_holds_172 : decode cX2_holds 172 = .ok (.iload_n 3, 1) := by decide +kernel
theorem dX2_holds_173 : decode cX2_holds 173 = .ok (.iconst 4, 1) := by decide +kernel
theorem dX2_holds_174 : decode cX2_holds 174 = .ok (.if_icmp .ne 7, 3) := by decide +kernel
theorem dX2_holds_177 : decode cX2_holds 177 = .ok (.iconst 1, 1) := by decide +kernel
theorem dX2_holds_178 : decode cX2_holds 178 = .ok (.goto 4, 3) := by decide +kernel
theorem dX2_holds_181 : decode cX2_holds 181 = .ok (.iconst 0, 1) := by decide +kernel
theorem dX2_holds_182 : decode cX2_holds 182 = .ok (.if_icmp .ne 15, 3) := by decide +kernel
theorem dX2_holds_185 : decode cX2_holds 185 = .ok (.iload_n 2, 1) := by decide +kernel
theorem dX2_holds_186 : decode cX2_holds 186 = .ok (.iload 4, 2) := by decide +kernel
theorem dX2_holds_188 : decode cX2_holds 188 = .ok (.iconst 1, 1) := by decide +kernel
theorem dX2_holds_189 : decode cX2_holds 189 = .ok (.isub, 1) := by decide +kernel
theorem dX2_holds_190 : decode cX2_holds 190 = .ok (.invokestatic 23, 3) := by decide +kernel
theorem dX2_holds_193 : decode cX2_holds 193 = .ok (.istore_n 2, 1) := by decide +kernel
theorem dX2_holds_194 : decode cX2_holds 194 = .ok (.goto 6, 3) := by decide +kernel
theorem dX2_holds_197 : decode cX2_holds 197 = .ok (.iinc 1 (-1), 3) := by decide +kernel
theorem dX2_holds_200 : decode cX2_holds 200 = .ok (.iinc 2 1, 3) := by decide +kernel
theorem dX2_holds_203 : decode cX2_holds 203 = .ok (.goto (-199), 3) := by decide +kernel
theorem dX2_holds_206 : decode cX2_holds 206 = .ok (.iload_n 1, 1) := by decide +kernel
theorem dX2_holds_207 : decode cX2_holds 207 = .ok (.ifCond .le 18, 3) := by decide +kernel
theorem dX2_holds_210 : decode cX2_holds 210 = .ok (.aload_n 0, 1) := by decide +kernel
theorem dX2_holds_211 : decode cX2_holds 211 = .ok (.getfield 13, 3) := by decide +kernel
theorem dX2_holds_214 : decode cX2_holds 214 = .ok (.iload_n 1, 1) := by decide +kernel
theorem dX2_holds_215 : decode cX2_holds 215 = .ok (.iconst 1, 1) := by decide +kernel
theorem dX2_holds_216 : decode cX2_holds 216 = .ok (.isub, 1) := by decide +kernel
theorem dX2_holds_217 : decode cX2_holds 217 = .ok (.iaload, 1) := by decide +kernel
theorem dX2_holds_218 : decode cX2_holds 218 = .ok (.ifCond .eq 7, 3) := by decide +kernel
theorem dX2_holds_221 : decode cX2_holds 221 = .ok (.iconst 1, 1) := by decide +kernel
theorem dX2_holds_222 : decode cX2_holds 222 = .ok (.goto 4, 3) := by decide +kernel
theorem dX2_holds_225 : decode cX2_holds 225 = .ok (.iconst 0, 1) := by decide +kernel
theorem dX2_holds_226 : decode cX2_holds 226 = .ok (.ireturn, 1) := by decide +kernel
theorem kw_6 : Cond.initialized "java/lang/Math" ∈ gw := gw_of (tb_of 6 (by decide +kernel)) (by decide +kernel)
theorem kw_21 : Cond.initialized "FootholdWall$Law" ∈ gw := gw_of (tb_of 21 (by decide +kernel)) (by decide +kernel)
theorem kw_100 : Cond.static Lib.Math.max.name ∈ gw := gw_of (tb_of 100 (by decide +kernel)) (by decide +kernel)
theorem kw_101 : Cond.code Lib.Math.max.name Lib.Math.max.code 2 (some .int) ∈ gw := gw_of (tb_of 101 (by decide +kernel)) (by decide +kernel)
theorem kw_740 : Cond.fieldLink "FootholdWall$Law" 9 "FootholdWall$Law" "facts" "[I" ∈ gw := gw_of (tb_of 740 (by decide +kernel)) (by decide +kernel)
theorem kw_742 : Cond.fieldLink "FootholdWall$Law" 13 "FootholdWall$Law" "stack" "[I" ∈ gw := gw_of (tb_of 742 (by decide +kernel)) (by decide +kernel)
theorem kw_818 : Cond.methodLink "FootholdWall$Law" 19 yX2_joined ∈ gw := gw_of (tb_of 818 (by decide +kernel)) (by decide +kernel)
theorem kw_819 : Cond.static yX2_joined ∈ gw := gw_of (tb_of 819 (by decide +kernel)) (by decide +kernel)
theorem kw_820 : Cond.code yX2_joined cX2_joined 5 (some (.int)) ∈ gw := gw_of (tb_of 820 (by decide +kernel)) (by decide +kernel)
theorem kw_825 : Cond.methodLink "FootholdWall$Law" 23 Lib.Math.max.name ∈ gw := gw_of (tb_of 825 (by decide +kernel)) (by decide +kernel)
set_option maxHeartbeats 4000000 in
set_option maxRecDepth 100000 in
theorem s_Law_holds (l : Launch) (D : va_G) (cs : CS) (kf : KF) (T : TF) (O : List Nat) (X : va_W) (a0 na0 : Nat) (t_a0 : T a0 = some (12, na0, 0)) (b_a0 : na0 ≤ 900) (hO : okO T O [1, 12]) : TK l D cs kf yX2_holds cX2_holds 5 (some (.boolean)) { frames := 1, cells := 0, slots := 0, locals := 24 } [.ref a0] T O X (Ti D cs (fun r u => u = (T, O, X) ∧ 0 ≤ r.toInt ∧ r.toInt ≤ 1)) := by
  refine tk_of (by decide) (Nat.le_of_ble_eq_true rfl) (fun p e s m below meth c ls A H locs hx hb hr hml hown hts hlocks hnm hkb hH hS hA hOX hks hE hl => ?_)
  have hown : s.vm.findClass RX2 = some m.cls := hown
  have hl : lv_has ls 5 [(0, .ref a0)] := hl
  refine lv_iconst (v := 0) hx hb dX2_holds_0 (by decide) ?_
  refine lv_istore_n (lv' := [(1, .int 0), (0, .ref a0)]) hx hb dX2_holds_1 rfl hl (by decide) rfl (fun ls hl => ?_)
  refine lv_iconst (v := 0) hx hb dX2_holds_2 (by decide) ?_
  have J4 : ∀ (n : Nat) (p4_2 : Int32) (p4_1 : Int32) (H : Heap) (locs : List Loc) (ls : Array Slot), (134217727 - p4_2.toInt).toNat = n → (0 ≤ p4_2.toInt) → (p4_2.toInt ≤ 134217727) → (0 ≤ p4_1.toInt) → (p4_1.toInt ≤ 24) → HT D cs A T O X H → va_S A s.heap H locs → lv_has ls 5 [(2, .int p4_2), (1, .int p4_1), (0, .ref a0)] → W p l e { frames := 1, cells := 0, slots := 0, locals := 24 } s m [.ref a0].toArray below meth c H locs 0 0 (MQ below (Ti D cs (fun r u => u = (T, O, X) ∧ 0 ≤ r.toInt ∧ r.toInt ≤ 1) A) [.ref a0].toArray s 0 0 A) (F0 m 4 ls []) := by
    intro n
    induction n using Nat.strongRecOn with
    | _ n ih4 =>
      intro p4_2 p4_1 H locs ls hm4 l_p4_2 u_p4_2 l_p4_1 u_p4_1 hH hS hl
      refine lv_iload_n hx hb dX2_holds_4 rfl (lv_at hl 0 rfl) ?_
      refine lv_aload_n hx hb dX2_holds_5 rfl (lv_at hl 2 rfl) ?_
      refine t_get (ci := 2) (lst := ft2 na0 0) (C := RX2) (F := TX2) (N := 3) hx hb hts uX2 hown hkb hH t_a0 (hO.no t_a0 (by decide)) (fun _ h9 => h9) rfl rfl 0 (by decide) rfl kw_739 (fun _ h9 => h9) dX2_holds_6 (fun v9 h9 => ?_)
      obtain ⟨v6, rfl, t_v6⟩ := h9
      refine t_len1 hx hb hkb hH t_v6 (hO.no t_v6 (by decide)) dX2_holds_9 ?_
      have e_na0 : (nI na0).toInt = na0 := nI_toInt (by omega)
      refine lv_icmp_ge (tgt := 206) hx hb dX2_holds_10 (by decide) (fun c10 => ?_) (fun c10 => ?_)
      · skip
        have fuc10 := full_i p4_2
        have fvc10 := full_i (nI na0)
        have tc10 := g_le c10
        refine lv_iload_n hx hb dX2_holds_206 rfl (lv_at hl 1 rfl) ?_
        have J226 : ∀ (k226_0 : Int32) (H : Heap) (locs : List Loc) (ls : Array Slot), (0 ≤ k226_0.toInt) → (k226_0.toInt ≤ 1) → HT D cs A T O X H → va_S A s.heap H locs → lv_has ls 5 [] → W p l e { frames := 1, cells := 0, slots := 0, locals := 24 } s m [.ref a0].toArray below meth c H locs 0 0 (MQ below (Ti D cs (fun r u => u = (T, O, X) ∧ 0 ≤ r.toInt ∧ r.toInt ≤ 1) A) [.ref a0].toArray s 0 0 A) (F0 m 226 ls [.int k226_0]) := by
          intro k226_0 H locs ls l_k226_0 u_k226_0 hH hS hl
          exact te_z hx hb hr hlocks (nar01 (by omega) (by omega)) hH hS (⟨rfl, by omega, by omega⟩) dX2_holds_226
        have J225 : ∀  (H : Heap) (locs : List Loc) (ls : Array Slot), HT D cs A T O X H → va_S A s.heap H locs → lv_has ls 5 [] → W p l e { frames := 1, cells := 0, slots := 0, locals := 24 } s m [.ref a0].toArray below meth c H locs 0 0 (MQ below (Ti D cs (fun r u => u = (T, O, X) ∧ 0 ≤ r.toInt ∧ r.toInt ≤ 1) A) [.ref a0].toArray s 0 0 A) (F0 m 225 ls []) := by
          intro  H locs ls  hH hS hl
          refine lv_iconst (v := 0) hx hb dX2_holds_225 (by decide) ?_
          exact J226 0 _ _ _ (by decide) (by decide) hH hS (lv_sub hl [] rfl)
        refine lv_if_le (tgt := 225) hx hb dX2_holds_207 (by decide) (fun c207 => ?_) (fun c207 => ?_)
        · skip
          have tc207 := f_le (k := 0) (by decide) c207
          exact J225  _ _ _  hH hS (lv_sub hl [] rfl)
        · skip
          have tc207 := f_nle (k := 0) (by decide) c207
          refine lv_aload_n hx hb dX2_holds_210 rfl (lv_at hl 2 rfl) ?_
          refine t_get (ci := 2) (lst := ft2 na0 0) (C := RX2) (F := TX2) (N := 3) hx hb hts uX2 hown hkb hH t_a0 (hO.no t_a0 (by decide)) (fun _ h9 => h9) rfl rfl 2 (by decide) rfl kw_742 (fun _ h9 => h9) dX2_holds_211 (fun v9 h9 => ?_)
          obtain ⟨v211, rfl, t_v211⟩ := h9
          refine lv_iload_n hx hb dX2_holds_214 rfl (lv_at hl 1 rfl) ?_
          refine lv_iconst (v := 1) hx hb dX2_holds_215 (by decide) ?_
          refine lv_isub hx hb dX2_holds_216 ?_
          refine lv_topi (fun v216 ev216 => ?_)
          have tv216 : v216.toInt = p4_1.toInt - (1) := by rw [ev216]; exact sub_i rfl (by decide : (1 : Int32).toInt = 1) (by omega) (by omega)
          refine t_ild hx hb hkb hH t_v211 (hO.no t_v211 (by decide)) (by omega) (by omega) dX2_holds_217 (fun v217 h9 => ?_)
          refine lv_if_eq (tgt := 225) hx hb dX2_holds_218 (by decide) (fun c218 => ?_) (fun c218 => ?_)
          · skip
            have tc218 := f_eq (k := 0) (by decide) c218
            exact J225  _ _ _  hH hS (lv_sub hl [] rfl)
          · skip
            have tc218 := f_ne (k := 0) (by decide) c218
            refine lv_iconst (v := 1) hx hb dX2_holds_221 (by decide) ?_
            refine lv_goto (tgt := 226) hx hb dX2_holds_222 (by decide) ?_
            exact J226 1 _ _ _ (by decide) (by decide) hH hS (lv_sub hl [] rfl)
      · skip
        have fuc10 := full_i p4_2
        have fvc10 := full_i (nI na0)
        have tc10 := g_nle c10
        refine lv_aload_n hx hb dX2_holds_13 rfl (lv_at hl 2 rfl) ?_
        refine t_get (ci := 2) (lst := ft2 na0 0) (C := RX2) (F := TX2) (N := 3) hx hb hts uX2 hown hkb hH t_a0 (hO.no t_a0 (by decide)) (fun _ h9 => h9) rfl rfl 0 (by decide) rfl kw_739 (fun _ h9 => h9) dX2_holds_14 (fun v9 h9 => ?_)
        obtain ⟨v14, rfl, t_v14⟩ := h9
        refine lv_iload_n hx hb dX2_holds_17 rfl (lv_at hl 0 rfl) ?_
        refine t_ild hx hb hkb hH t_v14 (hO.no t_v14 (by decide)) (by omega) (by omega) dX2_holds_18 (fun v18 h9 => ?_)
        refine lv_bipush (v := 15) hx hb dX2_holds_19 (by decide) ?_
        refine lv_iand hx hb dX2_holds_21 ?_
        refine lv_topi (fun v21 ev21 => ?_)
        have tv21 : 0 ≤ v21.toInt ∧ v21.toInt ≤ 15 := by rw [ev21]; exact and_r (by decide)
        refine lv_istore_n (lv' := [(3, .int v21), (2, .int p4_2), (1, .int p4_1), (0, .ref a0)]) hx hb dX2_holds_22 rfl hl (by decide) rfl (fun ls hl => ?_)
        refine lv_aload_n hx hb dX2_holds_23 rfl (lv_at hl 3 rfl) ?_
        refine t_get (ci := 2) (lst := ft2 na0 0) (C := RX2) (F := TX2) (N := 3) hx hb hts uX2 hown hkb hH t_a0 (hO.no t_a0 (by decide)) (fun _ h9 => h9) rfl rfl 0 (by decide) rfl kw_739 (fun _ h9 => h9) dX2_holds_24 (fun v9 h9 => ?_)
        obtain ⟨v24, rfl, t_v24⟩ := h9
        refine lv_iload_n hx hb dX2_holds_27 rfl (lv_at hl 1 rfl) ?_
        refine t_ild hx hb hkb hH t_v24 (hO.no t_v24 (by decide)) (by omega) (by omega) dX2_holds_28 (fun v28 h9 => ?_)
        refine lv_iconst (v := 4) hx hb dX2_holds_29 (by decide) ?_
        refine lv_ishr hx hb dX2_holds_30 ?_
        refine lv_topi (fun v30 ev30 => ?_)
        have tv30 : v30.toInt = v28.toInt / 16 := by rw [ev30]; exact shr_c 4 (by decide +kernel) (by decide)
        have fv30 := full_i v28
        refine lv_istore (lv' := [(4, .int v30), (3, .int v21), (2, .int p4_2), (1, .int p4_1), (0, .ref a0)]) hx hb dX2_holds_31 hl (by decide) rfl (fun ls hl => ?_)
        refine lv_iload_n hx hb dX2_holds_33 rfl (lv_at hl 1 rfl) ?_
        refine lv_iconst (v := 1) hx hb dX2_holds_34 (by decide) ?_
        have J200 : ∀ (p200_1 : Int32) (p200_2 : Int32) (H : Heap) (locs : List Loc) (ls : Array Slot), (0 ≤ p200_1.toInt) → (p200_1.toInt ≤ 24) → (0 ≤ p200_2.toInt) → (p200_2.toInt ≤ 134217726) → (p4_2.toInt ≤ p200_2.toInt) → HT D cs A T O X H → va_S A s.heap H locs → lv_has ls 5 [(1, .int p200_1), (2, .int p200_2), (0, .ref a0)] → W p l e { frames := 1, cells := 0, slots := 0, locals := 24 } s m [.ref a0].toArray below meth c H locs 0 0 (MQ below (Ti D cs (fun r u => u = (T, O, X) ∧ 0 ≤ r.toInt ∧ r.toInt ≤ 1) A) [.ref a0].toArray s 0 0 A) (F0 m 200 ls []) := by
          intro p200_1 p200_2 H locs ls l_p200_1 u_p200_1 l_p200_2 u_p200_2 i200 hH hS hl
          obtain ⟨v200, ev200⟩ : ∃ y : Int32, y = p200_2 + 1 := ⟨_, rfl⟩
          have tv200 : v200.toInt = p200_2.toInt + (1) := by rw [ev200]; exact add_i rfl (by decide) (by omega) (by omega)
          refine lv_iinc (v := v200) (lv' := [(2, .int v200), (1, .int p200_1), (0, .ref a0)]) hx hb dX2_holds_200 hl (k := 1) rfl (by rw [ev200]; rfl) (by decide) rfl (fun ls hl => ?_)
          refine lv_goto (tgt := 4) hx hb dX2_holds_203 (by decide) ?_
          exact ih4 _ (by omega) v200 p200_1 _ _ _ rfl (by omega) (by omega) (by omega) (by omega) hH hS (lv_sub hl [0, 1, 2] rfl)
        refine lv_icmp_gt (tgt := 77) hx hb dX2_holds_35 (by decide) (fun c35 => ?_) (fun c35 => ?_)
        · skip
          have tc35 := f_gt (k := 1) (by decide) c35
          refine lv_iload_n hx hb dX2_holds_77 rfl (lv_at hl 3 rfl) ?_
          refine lv_iload_n hx hb dX2_holds_78 rfl (lv_at hl 1 rfl) ?_
          refine lv_iconst (v := 4) hx hb dX2_holds_79 (by decide) ?_
          have J88 : ∀ (k88_0 : Int32) (H : Heap) (locs : List Loc) (ls : Array Slot), (1 ≤ k88_0.toInt) → (k88_0.toInt ≤ 2) → ((v21.toInt ≤ 4 ∧ k88_0.toInt = 1) ∨ (4 < v21.toInt ∧ k88_0.toInt = 2)) → HT D cs A T O X H → va_S A s.heap H locs → lv_has ls 5 [(4, .int v30), (3, .int v21), (2, .int p4_2), (1, .int p4_1), (0, .ref a0)] → W p l e { frames := 1, cells := 0, slots := 0, locals := 24 } s m [.ref a0].toArray below meth c H locs 0 0 (MQ below (Ti D cs (fun r u => u = (T, O, X) ∧ 0 ≤ r.toInt ∧ r.toInt ≤ 1) A) [.ref a0].toArray s 0 0 A) (F0 m 88 ls [.int k88_0, .int p4_1]) := by
            intro k88_0 H locs ls l_k88_0 u_k88_0 i88 hH hS hl
            refine lv_icmp_ge (tgt := 93) hx hb dX2_holds_88 (by decide) (fun c88 => ?_) (fun c88 => ?_)
            · skip
              have fuc88 := full_i p4_1
              have fvc88 := full_i k88_0
              have tc88 := g_le c88
              refine lv_iload_n hx hb dX2_holds_93 rfl (lv_at hl 1 rfl) ?_
              refine lv_iconst (v := 4) hx hb dX2_holds_94 (by decide) ?_
              refine lv_icmp_le (tgt := 130) hx hb dX2_holds_95 (by decide) (fun c95 => ?_) (fun c95 => ?_)
              · skip
                have tc95 := f_le (k := 4) (by decide) c95
                refine lv_iload_n hx hb dX2_holds_130 rfl (lv_at hl 1 rfl) ?_
                refine lv_iconst (v := 2) hx hb dX2_holds_131 (by decide) ?_
                refine lv_icmp_ne (tgt := 156) hx hb dX2_holds_132 (by decide) (fun c132 => ?_) (fun c132 => ?_)
                · skip
                  have tc132 := f_ne (k := 2) (by decide) c132
                  refine lv_aload_n hx hb dX2_holds_156 rfl (lv_at hl 4 rfl) ?_
                  refine t_get (ci := 2) (lst := ft2 na0 0) (C := RX2) (F := TX2) (N := 3) hx hb hts uX2 hown hkb hH t_a0 (hO.no t_a0 (by decide)) (fun _ h9 => h9) rfl rfl 2 (by decide) rfl kw_742 (fun _ h9 => h9) dX2_holds_157 (fun v9 h9 => ?_)
                  obtain ⟨v157, rfl, t_v157⟩ := h9
                  refine lv_iload_n hx hb dX2_holds_160 rfl (lv_at hl 3 rfl) ?_
                  refine lv_iconst (v := 1) hx hb dX2_holds_161 (by decide) ?_
                  refine lv_isub hx hb dX2_holds_162 ?_
                  refine lv_topi (fun v162 ev162 => ?_)
                  have tv162 : v162.toInt = p4_1.toInt - (1) := by rw [ev162]; exact sub_i rfl (by decide : (1 : Int32).toInt = 1) (by omega) (by omega)
                  refine t_ild hx hb hkb hH t_v157 (hO.no t_v157 (by decide)) (by omega) (by omega) dX2_holds_163 (fun v163 h9 => ?_)
                  have J172 : ∀ (k172_0 : Int32) (H : Heap) (locs : List Loc) (ls : Array Slot), (0 ≤ k172_0.toInt) → (k172_0.toInt ≤ 1) → HT D cs A T O X H → va_S A s.heap H locs → lv_has ls 5 [(4, .int v30), (3, .int v21), (2, .int p4_2), (1, .int p4_1), (0, .ref a0)] → W p l e { frames := 1, cells := 0, slots := 0, locals := 24 } s m [.ref a0].toArray below meth c H locs 0 0 (MQ below (Ti D cs (fun r u => u = (T, O, X) ∧ 0 ≤ r.toInt ∧ r.toInt ≤ 1) A) [.ref a0].toArray s 0 0 A) (F0 m 172 ls [.int k172_0]) := by
                    intro k172_0 H locs ls l_k172_0 u_k172_0 hH hS hl
                    refine lv_iload_n hx hb dX2_holds_172 rfl (lv_at hl 1 rfl) ?_
                    refine lv_iconst (v := 4) hx hb dX2_holds_173 (by decide) ?_
                    have J182 : ∀ (k182_0 : Int32) (H : Heap) (locs : List Loc) (ls : Array Slot), (0 ≤ k182_0.toInt) → (k182_0.toInt ≤ 1) → HT D cs A T O X H → va_S A s.heap H locs → lv_has ls 5 [(4, .int v30), (2, .int p4_2), (1, .int p4_1), (0, .ref a0)] → W p l e { frames := 1, cells := 0, slots := 0, locals := 24 } s m [.ref a0].toArray below meth c H locs 0 0 (MQ below (Ti D cs (fun r u => u = (T, O, X) ∧ 0 ≤ r.toInt ∧ r.toInt ≤ 1) A) [.ref a0].toArray s 0 0 A) (F0 m 182 ls [.int k182_0, .int k172_0]) := by
                      intro k182_0 H locs ls l_k182_0 u_k182_0 hH hS hl
                      refine lv_icmp_ne (tgt := 197) hx hb dX2_holds_182 (by decide) (fun c182 => ?_) (fun c182 => ?_)
                      · skip
                        have fuc182 := full_i k172_0
                        have fvc182 := full_i k182_0
                        have tc182 := g_ne c182
                        obtain ⟨v197, ev197⟩ : ∃ y : Int32, y = p4_1 + (-1) := ⟨_, rfl⟩
                        have tv197 : v197.toInt = p4_1.toInt + (-1) := by rw [ev197]; exact add_i rfl (by decide) (by omega) (by omega)
                        refine lv_iinc (v := v197) (lv' := [(1, .int v197), (4, .int v30), (2, .int p4_2), (0, .ref a0)]) hx hb dX2_holds_197 hl (k := 2) rfl (by rw [ev197]; rfl) (by decide) rfl (fun ls hl => ?_)
                        exact J200 v197 p4_2 _ _ _ (by omega) (by omega) (by omega) (by omega) (by omega) hH hS (lv_sub hl [0, 2, 3] rfl)
                      · skip
                        have fuc182 := full_i k172_0
                        have fvc182 := full_i k182_0
                        have tc182 := g_eq c182
                        refine lv_iload_n hx hb dX2_holds_185 rfl (lv_at hl 1 rfl) ?_
                        refine lv_iload hx hb dX2_holds_186 (lv_at hl 0 rfl) ?_
                        refine lv_iconst (v := 1) hx hb dX2_holds_188 (by decide) ?_
                        refine lv_isub hx hb dX2_holds_189 ?_
                        refine lv_topi (fun v189 ev189 => ?_)
                        have tv189 : v189.toInt = v30.toInt - (1) := by rw [ev189]; exact sub_i rfl (by decide : (1 : Int32).toInt = 1) (by omega) (by omega)
                        refine va_mmax hx hb (by rw [hml]; exact hl.1.symm) hown (hts _ kw_825) (hts _ kw_100) (hts _ kw_6) (hts _ kw_101) (Nat.le_of_ble_eq_true rfl) (Nat.le_of_ble_eq_true rfl) (Nat.le_of_ble_eq_true rfl) (Nat.le_of_ble_eq_true rfl) dX2_holds_190 ?_
                        refine lv_topi (fun v190 ev190 => ?_)
                        have tv190 : v190.toInt = max p4_2.toInt v189.toInt := by rw [ev190]; exact max_i rfl rfl
                        refine lv_istore_n (lv' := [(2, .int v190), (4, .int v30), (1, .int p4_1), (0, .ref a0)]) hx hb dX2_holds_193 rfl hl (by decide) rfl (fun ls hl => ?_)
                        refine lv_goto (tgt := 200) hx hb dX2_holds_194 (by decide) ?_
                        exact J200 p4_1 v190 _ _ _ (by omega) (by omega) (by omega) (by omega) (by omega) hH hS (lv_sub hl [2, 0, 3] rfl)
                    refine lv_icmp_ne (tgt := 181) hx hb dX2_holds_174 (by decide) (fun c174 => ?_) (fun c174 => ?_)
                    · skip
                      have tc174 := f_ne (k := 4) (by decide) c174
                      refine lv_iconst (v := 0) hx hb dX2_holds_181 (by decide) ?_
                      exact J182 0 _ _ _ (by decide) (by decide) hH hS (lv_sub hl [0, 2, 3, 4] rfl)
                    · skip
                      have tc174 := f_eq (k := 4) (by decide) c174
                      refine lv_iconst (v := 1) hx hb dX2_holds_177 (by decide) ?_
                      refine lv_goto (tgt := 182) hx hb dX2_holds_178 (by decide) ?_
                      exact J182 1 _ _ _ (by decide) (by decide) hH hS (lv_sub hl [0, 2, 3, 4] rfl)
                  refine lv_if_eq (tgt := 171) hx hb dX2_holds_164 (by decide) (fun c164 => ?_) (fun c164 => ?_)
                  · skip
                    have tc164 := f_eq (k := 0) (by decide) c164
                    refine lv_iconst (v := 0) hx hb dX2_holds_171 (by decide) ?_
                    exact J172 0 _ _ _ (by decide) (by decide) hH hS (lv_sub hl [0, 1, 2, 3, 4] rfl)
                  · skip
                    have tc164 := f_ne (k := 0) (by decide) c164
                    refine lv_iconst (v := 1) hx hb dX2_holds_167 (by decide) ?_
                    refine lv_goto (tgt := 172) hx hb dX2_holds_168 (by decide) ?_
                    exact J172 1 _ _ _ (by decide) (by decide) hH hS (lv_sub hl [0, 1, 2, 3, 4] rfl)
                · skip
                  have tc132 := f_eq (k := 2) (by decide) c132
                  refine lv_aload_n hx hb dX2_holds_135 rfl (lv_at hl 4 rfl) ?_
                  refine t_get (ci := 2) (lst := ft2 na0 0) (C := RX2) (F := TX2) (N := 3) hx hb hts uX2 hown hkb hH t_a0 (hO.no t_a0 (by decide)) (fun _ h9 => h9) rfl rfl 2 (by decide) rfl kw_742 (fun _ h9 => h9) dX2_holds_136 (fun v9 h9 => ?_)
                  obtain ⟨v136, rfl, t_v136⟩ := h9
                  refine lv_iload_n hx hb dX2_holds_139 rfl (lv_at hl 3 rfl) ?_
                  refine lv_iconst (v := 1) hx hb dX2_holds_140 (by decide) ?_
                  refine lv_isub hx hb dX2_holds_141 ?_
                  refine lv_topi (fun v141 ev141 => ?_)
                  have tv141 : v141.toInt = p4_1.toInt - (1) := by rw [ev141]; exact sub_i rfl (by decide : (1 : Int32).toInt = 1) (by omega) (by omega)
                  refine lv_iconst (v := 1) hx hb dX2_holds_142 (by decide) ?_
                  refine lv_aload_n hx hb dX2_holds_143 rfl (lv_at hl 4 rfl) ?_
                  refine t_get (ci := 2) (lst := ft2 na0 0) (C := RX2) (F := TX2) (N := 3) hx hb hts uX2 hown hkb hH t_a0 (hO.no t_a0 (by decide)) (fun _ h9 => h9) rfl rfl 2 (by decide) rfl kw_742 (fun _ h9 => h9) dX2_holds_144 (fun v9 h9 => ?_)
                  obtain ⟨v144, rfl, t_v144⟩ := h9
                  refine lv_iload_n hx hb dX2_holds_147 rfl (lv_at hl 3 rfl) ?_
                  refine lv_iconst (v := 1) hx hb dX2_holds_148 (by decide) ?_
                  refine lv_isub hx hb dX2_holds_149 ?_
                  refine lv_topi (fun v149 ev149 => ?_)
                  have tv149 : v149.toInt = p4_1.toInt - (1) := by rw [ev149]; exact sub_i rfl (by decide : (1 : Int32).toInt = 1) (by omega) (by omega)
                  refine t_ild hx hb hkb hH t_v144 (hO.no t_v144 (by decide)) (by omega) (by omega) dX2_holds_150 (fun v150 h9 => ?_)
                  refine lv_isub hx hb dX2_holds_151 ?_
                  refine lv_topi (fun v151 ev151 => ?_)
                  refine t_ist hx hb hkb hH hS t_v136 (hO.no t_v136 (by decide)) (by omega) (by omega) (cp_0 _) dX2_holds_152 (fun H locs hH hS => ?_)
                  refine lv_goto (tgt := 200) hx hb dX2_holds_153 (by decide) ?_
                  exact J200 p4_1 p4_2 _ _ _ (by omega) (by omega) (by omega) (by omega) (by omega) hH hS (lv_sub hl [3, 2, 4] rfl)
              · skip
                have tc95 := f_nle (k := 4) (by decide) c95
                obtain ⟨v98, ev98⟩ : ∃ y : Int32, y = p4_1 + (-1) := ⟨_, rfl⟩
                have tv98 : v98.toInt = p4_1.toInt + (-1) := by rw [ev98]; exact add_i rfl (by decide) (by omega) (by omega)
                refine lv_iinc (v := v98) (lv' := [(1, .int v98), (4, .int v30), (3, .int v21), (2, .int p4_2), (0, .ref a0)]) hx hb dX2_holds_98 hl (k := 3) rfl (by rw [ev98]; rfl) (by decide) rfl (fun ls hl => ?_)
                refine lv_aload_n hx hb dX2_holds_101 rfl (lv_at hl 4 rfl) ?_
                refine t_get (ci := 2) (lst := ft2 na0 0) (C := RX2) (F := TX2) (N := 3) hx hb hts uX2 hown hkb hH t_a0 (hO.no t_a0 (by decide)) (fun _ h9 => h9) rfl rfl 2 (by decide) rfl kw_742 (fun _ h9 => h9) dX2_holds_102 (fun v9 h9 => ?_)
                obtain ⟨v102, rfl, t_v102⟩ := h9
                refine lv_iload_n hx hb dX2_holds_105 rfl (lv_at hl 0 rfl) ?_
                refine lv_iconst (v := 1) hx hb dX2_holds_106 (by decide) ?_
                refine lv_isub hx hb dX2_holds_107 ?_
                refine lv_topi (fun v107 ev107 => ?_)
                have tv107 : v107.toInt = v98.toInt - (1) := by rw [ev107]; exact sub_i rfl (by decide : (1 : Int32).toInt = 1) (by omega) (by omega)
                refine lv_iload_n hx hb dX2_holds_108 rfl (lv_at hl 2 rfl) ?_
                refine lv_aload_n hx hb dX2_holds_109 rfl (lv_at hl 4 rfl) ?_
                refine t_get (ci := 2) (lst := ft2 na0 0) (C := RX2) (F := TX2) (N := 3) hx hb hts uX2 hown hkb hH t_a0 (hO.no t_a0 (by decide)) (fun _ h9 => h9) rfl rfl 2 (by decide) rfl kw_742 (fun _ h9 => h9) dX2_holds_110 (fun v9 h9 => ?_)
                obtain ⟨v110, rfl, t_v110⟩ := h9
                refine lv_iload_n hx hb dX2_holds_113 rfl (lv_at hl 0 rfl) ?_
                refine lv_iconst (v := 1) hx hb dX2_holds_114 (by decide) ?_
                refine lv_isub hx hb dX2_holds_115 ?_
                refine lv_topi (fun v115 ev115 => ?_)
                have tv115 : v115.toInt = v98.toInt - (1) := by rw [ev115]; exact sub_i rfl (by decide : (1 : Int32).toInt = 1) (by omega) (by omega)
                refine t_ild hx hb hkb hH t_v110 (hO.no t_v110 (by decide)) (by omega) (by omega) dX2_holds_116 (fun v116 h9 => ?_)
                refine lv_aload_n hx hb dX2_holds_117 rfl (lv_at hl 4 rfl) ?_
                refine t_get (ci := 2) (lst := ft2 na0 0) (C := RX2) (F := TX2) (N := 3) hx hb hts uX2 hown hkb hH t_a0 (hO.no t_a0 (by decide)) (fun _ h9 => h9) rfl rfl 2 (by decide) rfl kw_742 (fun _ h9 => h9) dX2_holds_118 (fun v9 h9 => ?_)
                obtain ⟨v118, rfl, t_v118⟩ := h9
                refine lv_iload_n hx hb dX2_holds_121 rfl (lv_at hl 0 rfl) ?_
                refine t_ild hx hb hkb hH t_v118 (hO.no t_v118 (by decide)) (by omega) (by omega) dX2_holds_122 (fun v122 h9 => ?_)
                refine tk_i hH hS hA (tr_S (n := 3) (As := [.int v21, .int v116, .int v122]) hx hb hml hown hts hkb hH hOX hks hE hS hA (s_Law_joined l D cs kf T O X v21 v116 v122  (hO.sub (by decide))) kw_818 kw_819 kw_21 kw_820 (by decide +kernel) ⟨Nat.le_of_ble_eq_true rfl, Nat.le_of_ble_eq_true rfl⟩ rfl rfl hl.1 (Nat.le_of_ble_eq_true rfl) dX2_holds_123 ⟨Nat.le_of_ble_eq_true rfl, Nat.le_of_ble_eq_true rfl⟩) (fun v123 u H locs hz9 hH hS => ?_)
                have hz9 : u = (T, O, X) := hz9
                subst hz9
                have hH : HT D cs A T O X H := hH
                refine W.widen (k := 0) (n := 0) (Nat.le_of_ble_eq_true rfl) (Nat.le_of_ble_eq_true rfl) ?_
                refine t_ist hx hb hkb hH hS t_v102 (hO.no t_v102 (by decide)) (by omega) (by omega) (cp_0 _) dX2_holds_126 (fun H locs hH hS => ?_)
                refine lv_goto (tgt := 200) hx hb dX2_holds_127 (by decide) ?_
                exact J200 v98 p4_2 _ _ _ (by omega) (by omega) (by omega) (by omega) (by omega) hH hS (lv_sub hl [0, 3, 4] rfl)
            · skip
              have fuc88 := full_i p4_1
              have fvc88 := full_i k88_0
              have tc88 := g_nle c88
              refine lv_iconst (v := 0) hx hb dX2_holds_91 (by decide) ?_
              exact te_z hx hb hr hlocks (by rfl) hH hS (⟨rfl, by decide, by decide⟩) dX2_holds_92
          refine lv_icmp_gt (tgt := 87) hx hb dX2_holds_80 (by decide) (fun c80 => ?_) (fun c80 => ?_)
          · skip
            have tc80 := f_gt (k := 4) (by decide) c80
            refine lv_iconst (v := 2) hx hb dX2_holds_87 (by decide) ?_
            have z_2 : (2 : Int32).toInt = 2 := by decide
            exact J88 2 _ _ _ (by decide) (by decide) (by omega) hH hS (lv_sub hl [0, 1, 2, 3, 4] rfl)
          · skip
            have tc80 := f_ngt (k := 4) (by decide) c80
            refine lv_iconst (v := 1) hx hb dX2_holds_83 (by decide) ?_
            refine lv_goto (tgt := 88) hx hb dX2_holds_84 (by decide) ?_
            have z_1 : (1 : Int32).toInt = 1 := by decide
            exact J88 1 _ _ _ (by decide) (by decide) (by omega) hH hS (lv_sub hl [0, 1, 2, 3, 4] rfl)
        · skip
          have tc35 := f_ngt (k := 1) (by decide) c35
          refine lv_iload_n hx hb dX2_holds_38 rfl (lv_at hl 3 rfl) ?_
          refine lv_bipush (v := 24) hx hb dX2_holds_39 (by decide) ?_
          refine lv_icmp_lt (tgt := 46) hx hb dX2_holds_41 (by decide) (fun c41 => ?_) (fun c41 => ?_)
          · skip
            have tc41 := f_lt (k := 24) (by decide) c41
            refine lv_aload_n hx hb dX2_holds_46 rfl (lv_at hl 4 rfl) ?_
            refine t_get (ci := 2) (lst := ft2 na0 0) (C := RX2) (F := TX2) (N := 3) hx hb hts uX2 hown hkb hH t_a0 (hO.no t_a0 (by decide)) (fun _ h9 => h9) rfl rfl 2 (by decide) rfl kw_742 (fun _ h9 => h9) dX2_holds_47 (fun v9 h9 => ?_)
            obtain ⟨v47, rfl, t_v47⟩ := h9
            refine lv_iload_n hx hb dX2_holds_50 rfl (lv_at hl 3 rfl) ?_
            refine lv_iload_n hx hb dX2_holds_51 rfl (lv_at hl 1 rfl) ?_
            have J70 : ∀ (k70_0 : Int32) (H : Heap) (locs : List Loc) (ls : Array Slot), HT D cs A T O X H → va_S A s.heap H locs → lv_has ls 5 [(2, .int p4_2), (1, .int p4_1), (0, .ref a0)] → W p l e { frames := 1, cells := 0, slots := 0, locals := 24 } s m [.ref a0].toArray below meth c H locs 0 0 (MQ below (Ti D cs (fun r u => u = (T, O, X) ∧ 0 ≤ r.toInt ∧ r.toInt ≤ 1) A) [.ref a0].toArray s 0 0 A) (F0 m 70 ls [.int k70_0, .int p4_1, .ref v47]) := by
              intro k70_0 H locs ls  hH hS hl
              refine t_ist hx hb hkb hH hS t_v47 (hO.no t_v47 (by decide)) (by omega) (by omega) (cp_0 _) dX2_holds_70 (fun H locs hH hS => ?_)
              obtain ⟨v71, ev71⟩ : ∃ y : Int32, y = p4_1 + 1 := ⟨_, rfl⟩
              have tv71 : v71.toInt = p4_1.toInt + (1) := by rw [ev71]; exact add_i rfl (by decide) (by omega) (by omega)
              refine lv_iinc (v := v71) (lv' := [(1, .int v71), (2, .int p4_2), (0, .ref a0)]) hx hb dX2_holds_71 hl (k := 1) rfl (by rw [ev71]; rfl) (by decide) rfl (fun ls hl => ?_)
              refine lv_goto (tgt := 200) hx hb dX2_holds_74 (by decide) ?_
              exact J200 v71 p4_2 _ _ _ (by omega) (by omega) (by omega) (by omega) (by omega) hH hS (lv_sub hl [0, 1, 2] rfl)
            refine lv_if_ne (tgt := 60) hx hb dX2_holds_52 (by decide) (fun c52 => ?_) (fun c52 => ?_)
            · skip
              have tc52 := f_ne (k := 0) (by decide) c52
              refine lv_aload_n hx hb dX2_holds_60 rfl (lv_at hl 4 rfl) ?_
              refine t_get (ci := 2) (lst := ft2 na0 0) (C := RX2) (F := TX2) (N := 3) hx hb hts uX2 hown hkb hH t_a0 (hO.no t_a0 (by decide)) (fun _ h9 => h9) rfl rfl 1 (by decide) rfl kw_740 (fun _ h9 => h9) dX2_holds_61 (fun v9 h9 => ?_)
              obtain ⟨v61, rfl, t_v61⟩ := h9
              refine lv_iload hx hb dX2_holds_64 (lv_at hl 0 rfl) ?_
              refine lv_bipush (v := 7) hx hb dX2_holds_66 (by decide) ?_
              refine lv_iand hx hb dX2_holds_68 ?_
              refine lv_topi (fun v68 ev68 => ?_)
              have tv68 : 0 ≤ v68.toInt ∧ v68.toInt ≤ 7 := by rw [ev68]; exact and_r (by decide)
              refine t_ild hx hb hkb hH t_v61 (hO.no t_v61 (by decide)) (by omega) (by omega) dX2_holds_69 (fun v69 h9 => ?_)
              exact J70 v69 _ _ _  hH hS (lv_sub hl [2, 3, 4] rfl)
            · skip
              have tc52 := f_eq (k := 0) (by decide) c52
              refine lv_iload hx hb dX2_holds_55 (lv_at hl 0 rfl) ?_
              refine lv_goto (tgt := 70) hx hb dX2_holds_57 (by decide) ?_
              exact J70 v30 _ _ _  hH hS (lv_sub hl [2, 3, 4] rfl)
          · skip
            have tc41 := f_nlt (k := 24) (by decide) c41
            refine lv_iconst (v := 0) hx hb dX2_holds_44 (by decide) ?_
            exact te_z hx hb hr hlocks (by rfl) hH hS (⟨rfl, by decide, by decide⟩) dX2_holds_45
  refine lv_istore_n (lv' := [(2, .int 0), (1, .int 0), (0, .ref a0)]) hx hb dX2_holds_3 rfl hl (by decide) rfl (fun ls hl => ?_)
  exact J4 _ 0 0 _ _ _ rfl (by decide) (by decide) (by decide) (by decide) hH hS (lv_sub hl [0, 1, 2] rfl)
theorem dX9_asksDay_0 : decode cX9_asksDay 0 = .ok (.aload_n 0, 1) := by decide +kernel
theorem dX9_asksDay_1 : decode cX9_asksDay 1 = .ok (.getfield 60, 3) := by decide +kernel
theorem dX9_asksDay_4 : decode cX9_asksDay 4 = .ok (.ireturn, 1) := by decide +kernel
theorem dX9_asksLeg_0 : decode cX9_asksLeg 0 = .ok (.aload_n 0, 1) := by decide +kernel
theorem dX9_asksLeg_1 : decode cX9_asksLeg 1 = .ok (.getfield 64, 3) := by decide +kernel
theorem dX9_asksLeg_4 : decode cX9_asksLeg 4 = .ok (.ireturn, 1) := by decide +kernel
theorem dX9_comeBy_0 : decode cX9_comeBy 0 = .ok (.iconst 0, 1) := by decide +kernel
theorem dX9_comeBy_1 : decode cX9_comeBy 1 = .ok (.istore_n 2, 1) := by decide +kernel
theorem dX9_comeBy_2 : decode cX9_comeBy 2 = .ok (.iconst 0, 1) := by decide +kernel
theorem dX9_comeBy_3 : decode cX9_comeBy 3 = .ok (.istore_n 3, 1) := by decide +kernel
theorem dX9_comeBy_4 : decode cX9_comeBy 4 = .ok (.iload_n 3, 1) := by decide +kernel
theorem dX9_comeBy_5 : decode cX9_comeBy 5 = .ok (.aload_n 0, 1) := by decide +kernel
theorem dX9_comeBy_6 : decode cX9_comeBy 6 = .ok (.getfield 28, 3) := by decide +kernel
theorem dX9_comeBy_9 : decode cX9_comeBy 9 = .ok (.if_icmp .ge 25, 3) := by decide +kernel
theorem dX9_comeBy_12 : decode cX9_comeBy 12 = .ok (.aload_n 0, 1) := by decide +kernel
theorem dX9_comeBy_13 : decode cX9_comeBy 13 = .ok (.getfield 41, 3) := by decide +kernel
theorem dX9_comeBy_16 : decode cX9_comeBy 16 = .ok (.iload_n 3, 1) := by decide +kernel
theorem dX9_comeBy_17 : decode cX9_comeBy 17 = .ok (.iaload, 1) := by decide +kernel
theorem dX9_comeBy_18 : decode cX9_comeBy 18 = .ok (.iload_n 1, 1) := by decide +kernel
theorem dX9_comeBy_19 : decode cX9_comeBy 19 = .ok (.if_icmp .gt 9, 3) := by decide +kernel
theorem dX9_comeBy_22 : decode cX9_comeBy 22 = .ok (.iload_n 2, 1) := by decide +kernel
theorem dX9_comeBy_23 : decode cX9_comeBy 23 = .ok (.iconst 1, 1) := by decide +kernel
theorem dX9_comeBy_24 : decode cX9_comeBy 24 = .ok (.iload_n 3, 1) := by decide +kernel
theorem dX9_comeBy_25 : decode cX9_comeBy 25 = .ok (.ishl, 1) := by decide +kernel
theorem dX9_comeBy_26 : decode cX9_comeBy 26 = .ok (.ior, 1) := by decide +kernel
theorem dX9_comeBy_27 : decode cX9_comeBy 27 = .ok (.istore_n 2, 1) := by decide +kernel
theorem dX9_comeBy_28 : decode cX9_comeBy 28 = .ok (.iinc 3 1, 3) := by decide +kernel
theorem dX9_comeBy_31 : decode cX9_comeBy 31 = .ok (.goto (-27), 3) := by decide +kernel
theorem dX9_comeBy_34 : decode cX9_comeBy 34 = .ok (.iload_n 2, 1) := by decide +kernel
theorem dX9_comeBy_35 : decode cX9_comeBy 35 = .ok (.ireturn, 1) := by decide +kernel
theorem dX9_forget_0 : decode cX9_forget 0 = .ok (.aload_n 0, 1) := by decide +kernel
theorem dX9_forget_1 : decode cX9_forget 1 = .ok (.iconst 0, 1) := by decide +kernel
theorem dX9_forget_2 : decode cX9_forget 2 = .ok (.putfield 28, 3) := by decide +kernel
theorem dX9_forget_5 : decode cX9_forget 5 = .ok (.aload_n 0, 1) := by decide +kernel
theorem dX9_forget_6 : decode cX9_forget 6 = .ok (.iconst 0, 1) := by decide +kernel
theorem dX9_forget_7 : decode cX9_forget 7 = .ok (.putfield 31, 3) := by decide +kernel
theorem dX9_forget_10 : decode cX9_forget 10 = .ok (.aload_n 0, 1) := by decide +kernel
theorem dX9_forget_11 : decode cX9_forget 11 = .ok (.iconst 0, 1) := by decide +kernel
theorem dX9_forget_12 : decode cX9_forget 12 = .ok (.putfield 7, 3) := by decide +kernel
theorem dX9_forget_15 : decode cX9_forget 15 = .ok (.aload_n 0, 1) := by decide +kernel
theorem dX9_forget_16 : decode cX9_forget 16 = .ok (.iconst 0, 1) := by decide +kernel
theorem dX9_forget_17 : decode cX9_forget 17 = .ok (.putfield 13, 3) := by decide +kernel
theorem dX9_forget_20 : decode cX9_forget 20 = .ok (.aload_n 0, 1) := by decide +kernel
theorem dX9_forget_21 : decode cX9_forget 21 = .ok (.iconst 0, 1) := by decide +kernel
theorem dX9_forget_22 : decode cX9_forget 22 = .ok (.putfield 16, 3) := by decide +kernel
theorem dX9_forget_25 : decode cX9_forget 25 = .ok (.aload_n 0, 1) := by decide +kernel
theorem dX9_forget_26 : decode cX9_forget 26 = .ok (.iconst 0, 1) := by decide +kernel
theorem dX9_forget_27 : decode cX9_forget 27 = .ok (.putfield 19, 3) := by decide +kernel
theorem dX9_forget_30 : decode cX9_forget 30 = .ok (.return_, 1) := by decide +kernel
theorem dX9_middles_0 : decode cX9_middles 0 = .ok (.iconst 1, 1) := by decide +kernel
theorem dX9_middles_1 : decode cX9_middles 1 = .ok (.aload_n 0, 1) := by decide +kernel
theorem dX9_middles_2 : decode cX9_middles 2 = .ok (.getfield 28, 3) := by decide +kernel
theorem dX9_middles_5 : decode cX9_middles 5 = .ok (.ishl, 1) := by decide +kernel
theorem dX9_middles_6 : decode cX9_middles 6 = .ok (.iconst 1, 1) := by decide +kernel
theorem dX9_middles_7 : decode cX9_middles 7 = .ok (.isub, 1) := by decide +kernel
theorem dX9_middles_8 : decode cX9_middles 8 = .ok (.aload_n 0, 1) := by decide +kernel
theorem dX9_middles_9 : decode cX9_middles 9 = .ok (.getfield 13, 3) := by decide +kernel
theorem dX9_middles_12 : decode cX9_middles 12 = .ok (.iconst (-1), 1) := by decide +kernel
theorem dX9_middles_13 : decode cX9_middles 13 = .ok (.ixor, 1) := by decide +kernel
theorem dX9_middles_14 : decode cX9_middles 14 = .ok (.iand, 1) := by decide +kernel
theorem dX9_middles_15 : decode cX9_middles 15 = .ok (.aload_n 0, 1) := by decide +kernel
theorem dX9_middles_16 : decode cX9_middles 16 = .ok (.getfield 16, 3) := by decide +kernel
theorem dX9_middles_19 : decode cX9_middles 19 = .ok (.iconst (-1), 1) := by decide +kernel
theorem dX9_middles_20 : decode cX9_middles 20 = .ok (.ixor, 1) := by decide +kernel
theorem dX9_middles_21 : decode cX9_middles 21 = .ok (.iand, 1) := by decide +kernel
theorem dX9_middles_22 : decode cX9_middles 22 = .ok (.ireturn, 1) := by decide +kernel
theorem kw_106 : Cond.fieldLink "FootholdWall$Wall" 28 "FootholdWall$Wall" "holds" "I" ∈ gw := gw_of (tb_of 106 (by decide +kernel)) (by decide +kernel)
theorem kw_110 : Cond.fieldLink "FootholdWall$Wall" 31 "FootholdWall$Wall" "guides" "I" ∈ gw := gw_of (tb_of 110 (by decide +kernel)) (by decide +kernel)
theorem kw_113 : Cond.fieldLink "FootholdWall$Wall" 7 "FootholdWall$Wall" "lines" "I" ∈ gw := gw_of (tb_of 113 (by decide +kernel)) (by decide +kernel)
theorem kw_116 : Cond.fieldLink "FootholdWall$Wall" 13 "FootholdWall$Wall" "starts" "I" ∈ gw := gw_of (tb_of 116 (by decide +kernel)) (by decide +kernel)
theorem kw_123 : Cond.fieldLink "FootholdWall$Wall" 16 "FootholdWall$Wall" "tops" "I" ∈ gw := gw_of (tb_of 123 (by decide +kernel)) (by decide +kernel)
theorem kw_130 : Cond.fieldLink "FootholdWall$Wall" 19 "FootholdWall$Wall" "wides" "I" ∈ gw := gw_of (tb_of 130 (by decide +kernel)) (by decide +kernel)
theorem kw_138 : Cond.fieldLink "FootholdWall$Wall" 41 "FootholdWall$Wall" "ice" "[I" ∈ gw := gw_of (tb_of 138 (by decide +kernel)) (by decide +kernel)
theorem kw_148 : Cond.fieldLink "FootholdWall$Wall" 60 "FootholdWall$Wall" "dayAsked" "Z" ∈ gw := gw_of (tb_of 148 (by decide +kernel)) (by decide +kernel)
theorem kw_149 : Cond.fieldLink "FootholdWall$Wall" 64 "FootholdWall$Wall" "legAsked" "Z" ∈ gw := gw_of (tb_of 149 (by decide +kernel)) (by decide +kernel)
set_option maxHeartbeats 4000000 in
set_option maxRecDepth 100000 in
theorem s_Wall_forget (l : Launch) (D : va_G) (cs : CS) (kf : KF) (T : TF) (O : List Nat) (X : va_W) (a0 : Nat) (t_a0 : T a0 = some (19, 100, 0)) (hO : okO T O [19]) : TK l D cs kf yX9_forget cX9_forget 1 none { frames := 0, cells := 0, slots := 0, locals := 0 } [.ref a0] T O X (Tv D cs (fun u => u = (T, O, X))) := by
  refine tk_of (by decide) (Nat.le_of_ble_eq_true rfl) (fun p e s m below meth c ls A H locs hx hb hr hml hown hts hlocks hnm hkb hH hS hA hOX hks hE hl => ?_)
  have hown : s.vm.findClass RX9 = some m.cls := hown
  have hl : lv_has ls 1 [(0, .ref a0)] := hl
  refine lv_aload_n hx hb dX9_forget_0 rfl (lv_at hl 0 rfl) ?_
  refine lv_iconst (v := 0) hx hb dX9_forget_1 (by decide) ?_
  refine t_put (ci := 9) (lst := ft9d 100 0) (v := .int 0) (ty := tyX9 0) (C := RX9) (F := TX9) (N := 14) hx hb hts uX9 tyX9 tyX9_ok nmX9 hown hkb hH hS t_a0 (hO.no t_a0 (by decide)) (fun fs => (ob9d fs)) rfl rfl 0 (by decide) rfl (⟨_, rfl, by decide, by decide⟩) kw_106 (fun _ h9 => h9) rfl (tyX9_ok 0 (by decide)) rfl rfl dX9_forget_2 (fun H locs hH hS => ?_)
  refine lv_aload_n hx hb dX9_forget_5 rfl (lv_at hl 0 rfl) ?_
  refine lv_iconst (v := 0) hx hb dX9_forget_6 (by decide) ?_
  refine t_put (ci := 9) (lst := ft9d 100 0) (v := .int 0) (ty := tyX9 1) (C := RX9) (F := TX9) (N := 14) hx hb hts uX9 tyX9 tyX9_ok nmX9 hown hkb hH hS t_a0 (hO.no t_a0 (by decide)) (fun fs => (ob9d fs)) rfl rfl 1 (by decide) rfl (⟨_, rfl, by decide, by decide⟩) kw_110 (fun _ h9 => h9) rfl (tyX9_ok 1 (by decide)) rfl rfl dX9_forget_7 (fun H locs hH hS => ?_)
  refine lv_aload_n hx hb dX9_forget_10 rfl (lv_at hl 0 rfl) ?_
  refine lv_iconst (v := 0) hx hb dX9_forget_11 (by decide) ?_
  refine t_put (ci := 9) (lst := ft9d 100 0) (v := .int 0) (ty := tyX9 2) (C := RX9) (F := TX9) (N := 14) hx hb hts uX9 tyX9 tyX9_ok nmX9 hown hkb hH hS t_a0 (hO.no t_a0 (by decide)) (fun fs => (ob9d fs)) rfl rfl 2 (by decide) rfl (⟨_, rfl⟩) kw_113 (fun _ h9 => h9) rfl (tyX9_ok 2 (by decide)) rfl rfl dX9_forget_12 (fun H locs hH hS => ?_)
  refine lv_aload_n hx hb dX9_forget_15 rfl (lv_at hl 0 rfl) ?_
  refine lv_iconst (v := 0) hx hb dX9_forget_16 (by decide) ?_
  refine t_put (ci := 9) (lst := ft9d 100 0) (v := .int 0) (ty := tyX9 3) (C := RX9) (F := TX9) (N := 14) hx hb hts uX9 tyX9 tyX9_ok nmX9 hown hkb hH hS t_a0 (hO.no t_a0 (by decide)) (fun fs => (ob9d fs)) rfl rfl 3 (by decide) rfl (⟨_, rfl, by decide, by decide⟩) kw_116 (fun _ h9 => h9) rfl (tyX9_ok 3 (by decide)) rfl rfl dX9_forget_17 (fun H locs hH hS => ?_)
  refine lv_aload_n hx hb dX9_forget_20 rfl (lv_at hl 0 rfl) ?_
  refine lv_iconst (v := 0) hx hb dX9_forget_21 (by decide) ?_
  refine t_put (ci := 9) (lst := ft9d 100 0) (v := .int 0) (ty := tyX9 4) (C := RX9) (F := TX9) (N := 14) hx hb hts uX9 tyX9 tyX9_ok nmX9 hown hkb hH hS t_a0 (hO.no t_a0 (by decide)) (fun fs => (ob9d fs)) rfl rfl 4 (by decide) rfl (⟨_, rfl, by decide, by decide⟩) kw_123 (fun _ h9 => h9) rfl (tyX9_ok 4 (by decide)) rfl rfl dX9_forget_22 (fun H locs hH hS => ?_)
  refine lv_aload_n hx hb dX9_forget_25 rfl (lv_at hl 0 rfl) ?_
  refine lv_iconst (v := 0) hx hb dX9_forget_26 (by decide) ?_
  refine t_put (ci := 9) (lst := ft9d 100 0) (v := .int 0) (ty := tyX9 5) (C := RX9) (F := TX9) (N := 14) hx hb hts uX9 tyX9 tyX9_ok nmX9 hown hkb hH hS t_a0 (hO.no t_a0 (by decide)) (fun fs => (ob9d fs)) rfl rfl 5 (by decide) rfl (⟨_, rfl, by decide, by decide⟩) kw_130 (fun _ h9 => h9) rfl (tyX9_ok 5 (by decide)) rfl rfl dX9_forget_27 (fun H locs hH hS => ?_)
  exact te_v hx hb hr hlocks hH hS rfl dX9_forget_30
set_option maxHeartbeats 4000000 in
set_option maxRecDepth 100000 in
theorem s_Wall_middlesD (l : Launch) (D : va_G) (cs : CS) (kf : KF) (T : TF) (O : List Nat) (X : va_W) (a0 : Nat) (t_a0 : T a0 = some (19, 100, 0)) (hO : okO T O [19]) : TK l D cs kf yX9_middles cX9_middles 1 (some (.int)) { frames := 0, cells := 0, slots := 0, locals := 0 } [.ref a0] T O X (Ti D cs (fun r u => u = (T, O, X) ∧ 0 ≤ r.toInt ∧ r.toInt ≤ 16383)) := by
  refine tk_of (by decide) (Nat.le_of_ble_eq_true rfl) (fun p e s m below meth c ls A H locs hx hb hr hml hown hts hlocks hnm hkb hH hS hA hOX hks hE hl => ?_)
  have hown : s.vm.findClass RX9 = some m.cls := hown
  have hl : lv_has ls 1 [(0, .ref a0)] := hl
  refine lv_iconst (v := 1) hx hb dX9_middles_0 (by decide) ?_
  refine lv_aload_n hx hb dX9_middles_1 rfl (lv_at hl 0 rfl) ?_
  refine t_get (ci := 9) (lst := ft9d 100 0) (C := RX9) (F := TX9) (N := 14) hx hb hts uX9 hown hkb hH t_a0 (hO.no t_a0 (by decide)) (fun fs => (ob9d fs).mp) rfl rfl 0 (by decide) rfl kw_106 (fun _ h9 => h9) dX9_middles_2 (fun v9 h9 => ?_)
  obtain ⟨v2, rfl, l_v2, u_v2⟩ := h9
  refine lv_ishl hx hb dX9_middles_5 ?_
  refine lv_topi (fun v5 ev5 => ?_)
  have tv5 : 1 ≤ v5.toInt ∧ v5.toInt ≤ 16384 := by rw [ev5]; exact shl_b 14 (by decide) (by omega) (by omega)
  refine lv_iconst (v := 1) hx hb dX9_middles_6 (by decide) ?_
  refine lv_isub hx hb dX9_middles_7 ?_
  refine lv_topi (fun v7 ev7 => ?_)
  have tv7 : v7.toInt = v5.toInt - (1) := by rw [ev7]; exact sub_i rfl (by decide : (1 : Int32).toInt = 1) (by omega) (by omega)
  refine lv_aload_n hx hb dX9_middles_8 rfl (lv_at hl 0 rfl) ?_
  refine t_get (ci := 9) (lst := ft9d 100 0) (C := RX9) (F := TX9) (N := 14) hx hb hts uX9 hown hkb hH t_a0 (hO.no t_a0 (by decide)) (fun fs => (ob9d fs).mp) rfl rfl 3 (by decide) rfl kw_116 (fun _ h9 => h9) dX9_middles_9 (fun v9 h9 => ?_)
  obtain ⟨v9, rfl, l_v9, u_v9⟩ := h9
  refine lv_iconst (v := (-1)) hx hb dX9_middles_12 (by decide) ?_
  refine lv_ixor hx hb dX9_middles_13 ?_
  refine lv_topi (fun v13 ev13 => ?_)
  refine lv_iand hx hb dX9_middles_14 ?_
  refine lv_topi (fun v14 ev14 => ?_)
  have tv14 : 0 ≤ v14.toInt ∧ v14.toInt ≤ v7.toInt := by rw [ev14]; exact and_l (by omega)
  refine lv_aload_n hx hb dX9_middles_15 rfl (lv_at hl 0 rfl) ?_
  refine t_get (ci := 9) (lst := ft9d 100 0) (C := RX9) (F := TX9) (N := 14) hx hb hts uX9 hown hkb hH t_a0 (hO.no t_a0 (by decide)) (fun fs => (ob9d fs).mp) rfl rfl 4 (by decide) rfl kw_123 (fun _ h9 => h9) dX9_middles_16 (fun v9 h9 => ?_)
  obtain ⟨v16, rfl, l_v16, u_v16⟩ := h9
  refine lv_iconst (v := (-1)) hx hb dX9_middles_19 (by decide) ?_
  refine lv_ixor hx hb dX9_middles_20 ?_
  refine lv_topi (fun v20 ev20 => ?_)
  refine lv_iand hx hb dX9_middles_21 ?_
  refine lv_topi (fun v21 ev21 => ?_)
  have tv21 : 0 ≤ v21.toInt ∧ v21.toInt ≤ v14.toInt := by rw [ev21]; exact and_l (by omega)
  exact te_i hx hb hr hlocks hH hS (⟨rfl, by omega, by omega⟩) dX9_middles_22
set_option maxHeartbeats 4000000 in
set_option maxRecDepth 100000 in
theorem s_Wall_middles (l : Launch) (D : va_G) (cs : CS) (kf : KF) (T : TF) (O : List Nat) (X : va_W) (a0 ha0 ga0 : Nat) (t_a0 : isW T a0 ha0 ga0) (hO : okO T O [19]) : TK l D cs kf yX9_middles cX9_middles 1 (some (.int)) { frames := 0, cells := 0, slots := 0, locals := 0 } [.ref a0] T O X (Ti D cs (fun r u => u = (T, O, X) ∧ 0 ≤ r.toInt ∧ r.toInt ≤ 16383)) := by
  refine tk_of (by decide) (Nat.le_of_ble_eq_true rfl) (fun p e s m below meth c ls A H locs hx hb hr hml hown hts hlocks hnm hkb hH hS hA hOX hks hE hl => ?_)
  have hown : s.vm.findClass RX9 = some m.cls := hown
  have hl : lv_has ls 1 [(0, .ref a0)] := hl
  have b1_a0 := t_a0.2.1
  have b2_a0 := t_a0.2.2
  refine lv_iconst (v := 1) hx hb dX9_middles_0 (by decide) ?_
  refine lv_aload_n hx hb dX9_middles_1 rfl (lv_at hl 0 rfl) ?_
  refine t_get (ci := 9) (lst := ft9w ha0 ga0) (C := RX9) (F := TX9) (N := 14) hx hb hts uX9 hown hkb hH t_a0.1 (hO.no t_a0.1 (by decide)) (fun fs => (ob9w t_a0 fs).mp) rfl rfl 0 (by decide) rfl kw_106 (fun _ h9 => h9) dX9_middles_2 (fun v9 h9 => ?_)
  have h9 : v9 = .int (nI ha0) := h9
  subst h9
  have e_ha0 : (nI ha0).toInt = ha0 := nI_toInt (by have := t_a0.2.1; omega)
  have b_ha0 := t_a0.2.1
  refine lv_ishl hx hb dX9_middles_5 ?_
  refine lv_topi (fun v5 ev5 => ?_)
  have tv5 : 1 ≤ v5.toInt ∧ v5.toInt ≤ 16384 := by rw [ev5]; exact shl_b 14 (by decide) (by omega) (by omega)
  refine lv_iconst (v := 1) hx hb dX9_middles_6 (by decide) ?_
  refine lv_isub hx hb dX9_middles_7 ?_
  refine lv_topi (fun v7 ev7 => ?_)
  have tv7 : v7.toInt = v5.toInt - (1) := by rw [ev7]; exact sub_i rfl (by decide : (1 : Int32).toInt = 1) (by omega) (by omega)
  refine lv_aload_n hx hb dX9_middles_8 rfl (lv_at hl 0 rfl) ?_
  refine t_get (ci := 9) (lst := ft9w ha0 ga0) (C := RX9) (F := TX9) (N := 14) hx hb hts uX9 hown hkb hH t_a0.1 (hO.no t_a0.1 (by decide)) (fun fs => (ob9w t_a0 fs).mp) rfl rfl 3 (by decide) rfl kw_116 (fun _ h9 => h9) dX9_middles_9 (fun v9 h9 => ?_)
  obtain ⟨v9, rfl, l_v9, u_v9⟩ := h9
  refine lv_iconst (v := (-1)) hx hb dX9_middles_12 (by decide) ?_
  refine lv_ixor hx hb dX9_middles_13 ?_
  refine lv_topi (fun v13 ev13 => ?_)
  refine lv_iand hx hb dX9_middles_14 ?_
  refine lv_topi (fun v14 ev14 => ?_)
  have tv14 : 0 ≤ v14.toInt ∧ v14.toInt ≤ v7.toInt := by rw [ev14]; exact and_l (by omega)
  refine lv_aload_n hx hb dX9_middles_15 rfl (lv_at hl 0 rfl) ?_
  refine t_get (ci := 9) (lst := ft9w ha0 ga0) (C := RX9) (F := TX9) (N := 14) hx hb hts uX9 hown hkb hH t_a0.1 (hO.no t_a0.1 (by decide)) (fun fs => (ob9w t_a0 fs).mp) rfl rfl 4 (by decide) rfl kw_123 (fun _ h9 => h9) dX9_middles_16 (fun v9 h9 => ?_)
  obtain ⟨v16, rfl, l_v16, u_v16⟩ := h9
  refine lv_iconst (v := (-1)) hx hb dX9_middles_19 (by decide) ?_
  refine lv_ixor hx hb dX9_middles_20 ?_
  refine lv_topi (fun v20 ev20 => ?_)
  refine lv_iand hx hb dX9_middles_21 ?_
  refine lv_topi (fun v21 ev21 => ?_)
  have tv21 : 0 ≤ v21.toInt ∧ v21.toInt ≤ v14.toInt := by rw [ev21]; exact and_l (by omega)
  exact te_i hx hb hr hlocks hH hS (⟨rfl, by omega, by omega⟩) dX9_middles_22
set_option maxHeartbeats 4000000 in
set_option maxRecDepth 100000 in
theorem s_Wall_asksDay (l : Launch) (D : va_G) (cs : CS) (kf : KF) (T : TF) (O : List Nat) (X : va_W) (a0 ha0 ga0 : Nat) (t_a0 : isW T a0 ha0 ga0) (hO : okO T O [19]) : TK l D cs kf yX9_asksDay cX9_asksDay 1 (some (.boolean)) { frames := 0, cells := 0, slots := 0, locals := 0 } [.ref a0] T O X (Ti D cs (fun r u => u = (T, O, X) ∧ 0 ≤ r.toInt ∧ r.toInt ≤ 1)) := by
  refine tk_of (by decide) (Nat.le_of_ble_eq_true rfl) (fun p e s m below meth c ls A H locs hx hb hr hml hown hts hlocks hnm hkb hH hS hA hOX hks hE hl => ?_)
  have hown : s.vm.findClass RX9 = some m.cls := hown
  have hl : lv_has ls 1 [(0, .ref a0)] := hl
  have b1_a0 := t_a0.2.1
  have b2_a0 := t_a0.2.2
  refine lv_aload_n hx hb dX9_asksDay_0 rfl (lv_at hl 0 rfl) ?_
  refine t_get (ci := 9) (lst := ft9w ha0 ga0) (C := RX9) (F := TX9) (N := 14) hx hb hts uX9 hown hkb hH t_a0.1 (hO.no t_a0.1 (by decide)) (fun fs => (ob9w t_a0 fs).mp) rfl rfl 12 (by decide) rfl kw_148 (fun _ h9 => h9) dX9_asksDay_1 (fun v9 h9 => ?_)
  obtain ⟨v1, rfl, l_v1, u_v1⟩ := h9
  exact te_z hx hb hr hlocks (nar01 (by omega) (by omega)) hH hS (⟨rfl, by omega, by omega⟩) dX9_asksDay_4
set_option maxHeartbeats 4000000 in
set_option maxRecDepth 100000 in
theorem s_Wall_asksLeg (l : Launch) (D : va_G) (cs : CS) (kf : KF) (T : TF) (O : List Nat) (X : va_W) (a0 ha0 ga0 : Nat) (t_a0 : isW T a0 ha0 ga0) (hO : okO T O [19]) : TK l D cs kf yX9_asksLeg cX9_asksLeg 1 (some (.boolean)) { frames := 0, cells := 0, slots := 0, locals := 0 } [.ref a0] T O X (Ti D cs (fun r u => u = (T, O, X) ∧ 0 ≤ r.toInt ∧ r.toInt ≤ 1)) := by
  refine tk_of (by decide) (Nat.le_of_ble_eq_true rfl) (fun p e s m below meth c ls A H locs hx hb hr hml hown hts hlocks hnm hkb hH hS hA hOX hks hE hl => ?_)
  have hown : s.vm.findClass RX9 = some m.cls := hown
  have hl : lv_has ls 1 [(0, .ref a0)] := hl
  have b1_a0 := t_a0.2.1
  have b2_a0 := t_a0.2.2
  refine lv_aload_n hx hb dX9_asksLeg_0 rfl (lv_at hl 0 rfl) ?_
  refine t_get (ci := 9) (lst := ft9w ha0 ga0) (C := RX9) (F := TX9) (N := 14) hx hb hts uX9 hown hkb hH t_a0.1 (hO.no t_a0.1 (by decide)) (fun fs => (ob9w t_a0 fs).mp) rfl rfl 13 (by decide) rfl kw_149 (fun _ h9 => h9) dX9_asksLeg_1 (fun v9 h9 => ?_)
  obtain ⟨v1, rfl, l_v1, u_v1⟩ := h9
  exact te_z hx hb hr hlocks (nar01 (by omega) (by omega)) hH hS (⟨rfl, by omega, by omega⟩) dX9_asksLeg_4
set_option maxHeartbeats 4000000 in
set_option maxRecDepth 100000 in
theorem s_Wall_comeBy (l : Launch) (D : va_G) (cs : CS) (kf : KF) (T : TF) (O : List Nat) (X : va_W) (a0 ha0 ga0 : Nat) (x1 : Int32) (t_a0 : isW T a0 ha0 ga0) (hO : okO T O [1, 19]) : TK l D cs kf yX9_comeBy cX9_comeBy 4 (some (.int)) { frames := 0, cells := 0, slots := 0, locals := 0 } [.ref a0, .int x1] T O X (Ti D cs (fun r u => u = (T, O, X) ∧ 0 ≤ r.toInt ∧ r.toInt ≤ 16383)) := by
  refine tk_of (by decide) (Nat.le_of_ble_eq_true rfl) (fun p e s m below meth c ls A H locs hx hb hr hml hown hts hlocks hnm hkb hH hS hA hOX hks hE hl => ?_)
  have hown : s.vm.findClass RX9 = some m.cls := hown
  have hl : lv_has ls 4 [(0, .ref a0), (1, .int x1)] := hl
  have b1_a0 := t_a0.2.1
  have b2_a0 := t_a0.2.2
  refine lv_iconst (v := 0) hx hb dX9_comeBy_0 (by decide) ?_
  refine lv_istore_n (lv' := [(2, .int 0), (0, .ref a0), (1, .int x1)]) hx hb dX9_comeBy_1 rfl hl (by decide) rfl (fun ls hl => ?_)
  refine lv_iconst (v := 0) hx hb dX9_comeBy_2 (by decide) ?_
  have J4 : ∀ (n : Nat) (p4_3 : Int32) (p4_2 : Int32) (H : Heap) (locs : List Loc) (ls : Array Slot), (14 - p4_3.toInt).toNat = n → (0 ≤ p4_3.toInt) → (p4_3.toInt ≤ 14) → (0 ≤ p4_2.toInt) → (p4_2.toInt ≤ 16383) → HT D cs A T O X H → va_S A s.heap H locs → lv_has ls 4 [(3, .int p4_3), (2, .int p4_2), (0, .ref a0), (1, .int x1)] → W p l e { frames := 0, cells := 0, slots := 0, locals := 0 } s m [.ref a0, .int x1].toArray below meth c H locs 0 0 (MQ below (Ti D cs (fun r u => u = (T, O, X) ∧ 0 ≤ r.toInt ∧ r.toInt ≤ 16383) A) [.ref a0, .int x1].toArray s 0 0 A) (F0 m 4 ls []) := by
    intro n
    induction n using Nat.strongRecOn with
    | _ n ih4 =>
      intro p4_3 p4_2 H locs ls hm4 l_p4_3 u_p4_3 l_p4_2 u_p4_2 hH hS hl
      refine lv_iload_n hx hb dX9_comeBy_4 rfl (lv_at hl 0 rfl) ?_
      refine lv_aload_n hx hb dX9_comeBy_5 rfl (lv_at hl 2 rfl) ?_
      refine t_get (ci := 9) (lst := ft9w ha0 ga0) (C := RX9) (F := TX9) (N := 14) hx hb hts uX9 hown hkb hH t_a0.1 (hO.no t_a0.1 (by decide)) (fun fs => (ob9w t_a0 fs).mp) rfl rfl 0 (by decide) rfl kw_106 (fun _ h9 => h9) dX9_comeBy_6 (fun v9 h9 => ?_)
      have h9 : v9 = .int (nI ha0) := h9
      subst h9
      have e_ha0 : (nI ha0).toInt = ha0 := nI_toInt (by have := t_a0.2.1; omega)
      have b_ha0 := t_a0.2.1
      refine lv_icmp_ge (tgt := 34) hx hb dX9_comeBy_9 (by decide) (fun c9 => ?_) (fun c9 => ?_)
      · skip
        have fuc9 := full_i p4_3
        have fvc9 := full_i (nI ha0)
        have tc9 := g_le c9
        refine lv_iload_n hx hb dX9_comeBy_34 rfl (lv_at hl 1 rfl) ?_
        exact te_i hx hb hr hlocks hH hS (⟨rfl, by omega, by omega⟩) dX9_comeBy_35
      · skip
        have fuc9 := full_i p4_3
        have fvc9 := full_i (nI ha0)
        have tc9 := g_nle c9
        refine lv_aload_n hx hb dX9_comeBy_12 rfl (lv_at hl 2 rfl) ?_
        refine t_get (ci := 9) (lst := ft9w ha0 ga0) (C := RX9) (F := TX9) (N := 14) hx hb hts uX9 hown hkb hH t_a0.1 (hO.no t_a0.1 (by decide)) (fun fs => (ob9w t_a0 fs).mp) rfl rfl 8 (by decide) rfl kw_138 (fun _ h9 => h9) dX9_comeBy_13 (fun v9 h9 => ?_)
        obtain ⟨v13, rfl, t_v13⟩ := h9
        refine lv_iload_n hx hb dX9_comeBy_16 rfl (lv_at hl 0 rfl) ?_
        refine t_ild hx hb hkb hH t_v13 (hO.no t_v13 (by decide)) (by omega) (by omega) dX9_comeBy_17 (fun v17 h9 => ?_)
        refine lv_iload_n hx hb dX9_comeBy_18 rfl (lv_at hl 3 rfl) ?_
        have J28 : ∀ (p28_2 : Int32) (H : Heap) (locs : List Loc) (ls : Array Slot), (0 ≤ p28_2.toInt) → (p28_2.toInt ≤ 16383) → HT D cs A T O X H → va_S A s.heap H locs → lv_has ls 4 [(3, .int p4_3), (2, .int p28_2), (0, .ref a0), (1, .int x1)] → W p l e { frames := 0, cells := 0, slots := 0, locals := 0 } s m [.ref a0, .int x1].toArray below meth c H locs 0 0 (MQ below (Ti D cs (fun r u => u = (T, O, X) ∧ 0 ≤ r.toInt ∧ r.toInt ≤ 16383) A) [.ref a0, .int x1].toArray s 0 0 A) (F0 m 28 ls []) := by
          intro p28_2 H locs ls l_p28_2 u_p28_2 hH hS hl
          obtain ⟨v28, ev28⟩ : ∃ y : Int32, y = p4_3 + 1 := ⟨_, rfl⟩
          have tv28 : v28.toInt = p4_3.toInt + (1) := by rw [ev28]; exact add_i rfl (by decide) (by omega) (by omega)
          refine lv_iinc (v := v28) (lv' := [(3, .int v28), (2, .int p28_2), (0, .ref a0), (1, .int x1)]) hx hb dX9_comeBy_28 hl (k := 0) rfl (by rw [ev28]; rfl) (by decide) rfl (fun ls hl => ?_)
          refine lv_goto (tgt := 4) hx hb dX9_comeBy_31 (by decide) ?_
          exact ih4 _ (by omega) v28 p28_2 _ _ _ rfl (by omega) (by omega) (by omega) (by omega) hH hS (lv_sub hl [0, 1, 2, 3] rfl)
        refine lv_icmp_gt (tgt := 28) hx hb dX9_comeBy_19 (by decide) (fun c19 => ?_) (fun c19 => ?_)
        · skip
          have fuc19 := full_i v17
          have fvc19 := full_i x1
          have tc19 := g_lt c19
          exact J28 p4_2 _ _ _ (by omega) (by omega) hH hS (lv_sub hl [0, 1, 2, 3] rfl)
        · skip
          have fuc19 := full_i v17
          have fvc19 := full_i x1
          have tc19 := g_nlt c19
          refine lv_iload_n hx hb dX9_comeBy_22 rfl (lv_at hl 1 rfl) ?_
          refine lv_iconst (v := 1) hx hb dX9_comeBy_23 (by decide) ?_
          refine lv_iload_n hx hb dX9_comeBy_24 rfl (lv_at hl 0 rfl) ?_
          refine lv_ishl hx hb dX9_comeBy_25 ?_
          refine lv_topi (fun v25 ev25 => ?_)
          have tv25 : 1 ≤ v25.toInt ∧ v25.toInt ≤ 8192 := by rw [ev25]; exact shl_b 13 (by decide) (by omega) (by omega)
          refine lv_ior hx hb dX9_comeBy_26 ?_
          refine lv_topi (fun v26 ev26 => ?_)
          have tv26 : 0 ≤ v26.toInt ∧ v26.toInt < 16384 := by rw [ev26]; exact or_b 14 (by decide) (by omega) (by omega) (by omega) (by omega)
          refine lv_istore_n (lv' := [(2, .int v26), (3, .int p4_3), (0, .ref a0), (1, .int x1)]) hx hb dX9_comeBy_27 rfl hl (by decide) rfl (fun ls hl => ?_)
          exact J28 v26 _ _ _ (by omega) (by omega) hH hS (lv_sub hl [1, 0, 2, 3] rfl)
  refine lv_istore_n (lv' := [(3, .int 0), (2, .int 0), (0, .ref a0), (1, .int x1)]) hx hb dX9_comeBy_3 rfl hl (by decide) rfl (fun ls hl => ?_)
  exact J4 _ 0 0 _ _ _ rfl (by decide) (by decide) (by decide) (by decide) hH hS (lv_sub hl [0, 1, 2, 3] rfl)
theorem dX9_mayStep_0 : decode cX9_mayStep 0 = .ok (.aload_n 0, 1) := by decide +kernel
theorem dX9_mayStep_1 : decode cX9_mayStep 1 = .ok (.getfield 34, 3) := by decide +kernel
theorem dX9_mayStep_4 : decode cX9_mayStep 4 = .ok (.iload_n 2, 1) := by decide +kernel
theorem dX9_mayStep_5 : decode cX9_mayStep 5 = .ok (.iaload, 1) := by decide +kernel
theorem dX9_mayStep_6 : decode cX9_mayStep 6 = .ok (.aload_n 0, 1) := by decide +kernel
theorem dX9_mayStep_7 : decode cX9_mayStep 7 = .ok (.getfield 34, 3) := by decide +kernel
theorem dX9_mayStep_10 : decode cX9_mayStep 10 = .ok (.iload_n 1, 1) := by decide +kernel
theorem dX9_mayStep_11 : decode cX9_mayStep 11 = .ok (.iaload, 1) := by decide +kernel
theorem dX9_mayStep_12 : decode cX9_mayStep 12 = .ok (.isub, 1) := by decide +kernel
theorem dX9_mayStep_13 : decode cX9_mayStep 13 = .ok (.invokestatic 76, 3) := by decide +kernel
theorem dX9_mayStep_16 : decode cX9_mayStep 16 = .ok (.istore 6, 2) := by decide +kernel
theorem dX9_mayStep_18 : decode cX9_mayStep 18 = .ok (.aload_n 0, 1) := by decide +kernel
theorem dX9_mayStep_19 : decode cX9_mayStep 19 = .ok (.getfield 38, 3) := by decide +kernel
theorem dX9_mayStep_22 : decode cX9_mayStep 22 = .ok (.iload_n 2, 1) := by decide +kernel
theorem dX9_mayStep_23 : decode cX9_mayStep 23 = .ok (.iaload, 1) := by decide +kernel
theorem dX9_mayStep_24 : decode cX9_mayStep 24 = .ok (.aload_n 0, 1) := by decide +kernel
theorem dX9_mayStep_25 : decode cX9_mayStep 25 = .ok (.getfield 38, 3) := by decide +kernel
theorem dX9_mayStep_28 : decode cX9_mayStep 28 = .ok (.iload_n 1, 1) := by decide +kernel
theorem dX9_mayStep_29 : decode cX9_mayStep 29 = .ok (.iaload, 1) := by decide +kernel
theorem dX9_mayStep_30 : decode cX9_mayStep 30 = .ok (.isub, 1) := by decide +kernel
theorem dX9_mayStep_31 : decode cX9_mayStep 31 = .ok (.istore 7, 2) := by decide +kernel
theorem dX9_mayStep_33 : decode cX9_mayStep 33 = .ok (.iload 6, 2) := by decide +kernel
theorem dX9_mayStep_35 : decode cX9_mayStep 35 = .ok (.iload 7, 2) := by decide +kernel
theorem dX9_mayStep_37 : decode cX9_mayStep 37 = .ok (.invokestatic 76, 3) := by decide +kernel
theorem dX9_mayStep_40 : decode cX9_mayStep 40 = .ok (.iadd, 1) := by decide +kernel
theorem dX9_mayStep_41 : decode cX9_mayStep 41 = .ok (.istore 8, 2) := by decide +kernel
theorem dX9_mayStep_43 : decode cX9_mayStep 43 = .ok (.aload_n 0, 1) := by decide +kernel
theorem dX9_mayStep_44 : decode cX9_mayStep 44 = .ok (.getfield 50, 3) := by decide +kernel
theorem dX9_mayStep_47 : decode cX9_mayStep 47 = .ok (.ifnonnull 15, 3) := by decide +kernel
theorem dX9_mayStep_50 : decode cX9_mayStep 50 = .ok (.iload 8, 2) := by decide +kernel
theorem dX9_mayStep_52 : decode cX9_mayStep 52 = .ok (.iload_n 3, 1) := by decide +kernel
theorem dX9_mayStep_53 : decode cX9_mayStep 53 = .ok (.if_icmp .gt 7, 3) := by decide +kernel
theorem dX9_mayStep_56 : decode cX9_mayStep 56 = .ok (.iconst 1, 1) := by decide +kernel
theorem dX9_mayStep_57 : decode cX9_mayStep 57 = .ok (.goto 4, 3) := by decide +kernel
theorem dX9_mayStep_60 : decode cX9_mayStep 60 = .ok (.iconst 0, 1) := by decide +kernel
theorem dX9_mayStep_61 : decode cX9_mayStep 61 = .ok (.ireturn, 1) := by decide +kernel
theorem dX9_mayStep_62 : decode cX9_mayStep 62 = .ok (.aload_n 0, 1) := by decide +kernel
theorem dX9_mayStep_63 : decode cX9_mayStep 63 = .ok (.getfield 50, 3) := by decide +kernel
theorem dX9_mayStep_66 : decode cX9_mayStep 66 = .ok (.getfield 80, 3) := by decide +kernel
theorem dX9_mayStep_69 : decode cX9_mayStep 69 = .ok (.astore 9, 2) := by decide +kernel
theorem dX9_mayStep_71 : decode cX9_mayStep 71 = .ok (.aload 9, 2) := by decide +kernel
theorem dX9_mayStep_73 : decode cX9_mayStep 73 = .ok (.iconst 0, 1) := by decide +kernel
theorem dX9_mayStep_74 : decode cX9_mayStep 74 = .ok (.iload 6, 2) := by decide +kernel
theorem dX9_mayStep_76 : decode cX9_mayStep 76 = .ok (.iastore, 1) := by decide +kernel
theorem dX9_mayStep_77 : decode cX9_mayStep 77 = .ok (.aload 9, 2) := by decide +kernel
theorem dX9_mayStep_79 : decode cX9_mayStep 79 = .ok (.iconst 1, 1) := by decide +kernel
theorem dX9_mayStep_80 : decode cX9_mayStep 80 = .ok (.iload 7, 2) := by decide +kernel
theorem dX9_mayStep_82 : decode cX9_mayStep 82 = .ok (.iastore, 1) := by decide +kernel
theorem dX9_mayStep_83 : decode cX9_mayStep 83 = .ok (.aload 9, 2) := by decide +kernel
theorem dX9_mayStep_85 : decode cX9_mayStep 85 = .ok (.iconst 2, 1) := by decide +kernel
theorem dX9_mayStep_86 : decode cX9_mayStep 86 = .ok (.iload 8, 2) := by decide +kernel
theorem dX9_mayStep_88 : decode cX9_mayStep 88 = .ok (.iastore, 1) := by decide +kernel
theorem dX9_mayStep_89 : decode cX9_mayStep 89 = .ok (.aload 9, 2) := by decide +kernel
theorem dX9_mayStep_91 : decode cX9_mayStep 91 = .ok (.iconst 3, 1) := by decide +kernel
theorem dX9_mayStep_92 : decode cX9_mayStep 92 = .ok (.iload_n 3, 1) := by decide +kernel
theorem dX9_mayStep_93 : decode cX9_mayStep 93 = .ok (.iastore, 1) := by decide +kernel
theorem dX9_mayStep_94 : decode cX9_mayStep 94 = .ok (.aload 9, 2) := by decide +kernel
theorem dX9_mayStep_96 : decode cX9_mayStep 96 = .ok (.iconst 4, 1) := by decide +kernel
theorem dX9_mayStep_97 : decode cX9_mayStep 97 = .ok (.iload 4, 2) := by decide +kernel
theorem dX9_mayStep_99 : decode cX9_mayStep 99 = .ok (.iastore, 1) := by decide +kernel
theorem dX9_mayStep_100 : decode cX9_mayStep 100 = .ok (.aload 9, 2) := by decide +kernel
theorem dX9_mayStep_102 : decode cX9_mayStep 102 = .ok (.iconst 5, 1) := by decide +kernel
theorem dX9_mayStep_103 : decode cX9_mayStep 103 = .ok (.aload_n 0, 1) := by decide +kernel
theorem dX9_mayStep_104 : decode cX9_mayStep 104 = .ok (.getfield 19, 3) := by decide +kernel
theorem dX9_mayStep_107 : decode cX9_mayStep 107 = .ok (.iload_n 2, 1) := by decide +kernel
theorem dX9_mayStep_108 : decode cX9_mayStep 108 = .ok (.ishr, 1) := by decide +kernel
theorem dX9_mayStep_109 : decode cX9_mayStep 109 = .ok (.iconst 1, 1) := by decide +kernel
theorem dX9_mayStep_110 : decode cX9_mayStep 110 = .ok (.iand, 1) := by decide +kernel
theorem dX9_mayStep_111 : decode cX9_mayStep 111 = .ok (.iastore, 1) := by decide +kernel
theorem dX9_mayStep_112 : decode cX9_mayStep 112 = .ok (.aload 9, 2) := by decide +kernel
theorem dX9_mayStep_114 : decode cX9_mayStep 114 = .ok (.bipush 6, 2) := by decide +kernel
theorem dX9_mayStep_116 : decode cX9_mayStep 116 = .ok (.iload 5, 2) := by decide +kernel
theorem dX9_mayStep_118 : decode cX9_mayStep 118 = .ok (.iastore, 1) := by decide +kernel
theorem dX9_mayStep_119 : decode cX9_mayStep 119 = .ok (.aload_n 0, 1) := by decide +kernel
theorem dX9_mayStep_120 : decode cX9_mayStep 120 = .ok (.getfield 50, 3) := by decide +kernel
theorem dX9_mayStep_123 : decode cX9_mayStep 123 = .ok (.invokevirtual 83, 3) := by decide +kernel
theorem dX9_mayStep_126 : decode cX9_mayStep 126 = .ok (.ireturn, 1) := by decide +kernel
theorem kw_132 : Cond.fieldLink "FootholdWall$Wall" 34 "FootholdWall$Wall" "x" "[I" ∈ gw := gw_of (tb_of 132 (by decide +kernel)) (by decide +kernel)
theorem kw_135 : Cond.fieldLink "FootholdWall$Wall" 38 "FootholdWall$Wall" "y" "[I" ∈ gw := gw_of (tb_of 135 (by decide +kernel)) (by decide +kernel)
theorem kw_147 : Cond.fieldLink "FootholdWall$Wall" 50 "FootholdWall$Wall" "law" "LFootholdWall$Law;" ∈ gw := gw_of (tb_of 147 (by decide +kernel)) (by decide +kernel)
theorem kw_741 : Cond.fieldLink "FootholdWall$Wall" 80 "FootholdWall$Law" "facts" "[I" ∈ gw := gw_of (tb_of 741 (by decide +kernel)) (by decide +kernel)
theorem kw_811 : Cond.methodLink "FootholdWall$Wall" 76 ⟨"java/lang/Math", "abs", "(I)I"⟩ ∈ gw := gw_of (tb_of 811 (by decide +kernel)) (by decide +kernel)
theorem kw_812 : Cond.static ⟨"java/lang/Math", "abs", "(I)I"⟩ ∈ gw := gw_of (tb_of 812 (by decide +kernel)) (by decide +kernel)
theorem kw_813 : Cond.code Lib.Math.abs.name Lib.Math.abs.code 1 (some .int) ∈ gw := gw_of (tb_of 813 (by decide +kernel)) (by decide +kernel)
theorem kw_814 : Cond.methodLink "FootholdWall$Wall" 83 yX2_holds ∈ gw := gw_of (tb_of 814 (by decide +kernel)) (by decide +kernel)
theorem kw_815 : Cond.instanceMethod yX2_holds ∈ gw := gw_of (tb_of 815 (by decide +kernel)) (by decide +kernel)
theorem kw_816 : Cond.selects "FootholdWall$Law" yX2_holds yX2_holds ∈ gw := gw_of (tb_of 816 (by decide +kernel)) (by decide +kernel)
theorem kw_817 : Cond.code yX2_holds cX2_holds 5 (some (.boolean)) ∈ gw := gw_of (tb_of 817 (by decide +kernel)) (by decide +kernel)
set_option maxHeartbeats 4000000 in
set_option maxRecDepth 100000 in
theorem s_Wall_mayStep (l : Launch) (D : va_G) (cs : CS) (kf : KF) (T : TF) (O : List Nat) (X : va_W) (a0 ha0 ga0 : Nat) (x1 : Int32) (x2 : Int32) (x3 : Int32) (x4 : Int32) (x5 : Int32) (t_a0 : isW T a0 ha0 ga0) (l_x1 : 0 ≤ x1.toInt) (u_x1 : x1.toInt < ha0) (l_x2 : 0 ≤ x2.toInt) (u_x2 : x2.toInt < ha0) (hO : okO T O [1, 12, 19]) : TK l D cs kf yX9_mayStep cX9_mayStep 10 (some (.boolean)) { frames := 2, cells := 0, slots := 0, locals := 48 } [.ref a0, .int x1, .int x2, .int x3, .int x4, .int x5] T O X (Ti D cs (fun r u => u = (T, O, X) ∧ 0 ≤ r.toInt ∧ r.toInt ≤ 1)) := by
  refine tk_of (by decide) (Nat.le_of_ble_eq_true rfl) (fun p e s m below meth c ls A H locs hx hb hr hml hown hts hlocks hnm hkb hH hS hA hOX hks hE hl => ?_)
  have hown : s.vm.findClass RX9 = some m.cls := hown
  have hl : lv_has ls 10 [(0, .ref a0), (1, .int x1), (2, .int x2), (3, .int x3), (4, .int x4), (5, .int x5)] := hl
  have b1_a0 := t_a0.2.1
  have b2_a0 := t_a0.2.2
  have hO0 := hO
  obtain ⟨fs9, ho9, hH⟩ := hH.take t_a0.1 (hO0.no t_a0.1 (by decide))
  have hp0 : okL T (ft9w ha0 ga0) fs9 := (fun fs => (ob9w t_a0 fs).mp) _ ho9
  clear ho9
  obtain ⟨v9, fs9, rfl, h9, hp1⟩ := okL_i hp0
  have h9 : v9 = .int (nI ha0) := h9
  subst h9
  have e_ha0 : (nI ha0).toInt = ha0 := nI_toInt (by have := t_a0.2.1; omega)
  have b_ha0 := t_a0.2.1
  obtain ⟨v9, fs9, rfl, h9, hp2⟩ := okL_i hp1
  have h9 : v9 = .int (nI ga0) := h9
  subst h9
  have e_ga0 : (nI ga0).toInt = ga0 := nI_toInt (by have := t_a0.2.2; omega)
  have b_ga0 := t_a0.2.2
  obtain ⟨v9, fs9, rfl, h9, hp3⟩ := okL_i hp2
  obtain ⟨q0_2, rfl⟩ := h9
  obtain ⟨v9, fs9, rfl, h9, hp4⟩ := okL_i hp3
  obtain ⟨q0_3, rfl, l_q0_3, u_q0_3⟩ := h9
  obtain ⟨v9, fs9, rfl, h9, hp5⟩ := okL_i hp4
  obtain ⟨q0_4, rfl, l_q0_4, u_q0_4⟩ := h9
  obtain ⟨v9, fs9, rfl, h9, hp6⟩ := okL_i hp5
  obtain ⟨q0_5, rfl, l_q0_5, u_q0_5⟩ := h9
  obtain ⟨v9, fs9, rfl, h9, hp7⟩ := okL_i hp6
  obtain ⟨q0_6, rfl, t_q0_6⟩ := h9
  obtain ⟨v9, fs9, rfl, h9, hp8⟩ := okL_i hp7
  obtain ⟨q0_7, rfl, t_q0_7⟩ := h9
  obtain ⟨v9, fs9, rfl, h9, hp9⟩ := okL_i hp8
  obtain ⟨q0_8, rfl, t_q0_8⟩ := h9
  obtain ⟨v9, fs9, rfl, h9, hp10⟩ := okL_i hp9
  obtain ⟨q0_9, rfl, t_q0_9⟩ := h9
  obtain ⟨v9, fs9, rfl, h9, hp11⟩ := okL_i hp10
  obtain ⟨q0_10, rfl, t_q0_10⟩ := h9
  obtain ⟨vL9, fs9, rfl, hL9, hp12⟩ := okL_i hp11
  obtain ⟨v9, fs9, rfl, h9, hp13⟩ := okL_i hp12
  obtain ⟨q0_12, rfl, l_q0_12, u_q0_12⟩ := h9
  obtain ⟨v9, fs9, rfl, h9, hp14⟩ := okL_i hp13
  obtain ⟨q0_13, rfl, l_q0_13, u_q0_13⟩ := h9
  have hpz := okL_z hp14
  subst hpz
  rcases hL9 with rfl | ⟨q0_11, nq0_11, rfl, t_q0_11, b_q0_11⟩
  · skip
    have hH : HT D cs A T (a0 :: O) ((a0, .inr (9, [.int (nI ha0), .int (nI ga0), .int q0_2, .int q0_3, .int q0_4, .int q0_5, .ref q0_6, .ref q0_7, .ref q0_8, .ref q0_9, .ref q0_10, .null, .int q0_12, .int q0_13])) :: X) H := hH
    have hO : okO T (a0 :: O) [1, 12] := okO.cons (hO0.sub (by decide)) t_a0.1 (by decide)
    refine lv_aload_n hx hb dX9_mayStep_0 rfl (lv_at hl 0 rfl) ?_
    refine x_get (ci := 9) (C := RX9) (F := TX9) (N := 14) (v := .ref q0_6) hx hb hts uX9 hown hkb hH rfl 6 (by decide) rfl kw_132 (fun _ h9 => h9) dX9_mayStep_1 ?_
    refine lv_iload_n hx hb dX9_mayStep_4 rfl (lv_at hl 2 rfl) ?_
    refine t_ild hx hb hkb hH t_q0_6 (hO.no t_q0_6 (by decide)) (by omega) (by omega) dX9_mayStep_5 (fun v5 h9 => ?_)
    refine lv_aload_n hx hb dX9_mayStep_6 rfl (lv_at hl 0 rfl) ?_
    refine x_get (ci := 9) (C := RX9) (F := TX9) (N := 14) (v := .ref q0_6) hx hb hts uX9 hown hkb hH rfl 6 (by decide) rfl kw_132 (fun _ h9 => h9) dX9_mayStep_7 ?_
    refine lv_iload_n hx hb dX9_mayStep_10 rfl (lv_at hl 1 rfl) ?_
    refine t_ild hx hb hkb hH t_q0_6 (hO.no t_q0_6 (by decide)) (by omega) (by omega) dX9_mayStep_11 (fun v11 h9 => ?_)
    refine lv_isub hx hb dX9_mayStep_12 ?_
    refine lv_topi (fun v12 ev12 => ?_)
    refine va_mabs hx hb (by rw [hml]; exact hl.1.symm) hown (hts _ kw_811) (hts _ kw_812) (hts _ kw_6) (hts _ kw_813) (Nat.le_of_ble_eq_true rfl) (Nat.le_of_ble_eq_true rfl) (Nat.le_of_ble_eq_true rfl) (Nat.le_of_ble_eq_true rfl) dX9_mayStep_13 ?_
    refine lv_topi (fun v13 ev13 => ?_)
    refine lv_istore (lv' := [(6, .int v13), (0, .ref a0), (1, .int x1), (2, .int x2), (3, .int x3), (4, .int x4), (5, .int x5)]) hx hb dX9_mayStep_16 hl (by decide) rfl (fun ls hl => ?_)
    refine lv_aload_n hx hb dX9_mayStep_18 rfl (lv_at hl 1 rfl) ?_
    refine x_get (ci := 9) (C := RX9) (F := TX9) (N := 14) (v := .ref q0_7) hx hb hts uX9 hown hkb hH rfl 7 (by decide) rfl kw_135 (fun _ h9 => h9) dX9_mayStep_19 ?_
    refine lv_iload_n hx hb dX9_mayStep_22 rfl (lv_at hl 3 rfl) ?_
    refine t_ild hx hb hkb hH t_q0_7 (hO.no t_q0_7 (by decide)) (by omega) (by omega) dX9_mayStep_23 (fun v23 h9 => ?_)
    refine lv_aload_n hx hb dX9_mayStep_24 rfl (lv_at hl 1 rfl) ?_
    refine x_get (ci := 9) (C := RX9) (F := TX9) (N := 14) (v := .ref q0_7) hx hb hts uX9 hown hkb hH rfl 7 (by decide) rfl kw_135 (fun _ h9 => h9) dX9_mayStep_25 ?_
    refine lv_iload_n hx hb dX9_mayStep_28 rfl (lv_at hl 2 rfl) ?_
    refine t_ild hx hb hkb hH t_q0_7 (hO.no t_q0_7 (by decide)) (by omega) (by omega) dX9_mayStep_29 (fun v29 h9 => ?_)
    refine lv_isub hx hb dX9_mayStep_30 ?_
    refine lv_topi (fun v30 ev30 => ?_)
    refine lv_istore (lv' := [(7, .int v30), (6, .int v13), (0, .ref a0), (1, .int x1), (2, .int x2), (3, .int x3), (4, .int x4), (5, .int x5)]) hx hb dX9_mayStep_31 hl (by decide) rfl (fun ls hl => ?_)
    refine lv_iload hx hb dX9_mayStep_33 (lv_at hl 1 rfl) ?_
    refine lv_iload hx hb dX9_mayStep_35 (lv_at hl 0 rfl) ?_
    refine va_mabs hx hb (by rw [hml]; exact hl.1.symm) hown (hts _ kw_811) (hts _ kw_812) (hts _ kw_6) (hts _ kw_813) (Nat.le_of_ble_eq_true rfl) (Nat.le_of_ble_eq_true rfl) (Nat.le_of_ble_eq_true rfl) (Nat.le_of_ble_eq_true rfl) dX9_mayStep_37 ?_
    refine lv_topi (fun v37 ev37 => ?_)
    refine lv_iadd hx hb dX9_mayStep_40 ?_
    refine lv_topi (fun v40 ev40 => ?_)
    refine lv_istore (lv' := [(8, .int v40), (7, .int v30), (6, .int v13), (0, .ref a0), (1, .int x1), (2, .int x2), (3, .int x3), (4, .int x4), (5, .int x5)]) hx hb dX9_mayStep_41 hl (by decide) rfl (fun ls hl => ?_)
    refine lv_aload_n hx hb dX9_mayStep_43 rfl (lv_at hl 3 rfl) ?_
    refine x_get (ci := 9) (C := RX9) (F := TX9) (N := 14) (v := .null) hx hb hts uX9 hown hkb hH rfl 11 (by decide) rfl kw_147 (fun _ h9 => h9) dX9_mayStep_44 ?_
    refine lv_ifnonnullN hx hb dX9_mayStep_47 ?_
    refine lv_iload hx hb dX9_mayStep_50 (lv_at hl 0 rfl) ?_
    refine lv_iload_n hx hb dX9_mayStep_52 rfl (lv_at hl 6 rfl) ?_
    have J61 : ∀ (k61_0 : Int32) (H : Heap) (locs : List Loc) (ls : Array Slot), (0 ≤ k61_0.toInt) → (k61_0.toInt ≤ 1) → HT D cs A T (a0 :: O) ((a0, .inr (9, [.int (nI ha0), .int (nI ga0), .int q0_2, .int q0_3, .int q0_4, .int q0_5, .ref q0_6, .ref q0_7, .ref q0_8, .ref q0_9, .ref q0_10, .null, .int q0_12, .int q0_13])) :: X) H → va_S A s.heap H locs → lv_has ls 10 [] → W p l e { frames := 2, cells := 0, slots := 0, locals := 48 } s m [.ref a0, .int x1, .int x2, .int x3, .int x4, .int x5].toArray below meth c H locs 0 0 (MQ below (Ti D cs (fun r u => u = (T, O, X) ∧ 0 ≤ r.toInt ∧ r.toInt ≤ 1) A) [.ref a0, .int x1, .int x2, .int x3, .int x4, .int x5].toArray s 0 0 A) (F0 m 61 ls [.int k61_0]) := by
      intro k61_0 H locs ls l_k61_0 u_k61_0 hH hS hl
      have hH : HT D cs A T O X H := HT.lay (ci := 9) hH t_a0.1 ((ob9w t_a0 _).mpr (okL_c (rfl) (okL_c (rfl) (okL_c (⟨_, rfl⟩) (okL_c (⟨_, rfl, by omega, by omega⟩) (okL_c (⟨_, rfl, by omega, by omega⟩) (okL_c (⟨_, rfl, by omega, by omega⟩) (okL_c (⟨_, rfl, t_q0_6⟩) (okL_c (⟨_, rfl, t_q0_7⟩) (okL_c (⟨_, rfl, t_q0_8⟩) (okL_c (⟨_, rfl, t_q0_9⟩) (okL_c (⟨_, rfl, t_q0_10⟩) (okL_c (Or.inl rfl) (okL_c (⟨_, rfl, by omega, by omega⟩) (okL_c (⟨_, rfl, by omega, by omega⟩) (okL_n))))))))))))))))
      have hO := hO0
      exact te_z hx hb hr hlocks (nar01 (by omega) (by omega)) hH hS (⟨rfl, by omega, by omega⟩) dX9_mayStep_61
    refine lv_icmp_gt (tgt := 60) hx hb dX9_mayStep_53 (by decide) (fun c53 => ?_) (fun c53 => ?_)
    · skip
      have fuc53 := full_i v40
      have fvc53 := full_i x3
      have tc53 := g_lt c53
      refine lv_iconst (v := 0) hx hb dX9_mayStep_60 (by decide) ?_
      exact J61 0 _ _ _ (by decide) (by decide) hH hS (lv_sub hl [] rfl)
    · skip
      have fuc53 := full_i v40
      have fvc53 := full_i x3
      have tc53 := g_nlt c53
      refine lv_iconst (v := 1) hx hb dX9_mayStep_56 (by decide) ?_
      refine lv_goto (tgt := 61) hx hb dX9_mayStep_57 (by decide) ?_
      exact J61 1 _ _ _ (by decide) (by decide) hH hS (lv_sub hl [] rfl)
  · skip
    have hH : HT D cs A T (a0 :: O) ((a0, .inr (9, [.int (nI ha0), .int (nI ga0), .int q0_2, .int q0_3, .int q0_4, .int q0_5, .ref q0_6, .ref q0_7, .ref q0_8, .ref q0_9, .ref q0_10, .ref q0_11, .int q0_12, .int q0_13])) :: X) H := hH
    have hO : okO T (a0 :: O) [1, 12] := okO.cons (hO0.sub (by decide)) t_a0.1 (by decide)
    refine lv_aload_n hx hb dX9_mayStep_0 rfl (lv_at hl 0 rfl) ?_
    refine x_get (ci := 9) (C := RX9) (F := TX9) (N := 14) (v := .ref q0_6) hx hb hts uX9 hown hkb hH rfl 6 (by decide) rfl kw_132 (fun _ h9 => h9) dX9_mayStep_1 ?_
    refine lv_iload_n hx hb dX9_mayStep_4 rfl (lv_at hl 2 rfl) ?_
    refine t_ild hx hb hkb hH t_q0_6 (hO.no t_q0_6 (by decide)) (by omega) (by omega) dX9_mayStep_5 (fun v5 h9 => ?_)
    refine lv_aload_n hx hb dX9_mayStep_6 rfl (lv_at hl 0 rfl) ?_
    refine x_get (ci := 9) (C := RX9) (F := TX9) (N := 14) (v := .ref q0_6) hx hb hts uX9 hown hkb hH rfl 6 (by decide) rfl kw_132 (fun _ h9 => h9) dX9_mayStep_7 ?_
    refine lv_iload_n hx hb dX9_mayStep_10 rfl (lv_at hl 1 rfl) ?_
    refine t_ild hx hb hkb hH t_q0_6 (hO.no t_q0_6 (by decide)) (by omega) (by omega) dX9_mayStep_11 (fun v11 h9 => ?_)
    refine lv_isub hx hb dX9_mayStep_12 ?_
    refine lv_topi (fun v12 ev12 => ?_)
    refine va_mabs hx hb (by rw [hml]; exact hl.1.symm) hown (hts _ kw_811) (hts _ kw_812) (hts _ kw_6) (hts _ kw_813) (Nat.le_of_ble_eq_true rfl) (Nat.le_of_ble_eq_true rfl) (Nat.le_of_ble_eq_true rfl) (Nat.le_of_ble_eq_true rfl) dX9_mayStep_13 ?_
    refine lv_topi (fun v13 ev13 => ?_)
    refine lv_istore (lv' := [(6, .int v13), (0, .ref a0), (1, .int x1), (2, .int x2), (3, .int x3), (4, .int x4), (5, .int x5)]) hx hb dX9_mayStep_16 hl (by decide) rfl (fun ls hl => ?_)
    refine lv_aload_n hx hb dX9_mayStep_18 rfl (lv_at hl 1 rfl) ?_
    refine x_get (ci := 9) (C := RX9) (F := TX9) (N := 14) (v := .ref q0_7) hx hb hts uX9 hown hkb hH rfl 7 (by decide) rfl kw_135 (fun _ h9 => h9) dX9_mayStep_19 ?_
    refine lv_iload_n hx hb dX9_mayStep_22 rfl (lv_at hl 3 rfl) ?_
    refine t_ild hx hb hkb hH t_q0_7 (hO.no t_q0_7 (by decide)) (by omega) (by omega) dX9_mayStep_23 (fun v23 h9 => ?_)
    refine lv_aload_n hx hb dX9_mayStep_24 rfl (lv_at hl 1 rfl) ?_
    refine x_get (ci := 9) (C := RX9) (F := TX9) (N := 14) (v := .ref q0_7) hx hb hts uX9 hown hkb hH rfl 7 (by decide) rfl kw_135 (fun _ h9 => h9) dX9_mayStep_25 ?_
    refine lv_iload_n hx hb dX9_mayStep_28 rfl (lv_at hl 2 rfl) ?_
    refine t_ild hx hb hkb hH t_q0_7 (hO.no t_q0_7 (by decide)) (by omega) (by omega) dX9_mayStep_29 (fun v29 h9 => ?_)
    refine lv_isub hx hb dX9_mayStep_30 ?_
    refine lv_topi (fun v30 ev30 => ?_)
    refine lv_istore (lv' := [(7, .int v30), (6, .int v13), (0, .ref a0), (1, .int x1), (2, .int x2), (3, .int x3), (4, .int x4), (5, .int x5)]) hx hb dX9_mayStep_31 hl (by decide) rfl (fun ls hl => ?_)
    refine lv_iload hx hb dX9_mayStep_33 (lv_at hl 1 rfl) ?_
    refine lv_iload hx hb dX9_mayStep_35 (lv_at hl 0 rfl) ?_
    refine va_mabs hx hb (by rw [hml]; exact hl.1.symm) hown (hts _ kw_811) (hts _ kw_812) (hts _ kw_6) (hts _ kw_813) (Nat.le_of_ble_eq_true rfl) (Nat.le_of_ble_eq_true rfl) (Nat.le_of_ble_eq_true rfl) (Nat.le_of_ble_eq_true rfl) dX9_mayStep_37 ?_
    refine lv_topi (fun v37 ev37 => ?_)
    refine lv_iadd hx hb dX9_mayStep_40 ?_
    refine lv_topi (fun v40 ev40 => ?_)
    refine lv_istore (lv' := [(8, .int v40), (7, .int v30), (6, .int v13), (0, .ref a0), (1, .int x1), (2, .int x2), (3, .int x3), (4, .int x4), (5, .int x5)]) hx hb dX9_mayStep_41 hl (by decide) rfl (fun ls hl => ?_)
    refine lv_aload_n hx hb dX9_mayStep_43 rfl (lv_at hl 3 rfl) ?_
    refine x_get (ci := 9) (C := RX9) (F := TX9) (N := 14) (v := .ref q0_11) hx hb hts uX9 hown hkb hH rfl 11 (by decide) rfl kw_147 (fun _ h9 => h9) dX9_mayStep_44 ?_
    refine lv_ifnonnull (tgt := 62) hx hb dX9_mayStep_47 (by decide) ?_
    refine lv_aload_n hx hb dX9_mayStep_62 rfl (lv_at hl 3 rfl) ?_
    refine x_get (ci := 9) (C := RX9) (F := TX9) (N := 14) (v := .ref q0_11) hx hb hts uX9 hown hkb hH rfl 11 (by decide) rfl kw_147 (fun _ h9 => h9) dX9_mayStep_63 ?_
    refine t_get (ci := 2) (lst := ft2 nq0_11 0) (C := RX2) (F := TX2) (N := 3) hx hb hts uX2 hown hkb hH t_q0_11 (hO.no t_q0_11 (by decide)) (fun _ h9 => h9) rfl rfl 1 (by decide) rfl kw_741 (fun _ h9 => h9) dX9_mayStep_66 (fun v9 h9 => ?_)
    obtain ⟨v66, rfl, t_v66⟩ := h9
    refine lv_astore (lv' := [(9, .ref v66), (8, .int v40), (7, .int v30), (6, .int v13), (0, .ref a0), (1, .int x1), (2, .int x2), (3, .int x3), (4, .int x4), (5, .int x5)]) hx hb dX9_mayStep_69 hl (by decide) rfl (fun ls hl => ?_)
    refine lv_aload hx hb dX9_mayStep_71 (lv_at hl 0 rfl) ?_
    refine lv_iconst (v := 0) hx hb dX9_mayStep_73 (by decide) ?_
    refine lv_iload hx hb dX9_mayStep_74 (lv_at hl 3 rfl) ?_
    refine t_ist hx hb hkb hH hS t_v66 (hO.no t_v66 (by decide)) (by decide) (by decide) (cp_0 _) dX9_mayStep_76 (fun H locs hH hS => ?_)
    refine lv_aload hx hb dX9_mayStep_77 (lv_at hl 0 rfl) ?_
    refine lv_iconst (v := 1) hx hb dX9_mayStep_79 (by decide) ?_
    refine lv_iload hx hb dX9_mayStep_80 (lv_at hl 2 rfl) ?_
    refine t_ist hx hb hkb hH hS t_v66 (hO.no t_v66 (by decide)) (by decide) (by decide) (cp_0 _) dX9_mayStep_82 (fun H locs hH hS => ?_)
    refine lv_aload hx hb dX9_mayStep_83 (lv_at hl 0 rfl) ?_
    refine lv_iconst (v := 2) hx hb dX9_mayStep_85 (by decide) ?_
    refine lv_iload hx hb dX9_mayStep_86 (lv_at hl 1 rfl) ?_
    refine t_ist hx hb hkb hH hS t_v66 (hO.no t_v66 (by decide)) (by decide) (by decide) (cp_0 _) dX9_mayStep_88 (fun H locs hH hS => ?_)
    refine lv_aload hx hb dX9_mayStep_89 (lv_at hl 0 rfl) ?_
    refine lv_iconst (v := 3) hx hb dX9_mayStep_91 (by decide) ?_
    refine lv_iload_n hx hb dX9_mayStep_92 rfl (lv_at hl 7 rfl) ?_
    refine t_ist hx hb hkb hH hS t_v66 (hO.no t_v66 (by decide)) (by decide) (by decide) (cp_0 _) dX9_mayStep_93 (fun H locs hH hS => ?_)
    refine lv_aload hx hb dX9_mayStep_94 (lv_at hl 0 rfl) ?_
    refine lv_iconst (v := 4) hx hb dX9_mayStep_96 (by decide) ?_
    refine lv_iload hx hb dX9_mayStep_97 (lv_at hl 8 rfl) ?_
    refine t_ist hx hb hkb hH hS t_v66 (hO.no t_v66 (by decide)) (by decide) (by decide) (cp_0 _) dX9_mayStep_99 (fun H locs hH hS => ?_)
    refine lv_aload hx hb dX9_mayStep_100 (lv_at hl 0 rfl) ?_
    refine lv_iconst (v := 5) hx hb dX9_mayStep_102 (by decide) ?_
    refine lv_aload_n hx hb dX9_mayStep_103 rfl (lv_at hl 4 rfl) ?_
    refine x_get (ci := 9) (C := RX9) (F := TX9) (N := 14) (v := .int q0_5) hx hb hts uX9 hown hkb hH rfl 5 (by decide) rfl kw_130 (fun _ h9 => h9) dX9_mayStep_104 ?_
    refine lv_iload_n hx hb dX9_mayStep_107 rfl (lv_at hl 6 rfl) ?_
    refine lv_ishr hx hb dX9_mayStep_108 ?_
    refine lv_topi (fun v108 ev108 => ?_)
    have tv108 : 0 ≤ v108.toInt ∧ v108.toInt ≤ q0_5.toInt := by rw [ev108]; exact shr_b (by omega)
    refine lv_iconst (v := 1) hx hb dX9_mayStep_109 (by decide) ?_
    refine lv_iand hx hb dX9_mayStep_110 ?_
    refine lv_topi (fun v110 ev110 => ?_)
    have tv110 : 0 ≤ v110.toInt ∧ v110.toInt ≤ 1 := by rw [ev110]; exact and_r (by decide)
    refine t_ist hx hb hkb hH hS t_v66 (hO.no t_v66 (by decide)) (by decide) (by decide) (cp_0 _) dX9_mayStep_111 (fun H locs hH hS => ?_)
    refine lv_aload hx hb dX9_mayStep_112 (lv_at hl 0 rfl) ?_
    refine lv_bipush (v := 6) hx hb dX9_mayStep_114 (by decide) ?_
    refine lv_iload hx hb dX9_mayStep_116 (lv_at hl 9 rfl) ?_
    refine t_ist hx hb hkb hH hS t_v66 (hO.no t_v66 (by decide)) (by decide) (by decide) (cp_0 _) dX9_mayStep_118 (fun H locs hH hS => ?_)
    refine lv_aload_n hx hb dX9_mayStep_119 rfl (lv_at hl 4 rfl) ?_
    refine x_get (ci := 9) (C := RX9) (F := TX9) (N := 14) (v := .ref q0_11) hx hb hts uX9 hown hkb hH rfl 11 (by decide) rfl kw_147 (fun _ h9 => h9) dX9_mayStep_120 ?_
    refine tk_i hH hS hA (tr_V (n := 0) (As := []) hx hb hml hown hts hkb hH (ox_c hOX) hks hE hS hA (s_Law_holds l D cs kf T (a0 :: O) ((a0, .inr (9, [.int (nI ha0), .int (nI ga0), .int q0_2, .int q0_3, .int q0_4, .int q0_5, .ref q0_6, .ref q0_7, .ref q0_8, .ref q0_9, .ref q0_10, .ref q0_11, .int q0_12, .int q0_13])) :: X) q0_11 nq0_11 t_q0_11 b_q0_11 (hO.sub (by decide))) kw_814 kw_815 kw_816 kw_21 kw_817 (by decide +kernel) ⟨Nat.le_of_ble_eq_true rfl, Nat.le_of_ble_eq_true rfl⟩ (HT.recv (ci := 2) hkb hH t_q0_11 (hO.no t_q0_11 (by decide)) rfl) rfl rfl hl.1 (Nat.le_of_ble_eq_true rfl) dX9_mayStep_123 ⟨Nat.le_of_ble_eq_true rfl, Nat.le_of_ble_eq_true rfl⟩) (fun v123 u H locs hz9 hH hS => ?_)
    obtain ⟨rfl, l_v123, u_v123⟩ := hz9
    have hH : HT D cs A T (a0 :: O) ((a0, .inr (9, [.int (nI ha0), .int (nI ga0), .int q0_2, .int q0_3, .int q0_4, .int q0_5, .ref q0_6, .ref q0_7, .ref q0_8, .ref q0_9, .ref q0_10, .ref q0_11, .int q0_12, .int q0_13])) :: X) H := hH
    refine W.widen (k := 0) (n := 0) (Nat.le_of_ble_eq_true rfl) (Nat.le_of_ble_eq_true rfl) ?_
    have hH : HT D cs A T O X H := HT.lay (ci := 9) hH t_a0.1 ((ob9w t_a0 _).mpr (okL_c (rfl) (okL_c (rfl) (okL_c (⟨_, rfl⟩) (okL_c (⟨_, rfl, by omega, by omega⟩) (okL_c (⟨_, rfl, by omega, by omega⟩) (okL_c (⟨_, rfl, by omega, by omega⟩) (okL_c (⟨_, rfl, t_q0_6⟩) (okL_c (⟨_, rfl, t_q0_7⟩) (okL_c (⟨_, rfl, t_q0_8⟩) (okL_c (⟨_, rfl, t_q0_9⟩) (okL_c (⟨_, rfl, t_q0_10⟩) (okL_c (Or.inr ⟨_, _, rfl, t_q0_11, b_q0_11⟩) (okL_c (⟨_, rfl, by omega, by omega⟩) (okL_c (⟨_, rfl, by omega, by omega⟩) (okL_n))))))))))))))))
    have hO := hO0
    exact te_z hx hb hr hlocks (nar01 (by omega) (by omega)) hH hS (⟨rfl, by omega, by omega⟩) dX9_mayStep_126
theorem dX5_aim_0 : decode cX5_aim 0 = .ok (.aload_n 1, 1) := by decide +kernel
theorem dX5_aim_1 : decode cX5_aim 1 = .ok (.aload_n 0, 1) := by decide +kernel
theorem dX5_aim_2 : decode cX5_aim 2 = .ok (.getfield 28, 3) := by decide +kernel
theorem dX5_aim_5 : decode cX5_aim 5 = .ok (.if_acmp .ne 46, 3) := by decide +kernel
theorem dX5_aim_8 : decode cX5_aim 8 = .ok (.iload_n 3, 1) := by decide +kernel
theorem dX5_aim_9 : decode cX5_aim 9 = .ok (.aload_n 0, 1) := by decide +kernel
theorem dX5_aim_10 : decode cX5_aim 10 = .ok (.getfield 15, 3) := by decide +kernel
theorem dX5_aim_13 : decode cX5_aim 13 = .ok (.if_icmp .ne 38, 3) := by decide +kernel
theorem dX5_aim_16 : decode cX5_aim 16 = .ok (.iload_n 2, 1) := by decide +kernel
theorem dX5_aim_17 : decode cX5_aim 17 = .ok (.aload_n 0, 1) := by decide +kernel
theorem dX5_aim_18 : decode cX5_aim 18 = .ok (.getfield 9, 3) := by decide +kernel
theorem dX5_aim_21 : decode cX5_aim 21 = .ok (.if_icmp .eq 10, 3) := by decide +kernel
theorem dX5_aim_24 : decode cX5_aim 24 = .ok (.aload_n 1, 1) := by decide +kernel
theorem dX5_aim_25 : decode cX5_aim 25 = .ok (.invokevirtual 32, 3) := by decide +kernel
theorem dX5_aim_28 : decode cX5_aim 28 = .ok (.ifCond .ne 23, 3) := by decide +kernel
theorem dX5_aim_31 : decode cX5_aim 31 = .ok (.iload 4, 2) := by decide +kernel
theorem dX5_aim_33 : decode cX5_aim 33 = .ok (.aload_n 0, 1) := by decide +kernel
theorem dX5_aim_34 : decode cX5_aim 34 = .ok (.getfield 18, 3) := by decide +kernel
theorem dX5_aim_37 : decode cX5_aim 37 = .ok (.if_icmp .eq 10, 3) := by decide +kernel
theorem dX5_aim_40 : decode cX5_aim 40 = .ok (.aload_n 1, 1) := by decide +kernel
theorem dX5_aim_41 : decode cX5_aim 41 = .ok (.invokevirtual 38, 3) := by decide +kernel
theorem dX5_aim_44 : decode cX5_aim 44 = .ok (.ifCond .ne 7, 3) := by decide +kernel
theorem dX5_aim_47 : decode cX5_aim 47 = .ok (.iconst 1, 1) := by decide +kernel
theorem dX5_aim_48 : decode cX5_aim 48 = .ok (.goto 4, 3) := by decide +kernel
theorem dX5_aim_51 : decode cX5_aim 51 = .ok (.iconst 0, 1) := by decide +kernel
theorem dX5_aim_52 : decode cX5_aim 52 = .ok (.istore 5, 2) := by decide +kernel
theorem dX5_aim_54 : decode cX5_aim 54 = .ok (.iload 5, 2) := by decide +kernel
theorem dX5_aim_56 : decode cX5_aim 56 = .ok (.ifCond .ne 38, 3) := by decide +kernel
theorem dX5_aim_59 : decode cX5_aim 59 = .ok (.iconst 0, 1) := by decide +kernel
theorem dX5_aim_60 : decode cX5_aim 60 = .ok (.istore 6, 2) := by decide +kernel
theorem dX5_aim_62 : decode cX5_aim 62 = .ok (.iload 6, 2) := by decide +kernel
theorem dX5_aim_64 : decode cX5_aim 64 = .ok (.bipush 14, 2) := by decide +kernel
theorem dX5_aim_66 : decode cX5_aim 66 = .ok (.if_icmp .ge 28, 3) := by decide +kernel
theorem dX5_aim_69 : decode cX5_aim 69 = .ok (.aload_n 0, 1) := by decide +kernel
theorem dX5_aim_70 : decode cX5_aim 70 = .ok (.getfield 21, 3) := by decide +kernel
theorem dX5_aim_73 : decode cX5_aim 73 = .ok (.iload 6, 2) := by decide +kernel
theorem dX5_aim_75 : decode cX5_aim 75 = .ok (.iconst 1, 1) := by decide +kernel
theorem dX5_aim_76 : decode cX5_aim 76 = .ok (.iload 6, 2) := by decide +kernel
theorem dX5_aim_78 : decode cX5_aim 78 = .ok (.ishl, 1) := by decide +kernel
theorem dX5_aim_79 : decode cX5_aim 79 = .ok (.iastore, 1) := by decide +kernel
theorem dX5_aim_80 : decode cX5_aim 80 = .ok (.aload_n 0, 1) := by decide +kernel
theorem dX5_aim_81 : decode cX5_aim 81 = .ok (.getfield 25, 3) := by decide +kernel
theorem dX5_aim_84 : decode cX5_aim 84 = .ok (.iload 6, 2) := by decide +kernel
theorem dX5_aim_86 : decode cX5_aim 86 = .ok (.iconst 0, 1) := by decide +kernel
theorem dX5_aim_87 : decode cX5_aim 87 = .ok (.iastore, 1) := by decide +kernel
theorem dX5_aim_88 : decode cX5_aim 88 = .ok (.iinc 6 1, 3) := by decide +kernel
theorem dX5_aim_91 : decode cX5_aim 91 = .ok (.goto (-29), 3) := by decide +kernel
theorem dX5_aim_94 : decode cX5_aim 94 = .ok (.aload_n 0, 1) := by decide +kernel
theorem dX5_aim_95 : decode cX5_aim 95 = .ok (.aload_n 1, 1) := by decide +kernel
theorem dX5_aim_96 : decode cX5_aim 96 = .ok (.putfield 28, 3) := by decide +kernel
theorem dX5_aim_99 : decode cX5_aim 99 = .ok (.aload_n 0, 1) := by decide +kernel
theorem dX5_aim_100 : decode cX5_aim 100 = .ok (.iload_n 2, 1) := by decide +kernel
theorem dX5_aim_101 : decode cX5_aim 101 = .ok (.putfield 9, 3) := by decide +kernel
theorem dX5_aim_104 : decode cX5_aim 104 = .ok (.aload_n 0, 1) := by decide +kernel
theorem dX5_aim_105 : decode cX5_aim 105 = .ok (.iload_n 3, 1) := by decide +kernel
theorem dX5_aim_106 : decode cX5_aim 106 = .ok (.putfield 15, 3) := by decide +kernel
theorem dX5_aim_109 : decode cX5_aim 109 = .ok (.aload_n 0, 1) := by decide +kernel
theorem dX5_aim_110 : decode cX5_aim 110 = .ok (.iload 4, 2) := by decide +kernel
theorem dX5_aim_112 : decode cX5_aim 112 = .ok (.putfield 18, 3) := by decide +kernel
theorem dX5_aim_115 : decode cX5_aim 115 = .ok (.return_, 1) := by decide +kernel
theorem dX5_getsUp_0 : decode cX5_getsUp 0 = .ok (.aload_n 0, 1) := by decide +kernel
theorem dX5_getsUp_1 : decode cX5_getsUp 1 = .ok (.aload_n 0, 1) := by decide +kernel
theorem dX5_getsUp_2 : decode cX5_getsUp 2 = .ok (.getfield 28, 3) := by decide +kernel
theorem dX5_getsUp_5 : decode cX5_getsUp 5 = .ok (.getfield 58, 3) := by decide +kernel
theorem dX5_getsUp_8 : decode cX5_getsUp 8 = .ok (.iload_n 1, 1) := by decide +kernel
theorem dX5_getsUp_9 : decode cX5_getsUp 9 = .ok (.iand, 1) := by decide +kernel
theorem dX5_getsUp_10 : decode cX5_getsUp 10 = .ok (.iload_n 1, 1) := by decide +kernel
theorem dX5_getsUp_11 : decode cX5_getsUp 11 = .ok (.aload_n 0, 1) := by decide +kernel
theorem dX5_getsUp_12 : decode cX5_getsUp 12 = .ok (.getfield 28, 3) := by decide +kernel
theorem dX5_getsUp_15 : decode cX5_getsUp 15 = .ok (.getfield 61, 3) := by decide +kernel
theorem dX5_getsUp_18 : decode cX5_getsUp 18 = .ok (.iconst (-1), 1) := by decide +kernel
theorem dX5_getsUp_19 : decode cX5_getsUp 19 = .ok (.ixor, 1) := by decide +kernel
theorem dX5_getsUp_20 : decode cX5_getsUp 20 = .ok (.iand, 1) := by decide +kernel
theorem dX5_getsUp_21 : decode cX5_getsUp 21 = .ok (.iload_n 1, 1) := by decide +kernel
theorem dX5_getsUp_22 : decode cX5_getsUp 22 = .ok (.aload_n 0, 1) := by decide +kernel
theorem dX5_getsUp_23 : decode cX5_getsUp 23 = .ok (.getfield 28, 3) := by decide +kernel
theorem dX5_getsUp_26 : decode cX5_getsUp 26 = .ok (.getfield 61, 3) := by decide +kernel
theorem dX5_getsUp_29 : decode cX5_getsUp 29 = .ok (.invokevirtual 64, 3) := by decide +kernel
theorem dX5_getsUp_32 : decode cX5_getsUp 32 = .ok (.aload_n 0, 1) := by decide +kernel
theorem dX5_getsUp_33 : decode cX5_getsUp 33 = .ok (.getfield 28, 3) := by decide +kernel
theorem dX5_getsUp_36 : decode cX5_getsUp 36 = .ok (.getfield 61, 3) := by decide +kernel
theorem dX5_getsUp_39 : decode cX5_getsUp 39 = .ok (.iand, 1) := by decide +kernel
theorem dX5_getsUp_40 : decode cX5_getsUp 40 = .ok (.ifCond .eq 7, 3) := by decide +kernel
theorem dX5_getsUp_43 : decode cX5_getsUp 43 = .ok (.iconst 1, 1) := by decide +kernel
theorem dX5_getsUp_44 : decode cX5_getsUp 44 = .ok (.goto 4, 3) := by decide +kernel
theorem dX5_getsUp_47 : decode cX5_getsUp 47 = .ok (.iconst 0, 1) := by decide +kernel
theorem dX5_getsUp_48 : decode cX5_getsUp 48 = .ok (.ireturn, 1) := by decide +kernel
theorem dX5_reached_0 : decode cX5_reached 0 = .ok (.aload_n 0, 1) := by decide +kernel
theorem dX5_reached_1 : decode cX5_reached 1 = .ok (.aload_n 0, 1) := by decide +kernel
theorem dX5_reached_2 : decode cX5_reached 2 = .ok (.getfield 28, 3) := by decide +kernel
theorem dX5_reached_5 : decode cX5_reached 5 = .ok (.getfield 58, 3) := by decide +kernel
theorem dX5_reached_8 : decode cX5_reached 8 = .ok (.iload_n 1, 1) := by decide +kernel
theorem dX5_reached_9 : decode cX5_reached 9 = .ok (.iand, 1) := by decide +kernel
theorem dX5_reached_10 : decode cX5_reached 10 = .ok (.iload_n 1, 1) := by decide +kernel
theorem dX5_reached_11 : decode cX5_reached 11 = .ok (.aload_n 0, 1) := by decide +kernel
theorem dX5_reached_12 : decode cX5_reached 12 = .ok (.getfield 28, 3) := by decide +kernel
theorem dX5_reached_15 : decode cX5_reached 15 = .ok (.getfield 61, 3) := by decide +kernel
theorem dX5_reached_18 : decode cX5_reached 18 = .ok (.iconst (-1), 1) := by decide +kernel
theorem dX5_reached_19 : decode cX5_reached 19 = .ok (.ixor, 1) := by decide +kernel
theorem dX5_reached_20 : decode cX5_reached 20 = .ok (.iand, 1) := by decide +kernel
theorem dX5_reached_21 : decode cX5_reached 21 = .ok (.iload_n 1, 1) := by decide +kernel
theorem dX5_reached_22 : decode cX5_reached 22 = .ok (.iconst 0, 1) := by decide +kernel
theorem dX5_reached_23 : decode cX5_reached 23 = .ok (.invokevirtual 64, 3) := by decide +kernel
theorem dX5_reached_26 : decode cX5_reached 26 = .ok (.ireturn, 1) := by decide +kernel
theorem dX5_spread_0 : decode cX5_spread 0 = .ok (.iload_n 1, 1) := by decide +kernel
theorem dX5_spread_1 : decode cX5_spread 1 = .ok (.istore 5, 2) := by decide +kernel
theorem dX5_spread_3 : decode cX5_spread 3 = .ok (.iload_n 1, 1) := by decide +kernel
theorem dX5_spread_4 : decode cX5_spread 4 = .ok (.iload_n 2, 1) := by decide +kernel
theorem dX5_spread_5 : decode cX5_spread 5 = .ok (.iand, 1) := by decide +kernel
theorem dX5_spread_6 : decode cX5_spread 6 = .ok (.istore 6, 2) := by decide +kernel
theorem dX5_spread_8 : decode cX5_spread 8 = .ok (.iconst 0, 1) := by decide +kernel
theorem dX5_spread_9 : decode cX5_spread 9 = .ok (.istore 7, 2) := by decide +kernel
theorem dX5_spread_11 : decode cX5_spread 11 = .ok (.iload 7, 2) := by decide +kernel
theorem dX5_spread_13 : decode cX5_spread 13 = .ok (.bipush 14, 2) := by decide +kernel
theorem dX5_spread_15 : decode cX5_spread 15 = .ok (.if_icmp .ge 60, 3) := by decide +kernel
theorem dX5_spread_18 : decode cX5_spread 18 = .ok (.iload 6, 2) := by decide +kernel
theorem dX5_spread_20 : decode cX5_spread 20 = .ok (.ifCond .eq 55, 3) := by decide +kernel
theorem dX5_spread_23 : decode cX5_spread 23 = .ok (.iload 5, 2) := by decide +kernel
theorem dX5_spread_25 : decode cX5_spread 25 = .ok (.iload 4, 2) := by decide +kernel
theorem dX5_spread_27 : decode cX5_spread 27 = .ok (.iand, 1) := by decide +kernel
theorem dX5_spread_28 : decode cX5_spread 28 = .ok (.ifCond .ne 47, 3) := by decide +kernel
theorem dX5_spread_31 : decode cX5_spread 31 = .ok (.aload_n 0, 1) := by decide +kernel
theorem dX5_spread_32 : decode cX5_spread 32 = .ok (.iload 6, 2) := by decide +kernel
theorem dX5_spread_34 : decode cX5_spread 34 = .ok (.invokestatic 48, 3) := by decide +kernel
theorem dX5_spread_37 : decode cX5_spread 37 = .ok (.iload_n 3, 1) := by decide +kernel
theorem dX5_spread_38 : decode cX5_spread 38 = .ok (.iload 5, 2) := by decide +kernel
theorem dX5_spread_40 : decode cX5_spread 40 = .ok (.iconst (-1), 1) := by decide +kernel
theorem dX5_spread_41 : decode cX5_spread 41 = .ok (.ixor, 1) := by decide +kernel
theorem dX5_spread_42 : decode cX5_spread 42 = .ok (.iand, 1) := by decide +kernel
theorem dX5_spread_43 : decode cX5_spread 43 = .ok (.invokevirtual 54, 3) := by decide +kernel
theorem dX5_spread_46 : decode cX5_spread 46 = .ok (.istore 8, 2) := by decide +kernel
theorem dX5_spread_48 : decode cX5_spread 48 = .ok (.iload 5, 2) := by decide +kernel
theorem dX5_spread_50 : decode cX5_spread 50 = .ok (.iload 8, 2) := by decide +kernel
theorem dX5_spread_52 : decode cX5_spread 52 = .ok (.ior, 1) := by decide +kernel
theorem dX5_spread_53 : decode cX5_spread 53 = .ok (.istore 5, 2) := by decide +kernel
theorem dX5_spread_55 : decode cX5_spread 55 = .ok (.iload 6, 2) := by decide +kernel
theorem dX5_spread_57 : decode cX5_spread 57 = .ok (.iload 6, 2) := by decide +kernel
theorem dX5_spread_59 : decode cX5_spread 59 = .ok (.iconst 1, 1) := by decide +kernel
theorem dX5_spread_60 : decode cX5_spread 60 = .ok (.isub, 1) := by decide +kernel
theorem dX5_spread_61 : decode cX5_spread 61 = .ok (.iand, 1) := by decide +kernel
theorem dX5_spread_62 : decode cX5_spread 62 = .ok (.iload 8, 2) := by decide +kernel
theorem dX5_spread_64 : decode cX5_spread 64 = .ok (.iload_n 2, 1) := by decide +kernel
theorem dX5_spread_65 : decode cX5_spread 65 = .ok (.iand, 1) := by decide +kernel
theorem dX5_spread_66 : decode cX5_spread 66 = .ok (.ior, 1) := by decide +kernel
theorem dX5_spread_67 : decode cX5_spread 67 = .ok (.istore 6, 2) := by decide +kernel
theorem dX5_spread_69 : decode cX5_spread 69 = .ok (.iinc 7 1, 3) := by decide +kernel
theorem dX5_spread_72 : decode cX5_spread 72 = .ok (.goto (-61), 3) := by decide +kernel
theorem dX5_spread_75 : decode cX5_spread 75 = .ok (.iload 5, 2) := by decide +kernel
theorem dX5_spread_77 : decode cX5_spread 77 = .ok (.ireturn, 1) := by decide +kernel
theorem dX5_stepped_0 : decode cX5_stepped 0 = .ok (.iload_n 1, 1) := by decide +kernel
theorem dX5_stepped_1 : decode cX5_stepped 1 = .ok (.ifCond .lt 14, 3) := by decide +kernel
theorem dX5_stepped_4 : decode cX5_stepped 4 = .ok (.iload_n 1, 1) := by decide +kernel
theorem dX5_stepped_5 : decode cX5_stepped 5 = .ok (.aload_n 0, 1) := by decide +kernel
theorem dX5_stepped_6 : decode cX5_stepped 6 = .ok (.getfield 28, 3) := by decide +kernel
theorem dX5_stepped_9 : decode cX5_stepped 9 = .ok (.getfield 41, 3) := by decide +kernel
theorem dX5_stepped_12 : decode cX5_stepped 12 = .ok (.if_icmp .lt 5, 3) := by decide +kernel
theorem dX5_stepped_15 : decode cX5_stepped 15 = .ok (.iconst 0, 1) := by decide +kernel
theorem dX5_stepped_16 : decode cX5_stepped 16 = .ok (.ireturn, 1) := by decide +kernel
theorem dX5_stepped_17 : decode cX5_stepped 17 = .ok (.iload_n 2, 1) := by decide +kernel
theorem dX5_stepped_18 : decode cX5_stepped 18 = .ok (.aload_n 0, 1) := by decide +kernel
theorem dX5_stepped_19 : decode cX5_stepped 19 = .ok (.getfield 21, 3) := by decide +kernel
theorem dX5_stepped_22 : decode cX5_stepped 22 = .ok (.iload_n 1, 1) := by decide +kernel
theorem dX5_stepped_23 : decode cX5_stepped 23 = .ok (.iaload, 1) := by decide +kernel
theorem dX5_stepped_24 : decode cX5_stepped 24 = .ok (.iconst (-1), 1) := by decide +kernel
theorem dX5_stepped_25 : decode cX5_stepped 25 = .ok (.ixor, 1) := by decide +kernel
theorem dX5_stepped_26 : decode cX5_stepped 26 = .ok (.iand, 1) := by decide +kernel
theorem dX5_stepped_27 : decode cX5_stepped 27 = .ok (.istore_n 3, 1) := by decide +kernel
theorem dX5_stepped_28 : decode cX5_stepped 28 = .ok (.iconst 0, 1) := by decide +kernel
theorem dX5_stepped_29 : decode cX5_stepped 29 = .ok (.istore 4, 2) := by decide +kernel
theorem dX5_stepped_31 : decode cX5_stepped 31 = .ok (.iload 4, 2) := by decide +kernel
theorem dX5_stepped_33 : decode cX5_stepped 33 = .ok (.aload_n 0, 1) := by decide +kernel
theorem dX5_stepped_34 : decode cX5_stepped 34 = .ok (.getfield 28, 3) := by decide +kernel
theorem dX5_stepped_37 : decode cX5_stepped 37 = .ok (.getfield 41, 3) := by decide +kernel
theorem dX5_stepped_40 : decode cX5_stepped 40 = .ok (.if_icmp .ge 60, 3) := by decide +kernel
theorem dX5_stepped_43 : decode cX5_stepped 43 = .ok (.iload_n 3, 1) := by decide +kernel
theorem dX5_stepped_44 : decode cX5_stepped 44 = .ok (.ifCond .eq 56, 3) := by decide +kernel
theorem dX5_stepped_47 : decode cX5_stepped 47 = .ok (.iload_n 3, 1) := by decide +kernel
theorem dX5_stepped_48 : decode cX5_stepped 48 = .ok (.iload 4, 2) := by decide +kernel
theorem dX5_stepped_50 : decode cX5_stepped 50 = .ok (.ishr, 1) := by decide +kernel
theorem dX5_stepped_51 : decode cX5_stepped 51 = .ok (.iconst 1, 1) := by decide +kernel
theorem dX5_stepped_52 : decode cX5_stepped 52 = .ok (.iand, 1) := by decide +kernel
theorem dX5_stepped_53 : decode cX5_stepped 53 = .ok (.ifCond .eq 41, 3) := by decide +kernel
theorem dX5_stepped_56 : decode cX5_stepped 56 = .ok (.aload_n 0, 1) := by decide +kernel
theorem dX5_stepped_57 : decode cX5_stepped 57 = .ok (.getfield 28, 3) := by decide +kernel
theorem dX5_stepped_60 : decode cX5_stepped 60 = .ok (.iload_n 1, 1) := by decide +kernel
theorem dX5_stepped_61 : decode cX5_stepped 61 = .ok (.iload 4, 2) := by decide +kernel
theorem dX5_stepped_63 : decode cX5_stepped 63 = .ok (.aload_n 0, 1) := by decide +kernel
theorem dX5_stepped_64 : decode cX5_stepped 64 = .ok (.getfield 9, 3) := by decide +kernel
theorem dX5_stepped_67 : decode cX5_stepped 67 = .ok (.aload_n 0, 1) := by decide +kernel
theorem dX5_stepped_68 : decode cX5_stepped 68 = .ok (.getfield 15, 3) := by decide +kernel
theorem dX5_stepped_71 : decode cX5_stepped 71 = .ok (.aload_n 0, 1) := by decide +kernel
theorem dX5_stepped_72 : decode cX5_stepped 72 = .ok (.getfield 18, 3) := by decide +kernel
theorem dX5_stepped_75 : decode cX5_stepped 75 = .ok (.invokevirtual 44, 3) := by decide +kernel
theorem dX5_stepped_78 : decode cX5_stepped 78 = .ok (.ifCond .eq 16, 3) := by decide +kernel
theorem dX5_stepped_81 : decode cX5_stepped 81 = .ok (.aload_n 0, 1) := by decide +kernel
theorem dX5_stepped_82 : decode cX5_stepped 82 = .ok (.getfield 25, 3) := by decide +kernel
theorem dX5_stepped_85 : decode cX5_stepped 85 = .ok (.iload_n 1, 1) := by decide +kernel
theorem dX5_stepped_86 : decode cX5_stepped 86 = .ok (.dup2, 1) := by decide +kernel
theorem dX5_stepped_87 : decode cX5_stepped 87 = .ok (.iaload, 1) := by decide +kernel
theorem dX5_stepped_88 : decode cX5_stepped 88 = .ok (.iconst 1, 1) := by decide +kernel
theorem dX5_stepped_89 : decode cX5_stepped 89 = .ok (.iload 4, 2) := by decide +kernel
theorem dX5_stepped_91 : decode cX5_stepped 91 = .ok (.ishl, 1) := by decide +kernel
theorem dX5_stepped_92 : decode cX5_stepped 92 = .ok (.ior, 1) := by decide +kernel
theorem dX5_stepped_93 : decode cX5_stepped 93 = .ok (.iastore, 1) := by decide +kernel
theorem dX5_stepped_94 : decode cX5_stepped 94 = .ok (.iinc 4 1, 3) := by decide +kernel
theorem dX5_stepped_97 : decode cX5_stepped 97 = .ok (.goto (-66), 3) := by decide +kernel
theorem dX5_stepped_100 : decode cX5_stepped 100 = .ok (.aload_n 0, 1) := by decide +kernel
theorem dX5_stepped_101 : decode cX5_stepped 101 = .ok (.getfield 21, 3) := by decide +kernel
theorem dX5_stepped_104 : decode cX5_stepped 104 = .ok (.iload_n 1, 1) := by decide +kernel
theorem dX5_stepped_105 : decode cX5_stepped 105 = .ok (.dup2, 1) := by decide +kernel
theorem dX5_stepped_106 : decode cX5_stepped 106 = .ok (.iaload, 1) := by decide +kernel
theorem dX5_stepped_107 : decode cX5_stepped 107 = .ok (.iload_n 3, 1) := by decide +kernel
theorem dX5_stepped_108 : decode cX5_stepped 108 = .ok (.ior, 1) := by decide +kernel
theorem dX5_stepped_109 : decode cX5_stepped 109 = .ok (.iastore, 1) := by decide +kernel
theorem dX5_stepped_110 : decode cX5_stepped 110 = .ok (.aload_n 0, 1) := by decide +kernel
theorem dX5_stepped_111 : decode cX5_stepped 111 = .ok (.getfield 25, 3) := by decide +kernel
theorem dX5_stepped_114 : decode cX5_stepped 114 = .ok (.iload_n 1, 1) := by decide +kernel
theorem dX5_stepped_115 : decode cX5_stepped 115 = .ok (.iaload, 1) := by decide +kernel
theorem dX5_stepped_116 : decode cX5_stepped 116 = .ok (.iload_n 2, 1) := by decide +kernel
theorem dX5_stepped_117 : decode cX5_stepped 117 = .ok (.iand, 1) := by decide +kernel
theorem dX5_stepped_118 : decode cX5_stepped 118 = .ok (.ireturn, 1) := by decide +kernel
theorem kw_5 : Cond.initialized "FootholdWall$Wall" ∈ gw := gw_of (tb_of 5 (by decide +kernel)) (by decide +kernel)
theorem kw_8 : Cond.initialized "FootholdWall$Rows" ∈ gw := gw_of (tb_of 8 (by decide +kernel)) (by decide +kernel)
theorem kw_107 : Cond.fieldLink "FootholdWall$Rows" 41 "FootholdWall$Wall" "holds" "I" ∈ gw := gw_of (tb_of 107 (by decide +kernel)) (by decide +kernel)
theorem kw_120 : Cond.fieldLink "FootholdWall$Rows" 58 "FootholdWall$Wall" "starts" "I" ∈ gw := gw_of (tb_of 120 (by decide +kernel)) (by decide +kernel)
theorem kw_127 : Cond.fieldLink "FootholdWall$Rows" 61 "FootholdWall$Wall" "tops" "I" ∈ gw := gw_of (tb_of 127 (by decide +kernel)) (by decide +kernel)
theorem kw_244 : Cond.fieldLink "FootholdWall$Rows" 28 "FootholdWall$Rows" "wall" "LFootholdWall$Wall;" ∈ gw := gw_of (tb_of 244 (by decide +kernel)) (by decide +kernel)
theorem kw_248 : Cond.fieldLink "FootholdWall$Rows" 9 "FootholdWall$Rows" "leg" "I" ∈ gw := gw_of (tb_of 248 (by decide +kernel)) (by decide +kernel)
theorem kw_249 : Cond.fieldLink "FootholdWall$Rows" 15 "FootholdWall$Rows" "weight" "I" ∈ gw := gw_of (tb_of 249 (by decide +kernel)) (by decide +kernel)
theorem kw_250 : Cond.fieldLink "FootholdWall$Rows" 18 "FootholdWall$Rows" "day" "I" ∈ gw := gw_of (tb_of 250 (by decide +kernel)) (by decide +kernel)
theorem kw_251 : Cond.fieldLink "FootholdWall$Rows" 21 "FootholdWall$Rows" "asked" "[I" ∈ gw := gw_of (tb_of 251 (by decide +kernel)) (by decide +kernel)
theorem kw_252 : Cond.fieldLink "FootholdWall$Rows" 25 "FootholdWall$Rows" "row" "[I" ∈ gw := gw_of (tb_of 252 (by decide +kernel)) (by decide +kernel)
theorem kw_808 : Cond.instanceMethod yX9_mayStep ∈ gw := gw_of (tb_of 808 (by decide +kernel)) (by decide +kernel)
theorem kw_809 : Cond.selects "FootholdWall$Wall" yX9_mayStep yX9_mayStep ∈ gw := gw_of (tb_of 809 (by decide +kernel)) (by decide +kernel)
theorem kw_810 : Cond.code yX9_mayStep cX9_mayStep 10 (some (.boolean)) ∈ gw := gw_of (tb_of 810 (by decide +kernel)) (by decide +kernel)
theorem kw_838 : Cond.methodLink "FootholdWall$Rows" 32 yX9_asksLeg ∈ gw := gw_of (tb_of 838 (by decide +kernel)) (by decide +kernel)
theorem kw_839 : Cond.instanceMethod yX9_asksLeg ∈ gw := gw_of (tb_of 839 (by decide +kernel)) (by decide +kernel)
theorem kw_840 : Cond.selects "FootholdWall$Wall" yX9_asksLeg yX9_asksLeg ∈ gw := gw_of (tb_of 840 (by decide +kernel)) (by decide +kernel)
theorem kw_841 : Cond.code yX9_asksLeg cX9_asksLeg 1 (some (.boolean)) ∈ gw := gw_of (tb_of 841 (by decide +kernel)) (by decide +kernel)
theorem kw_842 : Cond.methodLink "FootholdWall$Rows" 38 yX9_asksDay ∈ gw := gw_of (tb_of 842 (by decide +kernel)) (by decide +kernel)
theorem kw_843 : Cond.instanceMethod yX9_asksDay ∈ gw := gw_of (tb_of 843 (by decide +kernel)) (by decide +kernel)
theorem kw_844 : Cond.selects "FootholdWall$Wall" yX9_asksDay yX9_asksDay ∈ gw := gw_of (tb_of 844 (by decide +kernel)) (by decide +kernel)
theorem kw_845 : Cond.code yX9_asksDay cX9_asksDay 1 (some (.boolean)) ∈ gw := gw_of (tb_of 845 (by decide +kernel)) (by decide +kernel)
theorem kw_854 : Cond.methodLink "FootholdWall$Rows" 64 yX5_spread ∈ gw := gw_of (tb_of 854 (by decide +kernel)) (by decide +kernel)
theorem kw_855 : Cond.instanceMethod yX5_spread ∈ gw := gw_of (tb_of 855 (by decide +kernel)) (by decide +kernel)
theorem kw_856 : Cond.selects "FootholdWall$Rows" yX5_spread yX5_spread ∈ gw := gw_of (tb_of 856 (by decide +kernel)) (by decide +kernel)
theorem kw_857 : Cond.code yX5_spread cX5_spread 9 (some (.int)) ∈ gw := gw_of (tb_of 857 (by decide +kernel)) (by decide +kernel)
theorem kw_858 : Cond.methodLink "FootholdWall$Rows" 48 yJ6_numberOfTrailingZeros_0f7a4 ∈ gw := gw_of (tb_of 858 (by decide +kernel)) (by decide +kernel)
theorem kw_859 : Cond.static yJ6_numberOfTrailingZeros_0f7a4 ∈ gw := gw_of (tb_of 859 (by decide +kernel)) (by decide +kernel)
theorem kw_860 : Cond.code yJ6_numberOfTrailingZeros_0f7a4 cJ6_numberOfTrailingZeros_0f7a4 2 (some (.int)) ∈ gw := gw_of (tb_of 860 (by decide +kernel)) (by decide +kernel)
theorem kw_862 : Cond.methodLink "FootholdWall$Rows" 54 yX5_stepped ∈ gw := gw_of (tb_of 862 (by decide +kernel)) (by decide +kernel)
theorem kw_863 : Cond.instanceMethod yX5_stepped ∈ gw := gw_of (tb_of 863 (by decide +kernel)) (by decide +kernel)
theorem kw_864 : Cond.selects "FootholdWall$Rows" yX5_stepped yX5_stepped ∈ gw := gw_of (tb_of 864 (by decide +kernel)) (by decide +kernel)
theorem kw_865 : Cond.code yX5_stepped cX5_stepped 5 (some (.int)) ∈ gw := gw_of (tb_of 865 (by decide +kernel)) (by decide +kernel)
theorem kw_866 : Cond.methodLink "FootholdWall$Rows" 44 yX9_mayStep ∈ gw := gw_of (tb_of 866 (by decide +kernel)) (by decide +kernel)
