section
-- ===== PART A: goes FIRST, ahead of the names: the tables' words, and 'selects' of the private methods out of them =====
/-- a private method of a class that the tables say can be made, by its rows of tables_1 -/
def lw_okq (q : MethodName × Nat) : Prop := (q.1.cls ≠ "java/lang/invoke/MethodHandle" ∧ q.1.cls ≠ "java/lang/invoke/VarHandle") ∧ Cond.instantiable q.1.cls q.2 ∈ tables_1 ∧ Cond.privateMethod q.1 ∈ tables_1 ∧ Cond.instanceMethod q.1 ∈ tables_1
theorem lw_p0 : lw_okq (⟨"FootholdWall", "putOnTape", "(I)V"⟩, 20) := ⟨⟨by decide +kernel, by decide +kernel⟩, List.mem_of_getElem? (i := 25) (by decide +kernel), List.mem_of_getElem? (i := 426) (by decide +kernel), List.mem_of_getElem? (i := 427) (by decide +kernel)⟩
theorem lw_p1 : lw_okq (⟨"FootholdWall$Reader", "readLine", "()Z"⟩, 5) := ⟨⟨by decide +kernel, by decide +kernel⟩, List.mem_of_getElem? (i := 33) (by decide +kernel), List.mem_of_getElem? (i := 546) (by decide +kernel), List.mem_of_getElem? (i := 547) (by decide +kernel)⟩
theorem lw_p2 : lw_okq (⟨"FootholdWall$Reader", "readHold", "()Z"⟩, 5) := ⟨⟨by decide +kernel, by decide +kernel⟩, List.mem_of_getElem? (i := 33) (by decide +kernel), List.mem_of_getElem? (i := 576) (by decide +kernel), List.mem_of_getElem? (i := 577) (by decide +kernel)⟩
theorem lw_p3 : lw_okq (⟨"FootholdWall$Reader", "readFlag", "(I)Z"⟩, 5) := ⟨⟨by decide +kernel, by decide +kernel⟩, List.mem_of_getElem? (i := 33) (by decide +kernel), List.mem_of_getElem? (i := 590) (by decide +kernel), List.mem_of_getElem? (i := 591) (by decide +kernel)⟩
theorem lw_p4 : lw_okq (⟨"FootholdWall$Reader", "readGuide", "()Z"⟩, 5) := ⟨⟨by decide +kernel, by decide +kernel⟩, List.mem_of_getElem? (i := 33) (by decide +kernel), List.mem_of_getElem? (i := 599) (by decide +kernel), List.mem_of_getElem? (i := 600) (by decide +kernel)⟩
theorem lw_p5 : lw_okq (⟨"FootholdWall$LawReader", "readTruth", "(I)Z"⟩, 3) := ⟨⟨by decide +kernel, by decide +kernel⟩, List.mem_of_getElem? (i := 77) (by decide +kernel), List.mem_of_getElem? (i := 623) (by decide +kernel), List.mem_of_getElem? (i := 624) (by decide +kernel)⟩
theorem lw_p6 : lw_okq (⟨"FootholdWall$LawReader", "readBoth", "(I)Z"⟩, 3) := ⟨⟨by decide +kernel, by decide +kernel⟩, List.mem_of_getElem? (i := 77) (by decide +kernel), List.mem_of_getElem? (i := 627) (by decide +kernel), List.mem_of_getElem? (i := 628) (by decide +kernel)⟩
theorem lw_p7 : lw_okq (⟨"FootholdWall$LawReader", "readUnit", "(I)Z"⟩, 3) := ⟨⟨by decide +kernel, by decide +kernel⟩, List.mem_of_getElem? (i := 77) (by decide +kernel), List.mem_of_getElem? (i := 631) (by decide +kernel), List.mem_of_getElem? (i := 632) (by decide +kernel)⟩
theorem lw_p8 : lw_okq (⟨"FootholdWall$LawReader", "enter", "(I)Z"⟩, 3) := ⟨⟨by decide +kernel, by decide +kernel⟩, List.mem_of_getElem? (i := 77) (by decide +kernel), List.mem_of_getElem? (i := 637) (by decide +kernel), List.mem_of_getElem? (i := 638) (by decide +kernel)⟩
theorem lw_p9 : lw_okq (⟨"FootholdWall$LawReader", "put", "(II)V"⟩, 3) := ⟨⟨by decide +kernel, by decide +kernel⟩, List.mem_of_getElem? (i := 77) (by decide +kernel), List.mem_of_getElem? (i := 643) (by decide +kernel), List.mem_of_getElem? (i := 644) (by decide +kernel)⟩
theorem lw_p10 : lw_okq (⟨"FootholdWall$LawReader", "readSum", "(I)Z"⟩, 3) := ⟨⟨by decide +kernel, by decide +kernel⟩, List.mem_of_getElem? (i := 77) (by decide +kernel), List.mem_of_getElem? (i := 649) (by decide +kernel), List.mem_of_getElem? (i := 650) (by decide +kernel)⟩
theorem lw_p11 : lw_okq (⟨"FootholdWall$LawReader", "readTerm", "(I)Z"⟩, 3) := ⟨⟨by decide +kernel, by decide +kernel⟩, List.mem_of_getElem? (i := 77) (by decide +kernel), List.mem_of_getElem? (i := 653) (by decide +kernel), List.mem_of_getElem? (i := 654) (by decide +kernel)⟩
theorem lw_p12 : lw_okq (⟨"FootholdWall$LawReader", "readAtom", "(I)Z"⟩, 3) := ⟨⟨by decide +kernel, by decide +kernel⟩, List.mem_of_getElem? (i := 77) (by decide +kernel), List.mem_of_getElem? (i := 657) (by decide +kernel), List.mem_of_getElem? (i := 658) (by decide +kernel)⟩
theorem lw_p13 : lw_okq (⟨"FootholdWall$LawReader", "factHere", "()I"⟩, 3) := ⟨⟨by decide +kernel, by decide +kernel⟩, List.mem_of_getElem? (i := 77) (by decide +kernel), List.mem_of_getElem? (i := 661) (by decide +kernel), List.mem_of_getElem? (i := 662) (by decide +kernel)⟩
theorem lw_p14 : lw_okq (⟨"FootholdWall$LawReader", "aimSkip", "(I)V"⟩, 3) := ⟨⟨by decide +kernel, by decide +kernel⟩, List.mem_of_getElem? (i := 77) (by decide +kernel), List.mem_of_getElem? (i := 673) (by decide +kernel), List.mem_of_getElem? (i := 674) (by decide +kernel)⟩
theorem lw_p15 : lw_okq (⟨"FootholdWall$Reader", "readUsed", "()Z"⟩, 5) := ⟨⟨by decide +kernel, by decide +kernel⟩, List.mem_of_getElem? (i := 33) (by decide +kernel), List.mem_of_getElem? (i := 679) (by decide +kernel), List.mem_of_getElem? (i := 680) (by decide +kernel)⟩
def lw_privs_1 : List (MethodName × Nat) := [(⟨"FootholdWall", "putOnTape", "(I)V"⟩, 20), (⟨"FootholdWall$Reader", "readLine", "()Z"⟩, 5), (⟨"FootholdWall$Reader", "readHold", "()Z"⟩, 5), (⟨"FootholdWall$Reader", "readFlag", "(I)Z"⟩, 5), (⟨"FootholdWall$Reader", "readGuide", "()Z"⟩, 5), (⟨"FootholdWall$LawReader", "readTruth", "(I)Z"⟩, 3), (⟨"FootholdWall$LawReader", "readBoth", "(I)Z"⟩, 3), (⟨"FootholdWall$LawReader", "readUnit", "(I)Z"⟩, 3), (⟨"FootholdWall$LawReader", "enter", "(I)Z"⟩, 3), (⟨"FootholdWall$LawReader", "put", "(II)V"⟩, 3), (⟨"FootholdWall$LawReader", "readSum", "(I)Z"⟩, 3), (⟨"FootholdWall$LawReader", "readTerm", "(I)Z"⟩, 3), (⟨"FootholdWall$LawReader", "readAtom", "(I)Z"⟩, 3), (⟨"FootholdWall$LawReader", "factHere", "()I"⟩, 3), (⟨"FootholdWall$LawReader", "aimSkip", "(I)V"⟩, 3), (⟨"FootholdWall$Reader", "readUsed", "()Z"⟩, 5)]
theorem lw_r1 : ∀ q ∈ lw_privs_1, lw_okq q := List.forall_mem_cons.mpr ⟨lw_p0, List.forall_mem_cons.mpr ⟨lw_p1, List.forall_mem_cons.mpr ⟨lw_p2, List.forall_mem_cons.mpr ⟨lw_p3, List.forall_mem_cons.mpr ⟨lw_p4, List.forall_mem_cons.mpr ⟨lw_p5, List.forall_mem_cons.mpr ⟨lw_p6, List.forall_mem_cons.mpr ⟨lw_p7, List.forall_mem_cons.mpr ⟨lw_p8, List.forall_mem_cons.mpr ⟨lw_p9, List.forall_mem_cons.mpr ⟨lw_p10, List.forall_mem_cons.mpr ⟨lw_p11, List.forall_mem_cons.mpr ⟨lw_p12, List.forall_mem_cons.mpr ⟨lw_p13, List.forall_mem_cons.mpr ⟨lw_p14, List.forall_mem_cons.mpr ⟨lw_p15, fun _ h => absurd h List.not_mem_nil⟩⟩⟩⟩⟩⟩⟩⟩⟩⟩⟩⟩⟩⟩⟩⟩
theorem lw_p16 : lw_okq (⟨"FootholdWall$Reader", "readBroken", "()Z"⟩, 5) := ⟨⟨by decide +kernel, by decide +kernel⟩, List.mem_of_getElem? (i := 33) (by decide +kernel), List.mem_of_getElem? (i := 699) (by decide +kernel), List.mem_of_getElem? (i := 700) (by decide +kernel)⟩
theorem lw_p17 : lw_okq (⟨"FootholdWall", "isHold", "(I)Z"⟩, 20) := ⟨⟨by decide +kernel, by decide +kernel⟩, List.mem_of_getElem? (i := 25) (by decide +kernel), List.mem_of_getElem? (i := 771) (by decide +kernel), List.mem_of_getElem? (i := 772) (by decide +kernel)⟩
theorem lw_p18 : lw_okq (⟨"FootholdWall", "thereOn", "(I)I"⟩, 20) := ⟨⟨by decide +kernel, by decide +kernel⟩, List.mem_of_getElem? (i := 25) (by decide +kernel), List.mem_of_getElem? (i := 775) (by decide +kernel), List.mem_of_getElem? (i := 776) (by decide +kernel)⟩
theorem lw_p19 : lw_okq (⟨"FootholdWall", "openOn", "(I)I"⟩, 20) := ⟨⟨by decide +kernel, by decide +kernel⟩, List.mem_of_getElem? (i := 25) (by decide +kernel), List.mem_of_getElem? (i := 783) (by decide +kernel), List.mem_of_getElem? (i := 784) (by decide +kernel)⟩
theorem lw_p20 : lw_okq (⟨"FootholdWall", "isGuide", "(I)Z"⟩, 20) := ⟨⟨by decide +kernel, by decide +kernel⟩, List.mem_of_getElem? (i := 25) (by decide +kernel), List.mem_of_getElem? (i := 795) (by decide +kernel), List.mem_of_getElem? (i := 796) (by decide +kernel)⟩
theorem lw_p21 : lw_okq (⟨"FootholdWall", "rowsOf", "(I)LFootholdWall$Rows;"⟩, 20) := ⟨⟨by decide +kernel, by decide +kernel⟩, List.mem_of_getElem? (i := 25) (by decide +kernel), List.mem_of_getElem? (i := 831) (by decide +kernel), List.mem_of_getElem? (i := 832) (by decide +kernel)⟩
theorem lw_p22 : lw_okq (⟨"FootholdWall", "openNow", "()I"⟩, 20) := ⟨⟨by decide +kernel, by decide +kernel⟩, List.mem_of_getElem? (i := 25) (by decide +kernel), List.mem_of_getElem? (i := 847) (by decide +kernel), List.mem_of_getElem? (i := 848) (by decide +kernel)⟩
theorem lw_p23 : lw_okq (⟨"FootholdWall", "verdictOn", "(LFootholdWall$Tray;)I"⟩, 20) := ⟨⟨by decide +kernel, by decide +kernel⟩, List.mem_of_getElem? (i := 25) (by decide +kernel), List.mem_of_getElem? (i := 879) (by decide +kernel), List.mem_of_getElem? (i := 880) (by decide +kernel)⟩
theorem lw_p24 : lw_okq (⟨"FootholdWall", "toldSet", "(LFootholdWall$Tray;)I"⟩, 20) := ⟨⟨by decide +kernel, by decide +kernel⟩, List.mem_of_getElem? (i := 25) (by decide +kernel), List.mem_of_getElem? (i := 889) (by decide +kernel), List.mem_of_getElem? (i := 890) (by decide +kernel)⟩
theorem lw_p25 : lw_okq (⟨"FootholdWall", "remember", "()V"⟩, 20) := ⟨⟨by decide +kernel, by decide +kernel⟩, List.mem_of_getElem? (i := 25) (by decide +kernel), List.mem_of_getElem? (i := 900) (by decide +kernel), List.mem_of_getElem? (i := 901) (by decide +kernel)⟩
theorem lw_p26 : lw_okq (⟨"FootholdWall", "goUp", "(I)I"⟩, 20) := ⟨⟨by decide +kernel, by decide +kernel⟩, List.mem_of_getElem? (i := 25) (by decide +kernel), List.mem_of_getElem? (i := 909) (by decide +kernel), List.mem_of_getElem? (i := 910) (by decide +kernel)⟩
theorem lw_p27 : lw_okq (⟨"FootholdWall$Ways", "findLayers", "(LFootholdWall$Rows;I)I"⟩, 7) := ⟨⟨by decide +kernel, by decide +kernel⟩, List.mem_of_getElem? (i := 267) (by decide +kernel), List.mem_of_getElem? (i := 917) (by decide +kernel), List.mem_of_getElem? (i := 918) (by decide +kernel)⟩
theorem lw_p28 : lw_okq (⟨"FootholdWall$Ways", "keepLeading", "(LFootholdWall$Rows;I)V"⟩, 7) := ⟨⟨by decide +kernel, by decide +kernel⟩, List.mem_of_getElem? (i := 267) (by decide +kernel), List.mem_of_getElem? (i := 922) (by decide +kernel), List.mem_of_getElem? (i := 923) (by decide +kernel)⟩
theorem lw_p29 : lw_okq (⟨"FootholdWall$Ways", "numberFromAll", "(I)J"⟩, 7) := ⟨⟨by decide +kernel, by decide +kernel⟩, List.mem_of_getElem? (i := 267) (by decide +kernel), List.mem_of_getElem? (i := 985) (by decide +kernel), List.mem_of_getElem? (i := 986) (by decide +kernel)⟩
theorem lw_p30 : lw_okq (⟨"FootholdWall$Ways", "climbsOn", "(LFootholdWall$Rows;III)J"⟩, 7) := ⟨⟨by decide +kernel, by decide +kernel⟩, List.mem_of_getElem? (i := 267) (by decide +kernel), List.mem_of_getElem? (i := 1003) (by decide +kernel), List.mem_of_getElem? (i := 1004) (by decide +kernel)⟩
theorem lw_p31 : lw_okq (⟨"FootholdWall$Ways", "endingFrom", "(I)I"⟩, 7) := ⟨⟨by decide +kernel, by decide +kernel⟩, List.mem_of_getElem? (i := 267) (by decide +kernel), List.mem_of_getElem? (i := 1007) (by decide +kernel), List.mem_of_getElem? (i := 1008) (by decide +kernel)⟩
def lw_privs_2 : List (MethodName × Nat) := [(⟨"FootholdWall$Reader", "readBroken", "()Z"⟩, 5), (⟨"FootholdWall", "isHold", "(I)Z"⟩, 20), (⟨"FootholdWall", "thereOn", "(I)I"⟩, 20), (⟨"FootholdWall", "openOn", "(I)I"⟩, 20), (⟨"FootholdWall", "isGuide", "(I)Z"⟩, 20), (⟨"FootholdWall", "rowsOf", "(I)LFootholdWall$Rows;"⟩, 20), (⟨"FootholdWall", "openNow", "()I"⟩, 20), (⟨"FootholdWall", "verdictOn", "(LFootholdWall$Tray;)I"⟩, 20), (⟨"FootholdWall", "toldSet", "(LFootholdWall$Tray;)I"⟩, 20), (⟨"FootholdWall", "remember", "()V"⟩, 20), (⟨"FootholdWall", "goUp", "(I)I"⟩, 20), (⟨"FootholdWall$Ways", "findLayers", "(LFootholdWall$Rows;I)I"⟩, 7), (⟨"FootholdWall$Ways", "keepLeading", "(LFootholdWall$Rows;I)V"⟩, 7), (⟨"FootholdWall$Ways", "numberFromAll", "(I)J"⟩, 7), (⟨"FootholdWall$Ways", "climbsOn", "(LFootholdWall$Rows;III)J"⟩, 7), (⟨"FootholdWall$Ways", "endingFrom", "(I)I"⟩, 7)]
theorem lw_r2 : ∀ q ∈ lw_privs_2, lw_okq q := List.forall_mem_cons.mpr ⟨lw_p16, List.forall_mem_cons.mpr ⟨lw_p17, List.forall_mem_cons.mpr ⟨lw_p18, List.forall_mem_cons.mpr ⟨lw_p19, List.forall_mem_cons.mpr ⟨lw_p20, List.forall_mem_cons.mpr ⟨lw_p21, List.forall_mem_cons.mpr ⟨lw_p22, List.forall_mem_cons.mpr ⟨lw_p23, List.forall_mem_cons.mpr ⟨lw_p24, List.forall_mem_cons.mpr ⟨lw_p25, List.forall_mem_cons.mpr ⟨lw_p26, List.forall_mem_cons.mpr ⟨lw_p27, List.forall_mem_cons.mpr ⟨lw_p28, List.forall_mem_cons.mpr ⟨lw_p29, List.forall_mem_cons.mpr ⟨lw_p30, List.forall_mem_cons.mpr ⟨lw_p31, fun _ h => absurd h List.not_mem_nil⟩⟩⟩⟩⟩⟩⟩⟩⟩⟩⟩⟩⟩⟩⟩⟩
theorem lw_p32 : lw_okq (⟨"FootholdWall$Cut", "layOneMore", "(II)Z"⟩, 7) := ⟨⟨by decide +kernel, by decide +kernel⟩, List.mem_of_getElem? (i := 297) (by decide +kernel), List.mem_of_getElem? (i := 1021) (by decide +kernel), List.mem_of_getElem? (i := 1022) (by decide +kernel)⟩
theorem lw_p33 : lw_okq (⟨"FootholdWall$Cut", "visit", "(II)V"⟩, 7) := ⟨⟨by decide +kernel, by decide +kernel⟩, List.mem_of_getElem? (i := 297) (by decide +kernel), List.mem_of_getElem? (i := 1025) (by decide +kernel), List.mem_of_getElem? (i := 1026) (by decide +kernel)⟩
theorem lw_p34 : lw_okq (⟨"FootholdWall$Cut", "visitBeyond", "(II)V"⟩, 7) := ⟨⟨by decide +kernel, by decide +kernel⟩, List.mem_of_getElem? (i := 297) (by decide +kernel), List.mem_of_getElem? (i := 1029) (by decide +kernel), List.mem_of_getElem? (i := 1030) (by decide +kernel)⟩
theorem lw_p35 : lw_okq (⟨"FootholdWall$Cut", "lay", "(I)V"⟩, 7) := ⟨⟨by decide +kernel, by decide +kernel⟩, List.mem_of_getElem? (i := 297) (by decide +kernel), List.mem_of_getElem? (i := 1033) (by decide +kernel), List.mem_of_getElem? (i := 1034) (by decide +kernel)⟩
theorem lw_p36 : lw_okq (⟨"FootholdWall$Cut", "visitNear", "(II)V"⟩, 7) := ⟨⟨by decide +kernel, by decide +kernel⟩, List.mem_of_getElem? (i := 297) (by decide +kernel), List.mem_of_getElem? (i := 1037) (by decide +kernel), List.mem_of_getElem? (i := 1038) (by decide +kernel)⟩
theorem lw_p37 : lw_okq (⟨"FootholdWall", "needs", "(II)Z"⟩, 20) := ⟨⟨by decide +kernel, by decide +kernel⟩, List.mem_of_getElem? (i := 25) (by decide +kernel), List.mem_of_getElem? (i := 1056) (by decide +kernel), List.mem_of_getElem? (i := 1057) (by decide +kernel)⟩
theorem lw_p38 : lw_okq (⟨"FootholdWall$Chains", "prepare", "(LFootholdWall$Rows;II)V"⟩, 4) := ⟨⟨by decide +kernel, by decide +kernel⟩, List.mem_of_getElem? (i := 325) (by decide +kernel), List.mem_of_getElem? (i := 1077) (by decide +kernel), List.mem_of_getElem? (i := 1078) (by decide +kernel)⟩
theorem lw_p39 : lw_okq (⟨"FootholdWall$Chains", "growFrom", "(I)V"⟩, 4) := ⟨⟨by decide +kernel, by decide +kernel⟩, List.mem_of_getElem? (i := 325) (by decide +kernel), List.mem_of_getElem? (i := 1090) (by decide +kernel), List.mem_of_getElem? (i := 1091) (by decide +kernel)⟩
theorem lw_p40 : lw_okq (⟨"FootholdWall$Chains", "begunOver", "(III)I"⟩, 4) := ⟨⟨by decide +kernel, by decide +kernel⟩, List.mem_of_getElem? (i := 325) (by decide +kernel), List.mem_of_getElem? (i := 1142) (by decide +kernel), List.mem_of_getElem? (i := 1143) (by decide +kernel)⟩
theorem lw_p41 : lw_okq (⟨"FootholdWall$Ways", "leastFromAny", "(I)I"⟩, 7) := ⟨⟨by decide +kernel, by decide +kernel⟩, List.mem_of_getElem? (i := 267) (by decide +kernel), List.mem_of_getElem? (i := 1156) (by decide +kernel), List.mem_of_getElem? (i := 1157) (by decide +kernel)⟩
theorem lw_p42 : lw_okq (⟨"FootholdWall", "takeTurns", "(IIII)V"⟩, 20) := ⟨⟨by decide +kernel, by decide +kernel⟩, List.mem_of_getElem? (i := 25) (by decide +kernel), List.mem_of_getElem? (i := 1169) (by decide +kernel), List.mem_of_getElem? (i := 1170) (by decide +kernel)⟩
theorem lw_p43 : lw_okq (⟨"FootholdWallModel", "next", "()V"⟩, 36) := ⟨⟨by decide +kernel, by decide +kernel⟩, List.mem_of_getElem? (i := 1214) (by decide +kernel), List.mem_of_getElem? (i := 1345) (by decide +kernel), List.mem_of_getElem? (i := 1346) (by decide +kernel)⟩
theorem lw_p44 : lw_okq (⟨"FootholdWallModel", "see", "(I)I"⟩, 36) := ⟨⟨by decide +kernel, by decide +kernel⟩, List.mem_of_getElem? (i := 1214) (by decide +kernel), List.mem_of_getElem? (i := 1349) (by decide +kernel), List.mem_of_getElem? (i := 1350) (by decide +kernel)⟩
theorem lw_p45 : lw_okq (⟨"FootholdWallModel", "keyAt", "()I"⟩, 36) := ⟨⟨by decide +kernel, by decide +kernel⟩, List.mem_of_getElem? (i := 1214) (by decide +kernel), List.mem_of_getElem? (i := 1356) (by decide +kernel), List.mem_of_getElem? (i := 1357) (by decide +kernel)⟩
theorem lw_p46 : lw_okq (⟨"FootholdWallModel", "readLine", "()V"⟩, 36) := ⟨⟨by decide +kernel, by decide +kernel⟩, List.mem_of_getElem? (i := 1214) (by decide +kernel), List.mem_of_getElem? (i := 1367) (by decide +kernel), List.mem_of_getElem? (i := 1368) (by decide +kernel)⟩
theorem lw_p47 : lw_okq (⟨"FootholdWallModel", "is", "(I)Z"⟩, 36) := ⟨⟨by decide +kernel, by decide +kernel⟩, List.mem_of_getElem? (i := 1214) (by decide +kernel), List.mem_of_getElem? (i := 1371) (by decide +kernel), List.mem_of_getElem? (i := 1372) (by decide +kernel)⟩
def lw_privs_3 : List (MethodName × Nat) := [(⟨"FootholdWall$Cut", "layOneMore", "(II)Z"⟩, 7), (⟨"FootholdWall$Cut", "visit", "(II)V"⟩, 7), (⟨"FootholdWall$Cut", "visitBeyond", "(II)V"⟩, 7), (⟨"FootholdWall$Cut", "lay", "(I)V"⟩, 7), (⟨"FootholdWall$Cut", "visitNear", "(II)V"⟩, 7), (⟨"FootholdWall", "needs", "(II)Z"⟩, 20), (⟨"FootholdWall$Chains", "prepare", "(LFootholdWall$Rows;II)V"⟩, 4), (⟨"FootholdWall$Chains", "growFrom", "(I)V"⟩, 4), (⟨"FootholdWall$Chains", "begunOver", "(III)I"⟩, 4), (⟨"FootholdWall$Ways", "leastFromAny", "(I)I"⟩, 7), (⟨"FootholdWall", "takeTurns", "(IIII)V"⟩, 20), (⟨"FootholdWallModel", "next", "()V"⟩, 36), (⟨"FootholdWallModel", "see", "(I)I"⟩, 36), (⟨"FootholdWallModel", "keyAt", "()I"⟩, 36), (⟨"FootholdWallModel", "readLine", "()V"⟩, 36), (⟨"FootholdWallModel", "is", "(I)Z"⟩, 36)]
theorem lw_r3 : ∀ q ∈ lw_privs_3, lw_okq q := List.forall_mem_cons.mpr ⟨lw_p32, List.forall_mem_cons.mpr ⟨lw_p33, List.forall_mem_cons.mpr ⟨lw_p34, List.forall_mem_cons.mpr ⟨lw_p35, List.forall_mem_cons.mpr ⟨lw_p36, List.forall_mem_cons.mpr ⟨lw_p37, List.forall_mem_cons.mpr ⟨lw_p38, List.forall_mem_cons.mpr ⟨lw_p39, List.forall_mem_cons.mpr ⟨lw_p40, List.forall_mem_cons.mpr ⟨lw_p41, List.forall_mem_cons.mpr ⟨lw_p42, List.forall_mem_cons.mpr ⟨lw_p43, List.forall_mem_cons.mpr ⟨lw_p44, List.forall_mem_cons.mpr ⟨lw_p45, List.forall_mem_cons.mpr ⟨lw_p46, List.forall_mem_cons.mpr ⟨lw_p47, fun _ h => absurd h List.not_mem_nil⟩⟩⟩⟩⟩⟩⟩⟩⟩⟩⟩⟩⟩⟩⟩⟩
theorem lw_p48 : lw_okq (⟨"FootholdWallModel", "readHold", "()V"⟩, 36) := ⟨⟨by decide +kernel, by decide +kernel⟩, List.mem_of_getElem? (i := 1214) (by decide +kernel), List.mem_of_getElem? (i := 1375) (by decide +kernel), List.mem_of_getElem? (i := 1376) (by decide +kernel)⟩
theorem lw_p49 : lw_okq (⟨"FootholdWallModel", "fails", "(I)V"⟩, 36) := ⟨⟨by decide +kernel, by decide +kernel⟩, List.mem_of_getElem? (i := 1214) (by decide +kernel), List.mem_of_getElem? (i := 1379) (by decide +kernel), List.mem_of_getElem? (i := 1380) (by decide +kernel)⟩
theorem lw_p50 : lw_okq (⟨"FootholdWallModel", "takes", "(II)I"⟩, 36) := ⟨⟨by decide +kernel, by decide +kernel⟩, List.mem_of_getElem? (i := 1214) (by decide +kernel), List.mem_of_getElem? (i := 1383) (by decide +kernel), List.mem_of_getElem? (i := 1384) (by decide +kernel)⟩
theorem lw_p51 : lw_okq (⟨"FootholdWallModel", "readFlag", "(I)Z"⟩, 36) := ⟨⟨by decide +kernel, by decide +kernel⟩, List.mem_of_getElem? (i := 1214) (by decide +kernel), List.mem_of_getElem? (i := 1387) (by decide +kernel), List.mem_of_getElem? (i := 1388) (by decide +kernel)⟩
theorem lw_p52 : lw_okq (⟨"FootholdWallModel", "eats", "(I)Z"⟩, 36) := ⟨⟨by decide +kernel, by decide +kernel⟩, List.mem_of_getElem? (i := 1214) (by decide +kernel), List.mem_of_getElem? (i := 1391) (by decide +kernel), List.mem_of_getElem? (i := 1392) (by decide +kernel)⟩
theorem lw_p53 : lw_okq (⟨"FootholdWallModel", "readGuide", "()V"⟩, 36) := ⟨⟨by decide +kernel, by decide +kernel⟩, List.mem_of_getElem? (i := 1214) (by decide +kernel), List.mem_of_getElem? (i := 1395) (by decide +kernel), List.mem_of_getElem? (i := 1396) (by decide +kernel)⟩
theorem lw_p54 : lw_okq (⟨"FootholdWallModel", "readStep", "()V"⟩, 36) := ⟨⟨by decide +kernel, by decide +kernel⟩, List.mem_of_getElem? (i := 1214) (by decide +kernel), List.mem_of_getElem? (i := 1399) (by decide +kernel), List.mem_of_getElem? (i := 1400) (by decide +kernel)⟩
theorem lw_p55 : lw_okq (⟨"FootholdWallModel", "readTruth", "(I)V"⟩, 36) := ⟨⟨by decide +kernel, by decide +kernel⟩, List.mem_of_getElem? (i := 1214) (by decide +kernel), List.mem_of_getElem? (i := 1403) (by decide +kernel), List.mem_of_getElem? (i := 1404) (by decide +kernel)⟩
theorem lw_p56 : lw_okq (⟨"FootholdWallModel", "readBoth", "(I)V"⟩, 36) := ⟨⟨by decide +kernel, by decide +kernel⟩, List.mem_of_getElem? (i := 1214) (by decide +kernel), List.mem_of_getElem? (i := 1407) (by decide +kernel), List.mem_of_getElem? (i := 1408) (by decide +kernel)⟩
theorem lw_p57 : lw_okq (⟨"FootholdWallModel", "readUnit", "(I)V"⟩, 36) := ⟨⟨by decide +kernel, by decide +kernel⟩, List.mem_of_getElem? (i := 1214) (by decide +kernel), List.mem_of_getElem? (i := 1411) (by decide +kernel), List.mem_of_getElem? (i := 1412) (by decide +kernel)⟩
theorem lw_p58 : lw_okq (⟨"FootholdWallModel", "goesIn", "(I)Z"⟩, 36) := ⟨⟨by decide +kernel, by decide +kernel⟩, List.mem_of_getElem? (i := 1214) (by decide +kernel), List.mem_of_getElem? (i := 1415) (by decide +kernel), List.mem_of_getElem? (i := 1416) (by decide +kernel)⟩
theorem lw_p59 : lw_okq (⟨"FootholdWallModel", "codes", "(I)V"⟩, 36) := ⟨⟨by decide +kernel, by decide +kernel⟩, List.mem_of_getElem? (i := 1214) (by decide +kernel), List.mem_of_getElem? (i := 1419) (by decide +kernel), List.mem_of_getElem? (i := 1420) (by decide +kernel)⟩
theorem lw_p60 : lw_okq (⟨"FootholdWallModel", "readSum", "(I)V"⟩, 36) := ⟨⟨by decide +kernel, by decide +kernel⟩, List.mem_of_getElem? (i := 1214) (by decide +kernel), List.mem_of_getElem? (i := 1423) (by decide +kernel), List.mem_of_getElem? (i := 1424) (by decide +kernel)⟩
theorem lw_p61 : lw_okq (⟨"FootholdWallModel", "readTerm", "(I)V"⟩, 36) := ⟨⟨by decide +kernel, by decide +kernel⟩, List.mem_of_getElem? (i := 1214) (by decide +kernel), List.mem_of_getElem? (i := 1427) (by decide +kernel), List.mem_of_getElem? (i := 1428) (by decide +kernel)⟩
theorem lw_p62 : lw_okq (⟨"FootholdWallModel", "readAtom", "(I)V"⟩, 36) := ⟨⟨by decide +kernel, by decide +kernel⟩, List.mem_of_getElem? (i := 1214) (by decide +kernel), List.mem_of_getElem? (i := 1431) (by decide +kernel), List.mem_of_getElem? (i := 1432) (by decide +kernel)⟩
theorem lw_p63 : lw_okq (⟨"FootholdWallModel", "readUsed", "()V"⟩, 36) := ⟨⟨by decide +kernel, by decide +kernel⟩, List.mem_of_getElem? (i := 1214) (by decide +kernel), List.mem_of_getElem? (i := 1437) (by decide +kernel), List.mem_of_getElem? (i := 1438) (by decide +kernel)⟩
def lw_privs_4 : List (MethodName × Nat) := [(⟨"FootholdWallModel", "readHold", "()V"⟩, 36), (⟨"FootholdWallModel", "fails", "(I)V"⟩, 36), (⟨"FootholdWallModel", "takes", "(II)I"⟩, 36), (⟨"FootholdWallModel", "readFlag", "(I)Z"⟩, 36), (⟨"FootholdWallModel", "eats", "(I)Z"⟩, 36), (⟨"FootholdWallModel", "readGuide", "()V"⟩, 36), (⟨"FootholdWallModel", "readStep", "()V"⟩, 36), (⟨"FootholdWallModel", "readTruth", "(I)V"⟩, 36), (⟨"FootholdWallModel", "readBoth", "(I)V"⟩, 36), (⟨"FootholdWallModel", "readUnit", "(I)V"⟩, 36), (⟨"FootholdWallModel", "goesIn", "(I)Z"⟩, 36), (⟨"FootholdWallModel", "codes", "(I)V"⟩, 36), (⟨"FootholdWallModel", "readSum", "(I)V"⟩, 36), (⟨"FootholdWallModel", "readTerm", "(I)V"⟩, 36), (⟨"FootholdWallModel", "readAtom", "(I)V"⟩, 36), (⟨"FootholdWallModel", "readUsed", "()V"⟩, 36)]
theorem lw_r4 : ∀ q ∈ lw_privs_4, lw_okq q := List.forall_mem_cons.mpr ⟨lw_p48, List.forall_mem_cons.mpr ⟨lw_p49, List.forall_mem_cons.mpr ⟨lw_p50, List.forall_mem_cons.mpr ⟨lw_p51, List.forall_mem_cons.mpr ⟨lw_p52, List.forall_mem_cons.mpr ⟨lw_p53, List.forall_mem_cons.mpr ⟨lw_p54, List.forall_mem_cons.mpr ⟨lw_p55, List.forall_mem_cons.mpr ⟨lw_p56, List.forall_mem_cons.mpr ⟨lw_p57, List.forall_mem_cons.mpr ⟨lw_p58, List.forall_mem_cons.mpr ⟨lw_p59, List.forall_mem_cons.mpr ⟨lw_p60, List.forall_mem_cons.mpr ⟨lw_p61, List.forall_mem_cons.mpr ⟨lw_p62, List.forall_mem_cons.mpr ⟨lw_p63, fun _ h => absurd h List.not_mem_nil⟩⟩⟩⟩⟩⟩⟩⟩⟩⟩⟩⟩⟩⟩⟩⟩
theorem lw_p64 : lw_okq (⟨"FootholdWallModel", "isHold", "(J)Z"⟩, 36) := ⟨⟨by decide +kernel, by decide +kernel⟩, List.mem_of_getElem? (i := 1214) (by decide +kernel), List.mem_of_getElem? (i := 1455) (by decide +kernel), List.mem_of_getElem? (i := 1456) (by decide +kernel)⟩
theorem lw_p65 : lw_okq (⟨"FootholdWallModel", "isThere", "(I)Z"⟩, 36) := ⟨⟨by decide +kernel, by decide +kernel⟩, List.mem_of_getElem? (i := 1214) (by decide +kernel), List.mem_of_getElem? (i := 1459) (by decide +kernel), List.mem_of_getElem? (i := 1460) (by decide +kernel)⟩
theorem lw_p66 : lw_okq (⟨"FootholdWallModel", "isOpen", "(I)Z"⟩, 36) := ⟨⟨by decide +kernel, by decide +kernel⟩, List.mem_of_getElem? (i := 1214) (by decide +kernel), List.mem_of_getElem? (i := 1463) (by decide +kernel), List.mem_of_getElem? (i := 1464) (by decide +kernel)⟩
theorem lw_p67 : lw_okq (⟨"FootholdWallModel", "isGuide", "(J)Z"⟩, 36) := ⟨⟨by decide +kernel, by decide +kernel⟩, List.mem_of_getElem? (i := 1214) (by decide +kernel), List.mem_of_getElem? (i := 1471) (by decide +kernel), List.mem_of_getElem? (i := 1472) (by decide +kernel)⟩
theorem lw_p68 : lw_okq (⟨"FootholdWallModel", "usedBy", "(I)I"⟩, 36) := ⟨⟨by decide +kernel, by decide +kernel⟩, List.mem_of_getElem? (i := 1214) (by decide +kernel), List.mem_of_getElem? (i := 1475) (by decide +kernel), List.mem_of_getElem? (i := 1476) (by decide +kernel)⟩
theorem lw_p69 : lw_okq (⟨"FootholdWallModel", "mayStep", "(III)Z"⟩, 36) := ⟨⟨by decide +kernel, by decide +kernel⟩, List.mem_of_getElem? (i := 1214) (by decide +kernel), List.mem_of_getElem? (i := 1483) (by decide +kernel), List.mem_of_getElem? (i := 1484) (by decide +kernel)⟩
theorem lw_p70 : lw_okq (⟨"FootholdWallModel", "wordOf", "(IIII)I"⟩, 36) := ⟨⟨by decide +kernel, by decide +kernel⟩, List.mem_of_getElem? (i := 1214) (by decide +kernel), List.mem_of_getElem? (i := 1487) (by decide +kernel), List.mem_of_getElem? (i := 1488) (by decide +kernel)⟩
theorem lw_p71 : lw_okq (⟨"FootholdWallModel", "laysGuide", "(I)V"⟩, 36) := ⟨⟨by decide +kernel, by decide +kernel⟩, List.mem_of_getElem? (i := 1214) (by decide +kernel), List.mem_of_getElem? (i := 1503) (by decide +kernel), List.mem_of_getElem? (i := 1504) (by decide +kernel)⟩
theorem lw_p72 : lw_okq (⟨"FootholdWallModel", "laysSteps", "(II)V"⟩, 36) := ⟨⟨by decide +kernel, by decide +kernel⟩, List.mem_of_getElem? (i := 1214) (by decide +kernel), List.mem_of_getElem? (i := 1507) (by decide +kernel), List.mem_of_getElem? (i := 1508) (by decide +kernel)⟩
theorem lw_p73 : lw_okq (⟨"FootholdWallModel", "openSet", "()I"⟩, 36) := ⟨⟨by decide +kernel, by decide +kernel⟩, List.mem_of_getElem? (i := 1214) (by decide +kernel), List.mem_of_getElem? (i := 1511) (by decide +kernel), List.mem_of_getElem? (i := 1512) (by decide +kernel)⟩
theorem lw_p74 : lw_okq (⟨"FootholdWallModel", "comesTo", "(I)I"⟩, 36) := ⟨⟨by decide +kernel, by decide +kernel⟩, List.mem_of_getElem? (i := 1214) (by decide +kernel), List.mem_of_getElem? (i := 1515) (by decide +kernel), List.mem_of_getElem? (i := 1516) (by decide +kernel)⟩
theorem lw_p75 : lw_okq (⟨"FootholdWallModel", "noTray", "(I)I"⟩, 36) := ⟨⟨by decide +kernel, by decide +kernel⟩, List.mem_of_getElem? (i := 1214) (by decide +kernel), List.mem_of_getElem? (i := 1524) (by decide +kernel), List.mem_of_getElem? (i := 1525) (by decide +kernel)⟩
theorem lw_p76 : lw_okq (⟨"FootholdWallModel", "told", "(I)I"⟩, 36) := ⟨⟨by decide +kernel, by decide +kernel⟩, List.mem_of_getElem? (i := 1214) (by decide +kernel), List.mem_of_getElem? (i := 1529) (by decide +kernel), List.mem_of_getElem? (i := 1530) (by decide +kernel)⟩
theorem lw_p77 : lw_okq (⟨"FootholdWallModel", "whyNot", "(IJII)I"⟩, 36) := ⟨⟨by decide +kernel, by decide +kernel⟩, List.mem_of_getElem? (i := 1214) (by decide +kernel), List.mem_of_getElem? (i := 1533) (by decide +kernel), List.mem_of_getElem? (i := 1534) (by decide +kernel)⟩
theorem lw_p78 : lw_okq (⟨"FootholdWallModel", "ends", "()I"⟩, 36) := ⟨⟨by decide +kernel, by decide +kernel⟩, List.mem_of_getElem? (i := 1214) (by decide +kernel), List.mem_of_getElem? (i := 1537) (by decide +kernel), List.mem_of_getElem? (i := 1538) (by decide +kernel)⟩
theorem lw_p79 : lw_okq (⟨"FootholdWallModel", "keeps", "()V"⟩, 36) := ⟨⟨by decide +kernel, by decide +kernel⟩, List.mem_of_getElem? (i := 1214) (by decide +kernel), List.mem_of_getElem? (i := 1545) (by decide +kernel), List.mem_of_getElem? (i := 1546) (by decide +kernel)⟩
def lw_privs_5 : List (MethodName × Nat) := [(⟨"FootholdWallModel", "isHold", "(J)Z"⟩, 36), (⟨"FootholdWallModel", "isThere", "(I)Z"⟩, 36), (⟨"FootholdWallModel", "isOpen", "(I)Z"⟩, 36), (⟨"FootholdWallModel", "isGuide", "(J)Z"⟩, 36), (⟨"FootholdWallModel", "usedBy", "(I)I"⟩, 36), (⟨"FootholdWallModel", "mayStep", "(III)Z"⟩, 36), (⟨"FootholdWallModel", "wordOf", "(IIII)I"⟩, 36), (⟨"FootholdWallModel", "laysGuide", "(I)V"⟩, 36), (⟨"FootholdWallModel", "laysSteps", "(II)V"⟩, 36), (⟨"FootholdWallModel", "openSet", "()I"⟩, 36), (⟨"FootholdWallModel", "comesTo", "(I)I"⟩, 36), (⟨"FootholdWallModel", "noTray", "(I)I"⟩, 36), (⟨"FootholdWallModel", "told", "(I)I"⟩, 36), (⟨"FootholdWallModel", "whyNot", "(IJII)I"⟩, 36), (⟨"FootholdWallModel", "ends", "()I"⟩, 36), (⟨"FootholdWallModel", "keeps", "()V"⟩, 36)]
theorem lw_r5 : ∀ q ∈ lw_privs_5, lw_okq q := List.forall_mem_cons.mpr ⟨lw_p64, List.forall_mem_cons.mpr ⟨lw_p65, List.forall_mem_cons.mpr ⟨lw_p66, List.forall_mem_cons.mpr ⟨lw_p67, List.forall_mem_cons.mpr ⟨lw_p68, List.forall_mem_cons.mpr ⟨lw_p69, List.forall_mem_cons.mpr ⟨lw_p70, List.forall_mem_cons.mpr ⟨lw_p71, List.forall_mem_cons.mpr ⟨lw_p72, List.forall_mem_cons.mpr ⟨lw_p73, List.forall_mem_cons.mpr ⟨lw_p74, List.forall_mem_cons.mpr ⟨lw_p75, List.forall_mem_cons.mpr ⟨lw_p76, List.forall_mem_cons.mpr ⟨lw_p77, List.forall_mem_cons.mpr ⟨lw_p78, List.forall_mem_cons.mpr ⟨lw_p79, fun _ h => absurd h List.not_mem_nil⟩⟩⟩⟩⟩⟩⟩⟩⟩⟩⟩⟩⟩⟩⟩⟩
theorem lw_p80 : lw_okq (⟨"FootholdWallModel", "usesRow", "(I)I"⟩, 36) := ⟨⟨by decide +kernel, by decide +kernel⟩, List.mem_of_getElem? (i := 1214) (by decide +kernel), List.mem_of_getElem? (i := 1549) (by decide +kernel), List.mem_of_getElem? (i := 1550) (by decide +kernel)⟩
theorem lw_p81 : lw_okq (⟨"FootholdWallModel", "notes", "()V"⟩, 36) := ⟨⟨by decide +kernel, by decide +kernel⟩, List.mem_of_getElem? (i := 1214) (by decide +kernel), List.mem_of_getElem? (i := 1553) (by decide +kernel), List.mem_of_getElem? (i := 1554) (by decide +kernel)⟩
theorem lw_p82 : lw_okq (⟨"FootholdWallModel", "laysWayOf", "(I)Z"⟩, 36) := ⟨⟨by decide +kernel, by decide +kernel⟩, List.mem_of_getElem? (i := 1214) (by decide +kernel), List.mem_of_getElem? (i := 1561) (by decide +kernel), List.mem_of_getElem? (i := 1562) (by decide +kernel)⟩
theorem lw_p83 : lw_okq (⟨"FootholdWallModel", "laysWay", "(I)Z"⟩, 36) := ⟨⟨by decide +kernel, by decide +kernel⟩, List.mem_of_getElem? (i := 1214) (by decide +kernel), List.mem_of_getElem? (i := 1565) (by decide +kernel), List.mem_of_getElem? (i := 1566) (by decide +kernel)⟩
theorem lw_p84 : lw_okq (⟨"FootholdWallModel", "nearer", "(II)I"⟩, 36) := ⟨⟨by decide +kernel, by decide +kernel⟩, List.mem_of_getElem? (i := 1214) (by decide +kernel), List.mem_of_getElem? (i := 1569) (by decide +kernel), List.mem_of_getElem? (i := 1570) (by decide +kernel)⟩
theorem lw_p85 : lw_okq (⟨"FootholdWallModel", "rains", "()Z"⟩, 36) := ⟨⟨by decide +kernel, by decide +kernel⟩, List.mem_of_getElem? (i := 1214) (by decide +kernel), List.mem_of_getElem? (i := 1583) (by decide +kernel), List.mem_of_getElem? (i := 1584) (by decide +kernel)⟩
theorem lw_p86 : lw_okq (⟨"FootholdWallModel", "usedMany", "()I"⟩, 36) := ⟨⟨by decide +kernel, by decide +kernel⟩, List.mem_of_getElem? (i := 1214) (by decide +kernel), List.mem_of_getElem? (i := 1595) (by decide +kernel), List.mem_of_getElem? (i := 1596) (by decide +kernel)⟩
theorem lw_p87 : lw_okq (⟨"FootholdWallModel", "draw", "(I)I"⟩, 36) := ⟨⟨by decide +kernel, by decide +kernel⟩, List.mem_of_getElem? (i := 1214) (by decide +kernel), List.mem_of_getElem? (i := 1609) (by decide +kernel), List.mem_of_getElem? (i := 1610) (by decide +kernel)⟩
theorem lw_p88 : lw_okq (⟨"FootholdWallModel", "laysClimbs", "(I)V"⟩, 36) := ⟨⟨by decide +kernel, by decide +kernel⟩, List.mem_of_getElem? (i := 1214) (by decide +kernel), List.mem_of_getElem? (i := 1624) (by decide +kernel), List.mem_of_getElem? (i := 1625) (by decide +kernel)⟩
theorem lw_p89 : lw_okq (⟨"FootholdWallModel", "climbsOf", "(II)J"⟩, 36) := ⟨⟨by decide +kernel, by decide +kernel⟩, List.mem_of_getElem? (i := 1214) (by decide +kernel), List.mem_of_getElem? (i := 1628) (by decide +kernel), List.mem_of_getElem? (i := 1629) (by decide +kernel)⟩
theorem lw_p90 : lw_okq (⟨"FootholdWallModel", "climbsBy", "(I)J"⟩, 36) := ⟨⟨by decide +kernel, by decide +kernel⟩, List.mem_of_getElem? (i := 1214) (by decide +kernel), List.mem_of_getElem? (i := 1635) (by decide +kernel), List.mem_of_getElem? (i := 1636) (by decide +kernel)⟩
theorem lw_p91 : lw_okq (⟨"FootholdWallModel", "laysClimbsOf", "(I)V"⟩, 36) := ⟨⟨by decide +kernel, by decide +kernel⟩, List.mem_of_getElem? (i := 1214) (by decide +kernel), List.mem_of_getElem? (i := 1645) (by decide +kernel), List.mem_of_getElem? (i := 1646) (by decide +kernel)⟩
theorem lw_p92 : lw_okq (⟨"FootholdWallModel", "partiesBy", "(I)I"⟩, 36) := ⟨⟨by decide +kernel, by decide +kernel⟩, List.mem_of_getElem? (i := 1214) (by decide +kernel), List.mem_of_getElem? (i := 1653) (by decide +kernel), List.mem_of_getElem? (i := 1654) (by decide +kernel)⟩
theorem lw_p93 : lw_okq (⟨"FootholdWallModel", "cutOf", "(I)I"⟩, 36) := ⟨⟨by decide +kernel, by decide +kernel⟩, List.mem_of_getElem? (i := 1214) (by decide +kernel), List.mem_of_getElem? (i := 1657) (by decide +kernel), List.mem_of_getElem? (i := 1658) (by decide +kernel)⟩
theorem lw_p94 : lw_okq (⟨"FootholdWallModel", "hasClimb", "(I)Z"⟩, 36) := ⟨⟨by decide +kernel, by decide +kernel⟩, List.mem_of_getElem? (i := 1214) (by decide +kernel), List.mem_of_getElem? (i := 1661) (by decide +kernel), List.mem_of_getElem? (i := 1662) (by decide +kernel)⟩
theorem lw_p95 : lw_okq (⟨"FootholdWallModel", "neededBy", "(I)I"⟩, 36) := ⟨⟨by decide +kernel, by decide +kernel⟩, List.mem_of_getElem? (i := 1214) (by decide +kernel), List.mem_of_getElem? (i := 1673) (by decide +kernel), List.mem_of_getElem? (i := 1674) (by decide +kernel)⟩
def lw_privs_6 : List (MethodName × Nat) := [(⟨"FootholdWallModel", "usesRow", "(I)I"⟩, 36), (⟨"FootholdWallModel", "notes", "()V"⟩, 36), (⟨"FootholdWallModel", "laysWayOf", "(I)Z"⟩, 36), (⟨"FootholdWallModel", "laysWay", "(I)Z"⟩, 36), (⟨"FootholdWallModel", "nearer", "(II)I"⟩, 36), (⟨"FootholdWallModel", "rains", "()Z"⟩, 36), (⟨"FootholdWallModel", "usedMany", "()I"⟩, 36), (⟨"FootholdWallModel", "draw", "(I)I"⟩, 36), (⟨"FootholdWallModel", "laysClimbs", "(I)V"⟩, 36), (⟨"FootholdWallModel", "climbsOf", "(II)J"⟩, 36), (⟨"FootholdWallModel", "climbsBy", "(I)J"⟩, 36), (⟨"FootholdWallModel", "laysClimbsOf", "(I)V"⟩, 36), (⟨"FootholdWallModel", "partiesBy", "(I)I"⟩, 36), (⟨"FootholdWallModel", "cutOf", "(I)I"⟩, 36), (⟨"FootholdWallModel", "hasClimb", "(I)Z"⟩, 36), (⟨"FootholdWallModel", "neededBy", "(I)I"⟩, 36)]
theorem lw_r6 : ∀ q ∈ lw_privs_6, lw_okq q := List.forall_mem_cons.mpr ⟨lw_p80, List.forall_mem_cons.mpr ⟨lw_p81, List.forall_mem_cons.mpr ⟨lw_p82, List.forall_mem_cons.mpr ⟨lw_p83, List.forall_mem_cons.mpr ⟨lw_p84, List.forall_mem_cons.mpr ⟨lw_p85, List.forall_mem_cons.mpr ⟨lw_p86, List.forall_mem_cons.mpr ⟨lw_p87, List.forall_mem_cons.mpr ⟨lw_p88, List.forall_mem_cons.mpr ⟨lw_p89, List.forall_mem_cons.mpr ⟨lw_p90, List.forall_mem_cons.mpr ⟨lw_p91, List.forall_mem_cons.mpr ⟨lw_p92, List.forall_mem_cons.mpr ⟨lw_p93, List.forall_mem_cons.mpr ⟨lw_p94, List.forall_mem_cons.mpr ⟨lw_p95, fun _ h => absurd h List.not_mem_nil⟩⟩⟩⟩⟩⟩⟩⟩⟩⟩⟩⟩⟩⟩⟩⟩
theorem lw_p96 : lw_okq (⟨"FootholdWallModel", "keepsAhead", "()V"⟩, 36) := ⟨⟨by decide +kernel, by decide +kernel⟩, List.mem_of_getElem? (i := 1214) (by decide +kernel), List.mem_of_getElem? (i := 1705) (by decide +kernel), List.mem_of_getElem? (i := 1706) (by decide +kernel)⟩
theorem lw_p97 : lw_okq (⟨"FootholdWallModel", "isAhead", "()V"⟩, 36) := ⟨⟨by decide +kernel, by decide +kernel⟩, List.mem_of_getElem? (i := 1214) (by decide +kernel), List.mem_of_getElem? (i := 1709) (by decide +kernel), List.mem_of_getElem? (i := 1710) (by decide +kernel)⟩
theorem lw_p98 : lw_okq (⟨"FootholdWallModel", "isSetOf", "(I)Z"⟩, 36) := ⟨⟨by decide +kernel, by decide +kernel⟩, List.mem_of_getElem? (i := 1214) (by decide +kernel), List.mem_of_getElem? (i := 1721) (by decide +kernel), List.mem_of_getElem? (i := 1722) (by decide +kernel)⟩
theorem lw_p99 : lw_okq (⟨"FootholdWallModel", "thereSet", "()I"⟩, 36) := ⟨⟨by decide +kernel, by decide +kernel⟩, List.mem_of_getElem? (i := 1214) (by decide +kernel), List.mem_of_getElem? (i := 1725) (by decide +kernel), List.mem_of_getElem? (i := 1726) (by decide +kernel)⟩
theorem lw_p100 : lw_okq (⟨"FootholdWallModel", "laysWhose", "(II)I"⟩, 36) := ⟨⟨by decide +kernel, by decide +kernel⟩, List.mem_of_getElem? (i := 1214) (by decide +kernel), List.mem_of_getElem? (i := 1729) (by decide +kernel), List.mem_of_getElem? (i := 1730) (by decide +kernel)⟩
theorem lw_p101 : lw_okq (⟨"FootholdWallModel", "laysMore", "(II)V"⟩, 36) := ⟨⟨by decide +kernel, by decide +kernel⟩, List.mem_of_getElem? (i := 1214) (by decide +kernel), List.mem_of_getElem? (i := 1733) (by decide +kernel), List.mem_of_getElem? (i := 1734) (by decide +kernel)⟩
theorem lw_p102 : lw_okq (⟨"FootholdWallModel", "moreBy", "(II)I"⟩, 36) := ⟨⟨by decide +kernel, by decide +kernel⟩, List.mem_of_getElem? (i := 1214) (by decide +kernel), List.mem_of_getElem? (i := 1737) (by decide +kernel), List.mem_of_getElem? (i := 1738) (by decide +kernel)⟩
theorem lw_p103 : lw_okq (⟨"FootholdWallModel", "goesTurn", "(III)V"⟩, 36) := ⟨⟨by decide +kernel, by decide +kernel⟩, List.mem_of_getElem? (i := 1214) (by decide +kernel), List.mem_of_getElem? (i := 1757) (by decide +kernel), List.mem_of_getElem? (i := 1758) (by decide +kernel)⟩
def lw_privs_7 : List (MethodName × Nat) := [(⟨"FootholdWallModel", "keepsAhead", "()V"⟩, 36), (⟨"FootholdWallModel", "isAhead", "()V"⟩, 36), (⟨"FootholdWallModel", "isSetOf", "(I)Z"⟩, 36), (⟨"FootholdWallModel", "thereSet", "()I"⟩, 36), (⟨"FootholdWallModel", "laysWhose", "(II)I"⟩, 36), (⟨"FootholdWallModel", "laysMore", "(II)V"⟩, 36), (⟨"FootholdWallModel", "moreBy", "(II)I"⟩, 36), (⟨"FootholdWallModel", "goesTurn", "(III)V"⟩, 36)]
theorem lw_r7 : ∀ q ∈ lw_privs_7, lw_okq q := List.forall_mem_cons.mpr ⟨lw_p96, List.forall_mem_cons.mpr ⟨lw_p97, List.forall_mem_cons.mpr ⟨lw_p98, List.forall_mem_cons.mpr ⟨lw_p99, List.forall_mem_cons.mpr ⟨lw_p100, List.forall_mem_cons.mpr ⟨lw_p101, List.forall_mem_cons.mpr ⟨lw_p102, List.forall_mem_cons.mpr ⟨lw_p103, fun _ h => absurd h List.not_mem_nil⟩⟩⟩⟩⟩⟩⟩⟩
def lw_privs : List (MethodName × Nat) := lw_privs_1 ++ (lw_privs_2 ++ (lw_privs_3 ++ (lw_privs_4 ++ (lw_privs_5 ++ (lw_privs_6 ++ (lw_privs_7))))))
def lw_tbl : List Cond := k2_sels lw_privs ++ tables_1
theorem lw_privs_ok : ∀ q ∈ lw_privs, lw_okq q := by
  show ∀ q ∈ lw_privs_1 ++ (lw_privs_2 ++ (lw_privs_3 ++ (lw_privs_4 ++ (lw_privs_5 ++ (lw_privs_6 ++ (lw_privs_7)))))), lw_okq q
  exact List.forall_mem_append.mpr ⟨lw_r1, List.forall_mem_append.mpr ⟨lw_r2, List.forall_mem_append.mpr ⟨lw_r3, List.forall_mem_append.mpr ⟨lw_r4, List.forall_mem_append.mpr ⟨lw_r5, List.forall_mem_append.mpr ⟨lw_r6, lw_r7⟩⟩⟩⟩⟩⟩
end
section
def RX0 : String := "FootholdWall$Chains"
def TX0 : u_T := fun k => match k with
  | 0 => ("FootholdWall$Chains", "heads", "[I", false)
  | 1 => ("FootholdWall$Chains", "all", "I", false)
  | 2 => ("FootholdWall$Chains", "row", "[I", true)
  | _ => ("FootholdWall$Chains", "path", "[I", true)
def tyX0 : Nat → FieldType := fun k => match k with
  | 0 => .array .int
  | 1 => .int
  | 2 => .array .int
  | _ => .array .int
theorem nmX0 : ∀ a, a < 4 → ∀ b, b < 4 → a ≠ b → (TX0 a).2.1 ≠ (TX0 b).2.1 := by decide +kernel
theorem tyX0_ok : ∀ k, k < 4 → parseFieldDescriptor (TX0 k).2.2.1 = some (tyX0 k) := by decide +kernel
def RX1 : String := "FootholdWall$Cut"
def TX1 : u_T := fun k => match k with
  | 0 => ("FootholdWall$Cut", "near", "[I", true)
  | 1 => ("FootholdWall$Cut", "ahead", "[I", true)
  | 2 => ("FootholdWall$Cut", "laid", "I", false)
  | 3 => ("FootholdWall$Cut", "queue", "[I", true)
  | 4 => ("FootholdWall$Cut", "queued", "I", false)
  | 5 => ("FootholdWall$Cut", "seen", "I", false)
  | _ => ("FootholdWall$Cut", "cameFrom", "[I", true)
def tyX1 : Nat → FieldType := fun k => match k with
  | 0 => .array .int
  | 1 => .array .int
  | 2 => .int
  | 3 => .array .int
  | 4 => .int
  | 5 => .int
  | _ => .array .int
theorem nmX1 : ∀ a, a < 7 → ∀ b, b < 7 → a ≠ b → (TX1 a).2.1 ≠ (TX1 b).2.1 := by decide +kernel
theorem tyX1_ok : ∀ k, k < 7 → parseFieldDescriptor (TX1 k).2.2.1 = some (tyX1 k) := by decide +kernel
def RX2 : String := "FootholdWall$Law"
def TX2 : u_T := fun k => match k with
  | 0 => ("FootholdWall$Law", "code", "[I", true)
  | 1 => ("FootholdWall$Law", "facts", "[I", true)
  | _ => ("FootholdWall$Law", "stack", "[I", true)
def tyX2 : Nat → FieldType := fun k => match k with
  | 0 => .array .int
  | 1 => .array .int
  | _ => .array .int
theorem nmX2 : ∀ a, a < 3 → ∀ b, b < 3 → a ≠ b → (TX2 a).2.1 ≠ (TX2 b).2.1 := by decide +kernel
theorem tyX2_ok : ∀ k, k < 3 → parseFieldDescriptor (TX2 k).2.2.1 = some (tyX2 k) := by decide +kernel
def RX3 : String := "FootholdWall$LawReader"
def TX3 : u_T := fun k => match k with
  | 0 => ("FootholdWall$LawReader", "tokens", "LFootholdWall$Tokens;", true)
  | 1 => ("FootholdWall$LawReader", "code", "[I", true)
  | _ => ("FootholdWall$LawReader", "length", "I", false)
def tyX3 : Nat → FieldType := fun k => match k with
  | 0 => .object "FootholdWall$Tokens"
  | 1 => .array .int
  | _ => .int
theorem nmX3 : ∀ a, a < 3 → ∀ b, b < 3 → a ≠ b → (TX3 a).2.1 ≠ (TX3 b).2.1 := by decide +kernel
theorem tyX3_ok : ∀ k, k < 3 → parseFieldDescriptor (TX3 k).2.2.1 = some (tyX3 k) := by decide +kernel
def RX4 : String := "FootholdWall$Reader"
def TX4 : u_T := fun k => match k with
  | 0 => ("FootholdWall$Reader", "tokens", "LFootholdWall$Tokens;", true)
  | 1 => ("FootholdWall$Reader", "lawReader", "LFootholdWall$LawReader;", true)
  | 2 => ("FootholdWall$Reader", "draft", "LFootholdWall$Wall;", true)
  | 3 => ("FootholdWall$Reader", "lawTold", "Z", false)
  | _ => ("FootholdWall$Reader", "told", "LFootholdWall$State;", true)
def tyX4 : Nat → FieldType := fun k => match k with
  | 0 => .object "FootholdWall$Tokens"
  | 1 => .object "FootholdWall$LawReader"
  | 2 => .object "FootholdWall$Wall"
  | 3 => .boolean
  | _ => .object "FootholdWall$State"
theorem nmX4 : ∀ a, a < 5 → ∀ b, b < 5 → a ≠ b → (TX4 a).2.1 ≠ (TX4 b).2.1 := by decide +kernel
theorem tyX4_ok : ∀ k, k < 5 → parseFieldDescriptor (TX4 k).2.2.1 = some (tyX4 k) := by decide +kernel
def RX5 : String := "FootholdWall$Rows"
def TX5 : u_T := fun k => match k with
  | 0 => ("FootholdWall$Rows", "wall", "LFootholdWall$Wall;", false)
  | 1 => ("FootholdWall$Rows", "leg", "I", false)
  | 2 => ("FootholdWall$Rows", "weight", "I", false)
  | 3 => ("FootholdWall$Rows", "day", "I", false)
  | 4 => ("FootholdWall$Rows", "asked", "[I", true)
  | _ => ("FootholdWall$Rows", "row", "[I", true)
def tyX5 : Nat → FieldType := fun k => match k with
  | 0 => .object "FootholdWall$Wall"
  | 1 => .int
  | 2 => .int
  | 3 => .int
  | 4 => .array .int
  | _ => .array .int
theorem nmX5 : ∀ a, a < 6 → ∀ b, b < 6 → a ≠ b → (TX5 a).2.1 ≠ (TX5 b).2.1 := by decide +kernel
theorem tyX5_ok : ∀ k, k < 6 → parseFieldDescriptor (TX5 k).2.2.1 = some (tyX5 k) := by decide +kernel
def RX6 : String := "FootholdWall$State"
def TX6 : u_T := fun k => match k with
  | 0 => ("FootholdWall$State", "used", "I", false)
  | 1 => ("FootholdWall$State", "broken", "I", false)
  | 2 => ("FootholdWall$State", "day", "I", false)
  | 3 => ("FootholdWall$State", "years", "I", false)
  | 4 => ("FootholdWall$State", "by", "[I", true)
  | _ => ("FootholdWall$State", "since", "[I", true)
def tyX6 : Nat → FieldType := fun k => match k with
  | 0 => .int
  | 1 => .int
  | 2 => .int
  | 3 => .int
  | 4 => .array .int
  | _ => .array .int
theorem nmX6 : ∀ a, a < 6 → ∀ b, b < 6 → a ≠ b → (TX6 a).2.1 ≠ (TX6 b).2.1 := by decide +kernel
theorem tyX6_ok : ∀ k, k < 6 → parseFieldDescriptor (TX6 k).2.2.1 = some (tyX6 k) := by decide +kernel
def RX7 : String := "FootholdWall$Tokens"
def TX7 : u_T := fun k => match k with
  | 0 => ("FootholdWall$Tokens", "text", "[B", false)
  | 1 => ("FootholdWall$Tokens", "length", "I", false)
  | 2 => ("FootholdWall$Tokens", "start", "I", false)
  | 3 => ("FootholdWall$Tokens", "end", "I", false)
  | 4 => ("FootholdWall$Tokens", "kind", "I", false)
  | 5 => ("FootholdWall$Tokens", "value", "I", false)
  | 6 => ("FootholdWall$Tokens", "fault", "I", false)
  | _ => ("FootholdWall$Tokens", "place", "I", false)
def tyX7 : Nat → FieldType := fun k => match k with
  | 0 => .array .byte
  | 1 => .int
  | 2 => .int
  | 3 => .int
  | 4 => .int
  | 5 => .int
  | 6 => .int
  | _ => .int
theorem nmX7 : ∀ a, a < 8 → ∀ b, b < 8 → a ≠ b → (TX7 a).2.1 ≠ (TX7 b).2.1 := by decide +kernel
theorem tyX7_ok : ∀ k, k < 8 → parseFieldDescriptor (TX7 k).2.2.1 = some (tyX7 k) := by decide +kernel
def RX8 : String := "FootholdWall$Tray"
def TX8 : u_T := fun k => match k with
  | 0 => ("FootholdWall$Tray", "numbers", "[J", true)
  | 1 => ("FootholdWall$Tray", "sort", "I", false)
  | _ => ("FootholdWall$Tray", "size", "I", false)
def tyX8 : Nat → FieldType := fun k => match k with
  | 0 => .array .long
  | 1 => .int
  | _ => .int
theorem nmX8 : ∀ a, a < 3 → ∀ b, b < 3 → a ≠ b → (TX8 a).2.1 ≠ (TX8 b).2.1 := by decide +kernel
theorem tyX8_ok : ∀ k, k < 3 → parseFieldDescriptor (TX8 k).2.2.1 = some (tyX8 k) := by decide +kernel
def RX9 : String := "FootholdWall$Wall"
def TX9 : u_T := fun k => match k with
  | 0 => ("FootholdWall$Wall", "holds", "I", false)
  | 1 => ("FootholdWall$Wall", "guides", "I", false)
  | 2 => ("FootholdWall$Wall", "lines", "I", false)
  | 3 => ("FootholdWall$Wall", "starts", "I", false)
  | 4 => ("FootholdWall$Wall", "tops", "I", false)
  | 5 => ("FootholdWall$Wall", "wides", "I", false)
  | 6 => ("FootholdWall$Wall", "x", "[I", true)
  | 7 => ("FootholdWall$Wall", "y", "[I", true)
  | 8 => ("FootholdWall$Wall", "ice", "[I", true)
  | 9 => ("FootholdWall$Wall", "leg", "[I", true)
  | 10 => ("FootholdWall$Wall", "weight", "[I", true)
  | 11 => ("FootholdWall$Wall", "law", "LFootholdWall$Law;", true)
  | 12 => ("FootholdWall$Wall", "dayAsked", "Z", true)
  | _ => ("FootholdWall$Wall", "legAsked", "Z", true)
def tyX9 : Nat → FieldType := fun k => match k with
  | 0 => .int
  | 1 => .int
  | 2 => .int
  | 3 => .int
  | 4 => .int
  | 5 => .int
  | 6 => .array .int
  | 7 => .array .int
  | 8 => .array .int
  | 9 => .array .int
  | 10 => .array .int
  | 11 => .object "FootholdWall$Law"
  | 12 => .boolean
  | _ => .boolean
theorem nmX9 : ∀ a, a < 14 → ∀ b, b < 14 → a ≠ b → (TX9 a).2.1 ≠ (TX9 b).2.1 := by decide +kernel
theorem tyX9_ok : ∀ k, k < 14 → parseFieldDescriptor (TX9 k).2.2.1 = some (tyX9 k) := by decide +kernel
def RX10 : String := "FootholdWall$Ways"
def TX10 : u_T := fun k => match k with
  | 0 => ("FootholdWall$Ways", "layer", "[I", true)
  | 1 => ("FootholdWall$Ways", "path", "[I", true)
  | 2 => ("FootholdWall$Ways", "length", "I", false)
  | 3 => ("FootholdWall$Ways", "numberFrom", "[J", true)
  | 4 => ("FootholdWall$Ways", "leastFrom", "[I", true)
  | 5 => ("FootholdWall$Ways", "into", "[I", true)
  | _ => ("FootholdWall$Ways", "tops", "I", false)
def tyX10 : Nat → FieldType := fun k => match k with
  | 0 => .array .int
  | 1 => .array .int
  | 2 => .int
  | 3 => .array .long
  | 4 => .array .int
  | 5 => .array .int
  | _ => .int
theorem nmX10 : ∀ a, a < 7 → ∀ b, b < 7 → a ≠ b → (TX10 a).2.1 ≠ (TX10 b).2.1 := by decide +kernel
theorem tyX10_ok : ∀ k, k < 7 → parseFieldDescriptor (TX10 k).2.2.1 = some (tyX10 k) := by decide +kernel
def RX11 : String := "FootholdWall"
def TX11 : u_T := fun k => match k with
  | 0 => ("FootholdWall", "tape", "[B", true)
  | 1 => ("FootholdWall", "tapeLength", "I", false)
  | 2 => ("FootholdWall", "reader", "LFootholdWall$Reader;", true)
  | 3 => ("FootholdWall", "wall", "LFootholdWall$Wall;", false)
  | 4 => ("FootholdWall", "state", "LFootholdWall$State;", true)
  | 5 => ("FootholdWall", "before", "LFootholdWall$State;", false)
  | 6 => ("FootholdWall", "past", "[LFootholdWall$State;", true)
  | 7 => ("FootholdWall", "pastCount", "I", false)
  | 8 => ("FootholdWall", "pastNext", "I", false)
  | 9 => ("FootholdWall", "imageWalls", "[LFootholdWall$Wall;", true)
  | 10 => ("FootholdWall", "imageStates", "[LFootholdWall$State;", true)
  | 11 => ("FootholdWall", "trays", "[LFootholdWall$Tray;", true)
  | 12 => ("FootholdWall", "rows", "[LFootholdWall$Rows;", true)
  | 13 => ("FootholdWall", "otherRows", "LFootholdWall$Rows;", true)
  | 14 => ("FootholdWall", "ways", "LFootholdWall$Ways;", true)
  | 15 => ("FootholdWall", "cut", "LFootholdWall$Cut;", true)
  | 16 => ("FootholdWall", "chains", "LFootholdWall$Chains;", true)
  | 17 => ("FootholdWall", "turn", "[I", true)
  | 18 => ("FootholdWall", "bestTurn", "[I", true)
  | _ => ("FootholdWall", "bestUp", "I", false)
def tyX11 : Nat → FieldType := fun k => match k with
  | 0 => .array .byte
  | 1 => .int
  | 2 => .object "FootholdWall$Reader"
  | 3 => .object "FootholdWall$Wall"
  | 4 => .object "FootholdWall$State"
  | 5 => .object "FootholdWall$State"
  | 6 => .array (.object "FootholdWall$State")
  | 7 => .int
  | 8 => .int
  | 9 => .array (.object "FootholdWall$Wall")
  | 10 => .array (.object "FootholdWall$State")
  | 11 => .array (.object "FootholdWall$Tray")
  | 12 => .array (.object "FootholdWall$Rows")
  | 13 => .object "FootholdWall$Rows"
  | 14 => .object "FootholdWall$Ways"
  | 15 => .object "FootholdWall$Cut"
  | 16 => .object "FootholdWall$Chains"
  | 17 => .array .int
  | 18 => .array .int
  | _ => .int
theorem nmX11 : ∀ a, a < 20 → ∀ b, b < 20 → a ≠ b → (TX11 a).2.1 ≠ (TX11 b).2.1 := by decide +kernel
theorem tyX11_ok : ∀ k, k < 20 → parseFieldDescriptor (TX11 k).2.2.1 = some (tyX11 k) := by decide +kernel
def RX12 : String := "FootholdWallModel"
def TX12 : u_T := fun k => match k with
  | 0 => ("FootholdWallModel", "thrown", "I", false)
  | 1 => ("FootholdWallModel", "all", "[I", true)
  | 2 => ("FootholdWallModel", "hasImage", "[Z", true)
  | 3 => ("FootholdWallModel", "tape", "[I", true)
  | 4 => ("FootholdWallModel", "fresh", "[I", true)
  | 5 => ("FootholdWallModel", "taped", "I", false)
  | 6 => ("FootholdWallModel", "at", "I", false)
  | 7 => ("FootholdWallModel", "behind", "I", false)
  | 8 => ("FootholdWallModel", "size", "I", false)
  | 9 => ("FootholdWallModel", "kind", "I", false)
  | 10 => ("FootholdWallModel", "number", "I", false)
  | 11 => ("FootholdWallModel", "wrong", "I", false)
  | 12 => ("FootholdWallModel", "wrongAt", "I", false)
  | 13 => ("FootholdWallModel", "faultKind", "I", false)
  | 14 => ("FootholdWallModel", "faultPlace", "I", false)
  | 15 => ("FootholdWallModel", "reckoned", "[I", true)
  | 16 => ("FootholdWallModel", "leg", "I", false)
  | 17 => ("FootholdWallModel", "onTo", "[I", true)
  | 18 => ("FootholdWallModel", "away", "[I", true)
  | 19 => ("FootholdWallModel", "row", "[I", true)
  | 20 => ("FootholdWallModel", "rowMany1", "I", false)
  | 21 => ("FootholdWallModel", "was", "[I", true)
  | 22 => ("FootholdWallModel", "ahead", "[I", true)
  | 23 => ("FootholdWallModel", "toldWhy", "I", false)
  | 24 => ("FootholdWallModel", "toldUses", "I", false)
  | 25 => ("FootholdWallModel", "x", "I", false)
  | 26 => ("FootholdWallModel", "climbs", "[J", true)
  | 27 => ("FootholdWallModel", "uses", "[Z", true)
  | 28 => ("FootholdWallModel", "more", "[B", true)
  | 29 => ("FootholdWallModel", "turnsOf", "[I", true)
  | 30 => ("FootholdWallModel", "bestTurn", "[I", true)
  | 31 => ("FootholdWallModel", "levels", "[I", true)
  | 32 => ("FootholdWallModel", "bestGot", "I", false)
  | 33 => ("FootholdWallModel", "rowSort", "[I", true)
  | 34 => ("FootholdWallModel", "rowMany", "[I", true)
  | _ => ("FootholdWallModel", "numbers", "[J", true)
def tyX12 : Nat → FieldType := fun k => match k with
  | 0 => .int
  | 1 => .array .int
  | 2 => .array .boolean
  | 3 => .array .int
  | 4 => .array .int
  | 5 => .int
  | 6 => .int
  | 7 => .int
  | 8 => .int
  | 9 => .int
  | 10 => .int
  | 11 => .int
  | 12 => .int
  | 13 => .int
  | 14 => .int
  | 15 => .array .int
  | 16 => .int
  | 17 => .array .int
  | 18 => .array .int
  | 19 => .array .int
  | 20 => .int
  | 21 => .array .int
  | 22 => .array .int
  | 23 => .int
  | 24 => .int
  | 25 => .int
  | 26 => .array .long
  | 27 => .array .boolean
  | 28 => .array .byte
  | 29 => .array .int
  | 30 => .array .int
  | 31 => .array .int
  | 32 => .int
  | 33 => .array .int
  | 34 => .array .int
  | _ => .array .long
theorem nmX12 : ∀ a, a < 36 → ∀ b, b < 36 → a ≠ b → (TX12 a).2.1 ≠ (TX12 b).2.1 := by decide +kernel
theorem tyX12_ok : ∀ k, k < 36 → parseFieldDescriptor (TX12 k).2.2.1 = some (tyX12 k) := by decide +kernel
def RJ6 : String := "java/lang/Integer"
def RJ7 : String := "java/util/Arrays"
abbrev cX0_init : ByteArray := prog_2_method_1_code
def yX0_init : MethodName := ⟨RX0, "<init>", "()V"⟩
abbrev cX1_init : ByteArray := prog_3_method_1_code
def yX1_init : MethodName := ⟨RX1, "<init>", "()V"⟩
abbrev cX3_init : ByteArray := prog_5_method_1_code
def yX3_init : MethodName := ⟨RX3, "<init>", "(LFootholdWall$Tokens;)V"⟩
abbrev cX4_init : ByteArray := prog_6_method_1_code
def yX4_init : MethodName := ⟨RX4, "<init>", "()V"⟩
abbrev cX5_init : ByteArray := prog_7_method_1_code
def yX5_init : MethodName := ⟨RX5, "<init>", "(LFootholdWall$Wall;)V"⟩
abbrev cX6_init : ByteArray := prog_8_method_1_code
def yX6_init : MethodName := ⟨RX6, "<init>", "()V"⟩
abbrev cX7_init : ByteArray := prog_9_method_1_code
def yX7_init : MethodName := ⟨RX7, "<init>", "()V"⟩
abbrev cX8_init : ByteArray := prog_10_method_1_code
def yX8_init : MethodName := ⟨RX8, "<init>", "()V"⟩
abbrev cX9_init : ByteArray := prog_11_method_1_code
def yX9_init : MethodName := ⟨RX9, "<init>", "(IILFootholdWall$Law;)V"⟩
abbrev cX10_init : ByteArray := prog_12_method_1_code
def yX10_init : MethodName := ⟨RX10, "<init>", "()V"⟩
end
section
theorem dX0_init_0 : decode cX0_init 0 = .ok (.aload_n 0, 1) := by decide +kernel
theorem dX0_init_1 : decode cX0_init 1 = .ok (.invokespecial 3, 3) := by decide +kernel
theorem dX0_init_4 : decode cX0_init 4 = .ok (.aload_n 0, 1) := by decide +kernel
theorem dX0_init_5 : decode cX0_init 5 = .ok (.iconst 1, 1) := by decide +kernel
theorem dX0_init_6 : decode cX0_init 6 = .ok (.newarray .int, 2) := by decide +kernel
theorem dX0_init_8 : decode cX0_init 8 = .ok (.putfield 9, 3) := by decide +kernel
theorem dX0_init_11 : decode cX0_init 11 = .ok (.aload_n 0, 1) := by decide +kernel
theorem dX0_init_12 : decode cX0_init 12 = .ok (.iconst 0, 1) := by decide +kernel
theorem dX0_init_13 : decode cX0_init 13 = .ok (.putfield 15, 3) := by decide +kernel
theorem dX0_init_16 : decode cX0_init 16 = .ok (.aload_n 0, 1) := by decide +kernel
theorem dX0_init_17 : decode cX0_init 17 = .ok (.bipush 14, 2) := by decide +kernel
theorem dX0_init_19 : decode cX0_init 19 = .ok (.newarray .int, 2) := by decide +kernel
theorem dX0_init_21 : decode cX0_init 21 = .ok (.putfield 19, 3) := by decide +kernel
theorem dX0_init_24 : decode cX0_init 24 = .ok (.aload_n 0, 1) := by decide +kernel
theorem dX0_init_25 : decode cX0_init 25 = .ok (.bipush 14, 2) := by decide +kernel
theorem dX0_init_27 : decode cX0_init 27 = .ok (.newarray .int, 2) := by decide +kernel
theorem dX0_init_29 : decode cX0_init 29 = .ok (.putfield 22, 3) := by decide +kernel
theorem dX0_init_32 : decode cX0_init 32 = .ok (.return_, 1) := by decide +kernel
theorem dX10_init_0 : decode cX10_init 0 = .ok (.aload_n 0, 1) := by decide +kernel
theorem dX10_init_1 : decode cX10_init 1 = .ok (.invokespecial 3, 3) := by decide +kernel
theorem dX10_init_4 : decode cX10_init 4 = .ok (.aload_n 0, 1) := by decide +kernel
theorem dX10_init_5 : decode cX10_init 5 = .ok (.bipush 14, 2) := by decide +kernel
theorem dX10_init_7 : decode cX10_init 7 = .ok (.newarray .int, 2) := by decide +kernel
theorem dX10_init_9 : decode cX10_init 9 = .ok (.putfield 9, 3) := by decide +kernel
theorem dX10_init_12 : decode cX10_init 12 = .ok (.aload_n 0, 1) := by decide +kernel
theorem dX10_init_13 : decode cX10_init 13 = .ok (.bipush 14, 2) := by decide +kernel
theorem dX10_init_15 : decode cX10_init 15 = .ok (.newarray .int, 2) := by decide +kernel
theorem dX10_init_17 : decode cX10_init 17 = .ok (.putfield 15, 3) := by decide +kernel
theorem dX10_init_20 : decode cX10_init 20 = .ok (.aload_n 0, 1) := by decide +kernel
theorem dX10_init_21 : decode cX10_init 21 = .ok (.iconst 0, 1) := by decide +kernel
theorem dX10_init_22 : decode cX10_init 22 = .ok (.putfield 18, 3) := by decide +kernel
theorem dX10_init_25 : decode cX10_init 25 = .ok (.aload_n 0, 1) := by decide +kernel
theorem dX10_init_26 : decode cX10_init 26 = .ok (.bipush 14, 2) := by decide +kernel
theorem dX10_init_28 : decode cX10_init 28 = .ok (.newarray .long, 2) := by decide +kernel
theorem dX10_init_30 : decode cX10_init 30 = .ok (.putfield 22, 3) := by decide +kernel
theorem dX10_init_33 : decode cX10_init 33 = .ok (.aload_n 0, 1) := by decide +kernel
theorem dX10_init_34 : decode cX10_init 34 = .ok (.bipush 14, 2) := by decide +kernel
theorem dX10_init_36 : decode cX10_init 36 = .ok (.newarray .int, 2) := by decide +kernel
theorem dX10_init_38 : decode cX10_init 38 = .ok (.putfield 26, 3) := by decide +kernel
theorem dX10_init_41 : decode cX10_init 41 = .ok (.aload_n 0, 1) := by decide +kernel
theorem dX10_init_42 : decode cX10_init 42 = .ok (.bipush 14, 2) := by decide +kernel
theorem dX10_init_44 : decode cX10_init 44 = .ok (.newarray .int, 2) := by decide +kernel
theorem dX10_init_46 : decode cX10_init 46 = .ok (.putfield 29, 3) := by decide +kernel
theorem dX10_init_49 : decode cX10_init 49 = .ok (.aload_n 0, 1) := by decide +kernel
theorem dX10_init_50 : decode cX10_init 50 = .ok (.iconst 0, 1) := by decide +kernel
theorem dX10_init_51 : decode cX10_init 51 = .ok (.putfield 32, 3) := by decide +kernel
theorem dX10_init_54 : decode cX10_init 54 = .ok (.return_, 1) := by decide +kernel
theorem dX1_init_0 : decode cX1_init 0 = .ok (.aload_n 0, 1) := by decide +kernel
theorem dX1_init_1 : decode cX1_init 1 = .ok (.invokespecial 3, 3) := by decide +kernel
theorem dX1_init_4 : decode cX1_init 4 = .ok (.aload_n 0, 1) := by decide +kernel
theorem dX1_init_5 : decode cX1_init 5 = .ok (.bipush 14, 2) := by decide +kernel
theorem dX1_init_7 : decode cX1_init 7 = .ok (.newarray .int, 2) := by decide +kernel
theorem dX1_init_9 : decode cX1_init 9 = .ok (.putfield 9, 3) := by decide +kernel
theorem dX1_init_12 : decode cX1_init 12 = .ok (.aload_n 0, 1) := by decide +kernel
theorem dX1_init_13 : decode cX1_init 13 = .ok (.bipush 14, 2) := by decide +kernel
theorem dX1_init_15 : decode cX1_init 15 = .ok (.newarray .int, 2) := by decide +kernel
theorem dX1_init_17 : decode cX1_init 17 = .ok (.putfield 15, 3) := by decide +kernel
theorem dX1_init_20 : decode cX1_init 20 = .ok (.aload_n 0, 1) := by decide +kernel
theorem dX1_init_21 : decode cX1_init 21 = .ok (.iconst 0, 1) := by decide +kernel
theorem dX1_init_22 : decode cX1_init 22 = .ok (.putfield 18, 3) := by decide +kernel
theorem dX1_init_25 : decode cX1_init 25 = .ok (.aload_n 0, 1) := by decide +kernel
theorem dX1_init_26 : decode cX1_init 26 = .ok (.bipush 28, 2) := by decide +kernel
theorem dX1_init_28 : decode cX1_init 28 = .ok (.newarray .int, 2) := by decide +kernel
theorem dX1_init_30 : decode cX1_init 30 = .ok (.putfield 22, 3) := by decide +kernel
theorem dX1_init_33 : decode cX1_init 33 = .ok (.aload_n 0, 1) := by decide +kernel
theorem dX1_init_34 : decode cX1_init 34 = .ok (.iconst 0, 1) := by decide +kernel
theorem dX1_init_35 : decode cX1_init 35 = .ok (.putfield 25, 3) := by decide +kernel
theorem dX1_init_38 : decode cX1_init 38 = .ok (.aload_n 0, 1) := by decide +kernel
theorem dX1_init_39 : decode cX1_init 39 = .ok (.iconst 0, 1) := by decide +kernel
theorem dX1_init_40 : decode cX1_init 40 = .ok (.putfield 28, 3) := by decide +kernel
theorem dX1_init_43 : decode cX1_init 43 = .ok (.aload_n 0, 1) := by decide +kernel
theorem dX1_init_44 : decode cX1_init 44 = .ok (.bipush 28, 2) := by decide +kernel
theorem dX1_init_46 : decode cX1_init 46 = .ok (.newarray .int, 2) := by decide +kernel
theorem dX1_init_48 : decode cX1_init 48 = .ok (.putfield 31, 3) := by decide +kernel
theorem dX1_init_51 : decode cX1_init 51 = .ok (.return_, 1) := by decide +kernel
theorem dX3_init_0 : decode cX3_init 0 = .ok (.aload_n 0, 1) := by decide +kernel
theorem dX3_init_1 : decode cX3_init 1 = .ok (.invokespecial 3, 3) := by decide +kernel
theorem dX3_init_4 : decode cX3_init 4 = .ok (.aload_n 0, 1) := by decide +kernel
theorem dX3_init_5 : decode cX3_init 5 = .ok (.sipush 900, 3) := by decide +kernel
theorem dX3_init_8 : decode cX3_init 8 = .ok (.newarray .int, 2) := by decide +kernel
theorem dX3_init_10 : decode cX3_init 10 = .ok (.putfield 9, 3) := by decide +kernel
theorem dX3_init_13 : decode cX3_init 13 = .ok (.aload_n 0, 1) := by decide +kernel
theorem dX3_init_14 : decode cX3_init 14 = .ok (.iconst 0, 1) := by decide +kernel
theorem dX3_init_15 : decode cX3_init 15 = .ok (.putfield 15, 3) := by decide +kernel
theorem dX3_init_18 : decode cX3_init 18 = .ok (.aload_n 0, 1) := by decide +kernel
theorem dX3_init_19 : decode cX3_init 19 = .ok (.aload_n 1, 1) := by decide +kernel
theorem dX3_init_20 : decode cX3_init 20 = .ok (.putfield 19, 3) := by decide +kernel
theorem dX3_init_23 : decode cX3_init 23 = .ok (.return_, 1) := by decide +kernel
theorem dX5_init_0 : decode cX5_init 0 = .ok (.aload_n 0, 1) := by decide +kernel
theorem dX5_init_1 : decode cX5_init 1 = .ok (.invokespecial 3, 3) := by decide +kernel
theorem dX5_init_4 : decode cX5_init 4 = .ok (.aload_n 0, 1) := by decide +kernel
theorem dX5_init_5 : decode cX5_init 5 = .ok (.iconst 0, 1) := by decide +kernel
theorem dX5_init_6 : decode cX5_init 6 = .ok (.putfield 9, 3) := by decide +kernel
theorem dX5_init_9 : decode cX5_init 9 = .ok (.aload_n 0, 1) := by decide +kernel
theorem dX5_init_10 : decode cX5_init 10 = .ok (.iconst 0, 1) := by decide +kernel
theorem dX5_init_11 : decode cX5_init 11 = .ok (.putfield 15, 3) := by decide +kernel
theorem dX5_init_14 : decode cX5_init 14 = .ok (.aload_n 0, 1) := by decide +kernel
theorem dX5_init_15 : decode cX5_init 15 = .ok (.iconst 0, 1) := by decide +kernel
theorem dX5_init_16 : decode cX5_init 16 = .ok (.putfield 18, 3) := by decide +kernel
theorem dX5_init_19 : decode cX5_init 19 = .ok (.aload_n 0, 1) := by decide +kernel
theorem dX5_init_20 : decode cX5_init 20 = .ok (.bipush 14, 2) := by decide +kernel
theorem dX5_init_22 : decode cX5_init 22 = .ok (.newarray .int, 2) := by decide +kernel
theorem dX5_init_24 : decode cX5_init 24 = .ok (.putfield 21, 3) := by decide +kernel
theorem dX5_init_27 : decode cX5_init 27 = .ok (.aload_n 0, 1) := by decide +kernel
theorem dX5_init_28 : decode cX5_init 28 = .ok (.bipush 14, 2) := by decide +kernel
theorem dX5_init_30 : decode cX5_init 30 = .ok (.newarray .int, 2) := by decide +kernel
theorem dX5_init_32 : decode cX5_init 32 = .ok (.putfield 25, 3) := by decide +kernel
theorem dX5_init_35 : decode cX5_init 35 = .ok (.aload_n 0, 1) := by decide +kernel
theorem dX5_init_36 : decode cX5_init 36 = .ok (.aload_n 1, 1) := by decide +kernel
theorem dX5_init_37 : decode cX5_init 37 = .ok (.putfield 28, 3) := by decide +kernel
theorem dX5_init_40 : decode cX5_init 40 = .ok (.return_, 1) := by decide +kernel
theorem dX6_init_0 : decode cX6_init 0 = .ok (.aload_n 0, 1) := by decide +kernel
theorem dX6_init_1 : decode cX6_init 1 = .ok (.invokespecial 3, 3) := by decide +kernel
theorem dX6_init_4 : decode cX6_init 4 = .ok (.aload_n 0, 1) := by decide +kernel
theorem dX6_init_5 : decode cX6_init 5 = .ok (.iconst 0, 1) := by decide +kernel
theorem dX6_init_6 : decode cX6_init 6 = .ok (.putfield 9, 3) := by decide +kernel
theorem dX6_init_9 : decode cX6_init 9 = .ok (.aload_n 0, 1) := by decide +kernel
theorem dX6_init_10 : decode cX6_init 10 = .ok (.iconst 0, 1) := by decide +kernel
theorem dX6_init_11 : decode cX6_init 11 = .ok (.putfield 15, 3) := by decide +kernel
theorem dX6_init_14 : decode cX6_init 14 = .ok (.aload_n 0, 1) := by decide +kernel
theorem dX6_init_15 : decode cX6_init 15 = .ok (.iconst 0, 1) := by decide +kernel
theorem dX6_init_16 : decode cX6_init 16 = .ok (.putfield 18, 3) := by decide +kernel
theorem dX6_init_19 : decode cX6_init 19 = .ok (.aload_n 0, 1) := by decide +kernel
theorem dX6_init_20 : decode cX6_init 20 = .ok (.iconst 0, 1) := by decide +kernel
theorem dX6_init_21 : decode cX6_init 21 = .ok (.putfield 21, 3) := by decide +kernel
theorem dX6_init_24 : decode cX6_init 24 = .ok (.aload_n 0, 1) := by decide +kernel
theorem dX6_init_25 : decode cX6_init 25 = .ok (.bipush 14, 2) := by decide +kernel
theorem dX6_init_27 : decode cX6_init 27 = .ok (.newarray .int, 2) := by decide +kernel
theorem dX6_init_29 : decode cX6_init 29 = .ok (.putfield 24, 3) := by decide +kernel
theorem dX6_init_32 : decode cX6_init 32 = .ok (.aload_n 0, 1) := by decide +kernel
theorem dX6_init_33 : decode cX6_init 33 = .ok (.bipush 14, 2) := by decide +kernel
theorem dX6_init_35 : decode cX6_init 35 = .ok (.newarray .int, 2) := by decide +kernel
theorem dX6_init_37 : decode cX6_init 37 = .ok (.putfield 28, 3) := by decide +kernel
theorem dX6_init_40 : decode cX6_init 40 = .ok (.return_, 1) := by decide +kernel
theorem dX7_init_0 : decode cX7_init 0 = .ok (.aload_n 0, 1) := by decide +kernel
theorem dX7_init_1 : decode cX7_init 1 = .ok (.invokespecial 3, 3) := by decide +kernel
theorem dX7_init_4 : decode cX7_init 4 = .ok (.aload_n 0, 1) := by decide +kernel
theorem dX7_init_5 : decode cX7_init 5 = .ok (.iconst 0, 1) := by decide +kernel
theorem dX7_init_6 : decode cX7_init 6 = .ok (.newarray .byte, 2) := by decide +kernel
theorem dX7_init_8 : decode cX7_init 8 = .ok (.putfield 9, 3) := by decide +kernel
theorem dX7_init_11 : decode cX7_init 11 = .ok (.aload_n 0, 1) := by decide +kernel
theorem dX7_init_12 : decode cX7_init 12 = .ok (.iconst 0, 1) := by decide +kernel
theorem dX7_init_13 : decode cX7_init 13 = .ok (.putfield 15, 3) := by decide +kernel
theorem dX7_init_16 : decode cX7_init 16 = .ok (.aload_n 0, 1) := by decide +kernel
theorem dX7_init_17 : decode cX7_init 17 = .ok (.iconst 0, 1) := by decide +kernel
theorem dX7_init_18 : decode cX7_init 18 = .ok (.putfield 19, 3) := by decide +kernel
theorem dX7_init_21 : decode cX7_init 21 = .ok (.aload_n 0, 1) := by decide +kernel
theorem dX7_init_22 : decode cX7_init 22 = .ok (.iconst 0, 1) := by decide +kernel
theorem dX7_init_23 : decode cX7_init 23 = .ok (.putfield 22, 3) := by decide +kernel
theorem dX7_init_26 : decode cX7_init 26 = .ok (.aload_n 0, 1) := by decide +kernel
theorem dX7_init_27 : decode cX7_init 27 = .ok (.iconst 0, 1) := by decide +kernel
theorem dX7_init_28 : decode cX7_init 28 = .ok (.putfield 25, 3) := by decide +kernel
theorem dX7_init_31 : decode cX7_init 31 = .ok (.aload_n 0, 1) := by decide +kernel
theorem dX7_init_32 : decode cX7_init 32 = .ok (.iconst 0, 1) := by decide +kernel
theorem dX7_init_33 : decode cX7_init 33 = .ok (.putfield 28, 3) := by decide +kernel
theorem dX7_init_36 : decode cX7_init 36 = .ok (.aload_n 0, 1) := by decide +kernel
theorem dX7_init_37 : decode cX7_init 37 = .ok (.iconst 0, 1) := by decide +kernel
theorem dX7_init_38 : decode cX7_init 38 = .ok (.putfield 31, 3) := by decide +kernel
theorem dX7_init_41 : decode cX7_init 41 = .ok (.aload_n 0, 1) := by decide +kernel
theorem dX7_init_42 : decode cX7_init 42 = .ok (.iconst (-1), 1) := by decide +kernel
theorem dX7_init_43 : decode cX7_init 43 = .ok (.putfield 34, 3) := by decide +kernel
theorem dX7_init_46 : decode cX7_init 46 = .ok (.return_, 1) := by decide +kernel
theorem dX8_init_0 : decode cX8_init 0 = .ok (.aload_n 0, 1) := by decide +kernel
theorem dX8_init_1 : decode cX8_init 1 = .ok (.invokespecial 3, 3) := by decide +kernel
theorem dX8_init_4 : decode cX8_init 4 = .ok (.aload_n 0, 1) := by decide +kernel
theorem dX8_init_5 : decode cX8_init 5 = .ok (.bipush 40, 2) := by decide +kernel
theorem dX8_init_7 : decode cX8_init 7 = .ok (.newarray .long, 2) := by decide +kernel
theorem dX8_init_9 : decode cX8_init 9 = .ok (.putfield 9, 3) := by decide +kernel
theorem dX8_init_12 : decode cX8_init 12 = .ok (.aload_n 0, 1) := by decide +kernel
theorem dX8_init_13 : decode cX8_init 13 = .ok (.iconst 0, 1) := by decide +kernel
theorem dX8_init_14 : decode cX8_init 14 = .ok (.putfield 15, 3) := by decide +kernel
theorem dX8_init_17 : decode cX8_init 17 = .ok (.aload_n 0, 1) := by decide +kernel
theorem dX8_init_18 : decode cX8_init 18 = .ok (.iconst (-1), 1) := by decide +kernel
theorem dX8_init_19 : decode cX8_init 19 = .ok (.putfield 19, 3) := by decide +kernel
theorem dX8_init_22 : decode cX8_init 22 = .ok (.return_, 1) := by decide +kernel
theorem dX9_init_0 : decode cX9_init 0 = .ok (.aload_n 0, 1) := by decide +kernel
theorem dX9_init_1 : decode cX9_init 1 = .ok (.invokespecial 1, 3) := by decide +kernel
theorem dX9_init_4 : decode cX9_init 4 = .ok (.aload_n 0, 1) := by decide +kernel
theorem dX9_init_5 : decode cX9_init 5 = .ok (.iconst 0, 1) := by decide +kernel
theorem dX9_init_6 : decode cX9_init 6 = .ok (.putfield 7, 3) := by decide +kernel
theorem dX9_init_9 : decode cX9_init 9 = .ok (.aload_n 0, 1) := by decide +kernel
theorem dX9_init_10 : decode cX9_init 10 = .ok (.iconst 0, 1) := by decide +kernel
theorem dX9_init_11 : decode cX9_init 11 = .ok (.putfield 13, 3) := by decide +kernel
theorem dX9_init_14 : decode cX9_init 14 = .ok (.aload_n 0, 1) := by decide +kernel
theorem dX9_init_15 : decode cX9_init 15 = .ok (.iconst 0, 1) := by decide +kernel
theorem dX9_init_16 : decode cX9_init 16 = .ok (.putfield 16, 3) := by decide +kernel
theorem dX9_init_19 : decode cX9_init 19 = .ok (.aload_n 0, 1) := by decide +kernel
theorem dX9_init_20 : decode cX9_init 20 = .ok (.iconst 0, 1) := by decide +kernel
theorem dX9_init_21 : decode cX9_init 21 = .ok (.putfield 19, 3) := by decide +kernel
theorem dX9_init_24 : decode cX9_init 24 = .ok (.aload_n 0, 1) := by decide +kernel
theorem dX9_init_25 : decode cX9_init 25 = .ok (.iconst 0, 1) := by decide +kernel
theorem dX9_init_26 : decode cX9_init 26 = .ok (.iload_n 1, 1) := by decide +kernel
theorem dX9_init_27 : decode cX9_init 27 = .ok (.invokestatic 22, 3) := by decide +kernel
theorem dX9_init_30 : decode cX9_init 30 = .ok (.putfield 28, 3) := by decide +kernel
theorem dX9_init_33 : decode cX9_init 33 = .ok (.aload_n 0, 1) := by decide +kernel
theorem dX9_init_34 : decode cX9_init 34 = .ok (.iconst 0, 1) := by decide +kernel
theorem dX9_init_35 : decode cX9_init 35 = .ok (.iload_n 2, 1) := by decide +kernel
theorem dX9_init_36 : decode cX9_init 36 = .ok (.invokestatic 22, 3) := by decide +kernel
theorem dX9_init_39 : decode cX9_init 39 = .ok (.putfield 31, 3) := by decide +kernel
theorem dX9_init_42 : decode cX9_init 42 = .ok (.aload_n 0, 1) := by decide +kernel
theorem dX9_init_43 : decode cX9_init 43 = .ok (.aload_n 0, 1) := by decide +kernel
theorem dX9_init_44 : decode cX9_init 44 = .ok (.getfield 28, 3) := by decide +kernel
theorem dX9_init_47 : decode cX9_init 47 = .ok (.newarray .int, 2) := by decide +kernel
theorem dX9_init_49 : decode cX9_init 49 = .ok (.putfield 34, 3) := by decide +kernel
theorem dX9_init_52 : decode cX9_init 52 = .ok (.aload_n 0, 1) := by decide +kernel
theorem dX9_init_53 : decode cX9_init 53 = .ok (.aload_n 0, 1) := by decide +kernel
theorem dX9_init_54 : decode cX9_init 54 = .ok (.getfield 28, 3) := by decide +kernel
theorem dX9_init_57 : decode cX9_init 57 = .ok (.newarray .int, 2) := by decide +kernel
theorem dX9_init_59 : decode cX9_init 59 = .ok (.putfield 38, 3) := by decide +kernel
theorem dX9_init_62 : decode cX9_init 62 = .ok (.aload_n 0, 1) := by decide +kernel
theorem dX9_init_63 : decode cX9_init 63 = .ok (.aload_n 0, 1) := by decide +kernel
theorem dX9_init_64 : decode cX9_init 64 = .ok (.getfield 28, 3) := by decide +kernel
theorem dX9_init_67 : decode cX9_init 67 = .ok (.newarray .int, 2) := by decide +kernel
theorem dX9_init_69 : decode cX9_init 69 = .ok (.putfield 41, 3) := by decide +kernel
theorem dX9_init_72 : decode cX9_init 72 = .ok (.aload_n 0, 1) := by decide +kernel
theorem dX9_init_73 : decode cX9_init 73 = .ok (.aload_n 0, 1) := by decide +kernel
theorem dX9_init_74 : decode cX9_init 74 = .ok (.getfield 31, 3) := by decide +kernel
theorem dX9_init_77 : decode cX9_init 77 = .ok (.newarray .int, 2) := by decide +kernel
theorem dX9_init_79 : decode cX9_init 79 = .ok (.putfield 44, 3) := by decide +kernel
theorem dX9_init_82 : decode cX9_init 82 = .ok (.aload_n 0, 1) := by decide +kernel
theorem dX9_init_83 : decode cX9_init 83 = .ok (.aload_n 0, 1) := by decide +kernel
theorem dX9_init_84 : decode cX9_init 84 = .ok (.getfield 31, 3) := by decide +kernel
theorem dX9_init_87 : decode cX9_init 87 = .ok (.newarray .int, 2) := by decide +kernel
theorem dX9_init_89 : decode cX9_init 89 = .ok (.putfield 47, 3) := by decide +kernel
theorem dX9_init_92 : decode cX9_init 92 = .ok (.aload_n 0, 1) := by decide +kernel
theorem dX9_init_93 : decode cX9_init 93 = .ok (.aload_n 3, 1) := by decide +kernel
theorem dX9_init_94 : decode cX9_init 94 = .ok (.putfield 50, 3) := by decide +kernel
theorem dX9_init_97 : decode cX9_init 97 = .ok (.aload_n 0, 1) := by decide +kernel
theorem dX9_init_98 : decode cX9_init 98 = .ok (.aload_n 3, 1) := by decide +kernel
theorem dX9_init_99 : decode cX9_init 99 = .ok (.ifnull 16, 3) := by decide +kernel
theorem dX9_init_115 : decode cX9_init 115 = .ok (.iconst 0, 1) := by decide +kernel
theorem dX9_init_116 : decode cX9_init 116 = .ok (.putfield 60, 3) := by decide +kernel
theorem dX9_init_119 : decode cX9_init 119 = .ok (.aload_n 0, 1) := by decide +kernel
theorem dX9_init_120 : decode cX9_init 120 = .ok (.aload_n 3, 1) := by decide +kernel
theorem dX9_init_121 : decode cX9_init 121 = .ok (.ifnull 11, 3) := by decide +kernel
theorem dX9_init_132 : decode cX9_init 132 = .ok (.iconst 1, 1) := by decide +kernel
theorem dX9_init_133 : decode cX9_init 133 = .ok (.goto 4, 3) := by decide +kernel
theorem dX9_init_137 : decode cX9_init 137 = .ok (.putfield 64, 3) := by decide +kernel
theorem dX9_init_140 : decode cX9_init 140 = .ok (.return_, 1) := by decide +kernel
end
section
/-! my own kit for p1: one list of words for all methods, contracts over worlds as lists, calls and returns as one row each -/
def gw : List Cond := lw_tbl.filter goodWord
theorem gw_of {w : Cond} (h : w ∈ lw_tbl) (g : goodWord w = true) : w ∈ gw := List.mem_filter.mpr ⟨h, g⟩
theorem gw_good {w : Cond} (h : w ∈ gw) : (w.onTables && w.keeps) = true ∨ ∃ ty, w = .arrayClass ty := good_of_word (List.mem_filter.mp h).2
theorem gw_tbl {w : Cond} (h : w ∈ gw) : w ∈ lw_tbl := (List.mem_filter.mp h).1
theorem tb_of {w : Cond} (i : Nat) (h : tables_1[i]? = some w) : w ∈ lw_tbl := List.mem_append_right _ (List.mem_of_getElem? h)
theorem pv_of {w : Cond} (i : Nat) (h : (k2_sels lw_privs)[i]? = some w) : w ∈ lw_tbl := List.mem_append_left _ (List.mem_of_getElem? h)
theorem u_gw {ws : List Cond} (h : ws.all (fun w => decide (w ∈ lw_tbl) && goodWord w) = true) : ∀ w ∈ ws, w ∈ gw := by
  intro w hw
  have h1 := List.all_eq_true.mp h w hw
  simp only [Bool.and_eq_true, decide_eq_true_eq] at h1
  exact gw_of h1.1 h1.2
theorem gi_app {a b : List Cond} (ha : ∀ w ∈ a, w ∈ gw) (hb : GoodIn gw b) : GoodIn gw (a ++ b) := by
  intro w hw
  rcases List.mem_append.mp hw with h | h
  · exact ⟨ha w h, gw_good (ha w h)⟩
  · exact hb w h
theorem gi_M {y : MethodName} {b : ByteArray} {n : Nat} {r : Option FieldType} (h : Cond.code y b n r ∈ gw) : GoodIn gw (Cond.code y b n r :: gw) := by
  intro w hw
  rcases List.mem_cons.mp hw with rfl | hw
  · exact ⟨h, gw_good h⟩
  · exact ⟨hw, gw_good hw⟩
abbrev wl (y : MethodName) (b : ByteArray) (n : Nat) (r : Option FieldType) : List Cond := Cond.code y b n r :: gw
abbrev cls : List vw_C := [(RX0, TX0, 4), (RX1, TX1, 7), (RX2, TX2, 3), (RX3, TX3, 3), (RX4, TX4, 5), (RX5, TX5, 6), (RX6, TX6, 6), (RX7, TX7, 8), (RX8, TX8, 3), (RX9, TX9, 14), (RX10, TX10, 7), (RX11, TX11, 20), (RX12, TX12, 36)]
/-- the array classes: byte, int, long, boolean, State, Wall, Tray, Rows -/
abbrev tyl (cB cI cJ cZ cS cW cT cR : ClassId) : List (ClassId × FieldType) := [(cB, .byte), (cI, .int), (cJ, .long), (cZ, .boolean), (cS, .object RX6), (cW, .object RX9), (cT, .object RX8), (cR, .object RX5)]
def kb (D : va_G) (ty : List (ClassId × FieldType)) (U : State) : Prop := va_K D cls ty U ∧ (va_AO RX6 U ∧ va_AO RX9 U ∧ va_AO RX8 U ∧ va_AO RX5 U) ∧ va_Nw (.methodLinkNest RX11 19 yX4_init RX11) U ∧ va_Nw (.methodLinkNest RX4 11 yX7_init RX11) U ∧ va_Nw (.methodLinkNest RX4 42 yX6_init RX11) U ∧ va_Nw (.methodLinkNest RX11 35 yX6_init RX11) U ∧ va_Nw (.methodLinkNest RX11 81 yX10_init RX11) U ∧ va_Nw (.methodLinkNest RX11 88 yX1_init RX11) U ∧ va_Nw (.methodLinkNest RX11 95 yX0_init RX11) U ∧ va_Nw (.methodLinkNest RX11 110 yX8_init RX11) U
theorem kb.warm {D : va_G} {ty : List (ClassId × FieldType)} {s U : State} (hW : s.WarmedH U.vm) (h : kb D ty s) : kb D ty U := by
  obtain ⟨h1, ⟨a1, a2, a3, a4⟩, n1, n2, n3, n4, n5, n6, n7, n8⟩ := h
  exact ⟨va_K.moved hW.alike h1, ⟨va_AO.moved hW.alike a1, va_AO.moved hW.alike a2, va_AO.moved hW.alike a3, va_AO.moved hW.alike a4⟩, va_Nw.warmM hW n1, va_Nw.warmM hW n2, va_Nw.warmM hW n3, va_Nw.warmM hW n4, va_Nw.warmM hW n5, va_Nw.warmM hW n6, va_Nw.warmM hW n7, va_Nw.warmM hW n8⟩
theorem kb.same {D : va_G} {ty : List (ClassId × FieldType)} {s U : State} (hv : s.vm = U.vm) (h : kb D ty s) : kb D ty U := by
  obtain ⟨h1, ⟨a1, a2, a3, a4⟩, n1, n2, n3, n4, n5, n6, n7, n8⟩ := h
  have al : s.vm.Alike U.vm := by rw [hv]; exact Vm.Alike.refl _
  exact ⟨va_K.moved al h1, ⟨va_AO.moved al a1, va_AO.moved al a2, va_AO.moved al a3, va_AO.moved al a4⟩, va_Nw.same rfl hv n1, va_Nw.same rfl hv n2, va_Nw.same rfl hv n3, va_Nw.same rfl hv n4, va_Nw.same rfl hv n5, va_Nw.same rfl hv n6, va_Nw.same rfl hv n7, va_Nw.same rfl hv n8⟩
def pr (D : va_G) (ty : List (ClassId × FieldType)) (ws : va_W) (sz : Nat) (U : State) : Prop := U.heap.size = sz ∧ va_P D cls ws U.heap ∧ kb D ty U ∧ va_D (fun _ => True) ws
theorem pr.blind {D : va_G} {ty : List (ClassId × FieldType)} {ws : va_W} {sz : Nat} {as : List Value} : FrameBlind (va_Pc as (pr D ty ws sz)) := fun a U g mk q => by
  obtain ⟨q0, q1, qP, qK, qD⟩ := q
  exact ⟨q0, q1, qP, kb.same rfl qK, qD⟩
def bw (D : va_G) (A : Nat → Prop) (u : va_W) (t : State) : Prop := va_P D cls u t.heap ∧ va_D A u
def bwr (D : va_G) (A : Nat → Prop) (u : va_W × Nat) (a : Nat) (t : State) : Prop := a = u.2 ∧ va_P D cls u.1 t.heap ∧ va_D A u.1
abbrev Qi (D : va_G) (post : Int32 → va_W → Prop) (A : Nat → Prop) : Array Value → State → Outcome → State → Prop := va_Qi post (bw D A) A
abbrev Ql (D : va_G) (post : Int64 → va_W → Prop) (A : Nat → Prop) : Array Value → State → Outcome → State → Prop := va_Ql post (bw D A) A
abbrev Qv (D : va_G) (post : va_W → Prop) (A : Nat → Prop) : Array Value → State → Outcome → State → Prop := va_Qv post (bw D A) A
abbrev Qr (D : va_G) (post : va_W × Nat → Prop) (A : Nat → Prop) : Array Value → State → Outcome → State → Prop := va_Qr post (bwr D A) A
/-- a contract: from the cells ws and the values as to Q -/
def Kon (l : Launch) (D : va_G) (ty : List (ClassId × FieldType)) (y : MethodName) (b : ByteArray) (n : Nat) (r : Option FieldType) (rm : Room) (as : List Value) (ws : va_W) (Q : (Nat → Prop) → Array Value → State → Outcome → State → Prop) : Prop :=
  ∀ sz : Nat, Met l y (wl y b n r) rm (va_Pc as (pr D ty ws sz)) (Q (va_A ws sz)) rm.cells rm.slots (va_A ws sz)
theorem kon_of {l : Launch} {D : va_G} {ty : List (ClassId × FieldType)} {y : MethodName} {b : ByteArray} {n : Nat} {r : Option FieldType} {rm : Room} {as : List Value} {ws : va_W} {Q : (Nat → Prop) → Array Value → State → Outcome → State → Prop} (hy : plainName y.cls = true) (hlen : (lg_sl as).length ≤ n)
    (body : ∀ (p : Program) (e : Env) (s : State) (m : MethodId) (below : List Frame) (meth : Method) (c : Code) (ls : Array Slot) (A : Nat → Prop), p.tables.exec = Jvm.exec → c.code = b → meth.sig.returnType = r → c.maxLocals = n → s.vm.findClass y.cls = some m.cls → (∀ w ∈ gw, w.before as.toArray s = true) → meth.locks = false → meth.name = y.name → kb D ty s → va_P D cls ws s.heap → va_D A ws → va_S A s.heap s.heap [] → (∀ q : Nat, s.heap.size ≤ q → A q) → lv_has ls n (lv_args 0 as) →
      W p l e rm s m as.toArray below meth c s.heap [] 0 0 (MQ below (Q A) as.toArray s rm.cells rm.slots A) (F0 m 0 ls [])) : Kon l D ty y b n r rm as ws Q := by
  intro sz
  refine Met.ofW (cc := b) (maxL := n) (ret := r) hy rfl ?_
  intro p e s m args below meth c s₁ B hml hv
  obtain ⟨rfl, hsz, hP, hK, hD0⟩ := hv
  have hts := atoms_spec (ws := wl y b n r) B.pre
  subst hsz
  have hD := hD0.self (sz := s.heap.size)
  rw [lg_entry_eq]
  exact body p e s m below meth c _ _ B.exec B.bytes B.returns hml (findClass_of_methodNamed B.named) (fun w hw => hts w (List.mem_cons_of_mem _ hw)) B.notSynchronized (name_of_methodNamed B.named B.method).1 hK hP hD va_S.rf (fun q h => Or.inr h) (lv_entry as hlen)
section MyRows
variable {p : Program} {l : Launch} {e : Env} {R : Room} {s : State} {m : MethodId} {args : Array Value} {below : List Frame} {meth : Method} {c : Code} {H : Heap} {locs : List Loc} {cells slots : Nat} {Q : State → Prop}
variable {cc : ByteArray} {pc : Nat} {ls : Array Slot} {rest : List Value} {D : va_G} {A : Nat → Prop} {a : Nat} {ty : List (ClassId × FieldType)} {ws : va_W} {H0 : Heap}
theorem lv_topc {x y : Int32} (h : x = y) (k : W p l e R s m args below meth c H locs cells slots Q (F0 m pc ls (.int y :: rest))) : W p l e R s m args below meth c H locs cells slots Q (F0 m pc ls (.int x :: rest)) := h ▸ k
theorem lv_topcl {x y : Int64} (h : x = y) (k : W p l e R s m args below meth c H locs cells slots Q (F0 m pc ls (.long y :: rest))) : W p l e R s m args below meth c H locs cells slots Q (F0 m pc ls (.long x :: rest)) := h ▸ k
theorem lv_topcv {x y : Value} (h : x = y) (k : W p l e R s m args below meth c H locs cells slots Q (F0 m pc ls (y :: rest))) : W p l e R s m args below meth c H locs cells slots Q (F0 m pc ls (x :: rest)) := h ▸ k
theorem in_c {i : Int32} {n : Nat} (h : (decide (i < 0) || decide (n ≤ i.toNatClampNeg)) = false) : vp_in i n := by
  intro q
  rcases q with q | q
  · rw [decide_eq_true q] at h; cases h
  · rw [decide_eq_true q, Bool.or_true] at h; cases h
/-- stores at a known place -/
theorem s_i {cA : ClassId} {n : Nat} {f : Nat → Int32} {i x : Int32} (q0 t0 : Nat) (hx : p.tables.exec = Jvm.exec) (hb : c.code = cc) (hK : va_K D cls ty s) (hP : va_P D cls ws H) (hD : va_D A ws) (hS : va_S A H0 H locs) (ha : ws[q0]? = some (a, .inl (cA, n, .inl f))) (ht : ty[t0]? = some (cA, .int)) (hin : vp_in i n) (k : Nat) (hk : i.toNatClampNeg = k) (hdg : decode cc pc = .ok (.iastore, 1))
    (kk : ∀ (H1 : Heap) (locs1 : List Loc), va_P D cls (ws.set q0 (a, .inl (cA, n, .inl (upd f k x)))) H1 → va_D A (ws.set q0 (a, .inl (cA, n, .inl (upd f k x)))) → va_S A H0 H1 locs1 → W p l e R s m args below meth c H1 locs1 cells slots Q (F0 m (pc + 1) ls rest)) : W p l e R s m args below meth c H locs cells slots Q (F0 m pc ls (.int x :: .int i :: .ref a :: rest)) := by
  subst hk
  exact va_iast hx hb hK hP hD hS q0 t0 ha ht hin hdg kk
theorem s_b {cA : ClassId} {n : Nat} {f : Nat → Int32} {i x : Int32} (q0 t0 : Nat) (hx : p.tables.exec = Jvm.exec) (hb : c.code = cc) (hK : va_K D cls ty s) (hP : va_P D cls ws H) (hD : va_D A ws) (hS : va_S A H0 H locs) (ha : ws[q0]? = some (a, .inl (cA, n, .inl f))) (ht : ty[t0]? = some (cA, .byte)) (hin : vp_in i n) (k : Nat) (hk : i.toNatClampNeg = k) (hdg : decode cc pc = .ok (.bastore, 1))
    (kk : ∀ (H1 : Heap) (locs1 : List Loc), va_P D cls (ws.set q0 (a, .inl (cA, n, .inl (upd f k (vp_nar .byte x))))) H1 → va_D A (ws.set q0 (a, .inl (cA, n, .inl (upd f k (vp_nar .byte x))))) → va_S A H0 H1 locs1 → W p l e R s m args below meth c H1 locs1 cells slots Q (F0 m (pc + 1) ls rest)) : W p l e R s m args below meth c H locs cells slots Q (F0 m pc ls (.int x :: .int i :: .ref a :: rest)) := by
  subst hk
  exact va_bast hx hb hK hP hD hS q0 t0 ha ht hin hdg kk
theorem s_z {cA : ClassId} {n : Nat} {f : Nat → Int32} {i x : Int32} (q0 t0 : Nat) (hx : p.tables.exec = Jvm.exec) (hb : c.code = cc) (hK : va_K D cls ty s) (hP : va_P D cls ws H) (hD : va_D A ws) (hS : va_S A H0 H locs) (ha : ws[q0]? = some (a, .inl (cA, n, .inl f))) (ht : ty[t0]? = some (cA, .boolean)) (hin : vp_in i n) (k : Nat) (hk : i.toNatClampNeg = k) (hdg : decode cc pc = .ok (.bastore, 1))
    (kk : ∀ (H1 : Heap) (locs1 : List Loc), va_P D cls (ws.set q0 (a, .inl (cA, n, .inl (upd f k (vp_nar .boolean x))))) H1 → va_D A (ws.set q0 (a, .inl (cA, n, .inl (upd f k (vp_nar .boolean x))))) → va_S A H0 H1 locs1 → W p l e R s m args below meth c H1 locs1 cells slots Q (F0 m (pc + 1) ls rest)) : W p l e R s m args below meth c H locs cells slots Q (F0 m pc ls (.int x :: .int i :: .ref a :: rest)) := by
  subst hk
  exact va_zast hx hb hK hP hD hS q0 t0 ha ht hin hdg kk
theorem s_l {cA : ClassId} {n : Nat} {f : Nat → Int64} {i : Int32} {x : Int64} (q0 t0 : Nat) (hx : p.tables.exec = Jvm.exec) (hb : c.code = cc) (hK : va_K D cls ty s) (hP : va_P D cls ws H) (hD : va_D A ws) (hS : va_S A H0 H locs) (ha : ws[q0]? = some (a, .inl (cA, n, .inr (.inl f)))) (ht : ty[t0]? = some (cA, .long)) (hin : vp_in i n) (k : Nat) (hk : i.toNatClampNeg = k) (hdg : decode cc pc = .ok (.lastore, 1))
    (kk : ∀ (H1 : Heap) (locs1 : List Loc), va_P D cls (ws.set q0 (a, .inl (cA, n, .inr (.inl (vp_updL f k x))))) H1 → va_D A (ws.set q0 (a, .inl (cA, n, .inr (.inl (vp_updL f k x))))) → va_S A H0 H1 locs1 → W p l e R s m args below meth c H1 locs1 cells slots Q (F0 m (pc + 1) ls rest)) : W p l e R s m args below meth c H locs cells slots Q (F0 m pc ls (.long x :: .int i :: .ref a :: rest)) := by
  subst hk
  exact va_last hx hb hK hP hD hS q0 t0 ha ht hin hdg kk
theorem s_q {cA : ClassId} {r : vw_C} {n v : Nat} {vs : List Value} {f : Nat → Option Nat} {i : Int32} (q0 t0 qk ci : Nat) (hx : p.tables.exec = Jvm.exec) (hb : c.code = cc) (hK : va_K D cls ty s) (hP : va_P D cls ws H) (hD : va_D A ws) (hS : va_S A H0 H locs) (ha : ws[q0]? = some (a, .inl (cA, n, .inr (.inr (.inr (.inr f)))))) (ht : ty[t0]? = some (cA, .object r.1)) (hv : ws[qk]? = some (v, .inr (ci, vs))) (hc : cls[ci]? = some r) (hin : vp_in i n) (k : Nat) (hk : i.toNatClampNeg = k) (hdg : decode cc pc = .ok (.aastore, 1))
    (kk : ∀ (H1 : Heap) (locs1 : List Loc), va_P D cls (ws.set q0 (a, .inl (cA, n, .inr (.inr (.inr (.inr (va_up f k (some v)))))))) H1 → va_D A (ws.set q0 (a, .inl (cA, n, .inr (.inr (.inr (.inr (va_up f k (some v)))))))) → va_S A H0 H1 locs1 → W p l e R s m args below meth c H1 locs1 cells slots Q (F0 m (pc + 1) ls rest)) : W p l e R s m args below meth c H locs cells slots Q (F0 m pc ls (.ref v :: .int i :: .ref a :: rest)) := by
  subst hk
  exact va_astq hx hb hK hP hD hS q0 t0 qk ci ha ht hv hc hin hdg kk
/-- the run of a call, kinds: virtual, static, init, a nest mate's init -/
theorem r_V {own C : String} {idx n n' nL ci q0 : Nat} {y : MethodName} {yb : ByteArray} {r : Option FieldType} {rm : Room} {b : Addr} {As st : List Value} {wc : va_W} {fs : List Value} {T : u_T} {N : Nat} {Qm : (Nat → Prop) → Array Value → State → Outcome → State → Prop}
    (hx : p.tables.exec = Jvm.exec) (hb : c.code = cc) (hml : c.maxLocals = nL) (hown : s.vm.findClass own = some m.cls) (hts : ∀ w ∈ gw, w.before args s = true) (hkb : kb D ty s) (hP : va_P D cls wc H) (hD : va_D A wc)
    (hM : Kon l D ty y yb n' r rm (.ref b :: As) wc Qm) (h1 : Cond.methodLink own idx y ∈ gw) (h2 : Cond.instanceMethod y ∈ gw) (h3 : Cond.selects C y y ∈ gw) (h4 : Cond.initialized C ∈ gw) (h5 : Cond.code y yb n' r ∈ gw)
    (hd : y.cls = C ∧ y.cls ≠ "java/lang/invoke/MethodHandle" ∧ y.cls ≠ "java/lang/invoke/VarHandle" ∧ (parseMethodDescriptor y.desc).map (fun d => d.parameters.length) = some n) (hR : rm.frames + 1 ≤ R.frames ∧ 8 + (n' + 11) + rm.locals ≤ R.locals)
    (he : wc[q0]? = some (b, .inr (ci, fs))) (hc : cls[ci]? = some (C, T, N)) (hn : As.length = n) (hst : st = As.reverse ++ .ref b :: rest) (hsz : ls.size = nL) (hW : (rest.map fun v => v.category).sum ≤ 8) (hdg : decode cc pc = .ok (.invokevirtual idx, 3)) (hf : cells + rm.cells ≤ R.cells ∧ slots + rm.slots ≤ R.slots) :
    va_Run p l e R s m args below meth c H locs cells slots rm.cells rm.slots (F0 m pc ls st) rest (Qm (va_A wc H.size) (Value.ref b :: As).toArray) (va_A wc H.size) := by
  subst hst
  have hG : GoodIn gw (wsV own idx C y (wl y yb n' r)) := gi_app (fun w hw => by
    simp only [List.mem_cons, List.not_mem_nil, or_false] at hw
    rcases hw with rfl | rfl | rfl | rfl
    · exact h1
    · exact h2
    · exact h3
    · exact h4) (gi_M h5)
  exact va_runV (As := As) (rest := rest) ⟨hx, hb, hml, hown, hts⟩ (hM H.size) (cwV n hts hG rfl rfl rfl hd hR) ⟨pr.blind, va_recv hkb.1 hP hc he, fun U hU hW => ⟨rfl, by rw [hU], by rw [hU]; exact hP, kb.warm hW hkb, hD.weaken (fun _ _ _ _ => trivial)⟩⟩ rfl hn hsz rfl (lv_room hW) hdg hf
theorem r_S {own : String} {idx n n' nL : Nat} {y : MethodName} {yb : ByteArray} {r : Option FieldType} {rm : Room} {As st : List Value} {wc : va_W} {Qm : (Nat → Prop) → Array Value → State → Outcome → State → Prop}
    (hx : p.tables.exec = Jvm.exec) (hb : c.code = cc) (hml : c.maxLocals = nL) (hown : s.vm.findClass own = some m.cls) (hts : ∀ w ∈ gw, w.before args s = true) (hkb : kb D ty s) (hP : va_P D cls wc H) (hD : va_D A wc)
    (hM : Kon l D ty y yb n' r rm As wc Qm) (h1 : Cond.methodLink own idx y ∈ gw) (h2 : Cond.static y ∈ gw) (h4 : Cond.initialized y.cls ∈ gw) (h5 : Cond.code y yb n' r ∈ gw)
    (hd : y.cls ≠ "java/lang/invoke/MethodHandle" ∧ y.cls ≠ "java/lang/invoke/VarHandle" ∧ (parseMethodDescriptor y.desc).map (fun d => d.parameters.length) = some n) (hR : rm.frames + 1 ≤ R.frames ∧ 8 + (n' + 11) + rm.locals ≤ R.locals)
    (hn : As.length = n) (hst : st = As.reverse ++ rest) (hsz : ls.size = nL) (hW : (rest.map fun v => v.category).sum ≤ 8) (hdg : decode cc pc = .ok (.invokestatic idx, 3)) (hf : cells + rm.cells ≤ R.cells ∧ slots + rm.slots ≤ R.slots) :
    va_Run p l e R s m args below meth c H locs cells slots rm.cells rm.slots (F0 m pc ls st) rest (Qm (va_A wc H.size) As.toArray) (va_A wc H.size) := by
  subst hst
  exact va_runS (As := As) (rest := rest) ⟨hx, hb, hml, hown, hts⟩ (hM H.size) ⟨callB_of n hts (gi_M h5) rfl rfl rfl (hts _ h4) (hts _ h1) hd hR, hts _ h2⟩ ⟨pr.blind, fun U hU hW => ⟨rfl, by rw [hU], by rw [hU]; exact hP, kb.warm hW hkb, hD.weaken (fun _ _ _ _ => trivial)⟩⟩ rfl hn hsz rfl (lv_room hW) hdg hf
theorem r_I {own : String} {idx n n' nL : Nat} {y : MethodName} {yb : ByteArray} {rm : Room} {b : Addr} {As st : List Value} {wc : va_W} {Qm : (Nat → Prop) → Array Value → State → Outcome → State → Prop}
    (hx : p.tables.exec = Jvm.exec) (hb : c.code = cc) (hml : c.maxLocals = nL) (hown : s.vm.findClass own = some m.cls) (hts : ∀ w ∈ gw, w.before args s = true) (hkb : kb D ty s) (hP : va_P D cls wc H) (hD : va_D A wc)
    (hM : Kon l D ty y yb n' none rm (.ref b :: As) wc Qm) (h1 : Cond.methodLink own idx y ∈ gw) (h2 : Cond.instanceMethod y ∈ gw) (h4 : Cond.initialized y.cls ∈ gw) (h5 : Cond.code y yb n' none ∈ gw) (hy1 : y.name = "<init>")
    (hd : y.cls ≠ "java/lang/invoke/MethodHandle" ∧ y.cls ≠ "java/lang/invoke/VarHandle" ∧ (parseMethodDescriptor y.desc).map (fun d => d.parameters.length) = some n) (hR : rm.frames + 1 ≤ R.frames ∧ 8 + (n' + 11) + rm.locals ≤ R.locals)
    (hn : As.length = n) (hst : st = As.reverse ++ .ref b :: rest) (hsz : ls.size = nL) (hW : (rest.map fun v => v.category).sum ≤ 8) (hdg : decode cc pc = .ok (.invokespecial idx, 3)) (hf : cells + rm.cells ≤ R.cells ∧ slots + rm.slots ≤ R.slots) :
    va_Run p l e R s m args below meth c H locs cells slots rm.cells rm.slots (F0 m pc ls st) rest (Qm (va_A wc H.size) (Value.ref b :: As).toArray) (va_A wc H.size) := by
  subst hst
  exact va_runI (As := As) (rest := rest) ⟨hx, hb, hml, hown, hts⟩ (hM H.size) (cwI n hts (gi_M h5) rfl rfl rfl (hts _ h4) (hts _ h1) (hts _ h2) hy1 hd hR) ⟨pr.blind, fun U hU hW => ⟨rfl, by rw [hU], by rw [hU]; exact hP, kb.warm hW hkb, hD.weaken (fun _ _ _ _ => trivial)⟩⟩ rfl hn hsz rfl (lv_room hW) hdg hf
theorem r_N {own host : String} {idx n n' nL : Nat} {y : MethodName} {yb : ByteArray} {rm : Room} {b : Addr} {As st : List Value} {wc : va_W} {Qm : (Nat → Prop) → Array Value → State → Outcome → State → Prop}
    (hx : p.tables.exec = Jvm.exec) (hb : c.code = cc) (hml : c.maxLocals = nL) (hown : s.vm.findClass own = some m.cls) (hts : ∀ w ∈ gw, w.before args s = true) (hkb : kb D ty s) (hP : va_P D cls wc H) (hD : va_D A wc)
    (hM : Kon l D ty y yb n' none rm (.ref b :: As) wc Qm) (h1 : va_Nw (.methodLinkNest own idx y host) s) (h2 : Cond.instanceMethod y ∈ gw) (h4 : Cond.initialized y.cls ∈ gw) (h5 : Cond.code y yb n' none ∈ gw) (hy1 : y.name = "<init>")
    (hd : y.cls ≠ "java/lang/invoke/MethodHandle" ∧ y.cls ≠ "java/lang/invoke/VarHandle" ∧ (parseMethodDescriptor y.desc).map (fun d => d.parameters.length) = some n) (hR : rm.frames + 1 ≤ R.frames ∧ 8 + (n' + 11) + rm.locals ≤ R.locals)
    (hn : As.length = n) (hst : st = As.reverse ++ .ref b :: rest) (hsz : ls.size = nL) (hW : (rest.map fun v => v.category).sum ≤ 8) (hdg : decode cc pc = .ok (.invokespecial idx, 3)) (hf : cells + rm.cells ≤ R.cells ∧ slots + rm.slots ≤ R.slots) :
    va_Run p l e R s m args below meth c H locs cells slots rm.cells rm.slots (F0 m pc ls st) rest (Qm (va_A wc H.size) (Value.ref b :: As).toArray) (va_A wc H.size) := by
  subst hst
  exact va_runIN (As := As) (rest := rest) ⟨hx, hb, hml, hown, hts⟩ (hM H.size) ⟨va_cnB n hts (gi_M h5) rfl rfl rfl h1 (hts _ h4) hd hR, hy1, hts _ h2⟩ ⟨pr.blind, fun U hU hW => ⟨rfl, by rw [hU], by rw [hU]; exact hP, kb.warm hW hkb, hD.weaken (fun _ _ _ _ => trivial)⟩⟩ rfl hn hsz rfl (lv_room hW) hdg hf
/-- behind a call -/
theorem k_i {post : Int32 → va_W → Prop} {wc wr : va_W} {mc ms : Nat} {st : List Value} {av : Array Value} (hP : va_P D cls ws H) (hD : va_D A ws) (hS : va_S A H0 H locs) (hA : ∀ q, H0.size ≤ q → A q) (isC isR : List Nat) (hC : isC.map (fun i => ws[i]?) = wc.map some) (hR : isR.map (fun i => ws[i]?) = wr.map some) (hn : va_nd isR = true) (hdis : ∀ i ∈ isR, i ∉ isC)
    (hr : va_Run p l e R s m args below meth c H locs cells slots mc ms (F0 m pc ls st) rest (Qi D post (va_A wc H.size) av) (va_A wc H.size))
    (kk : ∀ (r : Int32) (u : va_W) (H1 : Heap) (locs1 : List Loc), post r u → va_P D cls (wr ++ u) H1 → va_D A (wr ++ u) → va_S A H0 H1 locs1 → W p l e R s m args below meth c H1 locs1 (cells + mc) (slots + ms) Q (F0 m (pc + 3) ls (.int r :: rest))) : W p l e R s m args below meth c H locs cells slots Q (F0 m pc ls st) := by
  have hFc := va_free (wc := wc) hD hS hA isC hC
  refine va_calli hr hS (fun q _ h => hFc q h) hFc (fun r u t H1 locs1 ht hvm hw hB hz1 hk1 hS => ?_)
  obtain ⟨hP1, hD1⟩ := hB
  rw [ht] at hP1
  obtain ⟨hP, hD⟩ := va_join (wr := wr) (w1 := u) hP hD isC isR hC hR hn hdis hk1 hFc hP1 hD1
  exact kk r u H1 locs1 hw hP hD hS
theorem k_l {post : Int64 → va_W → Prop} {wc wr : va_W} {mc ms : Nat} {st : List Value} {av : Array Value} (hP : va_P D cls ws H) (hD : va_D A ws) (hS : va_S A H0 H locs) (hA : ∀ q, H0.size ≤ q → A q) (isC isR : List Nat) (hC : isC.map (fun i => ws[i]?) = wc.map some) (hR : isR.map (fun i => ws[i]?) = wr.map some) (hn : va_nd isR = true) (hdis : ∀ i ∈ isR, i ∉ isC)
    (hr : va_Run p l e R s m args below meth c H locs cells slots mc ms (F0 m pc ls st) rest (Ql D post (va_A wc H.size) av) (va_A wc H.size))
    (kk : ∀ (r : Int64) (u : va_W) (H1 : Heap) (locs1 : List Loc), post r u → va_P D cls (wr ++ u) H1 → va_D A (wr ++ u) → va_S A H0 H1 locs1 → W p l e R s m args below meth c H1 locs1 (cells + mc) (slots + ms) Q (F0 m (pc + 3) ls (.long r :: rest))) : W p l e R s m args below meth c H locs cells slots Q (F0 m pc ls st) := by
  have hFc := va_free (wc := wc) hD hS hA isC hC
  refine va_calll hr hS (fun q _ h => hFc q h) hFc (fun r u t H1 locs1 ht hvm hw hB hz1 hk1 hS => ?_)
  obtain ⟨hP1, hD1⟩ := hB
  rw [ht] at hP1
  obtain ⟨hP, hD⟩ := va_join (wr := wr) (w1 := u) hP hD isC isR hC hR hn hdis hk1 hFc hP1 hD1
  exact kk r u H1 locs1 hw hP hD hS
theorem k_v {post : va_W → Prop} {wc wr : va_W} {mc ms : Nat} {st : List Value} {av : Array Value} (hP : va_P D cls ws H) (hD : va_D A ws) (hS : va_S A H0 H locs) (hA : ∀ q, H0.size ≤ q → A q) (isC isR : List Nat) (hC : isC.map (fun i => ws[i]?) = wc.map some) (hR : isR.map (fun i => ws[i]?) = wr.map some) (hn : va_nd isR = true) (hdis : ∀ i ∈ isR, i ∉ isC)
    (hr : va_Run p l e R s m args below meth c H locs cells slots mc ms (F0 m pc ls st) rest (Qv D post (va_A wc H.size) av) (va_A wc H.size))
    (kk : ∀ (u : va_W) (H1 : Heap) (locs1 : List Loc), post u → va_P D cls (wr ++ u) H1 → va_D A (wr ++ u) → va_S A H0 H1 locs1 → W p l e R s m args below meth c H1 locs1 (cells + mc) (slots + ms) Q (F0 m (pc + 3) ls rest)) : W p l e R s m args below meth c H locs cells slots Q (F0 m pc ls st) := by
  have hFc := va_free (wc := wc) hD hS hA isC hC
  refine va_callv hr hS (fun q _ h => hFc q h) hFc (fun u t H1 locs1 ht hvm hw hB hz1 hk1 hS => ?_)
  obtain ⟨hP1, hD1⟩ := hB
  rw [ht] at hP1
  obtain ⟨hP, hD⟩ := va_join (wr := wr) (w1 := u) hP hD isC isR hC hR hn hdis hk1 hFc hP1 hD1
  exact kk u H1 locs1 hw hP hD hS
theorem k_r {post : va_W × Nat → Prop} {wc wr : va_W} {mc ms : Nat} {st : List Value} {av : Array Value} (hP : va_P D cls ws H) (hD : va_D A ws) (hS : va_S A H0 H locs) (hA : ∀ q, H0.size ≤ q → A q) (isC isR : List Nat) (hC : isC.map (fun i => ws[i]?) = wc.map some) (hR : isR.map (fun i => ws[i]?) = wr.map some) (hn : va_nd isR = true) (hdis : ∀ i ∈ isR, i ∉ isC)
    (hr : va_Run p l e R s m args below meth c H locs cells slots mc ms (F0 m pc ls st) rest (Qr D post (va_A wc H.size) av) (va_A wc H.size))
    (kk : ∀ (ra : Nat) (u : va_W) (H1 : Heap) (locs1 : List Loc), post (u, ra) → va_P D cls (wr ++ u) H1 → va_D A (wr ++ u) → va_S A H0 H1 locs1 → W p l e R s m args below meth c H1 locs1 (cells + mc) (slots + ms) Q (F0 m (pc + 3) ls (.ref ra :: rest))) : W p l e R s m args below meth c H locs cells slots Q (F0 m pc ls st) := by
  have hFc := va_free (wc := wc) hD hS hA isC hC
  refine va_callr hr hS (fun q _ h => hFc q h) hFc (fun u ra t H1 locs1 ht hvm hw hB hz1 hk1 hS => ?_)
  obtain ⟨u, ra'⟩ := u
  obtain ⟨rfl, hP1, hD1⟩ := hB
  rw [ht] at hP1
  obtain ⟨hP, hD⟩ := va_join (wr := wr) (w1 := u) hP hD isC isR hC hR hn hdis hk1 hFc hP1 hD1
  exact kk _ u H1 locs1 hw hP hD hS
/-- the ends -/
theorem e_i {post : Int32 → va_W → Prop} {u : va_W} {v : Int32} (hx : p.tables.exec = Jvm.exec) (hb : c.code = cc) (hr : meth.sig.returnType = some .int) (hlocks : meth.locks = false) (hP : va_P D cls u H) (hD : va_D A u) (hS : va_S A s.heap H locs) (hp : post v u) (hdg : decode cc pc = .ok (.ireturn, 1)) : W p l e R s m args below meth c H locs cells slots (MQ below (Qi D post A) args s cells slots A) (F0 m pc ls [.int v]) :=
  W.iret hx hb hr (fun t ht _ => ⟨⟨v, u, rfl, hp, by rw [ht]; exact hP, hD⟩, hS.F ht⟩) hS.2.2 hdg hlocks
theorem e_z {post : Int32 → va_W → Prop} {u : va_W} {v : Int32} (hx : p.tables.exec = Jvm.exec) (hb : c.code = cc) (hr : meth.sig.returnType = some .boolean) (hlocks : meth.locks = false) (hn : narrow .boolean (.int v) = .int v) (hP : va_P D cls u H) (hD : va_D A u) (hS : va_S A s.heap H locs) (hp : post v u) (hdg : decode cc pc = .ok (.ireturn, 1)) : W p l e R s m args below meth c H locs cells slots (MQ below (Qi D post A) args s cells slots A) (F0 m pc ls [.int v]) :=
  W.zret hx hb hr hn (fun t ht _ => ⟨⟨v, u, rfl, hp, by rw [ht]; exact hP, hD⟩, hS.F ht⟩) hS.2.2 hdg hlocks
theorem e_l {post : Int64 → va_W → Prop} {u : va_W} {v : Int64} (hx : p.tables.exec = Jvm.exec) (hb : c.code = cc) (hr : meth.sig.returnType = some .long) (hlocks : meth.locks = false) (hP : va_P D cls u H) (hD : va_D A u) (hS : va_S A s.heap H locs) (hp : post v u) (hdg : decode cc pc = .ok (.lreturn, 1)) : W p l e R s m args below meth c H locs cells slots (MQ below (Ql D post A) args s cells slots A) (F0 m pc ls [.long v]) :=
  W.lret hx hb hr (fun t ht _ => ⟨⟨v, u, rfl, hp, by rw [ht]; exact hP, hD⟩, hS.F ht⟩) hS.2.2 hdg hlocks
theorem e_v {post : va_W → Prop} {u : va_W} (hx : p.tables.exec = Jvm.exec) (hb : c.code = cc) (hr : meth.sig.returnType = none) (hlocks : meth.locks = false) (hP : va_P D cls u H) (hD : va_D A u) (hS : va_S A s.heap H locs) (hp : post u) (hdg : decode cc pc = .ok (.return_, 1)) : W p l e R s m args below meth c H locs cells slots (MQ below (Qv D post A) args s cells slots A) (F0 m pc ls []) :=
  W.vret hx hb hr (fun t ht _ => ⟨⟨u, rfl, hp, by rw [ht]; exact hP, hD⟩, hS.F ht⟩) hS.2.2 hdg hlocks
theorem e_r {post : va_W × Nat → Prop} {u : va_W} {v : Nat} {C : String} (hx : p.tables.exec = Jvm.exec) (hb : c.code = cc) (hr : meth.sig.returnType = some (.object C)) (hlocks : meth.locks = false) (hP : va_P D cls u H) (hD : va_D A u) (hS : va_S A s.heap H locs) (hp : post (u, v)) (hdg : decode cc pc = .ok (.areturn, 1)) : W p l e R s m args below meth c H locs cells slots (MQ below (Qr D post A) args s cells slots A) (F0 m pc ls [.ref v]) :=
  W.aret hx hb hr (Or.inl ⟨C, rfl⟩) (Or.inr ⟨v, rfl⟩) (fun t ht _ => ⟨⟨(u, v), v, rfl, hp, rfl, by rw [ht]; exact hP, hD⟩, hS.F ht⟩) hS.2.2 hdg hlocks
theorem ty_eq {t : FieldType} {cA c2 : ClassId} {t0 : Nat} (hp : ∀ (U : State) (k : ClassId), va_RA U k t → U.vm.findClass ("[" ++ t.toString) = some k) (ht : ty[t0]? = some (cA, t)) (hK : va_K D cls (ty ++ [(c2, t)]) s) : c2 = cA := by
  have hlt : t0 < ty.length := (List.getElem?_eq_some_iff.mp ht).1
  have h1 := hp _ _ (hK.2 t0 (cA, t) (by rw [List.getElem?_append_left hlt]; exact ht)).2
  have h2 := hp _ _ (hK.2 ty.length (c2, t) (by simp)).2
  exact Option.some.inj (h2.symm.trans h1)
/-- newarray of a kind that the list of array classes has at t0 -/
theorem n_a {atype : ArrayType} {t : FieldType} {cA : ClassId} {n : Int32} {N' : Nat} {a0 : vp_A} (t0 : Nat) (ht : ty[t0]? = some (cA, t)) (hp : ∀ (U : State) (k : ClassId), va_RA U k t → U.vm.findClass ("[" ++ t.toString) = some k) (hx : p.tables.exec = Jvm.exec) (hb : c.code = cc) (harr : (Cond.arrayClass (newarray.typeOf atype)).before args s = true) (hty : newarray.typeOf atype = t) (hK : va_K D cls ty s) (hP : va_P D cls ws H) (hD : va_D A ws) (hS : va_S A H0 H locs) (hA : ∀ q, H0.size ≤ q → A q)
    (ha : ∀ cA : ClassId, vp_cell cA a0 = arrV cA N' (fun _ => defaultValue t)) (hn : ¬ n < 0) (hN : n.toNatClampNeg = N') (hbytes : N' * componentBytes t ≤ 536870912) (hcells : cells + 1 ≤ R.cells) (hslots : slots + N' ≤ R.slots) (hdg : decode cc pc = .ok (.newarray atype, 2))
    (kk : ∀ (q : Nat) (H1 : Heap), va_P D cls (ws ++ [(q, .inl (cA, a0))]) H1 → va_D A (ws ++ [(q, .inl (cA, a0))]) → va_S A H0 H1 locs → W p l e R s m args below meth c H1 locs (cells + 1) (slots + N') Q (F0 m (pc + 2) ls (.ref q :: rest))) : W p l e R s m args below meth c H locs cells slots Q (F0 m pc ls (.int n :: rest)) := by
  refine va_newa hx hb harr hty hK hP hD hS hA ha hn hN hbytes hcells hslots hdg (fun q c2 H1 hK2 hP hD hS => ?_)
  have he := ty_eq (t0 := t0) hp ht hK2
  subst he
  exact kk q H1 hP hD hS
theorem n_q {own C : String} {index : Nat} {cA : ClassId} {n : Int32} {N' : Nat} (t0 : Nat) (ht : ty[t0]? = some (cA, .object C)) (hx : p.tables.exec = Jvm.exec) (hb : c.code = cc) (hown : s.vm.findClass own = some m.cls) (hcl : (Cond.classLink own index C).before args s = true) (hover : va_AO C s) (hK : va_K D cls ty s) (hP : va_P D cls ws H) (hD : va_D A ws) (hS : va_S A H0 H locs) (hA : ∀ q, H0.size ≤ q → A q)
    (hn : ¬ n < 0) (hN : n.toNatClampNeg = N') (hbytes : N' * 4 ≤ 536870912) (hcells : cells + 1 ≤ R.cells) (hslots : slots + N' ≤ R.slots) (hdg : decode cc pc = .ok (.anewarray index, 3))
    (kk : ∀ (q : Nat) (H1 : Heap), va_P D cls (ws ++ [(q, .inl (cA, N', .inr (.inr (.inr (.inr (fun _ => none))))))]) H1 → va_D A (ws ++ [(q, .inl (cA, N', .inr (.inr (.inr (.inr (fun _ => none))))))]) → va_S A H0 H1 locs → W p l e R s m args below meth c H1 locs (cells + 1) (slots + N') Q (F0 m (pc + 3) ls (.ref q :: rest))) : W p l e R s m args below meth c H locs cells slots Q (F0 m pc ls (.int n :: rest)) := by
  refine va_newq hx hb hown hcl hover hK hP hD hS hA hn hN hbytes hcells hslots hdg (fun q c2 H1 hK2 hP hD hS => ?_)
  have he := ty_eq (t := .object C) (t0 := t0) (fun U k h => by obtain ⟨_, _, _, _, _, h⟩ := h; exact h) ht hK2
  subst he
  exact kk q H1 hP hD hS
end MyRows
/-! facts on numbers -/
theorem f_lt {x y : Int32} {k : Int} (hk : y.toInt = k) (h : x < y) : x.toInt < k := by rw [← hk]; exact Int32.lt_iff_toInt_lt.mp h
theorem f_nlt {x y : Int32} {k : Int} (hk : y.toInt = k) (h : ¬ x < y) : k ≤ x.toInt := by
  rw [← hk]; exact Int.not_lt.mp (fun q => h (Int32.lt_iff_toInt_lt.mpr q))
theorem f_le {x y : Int32} {k : Int} (hk : y.toInt = k) (h : x ≤ y) : x.toInt ≤ k := by rw [← hk]; exact Int32.le_iff_toInt_le.mp h
theorem f_nle {x y : Int32} {k : Int} (hk : y.toInt = k) (h : ¬ x ≤ y) : k < x.toInt := by
  rw [← hk]; exact Int.not_le.mp (fun q => h (Int32.le_iff_toInt_le.mpr q))
theorem f_gt {x y : Int32} {k : Int} (hk : y.toInt = k) (h : y < x) : k < x.toInt := by rw [← hk]; exact Int32.lt_iff_toInt_lt.mp h
theorem f_ngt {x y : Int32} {k : Int} (hk : y.toInt = k) (h : ¬ y < x) : x.toInt ≤ k := by
  rw [← hk]; exact Int.not_lt.mp (fun q => h (Int32.lt_iff_toInt_lt.mpr q))
theorem f_ge {x y : Int32} {k : Int} (hk : y.toInt = k) (h : y ≤ x) : k ≤ x.toInt := by rw [← hk]; exact Int32.le_iff_toInt_le.mp h
theorem f_nge {x y : Int32} {k : Int} (hk : y.toInt = k) (h : ¬ y ≤ x) : x.toInt < k := by
  rw [← hk]; exact Int.not_le.mp (fun q => h (Int32.le_iff_toInt_le.mpr q))
theorem f_eq {x y : Int32} {k : Int} (hk : y.toInt = k) (h : x = y) : x.toInt = k := by rw [h]; exact hk
theorem f_ne {x y : Int32} {k : Int} (hk : y.toInt = k) (h : ¬ x = y) : x.toInt ≠ k := fun q => h (Int32.toInt_inj.mp (q.trans hk.symm))
/-- within(v, low, high) of the reference -/
def wi (v lo hi : Int64) : Int32 := if v.toInt < lo.toInt ∨ hi.toInt < v.toInt then 0 else 1
theorem wi_0 {x : Int32} {lo hi : Int64} {a b : Int} (ha : lo.toInt = a) (hb : hi.toInt = b) (h : wi x.toInt64 lo hi = 0) : x.toInt < a ∨ b < x.toInt := by
  unfold wi at h
  rw [Int32.toInt_toInt64, ha, hb] at h
  by_cases q : x.toInt < a ∨ b < x.toInt
  · exact q
  · rw [if_neg q] at h; exact absurd h (by decide)
theorem wi_1 {x : Int32} {lo hi : Int64} {a b : Int} (ha : lo.toInt = a) (hb : hi.toInt = b) (h : ¬ wi x.toInt64 lo hi = 0) : a ≤ x.toInt ∧ x.toInt ≤ b := by
  unfold wi at h
  rw [Int32.toInt_toInt64, ha, hb] at h
  by_cases q : x.toInt < a ∨ b < x.toInt
  · rw [if_pos q] at h; exact absurd rfl h
  · omega
theorem wi_c {x : Int32} {lo hi : Int64} (h : hi.toInt < lo.toInt) : wi x.toInt64 lo hi = 0 := by
  unfold wi
  rw [if_pos (by omega)]
theorem and_m1 (x : Int32) : x &&& (-1) = x := by
  apply Int32.toBitVec_inj.mp
  simp
theorem ush_0 (x : Int32) : (x.toUInt32 >>> ((0 : Int32).toUInt32 &&& Int32.toUInt32 31)).toInt32 = x := by
  have h : ((0 : Int32).toUInt32 &&& Int32.toUInt32 31) = 0 := by decide +kernel
  rw [h]
  simp
theorem zadd (x : Int32) : 0 + x = x := Int32.zero_add x
end
section
theorem uX0 : ∀ w ∈ u_ws RX0 TX0 4, w ∈ gw := u_gw (by decide +kernel)
theorem dfX0 : ∀ j, j < 4 → defaultValue (tyX0 j) = vp_V [.null, .int 0, .null, .null] j := by decide +kernel
theorem uX1 : ∀ w ∈ u_ws RX1 TX1 7, w ∈ gw := u_gw (by decide +kernel)
theorem dfX1 : ∀ j, j < 7 → defaultValue (tyX1 j) = vp_V [.null, .null, .int 0, .null, .int 0, .int 0, .null] j := by decide +kernel
theorem uX2 : ∀ w ∈ u_ws RX2 TX2 3, w ∈ gw := u_gw (by decide +kernel)
theorem dfX2 : ∀ j, j < 3 → defaultValue (tyX2 j) = vp_V [.null, .null, .null] j := by decide +kernel
theorem uX3 : ∀ w ∈ u_ws RX3 TX3 3, w ∈ gw := u_gw (by decide +kernel)
theorem dfX3 : ∀ j, j < 3 → defaultValue (tyX3 j) = vp_V [.null, .null, .int 0] j := by decide +kernel
theorem uX4 : ∀ w ∈ u_ws RX4 TX4 5, w ∈ gw := u_gw (by decide +kernel)
theorem dfX4 : ∀ j, j < 5 → defaultValue (tyX4 j) = vp_V [.null, .null, .null, .int 0, .null] j := by decide +kernel
theorem uX5 : ∀ w ∈ u_ws RX5 TX5 6, w ∈ gw := u_gw (by decide +kernel)
theorem dfX5 : ∀ j, j < 6 → defaultValue (tyX5 j) = vp_V [.null, .int 0, .int 0, .int 0, .null, .null] j := by decide +kernel
theorem uX6 : ∀ w ∈ u_ws RX6 TX6 6, w ∈ gw := u_gw (by decide +kernel)
theorem dfX6 : ∀ j, j < 6 → defaultValue (tyX6 j) = vp_V [.int 0, .int 0, .int 0, .int 0, .null, .null] j := by decide +kernel
theorem uX7 : ∀ w ∈ u_ws RX7 TX7 8, w ∈ gw := u_gw (by decide +kernel)
theorem dfX7 : ∀ j, j < 8 → defaultValue (tyX7 j) = vp_V [.null, .int 0, .int 0, .int 0, .int 0, .int 0, .int 0, .int 0] j := by decide +kernel
theorem uX8 : ∀ w ∈ u_ws RX8 TX8 3, w ∈ gw := u_gw (by decide +kernel)
theorem dfX8 : ∀ j, j < 3 → defaultValue (tyX8 j) = vp_V [.null, .int 0, .int 0] j := by decide +kernel
theorem uX9 : ∀ w ∈ u_ws RX9 TX9 14, w ∈ gw := u_gw (by decide +kernel)
theorem dfX9 : ∀ j, j < 14 → defaultValue (tyX9 j) = vp_V [.int 0, .int 0, .int 0, .int 0, .int 0, .int 0, .null, .null, .null, .null, .null, .null, .int 0, .int 0] j := by decide +kernel
theorem uX10 : ∀ w ∈ u_ws RX10 TX10 7, w ∈ gw := u_gw (by decide +kernel)
theorem dfX10 : ∀ j, j < 7 → defaultValue (tyX10 j) = vp_V [.null, .null, .int 0, .null, .null, .null, .int 0] j := by decide +kernel
theorem uX11 : ∀ w ∈ u_ws RX11 TX11 20, w ∈ gw := u_gw (by decide +kernel)
theorem dfX11 : ∀ j, j < 20 → defaultValue (tyX11 j) = vp_V [.null, .int 0, .null, .null, .null, .null, .null, .int 0, .int 0, .null, .null, .null, .null, .null, .null, .null, .null, .null, .null, .int 0] j := by decide +kernel
theorem uX12 : ∀ w ∈ u_ws RX12 TX12 36, w ∈ gw := u_gw (by decide +kernel)
theorem dfX12 : ∀ j, j < 36 → defaultValue (tyX12 j) = vp_V [.int 0, .null, .null, .null, .null, .int 0, .int 0, .int 0, .int 0, .int 0, .int 0, .int 0, .int 0, .int 0, .int 0, .null, .int 0, .null, .null, .null, .int 0, .null, .null, .int 0, .int 0, .int 0, .null, .null, .null, .null, .null, .null, .int 0, .null, .null, .null] j := by decide +kernel
theorem kw_6 : Cond.initialized "java/lang/Math" ∈ gw := gw_of (tb_of 6 (by decide +kernel)) (by decide +kernel)
theorem kw_30 : Cond.instanceMethod objectInit ∈ gw := gw_of (tb_of 30 (by decide +kernel)) (by decide +kernel)
theorem kw_31 : Cond.code objectInit ⟨#[0xb1]⟩ 1 none ∈ gw := gw_of (tb_of 31 (by decide +kernel)) (by decide +kernel)
theorem kw_43 : Cond.methodLink "FootholdWall$Tokens" 3 objectInit ∈ gw := gw_of (tb_of 43 (by decide +kernel)) (by decide +kernel)
theorem kw_44 : Cond.fieldLink "FootholdWall$Tokens" 9 "FootholdWall$Tokens" "text" "[B" ∈ gw := gw_of (tb_of 44 (by decide +kernel)) (by decide +kernel)
theorem kw_45 : Cond.fieldLink "FootholdWall$Tokens" 15 "FootholdWall$Tokens" "length" "I" ∈ gw := gw_of (tb_of 45 (by decide +kernel)) (by decide +kernel)
theorem kw_46 : Cond.fieldLink "FootholdWall$Tokens" 19 "FootholdWall$Tokens" "start" "I" ∈ gw := gw_of (tb_of 46 (by decide +kernel)) (by decide +kernel)
theorem kw_47 : Cond.fieldLink "FootholdWall$Tokens" 22 "FootholdWall$Tokens" "end" "I" ∈ gw := gw_of (tb_of 47 (by decide +kernel)) (by decide +kernel)
theorem kw_48 : Cond.fieldLink "FootholdWall$Tokens" 25 "FootholdWall$Tokens" "kind" "I" ∈ gw := gw_of (tb_of 48 (by decide +kernel)) (by decide +kernel)
theorem kw_51 : Cond.fieldLink "FootholdWall$Tokens" 28 "FootholdWall$Tokens" "value" "I" ∈ gw := gw_of (tb_of 51 (by decide +kernel)) (by decide +kernel)
theorem kw_54 : Cond.fieldLink "FootholdWall$Tokens" 31 "FootholdWall$Tokens" "fault" "I" ∈ gw := gw_of (tb_of 54 (by decide +kernel)) (by decide +kernel)
theorem kw_56 : Cond.fieldLink "FootholdWall$Tokens" 34 "FootholdWall$Tokens" "place" "I" ∈ gw := gw_of (tb_of 56 (by decide +kernel)) (by decide +kernel)
theorem kw_75 : Cond.arrayClass .byte ∈ gw := gw_of (tb_of 75 (by decide +kernel)) (by decide +kernel)
theorem kw_81 : Cond.methodLink "FootholdWall$LawReader" 3 objectInit ∈ gw := gw_of (tb_of 81 (by decide +kernel)) (by decide +kernel)
theorem kw_82 : Cond.fieldLink "FootholdWall$LawReader" 19 "FootholdWall$LawReader" "tokens" "LFootholdWall$Tokens;" ∈ gw := gw_of (tb_of 82 (by decide +kernel)) (by decide +kernel)
theorem kw_83 : Cond.fieldLink "FootholdWall$LawReader" 9 "FootholdWall$LawReader" "code" "[I" ∈ gw := gw_of (tb_of 83 (by decide +kernel)) (by decide +kernel)
theorem kw_84 : Cond.fieldLink "FootholdWall$LawReader" 15 "FootholdWall$LawReader" "length" "I" ∈ gw := gw_of (tb_of 84 (by decide +kernel)) (by decide +kernel)
theorem kw_92 : Cond.arrayClass .int ∈ gw := gw_of (tb_of 92 (by decide +kernel)) (by decide +kernel)
theorem kw_98 : Cond.methodLink "FootholdWall$Wall" 1 objectInit ∈ gw := gw_of (tb_of 98 (by decide +kernel)) (by decide +kernel)
theorem kw_99 : Cond.methodLink "FootholdWall$Wall" 22 Lib.Math.max.name ∈ gw := gw_of (tb_of 99 (by decide +kernel)) (by decide +kernel)
theorem kw_100 : Cond.static Lib.Math.max.name ∈ gw := gw_of (tb_of 100 (by decide +kernel)) (by decide +kernel)
theorem kw_101 : Cond.code Lib.Math.max.name Lib.Math.max.code 2 (some .int) ∈ gw := gw_of (tb_of 101 (by decide +kernel)) (by decide +kernel)
theorem kw_106 : Cond.fieldLink "FootholdWall$Wall" 28 "FootholdWall$Wall" "holds" "I" ∈ gw := gw_of (tb_of 106 (by decide +kernel)) (by decide +kernel)
theorem kw_110 : Cond.fieldLink "FootholdWall$Wall" 31 "FootholdWall$Wall" "guides" "I" ∈ gw := gw_of (tb_of 110 (by decide +kernel)) (by decide +kernel)
theorem kw_113 : Cond.fieldLink "FootholdWall$Wall" 7 "FootholdWall$Wall" "lines" "I" ∈ gw := gw_of (tb_of 113 (by decide +kernel)) (by decide +kernel)
theorem kw_116 : Cond.fieldLink "FootholdWall$Wall" 13 "FootholdWall$Wall" "starts" "I" ∈ gw := gw_of (tb_of 116 (by decide +kernel)) (by decide +kernel)
theorem kw_123 : Cond.fieldLink "FootholdWall$Wall" 16 "FootholdWall$Wall" "tops" "I" ∈ gw := gw_of (tb_of 123 (by decide +kernel)) (by decide +kernel)
theorem kw_130 : Cond.fieldLink "FootholdWall$Wall" 19 "FootholdWall$Wall" "wides" "I" ∈ gw := gw_of (tb_of 130 (by decide +kernel)) (by decide +kernel)
theorem kw_132 : Cond.fieldLink "FootholdWall$Wall" 34 "FootholdWall$Wall" "x" "[I" ∈ gw := gw_of (tb_of 132 (by decide +kernel)) (by decide +kernel)
theorem kw_135 : Cond.fieldLink "FootholdWall$Wall" 38 "FootholdWall$Wall" "y" "[I" ∈ gw := gw_of (tb_of 135 (by decide +kernel)) (by decide +kernel)
theorem kw_138 : Cond.fieldLink "FootholdWall$Wall" 41 "FootholdWall$Wall" "ice" "[I" ∈ gw := gw_of (tb_of 138 (by decide +kernel)) (by decide +kernel)
theorem kw_141 : Cond.fieldLink "FootholdWall$Wall" 44 "FootholdWall$Wall" "leg" "[I" ∈ gw := gw_of (tb_of 141 (by decide +kernel)) (by decide +kernel)
theorem kw_144 : Cond.fieldLink "FootholdWall$Wall" 47 "FootholdWall$Wall" "weight" "[I" ∈ gw := gw_of (tb_of 144 (by decide +kernel)) (by decide +kernel)
theorem kw_147 : Cond.fieldLink "FootholdWall$Wall" 50 "FootholdWall$Wall" "law" "LFootholdWall$Law;" ∈ gw := gw_of (tb_of 147 (by decide +kernel)) (by decide +kernel)
theorem kw_148 : Cond.fieldLink "FootholdWall$Wall" 60 "FootholdWall$Wall" "dayAsked" "Z" ∈ gw := gw_of (tb_of 148 (by decide +kernel)) (by decide +kernel)
theorem kw_149 : Cond.fieldLink "FootholdWall$Wall" 64 "FootholdWall$Wall" "legAsked" "Z" ∈ gw := gw_of (tb_of 149 (by decide +kernel)) (by decide +kernel)
theorem kw_184 : Cond.methodLink "FootholdWall$State" 3 objectInit ∈ gw := gw_of (tb_of 184 (by decide +kernel)) (by decide +kernel)
theorem kw_185 : Cond.fieldLink "FootholdWall$State" 9 "FootholdWall$State" "used" "I" ∈ gw := gw_of (tb_of 185 (by decide +kernel)) (by decide +kernel)
theorem kw_187 : Cond.fieldLink "FootholdWall$State" 15 "FootholdWall$State" "broken" "I" ∈ gw := gw_of (tb_of 187 (by decide +kernel)) (by decide +kernel)
theorem kw_189 : Cond.fieldLink "FootholdWall$State" 18 "FootholdWall$State" "day" "I" ∈ gw := gw_of (tb_of 189 (by decide +kernel)) (by decide +kernel)
theorem kw_192 : Cond.fieldLink "FootholdWall$State" 21 "FootholdWall$State" "years" "I" ∈ gw := gw_of (tb_of 192 (by decide +kernel)) (by decide +kernel)
theorem kw_194 : Cond.fieldLink "FootholdWall$State" 24 "FootholdWall$State" "by" "[I" ∈ gw := gw_of (tb_of 194 (by decide +kernel)) (by decide +kernel)
theorem kw_196 : Cond.fieldLink "FootholdWall$State" 28 "FootholdWall$State" "since" "[I" ∈ gw := gw_of (tb_of 196 (by decide +kernel)) (by decide +kernel)
theorem kw_243 : Cond.methodLink "FootholdWall$Rows" 3 objectInit ∈ gw := gw_of (tb_of 243 (by decide +kernel)) (by decide +kernel)
theorem kw_244 : Cond.fieldLink "FootholdWall$Rows" 28 "FootholdWall$Rows" "wall" "LFootholdWall$Wall;" ∈ gw := gw_of (tb_of 244 (by decide +kernel)) (by decide +kernel)
theorem kw_248 : Cond.fieldLink "FootholdWall$Rows" 9 "FootholdWall$Rows" "leg" "I" ∈ gw := gw_of (tb_of 248 (by decide +kernel)) (by decide +kernel)
theorem kw_249 : Cond.fieldLink "FootholdWall$Rows" 15 "FootholdWall$Rows" "weight" "I" ∈ gw := gw_of (tb_of 249 (by decide +kernel)) (by decide +kernel)
theorem kw_250 : Cond.fieldLink "FootholdWall$Rows" 18 "FootholdWall$Rows" "day" "I" ∈ gw := gw_of (tb_of 250 (by decide +kernel)) (by decide +kernel)
theorem kw_251 : Cond.fieldLink "FootholdWall$Rows" 21 "FootholdWall$Rows" "asked" "[I" ∈ gw := gw_of (tb_of 251 (by decide +kernel)) (by decide +kernel)
theorem kw_252 : Cond.fieldLink "FootholdWall$Rows" 25 "FootholdWall$Rows" "row" "[I" ∈ gw := gw_of (tb_of 252 (by decide +kernel)) (by decide +kernel)
theorem kw_271 : Cond.methodLink "FootholdWall$Ways" 3 objectInit ∈ gw := gw_of (tb_of 271 (by decide +kernel)) (by decide +kernel)
theorem kw_272 : Cond.fieldLink "FootholdWall$Ways" 9 "FootholdWall$Ways" "layer" "[I" ∈ gw := gw_of (tb_of 272 (by decide +kernel)) (by decide +kernel)
theorem kw_273 : Cond.fieldLink "FootholdWall$Ways" 15 "FootholdWall$Ways" "path" "[I" ∈ gw := gw_of (tb_of 273 (by decide +kernel)) (by decide +kernel)
theorem kw_275 : Cond.fieldLink "FootholdWall$Ways" 18 "FootholdWall$Ways" "length" "I" ∈ gw := gw_of (tb_of 275 (by decide +kernel)) (by decide +kernel)
theorem kw_276 : Cond.fieldLink "FootholdWall$Ways" 22 "FootholdWall$Ways" "numberFrom" "[J" ∈ gw := gw_of (tb_of 276 (by decide +kernel)) (by decide +kernel)
theorem kw_277 : Cond.fieldLink "FootholdWall$Ways" 26 "FootholdWall$Ways" "leastFrom" "[I" ∈ gw := gw_of (tb_of 277 (by decide +kernel)) (by decide +kernel)
theorem kw_278 : Cond.fieldLink "FootholdWall$Ways" 29 "FootholdWall$Ways" "into" "[I" ∈ gw := gw_of (tb_of 278 (by decide +kernel)) (by decide +kernel)
theorem kw_279 : Cond.fieldLink "FootholdWall$Ways" 32 "FootholdWall$Ways" "tops" "I" ∈ gw := gw_of (tb_of 279 (by decide +kernel)) (by decide +kernel)
theorem kw_295 : Cond.arrayClass .long ∈ gw := gw_of (tb_of 295 (by decide +kernel)) (by decide +kernel)
theorem kw_301 : Cond.methodLink "FootholdWall$Cut" 3 objectInit ∈ gw := gw_of (tb_of 301 (by decide +kernel)) (by decide +kernel)
theorem kw_302 : Cond.fieldLink "FootholdWall$Cut" 9 "FootholdWall$Cut" "near" "[I" ∈ gw := gw_of (tb_of 302 (by decide +kernel)) (by decide +kernel)
theorem kw_303 : Cond.fieldLink "FootholdWall$Cut" 15 "FootholdWall$Cut" "ahead" "[I" ∈ gw := gw_of (tb_of 303 (by decide +kernel)) (by decide +kernel)
theorem kw_304 : Cond.fieldLink "FootholdWall$Cut" 18 "FootholdWall$Cut" "laid" "I" ∈ gw := gw_of (tb_of 304 (by decide +kernel)) (by decide +kernel)
theorem kw_305 : Cond.fieldLink "FootholdWall$Cut" 22 "FootholdWall$Cut" "queue" "[I" ∈ gw := gw_of (tb_of 305 (by decide +kernel)) (by decide +kernel)
theorem kw_306 : Cond.fieldLink "FootholdWall$Cut" 25 "FootholdWall$Cut" "queued" "I" ∈ gw := gw_of (tb_of 306 (by decide +kernel)) (by decide +kernel)
theorem kw_307 : Cond.fieldLink "FootholdWall$Cut" 28 "FootholdWall$Cut" "seen" "I" ∈ gw := gw_of (tb_of 307 (by decide +kernel)) (by decide +kernel)
theorem kw_308 : Cond.fieldLink "FootholdWall$Cut" 31 "FootholdWall$Cut" "cameFrom" "[I" ∈ gw := gw_of (tb_of 308 (by decide +kernel)) (by decide +kernel)
theorem kw_329 : Cond.methodLink "FootholdWall$Chains" 3 objectInit ∈ gw := gw_of (tb_of 329 (by decide +kernel)) (by decide +kernel)
theorem kw_330 : Cond.fieldLink "FootholdWall$Chains" 9 "FootholdWall$Chains" "heads" "[I" ∈ gw := gw_of (tb_of 330 (by decide +kernel)) (by decide +kernel)
theorem kw_331 : Cond.fieldLink "FootholdWall$Chains" 15 "FootholdWall$Chains" "all" "I" ∈ gw := gw_of (tb_of 331 (by decide +kernel)) (by decide +kernel)
theorem kw_332 : Cond.fieldLink "FootholdWall$Chains" 19 "FootholdWall$Chains" "row" "[I" ∈ gw := gw_of (tb_of 332 (by decide +kernel)) (by decide +kernel)
theorem kw_333 : Cond.fieldLink "FootholdWall$Chains" 22 "FootholdWall$Chains" "path" "[I" ∈ gw := gw_of (tb_of 333 (by decide +kernel)) (by decide +kernel)
theorem kw_348 : Cond.methodLink "FootholdWall$Tray" 3 objectInit ∈ gw := gw_of (tb_of 348 (by decide +kernel)) (by decide +kernel)
theorem kw_349 : Cond.fieldLink "FootholdWall$Tray" 9 "FootholdWall$Tray" "numbers" "[J" ∈ gw := gw_of (tb_of 349 (by decide +kernel)) (by decide +kernel)
theorem kw_350 : Cond.fieldLink "FootholdWall$Tray" 15 "FootholdWall$Tray" "sort" "I" ∈ gw := gw_of (tb_of 350 (by decide +kernel)) (by decide +kernel)
theorem kw_351 : Cond.fieldLink "FootholdWall$Tray" 19 "FootholdWall$Tray" "size" "I" ∈ gw := gw_of (tb_of 351 (by decide +kernel)) (by decide +kernel)
end
section
set_option maxHeartbeats 4000000 in
set_option maxRecDepth 100000 in
theorem c_State_init (l : Launch) (D : va_G) (cB cI cJ cZ cS cW cT cR : ClassId) (h0 : Nat) : Kon l D (tyl cB cI cJ cZ cS cW cT cR) yX6_init cX6_init 1 none { frames := 1, cells := 2, slots := 28, locals := 12 } [.ref h0] [(h0, .inr (6, [.int 0, .int 0, .int 0, .int 0, .null, .null]))] (Qv D (fun u => ∃ (q_1 : Nat), ∃ (q_2 : Nat), u = [(h0, .inr (6, [.int 0, .int 0, .int 0, .int 0, .ref q_1, .ref q_2])), (q_1, .inl (cI, 14, .inl (fun _ => 0))), (q_2, .inl (cI, 14, .inl (fun _ => 0)))])) := by
  refine kon_of (by decide) (Nat.le_of_ble_eq_true rfl) (fun p e s m below meth c ls A hx hb hr hml hown hts hlocks hnm hkb hP hD hS hA hl => ?_)
  have hown : s.vm.findClass RX6 = some m.cls := hown
  have hl : lv_has ls 1 [(0, .ref h0)] := hl
  have hP : va_P D cls [(h0, .inr (6, [.int 0, .int 0, .int 0, .int 0, .null, .null]))] s.heap := hP
  refine lv_aload_n hx hb dX6_init_0 rfl (lv_at hl 0 rfl) ?_
  refine W.objInit hx hb hown (hts _ kw_184) (hts _ kw_30) (hts _ kw_31) rfl (by rw [hml]; exact hl.1) rfl dX6_init_1 (Nat.le_of_ble_eq_true rfl) (Nat.le_of_ble_eq_true rfl) ?_
  refine W.eq (g2 := F0 m 4 ls []) rfl ?_
  refine lv_aload_n hx hb dX6_init_4 rfl (lv_at hl 0 rfl) ?_
  refine lv_iconst (v := 0) hx hb dX6_init_5 (by decide) ?_
  refine va_put (D := D) (ci := 6) (v := .int 0) (ty := tyX6 0) (C := RX6) (T := TX6) (N := 6) hx hb hts uX6 tyX6 tyX6_ok nmX6 hown hkb.1 hP hD hS 0 rfl rfl 0 (by decide) (hts _ kw_185) (fun _ h9 => h9) rfl (tyX6_ok 0 (by decide)) rfl rfl (Nat.le_of_ble_eq_true rfl) dX6_init_6 (fun H locs hP hD hS => ?_)
  have hP : va_P D cls [(h0, .inr (6, [.int 0, .int 0, .int 0, .int 0, .null, .null]))] H := hP
  have hD : va_D A [(h0, .inr (6, [.int 0, .int 0, .int 0, .int 0, .null, .null]))] := hD
  refine lv_aload_n hx hb dX6_init_9 rfl (lv_at hl 0 rfl) ?_
  refine lv_iconst (v := 0) hx hb dX6_init_10 (by decide) ?_
  refine va_put (D := D) (ci := 6) (v := .int 0) (ty := tyX6 1) (C := RX6) (T := TX6) (N := 6) hx hb hts uX6 tyX6 tyX6_ok nmX6 hown hkb.1 hP hD hS 0 rfl rfl 1 (by decide) (hts _ kw_187) (fun _ h9 => h9) rfl (tyX6_ok 1 (by decide)) rfl rfl (Nat.le_of_ble_eq_true rfl) dX6_init_11 (fun H locs hP hD hS => ?_)
  have hP : va_P D cls [(h0, .inr (6, [.int 0, .int 0, .int 0, .int 0, .null, .null]))] H := hP
  have hD : va_D A [(h0, .inr (6, [.int 0, .int 0, .int 0, .int 0, .null, .null]))] := hD
  refine lv_aload_n hx hb dX6_init_14 rfl (lv_at hl 0 rfl) ?_
  refine lv_iconst (v := 0) hx hb dX6_init_15 (by decide) ?_
  refine va_put (D := D) (ci := 6) (v := .int 0) (ty := tyX6 2) (C := RX6) (T := TX6) (N := 6) hx hb hts uX6 tyX6 tyX6_ok nmX6 hown hkb.1 hP hD hS 0 rfl rfl 2 (by decide) (hts _ kw_189) (fun _ h9 => h9) rfl (tyX6_ok 2 (by decide)) rfl rfl (Nat.le_of_ble_eq_true rfl) dX6_init_16 (fun H locs hP hD hS => ?_)
  have hP : va_P D cls [(h0, .inr (6, [.int 0, .int 0, .int 0, .int 0, .null, .null]))] H := hP
  have hD : va_D A [(h0, .inr (6, [.int 0, .int 0, .int 0, .int 0, .null, .null]))] := hD
  refine lv_aload_n hx hb dX6_init_19 rfl (lv_at hl 0 rfl) ?_
  refine lv_iconst (v := 0) hx hb dX6_init_20 (by decide) ?_
  refine va_put (D := D) (ci := 6) (v := .int 0) (ty := tyX6 3) (C := RX6) (T := TX6) (N := 6) hx hb hts uX6 tyX6 tyX6_ok nmX6 hown hkb.1 hP hD hS 0 rfl rfl 3 (by decide) (hts _ kw_192) (fun _ h9 => h9) rfl (tyX6_ok 3 (by decide)) rfl rfl (Nat.le_of_ble_eq_true rfl) dX6_init_21 (fun H locs hP hD hS => ?_)
  have hP : va_P D cls [(h0, .inr (6, [.int 0, .int 0, .int 0, .int 0, .null, .null]))] H := hP
  have hD : va_D A [(h0, .inr (6, [.int 0, .int 0, .int 0, .int 0, .null, .null]))] := hD
  refine lv_aload_n hx hb dX6_init_24 rfl (lv_at hl 0 rfl) ?_
  refine lv_bipush (v := 14) hx hb dX6_init_25 (by decide) ?_
  refine n_a (atype := .int) (t := .int) (a0 := (14, .inl (fun _ => 0))) 1 rfl (fun _ _ h => h) hx hb (hts _ kw_92) rfl hkb.1 hP hD hS hA (fun _ => rfl) (by decide) (by decide +kernel) (by decide) (Nat.le_of_ble_eq_true rfl) (Nat.le_of_ble_eq_true rfl) dX6_init_27 (fun q_1 H hP hD hS => ?_)
  have hP : va_P D cls [(h0, .inr (6, [.int 0, .int 0, .int 0, .int 0, .null, .null])), (q_1, .inl (cI, 14, .inl (fun _ => 0)))] H := hP
  have hD : va_D A [(h0, .inr (6, [.int 0, .int 0, .int 0, .int 0, .null, .null])), (q_1, .inl (cI, 14, .inl (fun _ => 0)))] := hD
  refine W.widen (k := 1) (n := 14) (Nat.le_of_ble_eq_true rfl) (Nat.le_of_ble_eq_true rfl) ?_
  refine va_putF (D := D) (ci := 6) (v := .ref q_1) (ty := tyX6 4) (C := RX6) (T := TX6) (N := 6) hx hb hts uX6 tyX6 tyX6_ok nmX6 hown hkb.1 hP hD hS 0 rfl rfl 4 (by decide) (hts _ kw_194) (fun _ h9 => h9) rfl hnm rfl (tyX6_ok 4 (by decide)) rfl rfl (Nat.le_of_ble_eq_true rfl) dX6_init_29 (fun H locs hP hD hS => ?_)
  have hP : va_P D cls [(h0, .inr (6, [.int 0, .int 0, .int 0, .int 0, .ref q_1, .null])), (q_1, .inl (cI, 14, .inl (fun _ => 0)))] H := hP
  have hD : va_D A [(h0, .inr (6, [.int 0, .int 0, .int 0, .int 0, .ref q_1, .null])), (q_1, .inl (cI, 14, .inl (fun _ => 0)))] := hD
  refine lv_aload_n hx hb dX6_init_32 rfl (lv_at hl 0 rfl) ?_
  refine lv_bipush (v := 14) hx hb dX6_init_33 (by decide) ?_
  refine n_a (atype := .int) (t := .int) (a0 := (14, .inl (fun _ => 0))) 1 rfl (fun _ _ h => h) hx hb (hts _ kw_92) rfl hkb.1 hP hD hS hA (fun _ => rfl) (by decide) (by decide +kernel) (by decide) (Nat.le_of_ble_eq_true rfl) (Nat.le_of_ble_eq_true rfl) dX6_init_35 (fun q_2 H hP hD hS => ?_)
  have hP : va_P D cls [(h0, .inr (6, [.int 0, .int 0, .int 0, .int 0, .ref q_1, .null])), (q_1, .inl (cI, 14, .inl (fun _ => 0))), (q_2, .inl (cI, 14, .inl (fun _ => 0)))] H := hP
  have hD : va_D A [(h0, .inr (6, [.int 0, .int 0, .int 0, .int 0, .ref q_1, .null])), (q_1, .inl (cI, 14, .inl (fun _ => 0))), (q_2, .inl (cI, 14, .inl (fun _ => 0)))] := hD
  refine W.widen (k := 2) (n := 28) (Nat.le_of_ble_eq_true rfl) (Nat.le_of_ble_eq_true rfl) ?_
  refine va_putF (D := D) (ci := 6) (v := .ref q_2) (ty := tyX6 5) (C := RX6) (T := TX6) (N := 6) hx hb hts uX6 tyX6 tyX6_ok nmX6 hown hkb.1 hP hD hS 0 rfl rfl 5 (by decide) (hts _ kw_196) (fun _ h9 => h9) rfl hnm rfl (tyX6_ok 5 (by decide)) rfl rfl (Nat.le_of_ble_eq_true rfl) dX6_init_37 (fun H locs hP hD hS => ?_)
  have hP : va_P D cls [(h0, .inr (6, [.int 0, .int 0, .int 0, .int 0, .ref q_1, .ref q_2])), (q_1, .inl (cI, 14, .inl (fun _ => 0))), (q_2, .inl (cI, 14, .inl (fun _ => 0)))] H := hP
  have hD : va_D A [(h0, .inr (6, [.int 0, .int 0, .int 0, .int 0, .ref q_1, .ref q_2])), (q_1, .inl (cI, 14, .inl (fun _ => 0))), (q_2, .inl (cI, 14, .inl (fun _ => 0)))] := hD
  refine W.widen (k := 2) (n := 28) (Nat.le_of_ble_eq_true rfl) (Nat.le_of_ble_eq_true rfl) ?_
  exact e_v (u := [(h0, .inr (6, [.int 0, .int 0, .int 0, .int 0, .ref q_1, .ref q_2])), (q_1, .inl (cI, 14, .inl (fun _ => 0))), (q_2, .inl (cI, 14, .inl (fun _ => 0)))]) hx hb hr hlocks (hP.sub (ws' := [(h0, .inr (6, [.int 0, .int 0, .int 0, .int 0, .ref q_1, .ref q_2])), (q_1, .inl (cI, 14, .inl (fun _ => 0))), (q_2, .inl (cI, 14, .inl (fun _ => 0)))]) [0, 1, 2] rfl) (hD.sub (ws' := [(h0, .inr (6, [.int 0, .int 0, .int 0, .int 0, .ref q_1, .ref q_2])), (q_1, .inl (cI, 14, .inl (fun _ => 0))), (q_2, .inl (cI, 14, .inl (fun _ => 0)))]) [0, 1, 2] (by decide) rfl) hS ⟨q_1, q_2, rfl⟩ dX6_init_40
set_option maxHeartbeats 4000000 in
set_option maxRecDepth 100000 in
theorem c_Tray_init (l : Launch) (D : va_G) (cB cI cJ cZ cS cW cT cR : ClassId) (h0 : Nat) : Kon l D (tyl cB cI cJ cZ cS cW cT cR) yX8_init cX8_init 1 none { frames := 1, cells := 1, slots := 40, locals := 12 } [.ref h0] [(h0, .inr (8, [.null, .int 0, .int 0]))] (Qv D (fun u => ∃ (q_1 : Nat), u = [(h0, .inr (8, [.ref q_1, .int 0, .int (-1)])), (q_1, .inl (cJ, 40, .inr (.inl (fun _ => 0))))])) := by
  refine kon_of (by decide) (Nat.le_of_ble_eq_true rfl) (fun p e s m below meth c ls A hx hb hr hml hown hts hlocks hnm hkb hP hD hS hA hl => ?_)
  have hown : s.vm.findClass RX8 = some m.cls := hown
  have hl : lv_has ls 1 [(0, .ref h0)] := hl
  have hP : va_P D cls [(h0, .inr (8, [.null, .int 0, .int 0]))] s.heap := hP
  refine lv_aload_n hx hb dX8_init_0 rfl (lv_at hl 0 rfl) ?_
  refine W.objInit hx hb hown (hts _ kw_348) (hts _ kw_30) (hts _ kw_31) rfl (by rw [hml]; exact hl.1) rfl dX8_init_1 (Nat.le_of_ble_eq_true rfl) (Nat.le_of_ble_eq_true rfl) ?_
  refine W.eq (g2 := F0 m 4 ls []) rfl ?_
  refine lv_aload_n hx hb dX8_init_4 rfl (lv_at hl 0 rfl) ?_
  refine lv_bipush (v := 40) hx hb dX8_init_5 (by decide) ?_
  refine n_a (atype := .long) (t := .long) (a0 := (40, .inr (.inl (fun _ => 0)))) 2 rfl (fun _ _ h => h) hx hb (hts _ kw_295) rfl hkb.1 hP hD hS hA (fun _ => rfl) (by decide) (by decide +kernel) (by decide) (Nat.le_of_ble_eq_true rfl) (Nat.le_of_ble_eq_true rfl) dX8_init_7 (fun q_1 H hP hD hS => ?_)
  have hP : va_P D cls [(h0, .inr (8, [.null, .int 0, .int 0])), (q_1, .inl (cJ, 40, .inr (.inl (fun _ => 0))))] H := hP
  have hD : va_D A [(h0, .inr (8, [.null, .int 0, .int 0])), (q_1, .inl (cJ, 40, .inr (.inl (fun _ => 0))))] := hD
  refine W.widen (k := 1) (n := 40) (Nat.le_of_ble_eq_true rfl) (Nat.le_of_ble_eq_true rfl) ?_
  refine va_putF (D := D) (ci := 8) (v := .ref q_1) (ty := tyX8 0) (C := RX8) (T := TX8) (N := 3) hx hb hts uX8 tyX8 tyX8_ok nmX8 hown hkb.1 hP hD hS 0 rfl rfl 0 (by decide) (hts _ kw_349) (fun _ h9 => h9) rfl hnm rfl (tyX8_ok 0 (by decide)) rfl rfl (Nat.le_of_ble_eq_true rfl) dX8_init_9 (fun H locs hP hD hS => ?_)
  have hP : va_P D cls [(h0, .inr (8, [.ref q_1, .int 0, .int 0])), (q_1, .inl (cJ, 40, .inr (.inl (fun _ => 0))))] H := hP
  have hD : va_D A [(h0, .inr (8, [.ref q_1, .int 0, .int 0])), (q_1, .inl (cJ, 40, .inr (.inl (fun _ => 0))))] := hD
  refine lv_aload_n hx hb dX8_init_12 rfl (lv_at hl 0 rfl) ?_
  refine lv_iconst (v := 0) hx hb dX8_init_13 (by decide) ?_
  refine va_put (D := D) (ci := 8) (v := .int 0) (ty := tyX8 1) (C := RX8) (T := TX8) (N := 3) hx hb hts uX8 tyX8 tyX8_ok nmX8 hown hkb.1 hP hD hS 0 rfl rfl 1 (by decide) (hts _ kw_350) (fun _ h9 => h9) rfl (tyX8_ok 1 (by decide)) rfl rfl (Nat.le_of_ble_eq_true rfl) dX8_init_14 (fun H locs hP hD hS => ?_)
  have hP : va_P D cls [(h0, .inr (8, [.ref q_1, .int 0, .int 0])), (q_1, .inl (cJ, 40, .inr (.inl (fun _ => 0))))] H := hP
  have hD : va_D A [(h0, .inr (8, [.ref q_1, .int 0, .int 0])), (q_1, .inl (cJ, 40, .inr (.inl (fun _ => 0))))] := hD
  refine lv_aload_n hx hb dX8_init_17 rfl (lv_at hl 0 rfl) ?_
  refine lv_iconst (v := (-1)) hx hb dX8_init_18 (by decide) ?_
  refine va_put (D := D) (ci := 8) (v := .int (-1)) (ty := tyX8 2) (C := RX8) (T := TX8) (N := 3) hx hb hts uX8 tyX8 tyX8_ok nmX8 hown hkb.1 hP hD hS 0 rfl rfl 2 (by decide) (hts _ kw_351) (fun _ h9 => h9) rfl (tyX8_ok 2 (by decide)) rfl rfl (Nat.le_of_ble_eq_true rfl) dX8_init_19 (fun H locs hP hD hS => ?_)
  have hP : va_P D cls [(h0, .inr (8, [.ref q_1, .int 0, .int (-1)])), (q_1, .inl (cJ, 40, .inr (.inl (fun _ => 0))))] H := hP
  have hD : va_D A [(h0, .inr (8, [.ref q_1, .int 0, .int (-1)])), (q_1, .inl (cJ, 40, .inr (.inl (fun _ => 0))))] := hD
  refine W.widen (k := 1) (n := 40) (Nat.le_of_ble_eq_true rfl) (Nat.le_of_ble_eq_true rfl) ?_
  exact e_v (u := [(h0, .inr (8, [.ref q_1, .int 0, .int (-1)])), (q_1, .inl (cJ, 40, .inr (.inl (fun _ => 0))))]) hx hb hr hlocks (hP.sub (ws' := [(h0, .inr (8, [.ref q_1, .int 0, .int (-1)])), (q_1, .inl (cJ, 40, .inr (.inl (fun _ => 0))))]) [0, 1] rfl) (hD.sub (ws' := [(h0, .inr (8, [.ref q_1, .int 0, .int (-1)])), (q_1, .inl (cJ, 40, .inr (.inl (fun _ => 0))))]) [0, 1] (by decide) rfl) hS ⟨q_1, rfl⟩ dX8_init_22
set_option maxHeartbeats 4000000 in
set_option maxRecDepth 100000 in
theorem c_Tokens_init (l : Launch) (D : va_G) (cB cI cJ cZ cS cW cT cR : ClassId) (h0 : Nat) : Kon l D (tyl cB cI cJ cZ cS cW cT cR) yX7_init cX7_init 1 none { frames := 1, cells := 1, slots := 0, locals := 12 } [.ref h0] [(h0, .inr (7, [.null, .int 0, .int 0, .int 0, .int 0, .int 0, .int 0, .int 0]))] (Qv D (fun u => ∃ (q_1 : Nat), u = [(h0, .inr (7, [.ref q_1, .int 0, .int 0, .int 0, .int 0, .int 0, .int 0, .int (-1)])), (q_1, .inl (cB, 0, .inl (fun _ => 0)))])) := by
  refine kon_of (by decide) (Nat.le_of_ble_eq_true rfl) (fun p e s m below meth c ls A hx hb hr hml hown hts hlocks hnm hkb hP hD hS hA hl => ?_)
  have hown : s.vm.findClass RX7 = some m.cls := hown
  have hl : lv_has ls 1 [(0, .ref h0)] := hl
  have hP : va_P D cls [(h0, .inr (7, [.null, .int 0, .int 0, .int 0, .int 0, .int 0, .int 0, .int 0]))] s.heap := hP
  refine lv_aload_n hx hb dX7_init_0 rfl (lv_at hl 0 rfl) ?_
  refine W.objInit hx hb hown (hts _ kw_43) (hts _ kw_30) (hts _ kw_31) rfl (by rw [hml]; exact hl.1) rfl dX7_init_1 (Nat.le_of_ble_eq_true rfl) (Nat.le_of_ble_eq_true rfl) ?_
  refine W.eq (g2 := F0 m 4 ls []) rfl ?_
  refine lv_aload_n hx hb dX7_init_4 rfl (lv_at hl 0 rfl) ?_
  refine lv_iconst (v := 0) hx hb dX7_init_5 (by decide) ?_
  refine n_a (atype := .byte) (t := .byte) (a0 := (0, .inl (fun _ => 0))) 0 rfl (fun _ _ h => h) hx hb (hts _ kw_75) rfl hkb.1 hP hD hS hA (fun _ => rfl) (by decide) (by decide +kernel) (by decide) (Nat.le_of_ble_eq_true rfl) (Nat.le_of_ble_eq_true rfl) dX7_init_6 (fun q_1 H hP hD hS => ?_)
  have hP : va_P D cls [(h0, .inr (7, [.null, .int 0, .int 0, .int 0, .int 0, .int 0, .int 0, .int 0])), (q_1, .inl (cB, 0, .inl (fun _ => 0)))] H := hP
  have hD : va_D A [(h0, .inr (7, [.null, .int 0, .int 0, .int 0, .int 0, .int 0, .int 0, .int 0])), (q_1, .inl (cB, 0, .inl (fun _ => 0)))] := hD
  refine W.widen (k := 1) (n := 0) (Nat.le_of_ble_eq_true rfl) (Nat.le_of_ble_eq_true rfl) ?_
  refine va_put (D := D) (ci := 7) (v := .ref q_1) (ty := tyX7 0) (C := RX7) (T := TX7) (N := 8) hx hb hts uX7 tyX7 tyX7_ok nmX7 hown hkb.1 hP hD hS 0 rfl rfl 0 (by decide) (hts _ kw_44) (fun _ h9 => h9) rfl (tyX7_ok 0 (by decide)) rfl rfl (Nat.le_of_ble_eq_true rfl) dX7_init_8 (fun H locs hP hD hS => ?_)
  have hP : va_P D cls [(h0, .inr (7, [.ref q_1, .int 0, .int 0, .int 0, .int 0, .int 0, .int 0, .int 0])), (q_1, .inl (cB, 0, .inl (fun _ => 0)))] H := hP
  have hD : va_D A [(h0, .inr (7, [.ref q_1, .int 0, .int 0, .int 0, .int 0, .int 0, .int 0, .int 0])), (q_1, .inl (cB, 0, .inl (fun _ => 0)))] := hD
  refine lv_aload_n hx hb dX7_init_11 rfl (lv_at hl 0 rfl) ?_
  refine lv_iconst (v := 0) hx hb dX7_init_12 (by decide) ?_
  refine va_put (D := D) (ci := 7) (v := .int 0) (ty := tyX7 1) (C := RX7) (T := TX7) (N := 8) hx hb hts uX7 tyX7 tyX7_ok nmX7 hown hkb.1 hP hD hS 0 rfl rfl 1 (by decide) (hts _ kw_45) (fun _ h9 => h9) rfl (tyX7_ok 1 (by decide)) rfl rfl (Nat.le_of_ble_eq_true rfl) dX7_init_13 (fun H locs hP hD hS => ?_)
  have hP : va_P D cls [(h0, .inr (7, [.ref q_1, .int 0, .int 0, .int 0, .int 0, .int 0, .int 0, .int 0])), (q_1, .inl (cB, 0, .inl (fun _ => 0)))] H := hP
  have hD : va_D A [(h0, .inr (7, [.ref q_1, .int 0, .int 0, .int 0, .int 0, .int 0, .int 0, .int 0])), (q_1, .inl (cB, 0, .inl (fun _ => 0)))] := hD
  refine lv_aload_n hx hb dX7_init_16 rfl (lv_at hl 0 rfl) ?_
  refine lv_iconst (v := 0) hx hb dX7_init_17 (by decide) ?_
  refine va_put (D := D) (ci := 7) (v := .int 0) (ty := tyX7 2) (C := RX7) (T := TX7) (N := 8) hx hb hts uX7 tyX7 tyX7_ok nmX7 hown hkb.1 hP hD hS 0 rfl rfl 2 (by decide) (hts _ kw_46) (fun _ h9 => h9) rfl (tyX7_ok 2 (by decide)) rfl rfl (Nat.le_of_ble_eq_true rfl) dX7_init_18 (fun H locs hP hD hS => ?_)
  have hP : va_P D cls [(h0, .inr (7, [.ref q_1, .int 0, .int 0, .int 0, .int 0, .int 0, .int 0, .int 0])), (q_1, .inl (cB, 0, .inl (fun _ => 0)))] H := hP
  have hD : va_D A [(h0, .inr (7, [.ref q_1, .int 0, .int 0, .int 0, .int 0, .int 0, .int 0, .int 0])), (q_1, .inl (cB, 0, .inl (fun _ => 0)))] := hD
  refine lv_aload_n hx hb dX7_init_21 rfl (lv_at hl 0 rfl) ?_
  refine lv_iconst (v := 0) hx hb dX7_init_22 (by decide) ?_
  refine va_put (D := D) (ci := 7) (v := .int 0) (ty := tyX7 3) (C := RX7) (T := TX7) (N := 8) hx hb hts uX7 tyX7 tyX7_ok nmX7 hown hkb.1 hP hD hS 0 rfl rfl 3 (by decide) (hts _ kw_47) (fun _ h9 => h9) rfl (tyX7_ok 3 (by decide)) rfl rfl (Nat.le_of_ble_eq_true rfl) dX7_init_23 (fun H locs hP hD hS => ?_)
  have hP : va_P D cls [(h0, .inr (7, [.ref q_1, .int 0, .int 0, .int 0, .int 0, .int 0, .int 0, .int 0])), (q_1, .inl (cB, 0, .inl (fun _ => 0)))] H := hP
  have hD : va_D A [(h0, .inr (7, [.ref q_1, .int 0, .int 0, .int 0, .int 0, .int 0, .int 0, .int 0])), (q_1, .inl (cB, 0, .inl (fun _ => 0)))] := hD
  refine lv_aload_n hx hb dX7_init_26 rfl (lv_at hl 0 rfl) ?_
  refine lv_iconst (v := 0) hx hb dX7_init_27 (by decide) ?_
  refine va_put (D := D) (ci := 7) (v := .int 0) (ty := tyX7 4) (C := RX7) (T := TX7) (N := 8) hx hb hts uX7 tyX7 tyX7_ok nmX7 hown hkb.1 hP hD hS 0 rfl rfl 4 (by decide) (hts _ kw_48) (fun _ h9 => h9) rfl (tyX7_ok 4 (by decide)) rfl rfl (Nat.le_of_ble_eq_true rfl) dX7_init_28 (fun H locs hP hD hS => ?_)
  have hP : va_P D cls [(h0, .inr (7, [.ref q_1, .int 0, .int 0, .int 0, .int 0, .int 0, .int 0, .int 0])), (q_1, .inl (cB, 0, .inl (fun _ => 0)))] H := hP
  have hD : va_D A [(h0, .inr (7, [.ref q_1, .int 0, .int 0, .int 0, .int 0, .int 0, .int 0, .int 0])), (q_1, .inl (cB, 0, .inl (fun _ => 0)))] := hD
  refine lv_aload_n hx hb dX7_init_31 rfl (lv_at hl 0 rfl) ?_
  refine lv_iconst (v := 0) hx hb dX7_init_32 (by decide) ?_
  refine va_put (D := D) (ci := 7) (v := .int 0) (ty := tyX7 5) (C := RX7) (T := TX7) (N := 8) hx hb hts uX7 tyX7 tyX7_ok nmX7 hown hkb.1 hP hD hS 0 rfl rfl 5 (by decide) (hts _ kw_51) (fun _ h9 => h9) rfl (tyX7_ok 5 (by decide)) rfl rfl (Nat.le_of_ble_eq_true rfl) dX7_init_33 (fun H locs hP hD hS => ?_)
  have hP : va_P D cls [(h0, .inr (7, [.ref q_1, .int 0, .int 0, .int 0, .int 0, .int 0, .int 0, .int 0])), (q_1, .inl (cB, 0, .inl (fun _ => 0)))] H := hP
  have hD : va_D A [(h0, .inr (7, [.ref q_1, .int 0, .int 0, .int 0, .int 0, .int 0, .int 0, .int 0])), (q_1, .inl (cB, 0, .inl (fun _ => 0)))] := hD
  refine lv_aload_n hx hb dX7_init_36 rfl (lv_at hl 0 rfl) ?_
  refine lv_iconst (v := 0) hx hb dX7_init_37 (by decide) ?_
  refine va_put (D := D) (ci := 7) (v := .int 0) (ty := tyX7 6) (C := RX7) (T := TX7) (N := 8) hx hb hts uX7 tyX7 tyX7_ok nmX7 hown hkb.1 hP hD hS 0 rfl rfl 6 (by decide) (hts _ kw_54) (fun _ h9 => h9) rfl (tyX7_ok 6 (by decide)) rfl rfl (Nat.le_of_ble_eq_true rfl) dX7_init_38 (fun H locs hP hD hS => ?_)
  have hP : va_P D cls [(h0, .inr (7, [.ref q_1, .int 0, .int 0, .int 0, .int 0, .int 0, .int 0, .int 0])), (q_1, .inl (cB, 0, .inl (fun _ => 0)))] H := hP
  have hD : va_D A [(h0, .inr (7, [.ref q_1, .int 0, .int 0, .int 0, .int 0, .int 0, .int 0, .int 0])), (q_1, .inl (cB, 0, .inl (fun _ => 0)))] := hD
  refine lv_aload_n hx hb dX7_init_41 rfl (lv_at hl 0 rfl) ?_
  refine lv_iconst (v := (-1)) hx hb dX7_init_42 (by decide) ?_
  refine va_put (D := D) (ci := 7) (v := .int (-1)) (ty := tyX7 7) (C := RX7) (T := TX7) (N := 8) hx hb hts uX7 tyX7 tyX7_ok nmX7 hown hkb.1 hP hD hS 0 rfl rfl 7 (by decide) (hts _ kw_56) (fun _ h9 => h9) rfl (tyX7_ok 7 (by decide)) rfl rfl (Nat.le_of_ble_eq_true rfl) dX7_init_43 (fun H locs hP hD hS => ?_)
  have hP : va_P D cls [(h0, .inr (7, [.ref q_1, .int 0, .int 0, .int 0, .int 0, .int 0, .int 0, .int (-1)])), (q_1, .inl (cB, 0, .inl (fun _ => 0)))] H := hP
  have hD : va_D A [(h0, .inr (7, [.ref q_1, .int 0, .int 0, .int 0, .int 0, .int 0, .int 0, .int (-1)])), (q_1, .inl (cB, 0, .inl (fun _ => 0)))] := hD
  refine W.widen (k := 1) (n := 0) (Nat.le_of_ble_eq_true rfl) (Nat.le_of_ble_eq_true rfl) ?_
  exact e_v (u := [(h0, .inr (7, [.ref q_1, .int 0, .int 0, .int 0, .int 0, .int 0, .int 0, .int (-1)])), (q_1, .inl (cB, 0, .inl (fun _ => 0)))]) hx hb hr hlocks (hP.sub (ws' := [(h0, .inr (7, [.ref q_1, .int 0, .int 0, .int 0, .int 0, .int 0, .int 0, .int (-1)])), (q_1, .inl (cB, 0, .inl (fun _ => 0)))]) [0, 1] rfl) (hD.sub (ws' := [(h0, .inr (7, [.ref q_1, .int 0, .int 0, .int 0, .int 0, .int 0, .int 0, .int (-1)])), (q_1, .inl (cB, 0, .inl (fun _ => 0)))]) [0, 1] (by decide) rfl) hS ⟨q_1, rfl⟩ dX7_init_46
set_option maxHeartbeats 4000000 in
set_option maxRecDepth 100000 in
theorem c_LawReader_init (l : Launch) (D : va_G) (cB cI cJ cZ cS cW cT cR : ClassId) (h0 : Nat) (tk : Nat) : Kon l D (tyl cB cI cJ cZ cS cW cT cR) yX3_init cX3_init 2 none { frames := 1, cells := 1, slots := 900, locals := 12 } [.ref h0, .ref tk] [(h0, .inr (3, [.null, .null, .int 0]))] (Qv D (fun u => ∃ (q_1 : Nat), u = [(h0, .inr (3, [.ref tk, .ref q_1, .int 0]))])) := by
  refine kon_of (by decide) (Nat.le_of_ble_eq_true rfl) (fun p e s m below meth c ls A hx hb hr hml hown hts hlocks hnm hkb hP hD hS hA hl => ?_)
  have hown : s.vm.findClass RX3 = some m.cls := hown
  have hl : lv_has ls 2 [(0, .ref h0), (1, .ref tk)] := hl
  have hP : va_P D cls [(h0, .inr (3, [.null, .null, .int 0]))] s.heap := hP
  refine lv_aload_n hx hb dX3_init_0 rfl (lv_at hl 0 rfl) ?_
  refine W.objInit hx hb hown (hts _ kw_81) (hts _ kw_30) (hts _ kw_31) rfl (by rw [hml]; exact hl.1) rfl dX3_init_1 (Nat.le_of_ble_eq_true rfl) (Nat.le_of_ble_eq_true rfl) ?_
  refine W.eq (g2 := F0 m 4 ls []) rfl ?_
  refine lv_aload_n hx hb dX3_init_4 rfl (lv_at hl 0 rfl) ?_
  refine lv_sipush (v := 900) hx hb dX3_init_5 (by decide) ?_
  refine n_a (atype := .int) (t := .int) (a0 := (900, .inl (fun _ => 0))) 1 rfl (fun _ _ h => h) hx hb (hts _ kw_92) rfl hkb.1 hP hD hS hA (fun _ => rfl) (by decide) (by decide +kernel) (by decide) (Nat.le_of_ble_eq_true rfl) (Nat.le_of_ble_eq_true rfl) dX3_init_8 (fun q_1 H hP hD hS => ?_)
  have hP : va_P D cls [(h0, .inr (3, [.null, .null, .int 0])), (q_1, .inl (cI, 900, .inl (fun _ => 0)))] H := hP
  have hD : va_D A [(h0, .inr (3, [.null, .null, .int 0])), (q_1, .inl (cI, 900, .inl (fun _ => 0)))] := hD
  refine W.widen (k := 1) (n := 900) (Nat.le_of_ble_eq_true rfl) (Nat.le_of_ble_eq_true rfl) ?_
  refine va_putF (D := D) (ci := 3) (v := .ref q_1) (ty := tyX3 1) (C := RX3) (T := TX3) (N := 3) hx hb hts uX3 tyX3 tyX3_ok nmX3 hown hkb.1 hP hD hS 0 rfl rfl 1 (by decide) (hts _ kw_83) (fun _ h9 => h9) rfl hnm rfl (tyX3_ok 1 (by decide)) rfl rfl (Nat.le_of_ble_eq_true rfl) dX3_init_10 (fun H locs hP hD hS => ?_)
  have hP : va_P D cls [(h0, .inr (3, [.null, .ref q_1, .int 0])), (q_1, .inl (cI, 900, .inl (fun _ => 0)))] H := hP
  have hD : va_D A [(h0, .inr (3, [.null, .ref q_1, .int 0])), (q_1, .inl (cI, 900, .inl (fun _ => 0)))] := hD
  refine lv_aload_n hx hb dX3_init_13 rfl (lv_at hl 0 rfl) ?_
  refine lv_iconst (v := 0) hx hb dX3_init_14 (by decide) ?_
  refine va_put (D := D) (ci := 3) (v := .int 0) (ty := tyX3 2) (C := RX3) (T := TX3) (N := 3) hx hb hts uX3 tyX3 tyX3_ok nmX3 hown hkb.1 hP hD hS 0 rfl rfl 2 (by decide) (hts _ kw_84) (fun _ h9 => h9) rfl (tyX3_ok 2 (by decide)) rfl rfl (Nat.le_of_ble_eq_true rfl) dX3_init_15 (fun H locs hP hD hS => ?_)
  have hP : va_P D cls [(h0, .inr (3, [.null, .ref q_1, .int 0])), (q_1, .inl (cI, 900, .inl (fun _ => 0)))] H := hP
  have hD : va_D A [(h0, .inr (3, [.null, .ref q_1, .int 0])), (q_1, .inl (cI, 900, .inl (fun _ => 0)))] := hD
  refine lv_aload_n hx hb dX3_init_18 rfl (lv_at hl 0 rfl) ?_
  refine lv_aload_n hx hb dX3_init_19 rfl (lv_at hl 1 rfl) ?_
  refine va_putF (D := D) (ci := 3) (v := .ref tk) (ty := tyX3 0) (C := RX3) (T := TX3) (N := 3) hx hb hts uX3 tyX3 tyX3_ok nmX3 hown hkb.1 hP hD hS 0 rfl rfl 0 (by decide) (hts _ kw_82) (fun _ h9 => h9) rfl hnm rfl (tyX3_ok 0 (by decide)) rfl rfl (Nat.le_of_ble_eq_true rfl) dX3_init_20 (fun H locs hP hD hS => ?_)
  have hP : va_P D cls [(h0, .inr (3, [.ref tk, .ref q_1, .int 0])), (q_1, .inl (cI, 900, .inl (fun _ => 0)))] H := hP
  have hD : va_D A [(h0, .inr (3, [.ref tk, .ref q_1, .int 0])), (q_1, .inl (cI, 900, .inl (fun _ => 0)))] := hD
  refine W.widen (k := 1) (n := 900) (Nat.le_of_ble_eq_true rfl) (Nat.le_of_ble_eq_true rfl) ?_
  exact e_v (u := [(h0, .inr (3, [.ref tk, .ref q_1, .int 0]))]) hx hb hr hlocks (hP.sub (ws' := [(h0, .inr (3, [.ref tk, .ref q_1, .int 0]))]) [0] rfl) (hD.sub (ws' := [(h0, .inr (3, [.ref tk, .ref q_1, .int 0]))]) [0] (by decide) rfl) hS ⟨q_1, rfl⟩ dX3_init_23
set_option maxHeartbeats 4000000 in
set_option maxRecDepth 100000 in
theorem c_Wall_init_14 (l : Launch) (D : va_G) (cB cI cJ cZ cS cW cT cR : ClassId) (h0 : Nat) : Kon l D (tyl cB cI cJ cZ cS cW cT cR) yX9_init cX9_init 4 none { frames := 1, cells := 5, slots := 52, locals := 14 } [.ref h0, .int 14, .int 5, .null] [(h0, .inr (9, [.int 0, .int 0, .int 0, .int 0, .int 0, .int 0, .null, .null, .null, .null, .null, .null, .int 0, .int 0]))] (Qv D (fun u => ∃ (q_1 : Nat), ∃ (q_2 : Nat), ∃ (q_3 : Nat), ∃ (q_4 : Nat), ∃ (q_5 : Nat), u = [(h0, .inr (9, [.int 14, .int 5, .int 0, .int 0, .int 0, .int 0, .ref q_1, .ref q_2, .ref q_3, .ref q_4, .ref q_5, .null, .int 0, .int 1])), (q_1, .inl (cI, 14, .inl (fun _ => 0))), (q_2, .inl (cI, 14, .inl (fun _ => 0))), (q_3, .inl (cI, 14, .inl (fun _ => 0))), (q_4, .inl (cI, 5, .inl (fun _ => 0))), (q_5, .inl (cI, 5, .inl (fun _ => 0)))])) := by
  refine kon_of (by decide) (Nat.le_of_ble_eq_true rfl) (fun p e s m below meth c ls A hx hb hr hml hown hts hlocks hnm hkb hP hD hS hA hl => ?_)
  have hown : s.vm.findClass RX9 = some m.cls := hown
  have hl : lv_has ls 4 [(0, .ref h0), (1, .int 14), (2, .int 5), (3, .null)] := hl
  have hP : va_P D cls [(h0, .inr (9, [.int 0, .int 0, .int 0, .int 0, .int 0, .int 0, .null, .null, .null, .null, .null, .null, .int 0, .int 0]))] s.heap := hP
  refine lv_aload_n hx hb dX9_init_0 rfl (lv_at hl 0 rfl) ?_
  refine W.objInit hx hb hown (hts _ kw_98) (hts _ kw_30) (hts _ kw_31) rfl (by rw [hml]; exact hl.1) rfl dX9_init_1 (Nat.le_of_ble_eq_true rfl) (Nat.le_of_ble_eq_true rfl) ?_
  refine W.eq (g2 := F0 m 4 ls []) rfl ?_
  refine lv_aload_n hx hb dX9_init_4 rfl (lv_at hl 0 rfl) ?_
  refine lv_iconst (v := 0) hx hb dX9_init_5 (by decide) ?_
  refine va_put (D := D) (ci := 9) (v := .int 0) (ty := tyX9 2) (C := RX9) (T := TX9) (N := 14) hx hb hts uX9 tyX9 tyX9_ok nmX9 hown hkb.1 hP hD hS 0 rfl rfl 2 (by decide) (hts _ kw_113) (fun _ h9 => h9) rfl (tyX9_ok 2 (by decide)) rfl rfl (Nat.le_of_ble_eq_true rfl) dX9_init_6 (fun H locs hP hD hS => ?_)
  have hP : va_P D cls [(h0, .inr (9, [.int 0, .int 0, .int 0, .int 0, .int 0, .int 0, .null, .null, .null, .null, .null, .null, .int 0, .int 0]))] H := hP
  have hD : va_D A [(h0, .inr (9, [.int 0, .int 0, .int 0, .int 0, .int 0, .int 0, .null, .null, .null, .null, .null, .null, .int 0, .int 0]))] := hD
  refine lv_aload_n hx hb dX9_init_9 rfl (lv_at hl 0 rfl) ?_
  refine lv_iconst (v := 0) hx hb dX9_init_10 (by decide) ?_
  refine va_put (D := D) (ci := 9) (v := .int 0) (ty := tyX9 3) (C := RX9) (T := TX9) (N := 14) hx hb hts uX9 tyX9 tyX9_ok nmX9 hown hkb.1 hP hD hS 0 rfl rfl 3 (by decide) (hts _ kw_116) (fun _ h9 => h9) rfl (tyX9_ok 3 (by decide)) rfl rfl (Nat.le_of_ble_eq_true rfl) dX9_init_11 (fun H locs hP hD hS => ?_)
  have hP : va_P D cls [(h0, .inr (9, [.int 0, .int 0, .int 0, .int 0, .int 0, .int 0, .null, .null, .null, .null, .null, .null, .int 0, .int 0]))] H := hP
  have hD : va_D A [(h0, .inr (9, [.int 0, .int 0, .int 0, .int 0, .int 0, .int 0, .null, .null, .null, .null, .null, .null, .int 0, .int 0]))] := hD
  refine lv_aload_n hx hb dX9_init_14 rfl (lv_at hl 0 rfl) ?_
  refine lv_iconst (v := 0) hx hb dX9_init_15 (by decide) ?_
  refine va_put (D := D) (ci := 9) (v := .int 0) (ty := tyX9 4) (C := RX9) (T := TX9) (N := 14) hx hb hts uX9 tyX9 tyX9_ok nmX9 hown hkb.1 hP hD hS 0 rfl rfl 4 (by decide) (hts _ kw_123) (fun _ h9 => h9) rfl (tyX9_ok 4 (by decide)) rfl rfl (Nat.le_of_ble_eq_true rfl) dX9_init_16 (fun H locs hP hD hS => ?_)
  have hP : va_P D cls [(h0, .inr (9, [.int 0, .int 0, .int 0, .int 0, .int 0, .int 0, .null, .null, .null, .null, .null, .null, .int 0, .int 0]))] H := hP
  have hD : va_D A [(h0, .inr (9, [.int 0, .int 0, .int 0, .int 0, .int 0, .int 0, .null, .null, .null, .null, .null, .null, .int 0, .int 0]))] := hD
  refine lv_aload_n hx hb dX9_init_19 rfl (lv_at hl 0 rfl) ?_
  refine lv_iconst (v := 0) hx hb dX9_init_20 (by decide) ?_
  refine va_put (D := D) (ci := 9) (v := .int 0) (ty := tyX9 5) (C := RX9) (T := TX9) (N := 14) hx hb hts uX9 tyX9 tyX9_ok nmX9 hown hkb.1 hP hD hS 0 rfl rfl 5 (by decide) (hts _ kw_130) (fun _ h9 => h9) rfl (tyX9_ok 5 (by decide)) rfl rfl (Nat.le_of_ble_eq_true rfl) dX9_init_21 (fun H locs hP hD hS => ?_)
  have hP : va_P D cls [(h0, .inr (9, [.int 0, .int 0, .int 0, .int 0, .int 0, .int 0, .null, .null, .null, .null, .null, .null, .int 0, .int 0]))] H := hP
  have hD : va_D A [(h0, .inr (9, [.int 0, .int 0, .int 0, .int 0, .int 0, .int 0, .null, .null, .null, .null, .null, .null, .int 0, .int 0]))] := hD
  refine lv_aload_n hx hb dX9_init_24 rfl (lv_at hl 0 rfl) ?_
  refine lv_iconst (v := 0) hx hb dX9_init_25 (by decide) ?_
  refine lv_iload_n hx hb dX9_init_26 rfl (lv_at hl 1 rfl) ?_
  refine va_mmax hx hb (by rw [hml]; exact hl.1.symm) hown (hts _ kw_99) (hts _ kw_100) (hts _ kw_6) (hts _ kw_101) (Nat.le_of_ble_eq_true rfl) (Nat.le_of_ble_eq_true rfl) (Nat.le_of_ble_eq_true rfl) (Nat.le_of_ble_eq_true rfl) dX9_init_27 ?_
  refine lv_topc (y := 14) (by decide +kernel) ?_
  refine va_put (D := D) (ci := 9) (v := .int 14) (ty := tyX9 0) (C := RX9) (T := TX9) (N := 14) hx hb hts uX9 tyX9 tyX9_ok nmX9 hown hkb.1 hP hD hS 0 rfl rfl 0 (by decide) (hts _ kw_106) (fun _ h9 => h9) rfl (tyX9_ok 0 (by decide)) rfl rfl (Nat.le_of_ble_eq_true rfl) dX9_init_30 (fun H locs hP hD hS => ?_)
  have hP : va_P D cls [(h0, .inr (9, [.int 14, .int 0, .int 0, .int 0, .int 0, .int 0, .null, .null, .null, .null, .null, .null, .int 0, .int 0]))] H := hP
  have hD : va_D A [(h0, .inr (9, [.int 14, .int 0, .int 0, .int 0, .int 0, .int 0, .null, .null, .null, .null, .null, .null, .int 0, .int 0]))] := hD
  refine lv_aload_n hx hb dX9_init_33 rfl (lv_at hl 0 rfl) ?_
  refine lv_iconst (v := 0) hx hb dX9_init_34 (by decide) ?_
  refine lv_iload_n hx hb dX9_init_35 rfl (lv_at hl 2 rfl) ?_
  refine va_mmax hx hb (by rw [hml]; exact hl.1.symm) hown (hts _ kw_99) (hts _ kw_100) (hts _ kw_6) (hts _ kw_101) (Nat.le_of_ble_eq_true rfl) (Nat.le_of_ble_eq_true rfl) (Nat.le_of_ble_eq_true rfl) (Nat.le_of_ble_eq_true rfl) dX9_init_36 ?_
  refine lv_topc (y := 5) (by decide +kernel) ?_
  refine va_put (D := D) (ci := 9) (v := .int 5) (ty := tyX9 1) (C := RX9) (T := TX9) (N := 14) hx hb hts uX9 tyX9 tyX9_ok nmX9 hown hkb.1 hP hD hS 0 rfl rfl 1 (by decide) (hts _ kw_110) (fun _ h9 => h9) rfl (tyX9_ok 1 (by decide)) rfl rfl (Nat.le_of_ble_eq_true rfl) dX9_init_39 (fun H locs hP hD hS => ?_)
  have hP : va_P D cls [(h0, .inr (9, [.int 14, .int 5, .int 0, .int 0, .int 0, .int 0, .null, .null, .null, .null, .null, .null, .int 0, .int 0]))] H := hP
  have hD : va_D A [(h0, .inr (9, [.int 14, .int 5, .int 0, .int 0, .int 0, .int 0, .null, .null, .null, .null, .null, .null, .int 0, .int 0]))] := hD
  refine lv_aload_n hx hb dX9_init_42 rfl (lv_at hl 0 rfl) ?_
  refine lv_aload_n hx hb dX9_init_43 rfl (lv_at hl 0 rfl) ?_
  refine va_get (D := D) (ci := 9) (v := .int 14) (C := RX9) (T := TX9) (N := 14) hx hb hts uX9 hown hkb.1 hP 0 rfl rfl 0 (by decide) (hts _ kw_106) (fun _ h9 => h9) rfl dX9_init_44 ?_
  refine n_a (atype := .int) (t := .int) (a0 := (14, .inl (fun _ => 0))) 1 rfl (fun _ _ h => h) hx hb (hts _ kw_92) rfl hkb.1 hP hD hS hA (fun _ => rfl) (by decide) (by decide +kernel) (by decide) (Nat.le_of_ble_eq_true rfl) (Nat.le_of_ble_eq_true rfl) dX9_init_47 (fun q_1 H hP hD hS => ?_)
  have hP : va_P D cls [(h0, .inr (9, [.int 14, .int 5, .int 0, .int 0, .int 0, .int 0, .null, .null, .null, .null, .null, .null, .int 0, .int 0])), (q_1, .inl (cI, 14, .inl (fun _ => 0)))] H := hP
  have hD : va_D A [(h0, .inr (9, [.int 14, .int 5, .int 0, .int 0, .int 0, .int 0, .null, .null, .null, .null, .null, .null, .int 0, .int 0])), (q_1, .inl (cI, 14, .inl (fun _ => 0)))] := hD
  refine W.widen (k := 1) (n := 14) (Nat.le_of_ble_eq_true rfl) (Nat.le_of_ble_eq_true rfl) ?_
  refine va_putF (D := D) (ci := 9) (v := .ref q_1) (ty := tyX9 6) (C := RX9) (T := TX9) (N := 14) hx hb hts uX9 tyX9 tyX9_ok nmX9 hown hkb.1 hP hD hS 0 rfl rfl 6 (by decide) (hts _ kw_132) (fun _ h9 => h9) rfl hnm rfl (tyX9_ok 6 (by decide)) rfl rfl (Nat.le_of_ble_eq_true rfl) dX9_init_49 (fun H locs hP hD hS => ?_)
  have hP : va_P D cls [(h0, .inr (9, [.int 14, .int 5, .int 0, .int 0, .int 0, .int 0, .ref q_1, .null, .null, .null, .null, .null, .int 0, .int 0])), (q_1, .inl (cI, 14, .inl (fun _ => 0)))] H := hP
  have hD : va_D A [(h0, .inr (9, [.int 14, .int 5, .int 0, .int 0, .int 0, .int 0, .ref q_1, .null, .null, .null, .null, .null, .int 0, .int 0])), (q_1, .inl (cI, 14, .inl (fun _ => 0)))] := hD
  refine lv_aload_n hx hb dX9_init_52 rfl (lv_at hl 0 rfl) ?_
  refine lv_aload_n hx hb dX9_init_53 rfl (lv_at hl 0 rfl) ?_
  refine va_get (D := D) (ci := 9) (v := .int 14) (C := RX9) (T := TX9) (N := 14) hx hb hts uX9 hown hkb.1 hP 0 rfl rfl 0 (by decide) (hts _ kw_106) (fun _ h9 => h9) rfl dX9_init_54 ?_
  refine n_a (atype := .int) (t := .int) (a0 := (14, .inl (fun _ => 0))) 1 rfl (fun _ _ h => h) hx hb (hts _ kw_92) rfl hkb.1 hP hD hS hA (fun _ => rfl) (by decide) (by decide +kernel) (by decide) (Nat.le_of_ble_eq_true rfl) (Nat.le_of_ble_eq_true rfl) dX9_init_57 (fun q_2 H hP hD hS => ?_)
  have hP : va_P D cls [(h0, .inr (9, [.int 14, .int 5, .int 0, .int 0, .int 0, .int 0, .ref q_1, .null, .null, .null, .null, .null, .int 0, .int 0])), (q_1, .inl (cI, 14, .inl (fun _ => 0))), (q_2, .inl (cI, 14, .inl (fun _ => 0)))] H := hP
  have hD : va_D A [(h0, .inr (9, [.int 14, .int 5, .int 0, .int 0, .int 0, .int 0, .ref q_1, .null, .null, .null, .null, .null, .int 0, .int 0])), (q_1, .inl (cI, 14, .inl (fun _ => 0))), (q_2, .inl (cI, 14, .inl (fun _ => 0)))] := hD
  refine W.widen (k := 2) (n := 28) (Nat.le_of_ble_eq_true rfl) (Nat.le_of_ble_eq_true rfl) ?_
  refine va_putF (D := D) (ci := 9) (v := .ref q_2) (ty := tyX9 7) (C := RX9) (T := TX9) (N := 14) hx hb hts uX9 tyX9 tyX9_ok nmX9 hown hkb.1 hP hD hS 0 rfl rfl 7 (by decide) (hts _ kw_135) (fun _ h9 => h9) rfl hnm rfl (tyX9_ok 7 (by decide)) rfl rfl (Nat.le_of_ble_eq_true rfl) dX9_init_59 (fun H locs hP hD hS => ?_)
  have hP : va_P D cls [(h0, .inr (9, [.int 14, .int 5, .int 0, .int 0, .int 0, .int 0, .ref q_1, .ref q_2, .null, .null, .null, .null, .int 0, .int 0])), (q_1, .inl (cI, 14, .inl (fun _ => 0))), (q_2, .inl (cI, 14, .inl (fun _ => 0)))] H := hP
  have hD : va_D A [(h0, .inr (9, [.int 14, .int 5, .int 0, .int 0, .int 0, .int 0, .ref q_1, .ref q_2, .null, .null, .null, .null, .int 0, .int 0])), (q_1, .inl (cI, 14, .inl (fun _ => 0))), (q_2, .inl (cI, 14, .inl (fun _ => 0)))] := hD
  refine lv_aload_n hx hb dX9_init_62 rfl (lv_at hl 0 rfl) ?_
  refine lv_aload_n hx hb dX9_init_63 rfl (lv_at hl 0 rfl) ?_
  refine va_get (D := D) (ci := 9) (v := .int 14) (C := RX9) (T := TX9) (N := 14) hx hb hts uX9 hown hkb.1 hP 0 rfl rfl 0 (by decide) (hts _ kw_106) (fun _ h9 => h9) rfl dX9_init_64 ?_
  refine n_a (atype := .int) (t := .int) (a0 := (14, .inl (fun _ => 0))) 1 rfl (fun _ _ h => h) hx hb (hts _ kw_92) rfl hkb.1 hP hD hS hA (fun _ => rfl) (by decide) (by decide +kernel) (by decide) (Nat.le_of_ble_eq_true rfl) (Nat.le_of_ble_eq_true rfl) dX9_init_67 (fun q_3 H hP hD hS => ?_)
  have hP : va_P D cls [(h0, .inr (9, [.int 14, .int 5, .int 0, .int 0, .int 0, .int 0, .ref q_1, .ref q_2, .null, .null, .null, .null, .int 0, .int 0])), (q_1, .inl (cI, 14, .inl (fun _ => 0))), (q_2, .inl (cI, 14, .inl (fun _ => 0))), (q_3, .inl (cI, 14, .inl (fun _ => 0)))] H := hP
  have hD : va_D A [(h0, .inr (9, [.int 14, .int 5, .int 0, .int 0, .int 0, .int 0, .ref q_1, .ref q_2, .null, .null, .null, .null, .int 0, .int 0])), (q_1, .inl (cI, 14, .inl (fun _ => 0))), (q_2, .inl (cI, 14, .inl (fun _ => 0))), (q_3, .inl (cI, 14, .inl (fun _ => 0)))] := hD
  refine W.widen (k := 3) (n := 42) (Nat.le_of_ble_eq_true rfl) (Nat.le_of_ble_eq_true rfl) ?_
  refine va_putF (D := D) (ci := 9) (v := .ref q_3) (ty := tyX9 8) (C := RX9) (T := TX9) (N := 14) hx hb hts uX9 tyX9 tyX9_ok nmX9 hown hkb.1 hP hD hS 0 rfl rfl 8 (by decide) (hts _ kw_138) (fun _ h9 => h9) rfl hnm rfl (tyX9_ok 8 (by decide)) rfl rfl (Nat.le_of_ble_eq_true rfl) dX9_init_69 (fun H locs hP hD hS => ?_)
  have hP : va_P D cls [(h0, .inr (9, [.int 14, .int 5, .int 0, .int 0, .int 0, .int 0, .ref q_1, .ref q_2, .ref q_3, .null, .null, .null, .int 0, .int 0])), (q_1, .inl (cI, 14, .inl (fun _ => 0))), (q_2, .inl (cI, 14, .inl (fun _ => 0))), (q_3, .inl (cI, 14, .inl (fun _ => 0)))] H := hP
  have hD : va_D A [(h0, .inr (9, [.int 14, .int 5, .int 0, .int 0, .int 0, .int 0, .ref q_1, .ref q_2, .ref q_3, .null, .null, .null, .int 0, .int 0])), (q_1, .inl (cI, 14, .inl (fun _ => 0))), (q_2, .inl (cI, 14, .inl (fun _ => 0))), (q_3, .inl (cI, 14, .inl (fun _ => 0)))] := hD
  refine lv_aload_n hx hb dX9_init_72 rfl (lv_at hl 0 rfl) ?_
  refine lv_aload_n hx hb dX9_init_73 rfl (lv_at hl 0 rfl) ?_
  refine va_get (D := D) (ci := 9) (v := .int 5) (C := RX9) (T := TX9) (N := 14) hx hb hts uX9 hown hkb.1 hP 0 rfl rfl 1 (by decide) (hts _ kw_110) (fun _ h9 => h9) rfl dX9_init_74 ?_
  refine n_a (atype := .int) (t := .int) (a0 := (5, .inl (fun _ => 0))) 1 rfl (fun _ _ h => h) hx hb (hts _ kw_92) rfl hkb.1 hP hD hS hA (fun _ => rfl) (by decide) (by decide +kernel) (by decide) (Nat.le_of_ble_eq_true rfl) (Nat.le_of_ble_eq_true rfl) dX9_init_77 (fun q_4 H hP hD hS => ?_)
  have hP : va_P D cls [(h0, .inr (9, [.int 14, .int 5, .int 0, .int 0, .int 0, .int 0, .ref q_1, .ref q_2, .ref q_3, .null, .null, .null, .int 0, .int 0])), (q_1, .inl (cI, 14, .inl (fun _ => 0))), (q_2, .inl (cI, 14, .inl (fun _ => 0))), (q_3, .inl (cI, 14, .inl (fun _ => 0))), (q_4, .inl (cI, 5, .inl (fun _ => 0)))] H := hP
  have hD : va_D A [(h0, .inr (9, [.int 14, .int 5, .int 0, .int 0, .int 0, .int 0, .ref q_1, .ref q_2, .ref q_3, .null, .null, .null, .int 0, .int 0])), (q_1, .inl (cI, 14, .inl (fun _ => 0))), (q_2, .inl (cI, 14, .inl (fun _ => 0))), (q_3, .inl (cI, 14, .inl (fun _ => 0))), (q_4, .inl (cI, 5, .inl (fun _ => 0)))] := hD
  refine W.widen (k := 4) (n := 47) (Nat.le_of_ble_eq_true rfl) (Nat.le_of_ble_eq_true rfl) ?_
  refine va_putF (D := D) (ci := 9) (v := .ref q_4) (ty := tyX9 9) (C := RX9) (T := TX9) (N := 14) hx hb hts uX9 tyX9 tyX9_ok nmX9 hown hkb.1 hP hD hS 0 rfl rfl 9 (by decide) (hts _ kw_141) (fun _ h9 => h9) rfl hnm rfl (tyX9_ok 9 (by decide)) rfl rfl (Nat.le_of_ble_eq_true rfl) dX9_init_79 (fun H locs hP hD hS => ?_)
  have hP : va_P D cls [(h0, .inr (9, [.int 14, .int 5, .int 0, .int 0, .int 0, .int 0, .ref q_1, .ref q_2, .ref q_3, .ref q_4, .null, .null, .int 0, .int 0])), (q_1, .inl (cI, 14, .inl (fun _ => 0))), (q_2, .inl (cI, 14, .inl (fun _ => 0))), (q_3, .inl (cI, 14, .inl (fun _ => 0))), (q_4, .inl (cI, 5, .inl (fun _ => 0)))] H := hP
  have hD : va_D A [(h0, .inr (9, [.int 14, .int 5, .int 0, .int 0, .int 0, .int 0, .ref q_1, .ref q_2, .ref q_3, .ref q_4, .null, .null, .int 0, .int 0])), (q_1, .inl (cI, 14, .inl (fun _ => 0))), (q_2, .inl (cI, 14, .inl (fun _ => 0))), (q_3, .inl (cI, 14, .inl (fun _ => 0))), (q_4, .inl (cI, 5, .inl (fun _ => 0)))] := hD
  refine lv_aload_n hx hb dX9_init_82 rfl (lv_at hl 0 rfl) ?_
  refine lv_aload_n hx hb dX9_init_83 rfl (lv_at hl 0 rfl) ?_
  refine va_get (D := D) (ci := 9) (v := .int 5) (C := RX9) (T := TX9) (N := 14) hx hb hts uX9 hown hkb.1 hP 0 rfl rfl 1 (by decide) (hts _ kw_110) (fun _ h9 => h9) rfl dX9_init_84 ?_
  refine n_a (atype := .int) (t := .int) (a0 := (5, .inl (fun _ => 0))) 1 rfl (fun _ _ h => h) hx hb (hts _ kw_92) rfl hkb.1 hP hD hS hA (fun _ => rfl) (by decide) (by decide +kernel) (by decide) (Nat.le_of_ble_eq_true rfl) (Nat.le_of_ble_eq_true rfl) dX9_init_87 (fun q_5 H hP hD hS => ?_)
  have hP : va_P D cls [(h0, .inr (9, [.int 14, .int 5, .int 0, .int 0, .int 0, .int 0, .ref q_1, .ref q_2, .ref q_3, .ref q_4, .null, .null, .int 0, .int 0])), (q_1, .inl (cI, 14, .inl (fun _ => 0))), (q_2, .inl (cI, 14, .inl (fun _ => 0))), (q_3, .inl (cI, 14, .inl (fun _ => 0))), (q_4, .inl (cI, 5, .inl (fun _ => 0))), (q_5, .inl (cI, 5, .inl (fun _ => 0)))] H := hP
  have hD : va_D A [(h0, .inr (9, [.int 14, .int 5, .int 0, .int 0, .int 0, .int 0, .ref q_1, .ref q_2, .ref q_3, .ref q_4, .null, .null, .int 0, .int 0])), (q_1, .inl (cI, 14, .inl (fun _ => 0))), (q_2, .inl (cI, 14, .inl (fun _ => 0))), (q_3, .inl (cI, 14, .inl (fun _ => 0))), (q_4, .inl (cI, 5, .inl (fun _ => 0))), (q_5, .inl (cI, 5, .inl (fun _ => 0)))] := hD
  refine W.widen (k := 5) (n := 52) (Nat.le_of_ble_eq_true rfl) (Nat.le_of_ble_eq_true rfl) ?_
  refine va_putF (D := D) (ci := 9) (v := .ref q_5) (ty := tyX9 10) (C := RX9) (T := TX9) (N := 14) hx hb hts uX9 tyX9 tyX9_ok nmX9 hown hkb.1 hP hD hS 0 rfl rfl 10 (by decide) (hts _ kw_144) (fun _ h9 => h9) rfl hnm rfl (tyX9_ok 10 (by decide)) rfl rfl (Nat.le_of_ble_eq_true rfl) dX9_init_89 (fun H locs hP hD hS => ?_)
  have hP : va_P D cls [(h0, .inr (9, [.int 14, .int 5, .int 0, .int 0, .int 0, .int 0, .ref q_1, .ref q_2, .ref q_3, .ref q_4, .ref q_5, .null, .int 0, .int 0])), (q_1, .inl (cI, 14, .inl (fun _ => 0))), (q_2, .inl (cI, 14, .inl (fun _ => 0))), (q_3, .inl (cI, 14, .inl (fun _ => 0))), (q_4, .inl (cI, 5, .inl (fun _ => 0))), (q_5, .inl (cI, 5, .inl (fun _ => 0)))] H := hP
  have hD : va_D A [(h0, .inr (9, [.int 14, .int 5, .int 0, .int 0, .int 0, .int 0, .ref q_1, .ref q_2, .ref q_3, .ref q_4, .ref q_5, .null, .int 0, .int 0])), (q_1, .inl (cI, 14, .inl (fun _ => 0))), (q_2, .inl (cI, 14, .inl (fun _ => 0))), (q_3, .inl (cI, 14, .inl (fun _ => 0))), (q_4, .inl (cI, 5, .inl (fun _ => 0))), (q_5, .inl (cI, 5, .inl (fun _ => 0)))] := hD
  refine lv_aload_n hx hb dX9_init_92 rfl (lv_at hl 0 rfl) ?_
  refine lv_aload_nN hx hb dX9_init_93 rfl (lv_at hl 3 rfl) ?_
  refine va_putF (D := D) (ci := 9) (v := .null) (ty := tyX9 11) (C := RX9) (T := TX9) (N := 14) hx hb hts uX9 tyX9 tyX9_ok nmX9 hown hkb.1 hP hD hS 0 rfl rfl 11 (by decide) (hts _ kw_147) (fun _ h9 => h9) rfl hnm rfl (tyX9_ok 11 (by decide)) rfl rfl (Nat.le_of_ble_eq_true rfl) dX9_init_94 (fun H locs hP hD hS => ?_)
  have hP : va_P D cls [(h0, .inr (9, [.int 14, .int 5, .int 0, .int 0, .int 0, .int 0, .ref q_1, .ref q_2, .ref q_3, .ref q_4, .ref q_5, .null, .int 0, .int 0])), (q_1, .inl (cI, 14, .inl (fun _ => 0))), (q_2, .inl (cI, 14, .inl (fun _ => 0))), (q_3, .inl (cI, 14, .inl (fun _ => 0))), (q_4, .inl (cI, 5, .inl (fun _ => 0))), (q_5, .inl (cI, 5, .inl (fun _ => 0)))] H := hP
  have hD : va_D A [(h0, .inr (9, [.int 14, .int 5, .int 0, .int 0, .int 0, .int 0, .ref q_1, .ref q_2, .ref q_3, .ref q_4, .ref q_5, .null, .int 0, .int 0])), (q_1, .inl (cI, 14, .inl (fun _ => 0))), (q_2, .inl (cI, 14, .inl (fun _ => 0))), (q_3, .inl (cI, 14, .inl (fun _ => 0))), (q_4, .inl (cI, 5, .inl (fun _ => 0))), (q_5, .inl (cI, 5, .inl (fun _ => 0)))] := hD
  refine lv_aload_n hx hb dX9_init_97 rfl (lv_at hl 0 rfl) ?_
  refine lv_aload_nN hx hb dX9_init_98 rfl (lv_at hl 3 rfl) ?_
  refine lv_ifnullN (tgt := 115) hx hb dX9_init_99 (by decide) ?_
  refine lv_iconst (v := 0) hx hb dX9_init_115 (by decide) ?_
  refine va_putF (D := D) (ci := 9) (v := .int 0) (ty := tyX9 12) (C := RX9) (T := TX9) (N := 14) hx hb hts uX9 tyX9 tyX9_ok nmX9 hown hkb.1 hP hD hS 0 rfl rfl 12 (by decide) (hts _ kw_148) (fun _ h9 => h9) rfl hnm rfl (tyX9_ok 12 (by decide)) rfl rfl (Nat.le_of_ble_eq_true rfl) dX9_init_116 (fun H locs hP hD hS => ?_)
  have hP : va_P D cls [(h0, .inr (9, [.int 14, .int 5, .int 0, .int 0, .int 0, .int 0, .ref q_1, .ref q_2, .ref q_3, .ref q_4, .ref q_5, .null, .int 0, .int 0])), (q_1, .inl (cI, 14, .inl (fun _ => 0))), (q_2, .inl (cI, 14, .inl (fun _ => 0))), (q_3, .inl (cI, 14, .inl (fun _ => 0))), (q_4, .inl (cI, 5, .inl (fun _ => 0))), (q_5, .inl (cI, 5, .inl (fun _ => 0)))] H := hP
  have hD : va_D A [(h0, .inr (9, [.int 14, .int 5, .int 0, .int 0, .int 0, .int 0, .ref q_1, .ref q_2, .ref q_3, .ref q_4, .ref q_5, .null, .int 0, .int 0])), (q_1, .inl (cI, 14, .inl (fun _ => 0))), (q_2, .inl (cI, 14, .inl (fun _ => 0))), (q_3, .inl (cI, 14, .inl (fun _ => 0))), (q_4, .inl (cI, 5, .inl (fun _ => 0))), (q_5, .inl (cI, 5, .inl (fun _ => 0)))] := hD
  refine lv_aload_n hx hb dX9_init_119 rfl (lv_at hl 0 rfl) ?_
  refine lv_aload_nN hx hb dX9_init_120 rfl (lv_at hl 3 rfl) ?_
  refine lv_ifnullN (tgt := 132) hx hb dX9_init_121 (by decide) ?_
  refine lv_iconst (v := 1) hx hb dX9_init_132 (by decide) ?_
  refine lv_goto (tgt := 137) hx hb dX9_init_133 (by decide) ?_
  refine va_putF (D := D) (ci := 9) (v := .int 1) (ty := tyX9 13) (C := RX9) (T := TX9) (N := 14) hx hb hts uX9 tyX9 tyX9_ok nmX9 hown hkb.1 hP hD hS 0 rfl rfl 13 (by decide) (hts _ kw_149) (fun _ h9 => h9) rfl hnm rfl (tyX9_ok 13 (by decide)) rfl rfl (Nat.le_of_ble_eq_true rfl) dX9_init_137 (fun H locs hP hD hS => ?_)
  have hP : va_P D cls [(h0, .inr (9, [.int 14, .int 5, .int 0, .int 0, .int 0, .int 0, .ref q_1, .ref q_2, .ref q_3, .ref q_4, .ref q_5, .null, .int 0, .int 1])), (q_1, .inl (cI, 14, .inl (fun _ => 0))), (q_2, .inl (cI, 14, .inl (fun _ => 0))), (q_3, .inl (cI, 14, .inl (fun _ => 0))), (q_4, .inl (cI, 5, .inl (fun _ => 0))), (q_5, .inl (cI, 5, .inl (fun _ => 0)))] H := hP
  have hD : va_D A [(h0, .inr (9, [.int 14, .int 5, .int 0, .int 0, .int 0, .int 0, .ref q_1, .ref q_2, .ref q_3, .ref q_4, .ref q_5, .null, .int 0, .int 1])), (q_1, .inl (cI, 14, .inl (fun _ => 0))), (q_2, .inl (cI, 14, .inl (fun _ => 0))), (q_3, .inl (cI, 14, .inl (fun _ => 0))), (q_4, .inl (cI, 5, .inl (fun _ => 0))), (q_5, .inl (cI, 5, .inl (fun _ => 0)))] := hD
  refine W.widen (k := 5) (n := 52) (Nat.le_of_ble_eq_true rfl) (Nat.le_of_ble_eq_true rfl) ?_
  exact e_v (u := [(h0, .inr (9, [.int 14, .int 5, .int 0, .int 0, .int 0, .int 0, .ref q_1, .ref q_2, .ref q_3, .ref q_4, .ref q_5, .null, .int 0, .int 1])), (q_1, .inl (cI, 14, .inl (fun _ => 0))), (q_2, .inl (cI, 14, .inl (fun _ => 0))), (q_3, .inl (cI, 14, .inl (fun _ => 0))), (q_4, .inl (cI, 5, .inl (fun _ => 0))), (q_5, .inl (cI, 5, .inl (fun _ => 0)))]) hx hb hr hlocks (hP.sub (ws' := [(h0, .inr (9, [.int 14, .int 5, .int 0, .int 0, .int 0, .int 0, .ref q_1, .ref q_2, .ref q_3, .ref q_4, .ref q_5, .null, .int 0, .int 1])), (q_1, .inl (cI, 14, .inl (fun _ => 0))), (q_2, .inl (cI, 14, .inl (fun _ => 0))), (q_3, .inl (cI, 14, .inl (fun _ => 0))), (q_4, .inl (cI, 5, .inl (fun _ => 0))), (q_5, .inl (cI, 5, .inl (fun _ => 0)))]) [0, 1, 2, 3, 4, 5] rfl) (hD.sub (ws' := [(h0, .inr (9, [.int 14, .int 5, .int 0, .int 0, .int 0, .int 0, .ref q_1, .ref q_2, .ref q_3, .ref q_4, .ref q_5, .null, .int 0, .int 1])), (q_1, .inl (cI, 14, .inl (fun _ => 0))), (q_2, .inl (cI, 14, .inl (fun _ => 0))), (q_3, .inl (cI, 14, .inl (fun _ => 0))), (q_4, .inl (cI, 5, .inl (fun _ => 0))), (q_5, .inl (cI, 5, .inl (fun _ => 0)))]) [0, 1, 2, 3, 4, 5] (by decide) rfl) hS ⟨q_1, q_2, q_3, q_4, q_5, rfl⟩ dX9_init_140
set_option maxHeartbeats 4000000 in
set_option maxRecDepth 100000 in
theorem c_Wall_init_0 (l : Launch) (D : va_G) (cB cI cJ cZ cS cW cT cR : ClassId) (h0 : Nat) : Kon l D (tyl cB cI cJ cZ cS cW cT cR) yX9_init cX9_init 4 none { frames := 1, cells := 5, slots := 0, locals := 14 } [.ref h0, .int 0, .int 0, .null] [(h0, .inr (9, [.int 0, .int 0, .int 0, .int 0, .int 0, .int 0, .null, .null, .null, .null, .null, .null, .int 0, .int 0]))] (Qv D (fun u => ∃ (q_1 : Nat), ∃ (q_2 : Nat), ∃ (q_3 : Nat), ∃ (q_4 : Nat), ∃ (q_5 : Nat), u = [(h0, .inr (9, [.int 0, .int 0, .int 0, .int 0, .int 0, .int 0, .ref q_1, .ref q_2, .ref q_3, .ref q_4, .ref q_5, .null, .int 0, .int 1])), (q_1, .inl (cI, 0, .inl (fun _ => 0))), (q_2, .inl (cI, 0, .inl (fun _ => 0))), (q_3, .inl (cI, 0, .inl (fun _ => 0))), (q_4, .inl (cI, 0, .inl (fun _ => 0))), (q_5, .inl (cI, 0, .inl (fun _ => 0)))])) := by
  refine kon_of (by decide) (Nat.le_of_ble_eq_true rfl) (fun p e s m below meth c ls A hx hb hr hml hown hts hlocks hnm hkb hP hD hS hA hl => ?_)
  have hown : s.vm.findClass RX9 = some m.cls := hown
  have hl : lv_has ls 4 [(0, .ref h0), (1, .int 0), (2, .int 0), (3, .null)] := hl
  have hP : va_P D cls [(h0, .inr (9, [.int 0, .int 0, .int 0, .int 0, .int 0, .int 0, .null, .null, .null, .null, .null, .null, .int 0, .int 0]))] s.heap := hP
  refine lv_aload_n hx hb dX9_init_0 rfl (lv_at hl 0 rfl) ?_
  refine W.objInit hx hb hown (hts _ kw_98) (hts _ kw_30) (hts _ kw_31) rfl (by rw [hml]; exact hl.1) rfl dX9_init_1 (Nat.le_of_ble_eq_true rfl) (Nat.le_of_ble_eq_true rfl) ?_
  refine W.eq (g2 := F0 m 4 ls []) rfl ?_
  refine lv_aload_n hx hb dX9_init_4 rfl (lv_at hl 0 rfl) ?_
  refine lv_iconst (v := 0) hx hb dX9_init_5 (by decide) ?_
  refine va_put (D := D) (ci := 9) (v := .int 0) (ty := tyX9 2) (C := RX9) (T := TX9) (N := 14) hx hb hts uX9 tyX9 tyX9_ok nmX9 hown hkb.1 hP hD hS 0 rfl rfl 2 (by decide) (hts _ kw_113) (fun _ h9 => h9) rfl (tyX9_ok 2 (by decide)) rfl rfl (Nat.le_of_ble_eq_true rfl) dX9_init_6 (fun H locs hP hD hS => ?_)
  have hP : va_P D cls [(h0, .inr (9, [.int 0, .int 0, .int 0, .int 0, .int 0, .int 0, .null, .null, .null, .null, .null, .null, .int 0, .int 0]))] H := hP
  have hD : va_D A [(h0, .inr (9, [.int 0, .int 0, .int 0, .int 0, .int 0, .int 0, .null, .null, .null, .null, .null, .null, .int 0, .int 0]))] := hD
  refine lv_aload_n hx hb dX9_init_9 rfl (lv_at hl 0 rfl) ?_
  refine lv_iconst (v := 0) hx hb dX9_init_10 (by decide) ?_
  refine va_put (D := D) (ci := 9) (v := .int 0) (ty := tyX9 3) (C := RX9) (T := TX9) (N := 14) hx hb hts uX9 tyX9 tyX9_ok nmX9 hown hkb.1 hP hD hS 0 rfl rfl 3 (by decide) (hts _ kw_116) (fun _ h9 => h9) rfl (tyX9_ok 3 (by decide)) rfl rfl (Nat.le_of_ble_eq_true rfl) dX9_init_11 (fun H locs hP hD hS => ?_)
  have hP : va_P D cls [(h0, .inr (9, [.int 0, .int 0, .int 0, .int 0, .int 0, .int 0, .null, .null, .null, .null, .null, .null, .int 0, .int 0]))] H := hP
  have hD : va_D A [(h0, .inr (9, [.int 0, .int 0, .int 0, .int 0, .int 0, .int 0, .null, .null, .null, .null, .null, .null, .int 0, .int 0]))] := hD
  refine lv_aload_n hx hb dX9_init_14 rfl (lv_at hl 0 rfl) ?_
  refine lv_iconst (v := 0) hx hb dX9_init_15 (by decide) ?_
  refine va_put (D := D) (ci := 9) (v := .int 0) (ty := tyX9 4) (C := RX9) (T := TX9) (N := 14) hx hb hts uX9 tyX9 tyX9_ok nmX9 hown hkb.1 hP hD hS 0 rfl rfl 4 (by decide) (hts _ kw_123) (fun _ h9 => h9) rfl (tyX9_ok 4 (by decide)) rfl rfl (Nat.le_of_ble_eq_true rfl) dX9_init_16 (fun H locs hP hD hS => ?_)
  have hP : va_P D cls [(h0, .inr (9, [.int 0, .int 0, .int 0, .int 0, .int 0, .int 0, .null, .null, .null, .null, .null, .null, .int 0, .int 0]))] H := hP
  have hD : va_D A [(h0, .inr (9, [.int 0, .int 0, .int 0, .int 0, .int 0, .int 0, .null, .null, .null, .null, .null, .null, .int 0, .int 0]))] := hD
  refine lv_aload_n hx hb dX9_init_19 rfl (lv_at hl 0 rfl) ?_
  refine lv_iconst (v := 0) hx hb dX9_init_20 (by decide) ?_
  refine va_put (D := D) (ci := 9) (v := .int 0) (ty := tyX9 5) (C := RX9) (T := TX9) (N := 14) hx hb hts uX9 tyX9 tyX9_ok nmX9 hown hkb.1 hP hD hS 0 rfl rfl 5 (by decide) (hts _ kw_130) (fun _ h9 => h9) rfl (tyX9_ok 5 (by decide)) rfl rfl (Nat.le_of_ble_eq_true rfl) dX9_init_21 (fun H locs hP hD hS => ?_)
  have hP : va_P D cls [(h0, .inr (9, [.int 0, .int 0, .int 0, .int 0, .int 0, .int 0, .null, .null, .null, .null, .null, .null, .int 0, .int 0]))] H := hP
  have hD : va_D A [(h0, .inr (9, [.int 0, .int 0, .int 0, .int 0, .int 0, .int 0, .null, .null, .null, .null, .null, .null, .int 0, .int 0]))] := hD
  refine lv_aload_n hx hb dX9_init_24 rfl (lv_at hl 0 rfl) ?_
  refine lv_iconst (v := 0) hx hb dX9_init_25 (by decide) ?_
  refine lv_iload_n hx hb dX9_init_26 rfl (lv_at hl 1 rfl) ?_
  refine va_mmax hx hb (by rw [hml]; exact hl.1.symm) hown (hts _ kw_99) (hts _ kw_100) (hts _ kw_6) (hts _ kw_101) (Nat.le_of_ble_eq_true rfl) (Nat.le_of_ble_eq_true rfl) (Nat.le_of_ble_eq_true rfl) (Nat.le_of_ble_eq_true rfl) dX9_init_27 ?_
  refine lv_topc (y := 0) (by decide +kernel) ?_
  refine va_put (D := D) (ci := 9) (v := .int 0) (ty := tyX9 0) (C := RX9) (T := TX9) (N := 14) hx hb hts uX9 tyX9 tyX9_ok nmX9 hown hkb.1 hP hD hS 0 rfl rfl 0 (by decide) (hts _ kw_106) (fun _ h9 => h9) rfl (tyX9_ok 0 (by decide)) rfl rfl (Nat.le_of_ble_eq_true rfl) dX9_init_30 (fun H locs hP hD hS => ?_)
  have hP : va_P D cls [(h0, .inr (9, [.int 0, .int 0, .int 0, .int 0, .int 0, .int 0, .null, .null, .null, .null, .null, .null, .int 0, .int 0]))] H := hP
  have hD : va_D A [(h0, .inr (9, [.int 0, .int 0, .int 0, .int 0, .int 0, .int 0, .null, .null, .null, .null, .null, .null, .int 0, .int 0]))] := hD
  refine lv_aload_n hx hb dX9_init_33 rfl (lv_at hl 0 rfl) ?_
  refine lv_iconst (v := 0) hx hb dX9_init_34 (by decide) ?_
  refine lv_iload_n hx hb dX9_init_35 rfl (lv_at hl 2 rfl) ?_
  refine va_mmax hx hb (by rw [hml]; exact hl.1.symm) hown (hts _ kw_99) (hts _ kw_100) (hts _ kw_6) (hts _ kw_101) (Nat.le_of_ble_eq_true rfl) (Nat.le_of_ble_eq_true rfl) (Nat.le_of_ble_eq_true rfl) (Nat.le_of_ble_eq_true rfl) dX9_init_36 ?_
  refine lv_topc (y := 0) (by decide +kernel) ?_
  refine va_put (D := D) (ci := 9) (v := .int 0) (ty := tyX9 1) (C := RX9) (T := TX9) (N := 14) hx hb hts uX9 tyX9 tyX9_ok nmX9 hown hkb.1 hP hD hS 0 rfl rfl 1 (by decide) (hts _ kw_110) (fun _ h9 => h9) rfl (tyX9_ok 1 (by decide)) rfl rfl (Nat.le_of_ble_eq_true rfl) dX9_init_39 (fun H locs hP hD hS => ?_)
  have hP : va_P D cls [(h0, .inr (9, [.int 0, .int 0, .int 0, .int 0, .int 0, .int 0, .null, .null, .null, .null, .null, .null, .int 0, .int 0]))] H := hP
  have hD : va_D A [(h0, .inr (9, [.int 0, .int 0, .int 0, .int 0, .int 0, .int 0, .null, .null, .null, .null, .null, .null, .int 0, .int 0]))] := hD
  refine lv_aload_n hx hb dX9_init_42 rfl (lv_at hl 0 rfl) ?_
  refine lv_aload_n hx hb dX9_init_43 rfl (lv_at hl 0 rfl) ?_
  refine va_get (D := D) (ci := 9) (v := .int 0) (C := RX9) (T := TX9) (N := 14) hx hb hts uX9 hown hkb.1 hP 0 rfl rfl 0 (by decide) (hts _ kw_106) (fun _ h9 => h9) rfl dX9_init_44 ?_
  refine n_a (atype := .int) (t := .int) (a0 := (0, .inl (fun _ => 0))) 1 rfl (fun _ _ h => h) hx hb (hts _ kw_92) rfl hkb.1 hP hD hS hA (fun _ => rfl) (by decide) (by decide +kernel) (by decide) (Nat.le_of_ble_eq_true rfl) (Nat.le_of_ble_eq_true rfl) dX9_init_47 (fun q_1 H hP hD hS => ?_)
  have hP : va_P D cls [(h0, .inr (9, [.int 0, .int 0, .int 0, .int 0, .int 0, .int 0, .null, .null, .null, .null, .null, .null, .int 0, .int 0])), (q_1, .inl (cI, 0, .inl (fun _ => 0)))] H := hP
  have hD : va_D A [(h0, .inr (9, [.int 0, .int 0, .int 0, .int 0, .int 0, .int 0, .null, .null, .null, .null, .null, .null, .int 0, .int 0])), (q_1, .inl (cI, 0, .inl (fun _ => 0)))] := hD
  refine W.widen (k := 1) (n := 0) (Nat.le_of_ble_eq_true rfl) (Nat.le_of_ble_eq_true rfl) ?_
  refine va_putF (D := D) (ci := 9) (v := .ref q_1) (ty := tyX9 6) (C := RX9) (T := TX9) (N := 14) hx hb hts uX9 tyX9 tyX9_ok nmX9 hown hkb.1 hP hD hS 0 rfl rfl 6 (by decide) (hts _ kw_132) (fun _ h9 => h9) rfl hnm rfl (tyX9_ok 6 (by decide)) rfl rfl (Nat.le_of_ble_eq_true rfl) dX9_init_49 (fun H locs hP hD hS => ?_)
  have hP : va_P D cls [(h0, .inr (9, [.int 0, .int 0, .int 0, .int 0, .int 0, .int 0, .ref q_1, .null, .null, .null, .null, .null, .int 0, .int 0])), (q_1, .inl (cI, 0, .inl (fun _ => 0)))] H := hP
  have hD : va_D A [(h0, .inr (9, [.int 0, .int 0, .int 0, .int 0, .int 0, .int 0, .ref q_1, .null, .null, .null, .null, .null, .int 0, .int 0])), (q_1, .inl (cI, 0, .inl (fun _ => 0)))] := hD
  refine lv_aload_n hx hb dX9_init_52 rfl (lv_at hl 0 rfl) ?_
  refine lv_aload_n hx hb dX9_init_53 rfl (lv_at hl 0 rfl) ?_
  refine va_get (D := D) (ci := 9) (v := .int 0) (C := RX9) (T := TX9) (N := 14) hx hb hts uX9 hown hkb.1 hP 0 rfl rfl 0 (by decide) (hts _ kw_106) (fun _ h9 => h9) rfl dX9_init_54 ?_
  refine n_a (atype := .int) (t := .int) (a0 := (0, .inl (fun _ => 0))) 1 rfl (fun _ _ h => h) hx hb (hts _ kw_92) rfl hkb.1 hP hD hS hA (fun _ => rfl) (by decide) (by decide +kernel) (by decide) (Nat.le_of_ble_eq_true rfl) (Nat.le_of_ble_eq_true rfl) dX9_init_57 (fun q_2 H hP hD hS => ?_)
  have hP : va_P D cls [(h0, .inr (9, [.int 0, .int 0, .int 0, .int 0, .int 0, .int 0, .ref q_1, .null, .null, .null, .null, .null, .int 0, .int 0])), (q_1, .inl (cI, 0, .inl (fun _ => 0))), (q_2, .inl (cI, 0, .inl (fun _ => 0)))] H := hP
  have hD : va_D A [(h0, .inr (9, [.int 0, .int 0, .int 0, .int 0, .int 0, .int 0, .ref q_1, .null, .null, .null, .null, .null, .int 0, .int 0])), (q_1, .inl (cI, 0, .inl (fun _ => 0))), (q_2, .inl (cI, 0, .inl (fun _ => 0)))] := hD
  refine W.widen (k := 2) (n := 0) (Nat.le_of_ble_eq_true rfl) (Nat.le_of_ble_eq_true rfl) ?_
  refine va_putF (D := D) (ci := 9) (v := .ref q_2) (ty := tyX9 7) (C := RX9) (T := TX9) (N := 14) hx hb hts uX9 tyX9 tyX9_ok nmX9 hown hkb.1 hP hD hS 0 rfl rfl 7 (by decide) (hts _ kw_135) (fun _ h9 => h9) rfl hnm rfl (tyX9_ok 7 (by decide)) rfl rfl (Nat.le_of_ble_eq_true rfl) dX9_init_59 (fun H locs hP hD hS => ?_)
  have hP : va_P D cls [(h0, .inr (9, [.int 0, .int 0, .int 0, .int 0, .int 0, .int 0, .ref q_1, .ref q_2, .null, .null, .null, .null, .int 0, .int 0])), (q_1, .inl (cI, 0, .inl (fun _ => 0))), (q_2, .inl (cI, 0, .inl (fun _ => 0)))] H := hP
  have hD : va_D A [(h0, .inr (9, [.int 0, .int 0, .int 0, .int 0, .int 0, .int 0, .ref q_1, .ref q_2, .null, .null, .null, .null, .int 0, .int 0])), (q_1, .inl (cI, 0, .inl (fun _ => 0))), (q_2, .inl (cI, 0, .inl (fun _ => 0)))] := hD
  refine lv_aload_n hx hb dX9_init_62 rfl (lv_at hl 0 rfl) ?_
  refine lv_aload_n hx hb dX9_init_63 rfl (lv_at hl 0 rfl) ?_
  refine va_get (D := D) (ci := 9) (v := .int 0) (C := RX9) (T := TX9) (N := 14) hx hb hts uX9 hown hkb.1 hP 0 rfl rfl 0 (by decide) (hts _ kw_106) (fun _ h9 => h9) rfl dX9_init_64 ?_
  refine n_a (atype := .int) (t := .int) (a0 := (0, .inl (fun _ => 0))) 1 rfl (fun _ _ h => h) hx hb (hts _ kw_92) rfl hkb.1 hP hD hS hA (fun _ => rfl) (by decide) (by decide +kernel) (by decide) (Nat.le_of_ble_eq_true rfl) (Nat.le_of_ble_eq_true rfl) dX9_init_67 (fun q_3 H hP hD hS => ?_)
  have hP : va_P D cls [(h0, .inr (9, [.int 0, .int 0, .int 0, .int 0, .int 0, .int 0, .ref q_1, .ref q_2, .null, .null, .null, .null, .int 0, .int 0])), (q_1, .inl (cI, 0, .inl (fun _ => 0))), (q_2, .inl (cI, 0, .inl (fun _ => 0))), (q_3, .inl (cI, 0, .inl (fun _ => 0)))] H := hP
  have hD : va_D A [(h0, .inr (9, [.int 0, .int 0, .int 0, .int 0, .int 0, .int 0, .ref q_1, .ref q_2, .null, .null, .null, .null, .int 0, .int 0])), (q_1, .inl (cI, 0, .inl (fun _ => 0))), (q_2, .inl (cI, 0, .inl (fun _ => 0))), (q_3, .inl (cI, 0, .inl (fun _ => 0)))] := hD
  refine W.widen (k := 3) (n := 0) (Nat.le_of_ble_eq_true rfl) (Nat.le_of_ble_eq_true rfl) ?_
  refine va_putF (D := D) (ci := 9) (v := .ref q_3) (ty := tyX9 8) (C := RX9) (T := TX9) (N := 14) hx hb hts uX9 tyX9 tyX9_ok nmX9 hown hkb.1 hP hD hS 0 rfl rfl 8 (by decide) (hts _ kw_138) (fun _ h9 => h9) rfl hnm rfl (tyX9_ok 8 (by decide)) rfl rfl (Nat.le_of_ble_eq_true rfl) dX9_init_69 (fun H locs hP hD hS => ?_)
  have hP : va_P D cls [(h0, .inr (9, [.int 0, .int 0, .int 0, .int 0, .int 0, .int 0, .ref q_1, .ref q_2, .ref q_3, .null, .null, .null, .int 0, .int 0])), (q_1, .inl (cI, 0, .inl (fun _ => 0))), (q_2, .inl (cI, 0, .inl (fun _ => 0))), (q_3, .inl (cI, 0, .inl (fun _ => 0)))] H := hP
  have hD : va_D A [(h0, .inr (9, [.int 0, .int 0, .int 0, .int 0, .int 0, .int 0, .ref q_1, .ref q_2, .ref q_3, .null, .null, .null, .int 0, .int 0])), (q_1, .inl (cI, 0, .inl (fun _ => 0))), (q_2, .inl (cI, 0, .inl (fun _ => 0))), (q_3, .inl (cI, 0, .inl (fun _ => 0)))] := hD
  refine lv_aload_n hx hb dX9_init_72 rfl (lv_at hl 0 rfl) ?_
  refine lv_aload_n hx hb dX9_init_73 rfl (lv_at hl 0 rfl) ?_
  refine va_get (D := D) (ci := 9) (v := .int 0) (C := RX9) (T := TX9) (N := 14) hx hb hts uX9 hown hkb.1 hP 0 rfl rfl 1 (by decide) (hts _ kw_110) (fun _ h9 => h9) rfl dX9_init_74 ?_
  refine n_a (atype := .int) (t := .int) (a0 := (0, .inl (fun _ => 0))) 1 rfl (fun _ _ h => h) hx hb (hts _ kw_92) rfl hkb.1 hP hD hS hA (fun _ => rfl) (by decide) (by decide +kernel) (by decide) (Nat.le_of_ble_eq_true rfl) (Nat.le_of_ble_eq_true rfl) dX9_init_77 (fun q_4 H hP hD hS => ?_)
  have hP : va_P D cls [(h0, .inr (9, [.int 0, .int 0, .int 0, .int 0, .int 0, .int 0, .ref q_1, .ref q_2, .ref q_3, .null, .null, .null, .int 0, .int 0])), (q_1, .inl (cI, 0, .inl (fun _ => 0))), (q_2, .inl (cI, 0, .inl (fun _ => 0))), (q_3, .inl (cI, 0, .inl (fun _ => 0))), (q_4, .inl (cI, 0, .inl (fun _ => 0)))] H := hP
  have hD : va_D A [(h0, .inr (9, [.int 0, .int 0, .int 0, .int 0, .int 0, .int 0, .ref q_1, .ref q_2, .ref q_3, .null, .null, .null, .int 0, .int 0])), (q_1, .inl (cI, 0, .inl (fun _ => 0))), (q_2, .inl (cI, 0, .inl (fun _ => 0))), (q_3, .inl (cI, 0, .inl (fun _ => 0))), (q_4, .inl (cI, 0, .inl (fun _ => 0)))] := hD
  refine W.widen (k := 4) (n := 0) (Nat.le_of_ble_eq_true rfl) (Nat.le_of_ble_eq_true rfl) ?_
  refine va_putF (D := D) (ci := 9) (v := .ref q_4) (ty := tyX9 9) (C := RX9) (T := TX9) (N := 14) hx hb hts uX9 tyX9 tyX9_ok nmX9 hown hkb.1 hP hD hS 0 rfl rfl 9 (by decide) (hts _ kw_141) (fun _ h9 => h9) rfl hnm rfl (tyX9_ok 9 (by decide)) rfl rfl (Nat.le_of_ble_eq_true rfl) dX9_init_79 (fun H locs hP hD hS => ?_)
  have hP : va_P D cls [(h0, .inr (9, [.int 0, .int 0, .int 0, .int 0, .int 0, .int 0, .ref q_1, .ref q_2, .ref q_3, .ref q_4, .null, .null, .int 0, .int 0])), (q_1, .inl (cI, 0, .inl (fun _ => 0))), (q_2, .inl (cI, 0, .inl (fun _ => 0))), (q_3, .inl (cI, 0, .inl (fun _ => 0))), (q_4, .inl (cI, 0, .inl (fun _ => 0)))] H := hP
  have hD : va_D A [(h0, .inr (9, [.int 0, .int 0, .int 0, .int 0, .int 0, .int 0, .ref q_1, .ref q_2, .ref q_3, .ref q_4, .null, .null, .int 0, .int 0])), (q_1, .inl (cI, 0, .inl (fun _ => 0))), (q_2, .inl (cI, 0, .inl (fun _ => 0))), (q_3, .inl (cI, 0, .inl (fun _ => 0))), (q_4, .inl (cI, 0, .inl (fun _ => 0)))] := hD
  refine lv_aload_n hx hb dX9_init_82 rfl (lv_at hl 0 rfl) ?_
  refine lv_aload_n hx hb dX9_init_83 rfl (lv_at hl 0 rfl) ?_
  refine va_get (D := D) (ci := 9) (v := .int 0) (C := RX9) (T := TX9) (N := 14) hx hb hts uX9 hown hkb.1 hP 0 rfl rfl 1 (by decide) (hts _ kw_110) (fun _ h9 => h9) rfl dX9_init_84 ?_
  refine n_a (atype := .int) (t := .int) (a0 := (0, .inl (fun _ => 0))) 1 rfl (fun _ _ h => h) hx hb (hts _ kw_92) rfl hkb.1 hP hD hS hA (fun _ => rfl) (by decide) (by decide +kernel) (by decide) (Nat.le_of_ble_eq_true rfl) (Nat.le_of_ble_eq_true rfl) dX9_init_87 (fun q_5 H hP hD hS => ?_)
  have hP : va_P D cls [(h0, .inr (9, [.int 0, .int 0, .int 0, .int 0, .int 0, .int 0, .ref q_1, .ref q_2, .ref q_3, .ref q_4, .null, .null, .int 0, .int 0])), (q_1, .inl (cI, 0, .inl (fun _ => 0))), (q_2, .inl (cI, 0, .inl (fun _ => 0))), (q_3, .inl (cI, 0, .inl (fun _ => 0))), (q_4, .inl (cI, 0, .inl (fun _ => 0))), (q_5, .inl (cI, 0, .inl (fun _ => 0)))] H := hP
  have hD : va_D A [(h0, .inr (9, [.int 0, .int 0, .int 0, .int 0, .int 0, .int 0, .ref q_1, .ref q_2, .ref q_3, .ref q_4, .null, .null, .int 0, .int 0])), (q_1, .inl (cI, 0, .inl (fun _ => 0))), (q_2, .inl (cI, 0, .inl (fun _ => 0))), (q_3, .inl (cI, 0, .inl (fun _ => 0))), (q_4, .inl (cI, 0, .inl (fun _ => 0))), (q_5, .inl (cI, 0, .inl (fun _ => 0)))] := hD
  refine W.widen (k := 5) (n := 0) (Nat.le_of_ble_eq_true rfl) (Nat.le_of_ble_eq_true rfl) ?_
  refine va_putF (D := D) (ci := 9) (v := .ref q_5) (ty := tyX9 10) (C := RX9) (T := TX9) (N := 14) hx hb hts uX9 tyX9 tyX9_ok nmX9 hown hkb.1 hP hD hS 0 rfl rfl 10 (by decide) (hts _ kw_144) (fun _ h9 => h9) rfl hnm rfl (tyX9_ok 10 (by decide)) rfl rfl (Nat.le_of_ble_eq_true rfl) dX9_init_89 (fun H locs hP hD hS => ?_)
  have hP : va_P D cls [(h0, .inr (9, [.int 0, .int 0, .int 0, .int 0, .int 0, .int 0, .ref q_1, .ref q_2, .ref q_3, .ref q_4, .ref q_5, .null, .int 0, .int 0])), (q_1, .inl (cI, 0, .inl (fun _ => 0))), (q_2, .inl (cI, 0, .inl (fun _ => 0))), (q_3, .inl (cI, 0, .inl (fun _ => 0))), (q_4, .inl (cI, 0, .inl (fun _ => 0))), (q_5, .inl (cI, 0, .inl (fun _ => 0)))] H := hP
  have hD : va_D A [(h0, .inr (9, [.int 0, .int 0, .int 0, .int 0, .int 0, .int 0, .ref q_1, .ref q_2, .ref q_3, .ref q_4, .ref q_5, .null, .int 0, .int 0])), (q_1, .inl (cI, 0, .inl (fun _ => 0))), (q_2, .inl (cI, 0, .inl (fun _ => 0))), (q_3, .inl (cI, 0, .inl (fun _ => 0))), (q_4, .inl (cI, 0, .inl (fun _ => 0))), (q_5, .inl (cI, 0, .inl (fun _ => 0)))] := hD
  refine lv_aload_n hx hb dX9_init_92 rfl (lv_at hl 0 rfl) ?_
  refine lv_aload_nN hx hb dX9_init_93 rfl (lv_at hl 3 rfl) ?_
  refine va_putF (D := D) (ci := 9) (v := .null) (ty := tyX9 11) (C := RX9) (T := TX9) (N := 14) hx hb hts uX9 tyX9 tyX9_ok nmX9 hown hkb.1 hP hD hS 0 rfl rfl 11 (by decide) (hts _ kw_147) (fun _ h9 => h9) rfl hnm rfl (tyX9_ok 11 (by decide)) rfl rfl (Nat.le_of_ble_eq_true rfl) dX9_init_94 (fun H locs hP hD hS => ?_)
  have hP : va_P D cls [(h0, .inr (9, [.int 0, .int 0, .int 0, .int 0, .int 0, .int 0, .ref q_1, .ref q_2, .ref q_3, .ref q_4, .ref q_5, .null, .int 0, .int 0])), (q_1, .inl (cI, 0, .inl (fun _ => 0))), (q_2, .inl (cI, 0, .inl (fun _ => 0))), (q_3, .inl (cI, 0, .inl (fun _ => 0))), (q_4, .inl (cI, 0, .inl (fun _ => 0))), (q_5, .inl (cI, 0, .inl (fun _ => 0)))] H := hP
  have hD : va_D A [(h0, .inr (9, [.int 0, .int 0, .int 0, .int 0, .int 0, .int 0, .ref q_1, .ref q_2, .ref q_3, .ref q_4, .ref q_5, .null, .int 0, .int 0])), (q_1, .inl (cI, 0, .inl (fun _ => 0))), (q_2, .inl (cI, 0, .inl (fun _ => 0))), (q_3, .inl (cI, 0, .inl (fun _ => 0))), (q_4, .inl (cI, 0, .inl (fun _ => 0))), (q_5, .inl (cI, 0, .inl (fun _ => 0)))] := hD
  refine lv_aload_n hx hb dX9_init_97 rfl (lv_at hl 0 rfl) ?_
  refine lv_aload_nN hx hb dX9_init_98 rfl (lv_at hl 3 rfl) ?_
  refine lv_ifnullN (tgt := 115) hx hb dX9_init_99 (by decide) ?_
  refine lv_iconst (v := 0) hx hb dX9_init_115 (by decide) ?_
  refine va_putF (D := D) (ci := 9) (v := .int 0) (ty := tyX9 12) (C := RX9) (T := TX9) (N := 14) hx hb hts uX9 tyX9 tyX9_ok nmX9 hown hkb.1 hP hD hS 0 rfl rfl 12 (by decide) (hts _ kw_148) (fun _ h9 => h9) rfl hnm rfl (tyX9_ok 12 (by decide)) rfl rfl (Nat.le_of_ble_eq_true rfl) dX9_init_116 (fun H locs hP hD hS => ?_)
  have hP : va_P D cls [(h0, .inr (9, [.int 0, .int 0, .int 0, .int 0, .int 0, .int 0, .ref q_1, .ref q_2, .ref q_3, .ref q_4, .ref q_5, .null, .int 0, .int 0])), (q_1, .inl (cI, 0, .inl (fun _ => 0))), (q_2, .inl (cI, 0, .inl (fun _ => 0))), (q_3, .inl (cI, 0, .inl (fun _ => 0))), (q_4, .inl (cI, 0, .inl (fun _ => 0))), (q_5, .inl (cI, 0, .inl (fun _ => 0)))] H := hP
  have hD : va_D A [(h0, .inr (9, [.int 0, .int 0, .int 0, .int 0, .int 0, .int 0, .ref q_1, .ref q_2, .ref q_3, .ref q_4, .ref q_5, .null, .int 0, .int 0])), (q_1, .inl (cI, 0, .inl (fun _ => 0))), (q_2, .inl (cI, 0, .inl (fun _ => 0))), (q_3, .inl (cI, 0, .inl (fun _ => 0))), (q_4, .inl (cI, 0, .inl (fun _ => 0))), (q_5, .inl (cI, 0, .inl (fun _ => 0)))] := hD
  refine lv_aload_n hx hb dX9_init_119 rfl (lv_at hl 0 rfl) ?_
  refine lv_aload_nN hx hb dX9_init_120 rfl (lv_at hl 3 rfl) ?_
  refine lv_ifnullN (tgt := 132) hx hb dX9_init_121 (by decide) ?_
  refine lv_iconst (v := 1) hx hb dX9_init_132 (by decide) ?_
  refine lv_goto (tgt := 137) hx hb dX9_init_133 (by decide) ?_
  refine va_putF (D := D) (ci := 9) (v := .int 1) (ty := tyX9 13) (C := RX9) (T := TX9) (N := 14) hx hb hts uX9 tyX9 tyX9_ok nmX9 hown hkb.1 hP hD hS 0 rfl rfl 13 (by decide) (hts _ kw_149) (fun _ h9 => h9) rfl hnm rfl (tyX9_ok 13 (by decide)) rfl rfl (Nat.le_of_ble_eq_true rfl) dX9_init_137 (fun H locs hP hD hS => ?_)
  have hP : va_P D cls [(h0, .inr (9, [.int 0, .int 0, .int 0, .int 0, .int 0, .int 0, .ref q_1, .ref q_2, .ref q_3, .ref q_4, .ref q_5, .null, .int 0, .int 1])), (q_1, .inl (cI, 0, .inl (fun _ => 0))), (q_2, .inl (cI, 0, .inl (fun _ => 0))), (q_3, .inl (cI, 0, .inl (fun _ => 0))), (q_4, .inl (cI, 0, .inl (fun _ => 0))), (q_5, .inl (cI, 0, .inl (fun _ => 0)))] H := hP
  have hD : va_D A [(h0, .inr (9, [.int 0, .int 0, .int 0, .int 0, .int 0, .int 0, .ref q_1, .ref q_2, .ref q_3, .ref q_4, .ref q_5, .null, .int 0, .int 1])), (q_1, .inl (cI, 0, .inl (fun _ => 0))), (q_2, .inl (cI, 0, .inl (fun _ => 0))), (q_3, .inl (cI, 0, .inl (fun _ => 0))), (q_4, .inl (cI, 0, .inl (fun _ => 0))), (q_5, .inl (cI, 0, .inl (fun _ => 0)))] := hD
  refine W.widen (k := 5) (n := 0) (Nat.le_of_ble_eq_true rfl) (Nat.le_of_ble_eq_true rfl) ?_
  exact e_v (u := [(h0, .inr (9, [.int 0, .int 0, .int 0, .int 0, .int 0, .int 0, .ref q_1, .ref q_2, .ref q_3, .ref q_4, .ref q_5, .null, .int 0, .int 1])), (q_1, .inl (cI, 0, .inl (fun _ => 0))), (q_2, .inl (cI, 0, .inl (fun _ => 0))), (q_3, .inl (cI, 0, .inl (fun _ => 0))), (q_4, .inl (cI, 0, .inl (fun _ => 0))), (q_5, .inl (cI, 0, .inl (fun _ => 0)))]) hx hb hr hlocks (hP.sub (ws' := [(h0, .inr (9, [.int 0, .int 0, .int 0, .int 0, .int 0, .int 0, .ref q_1, .ref q_2, .ref q_3, .ref q_4, .ref q_5, .null, .int 0, .int 1])), (q_1, .inl (cI, 0, .inl (fun _ => 0))), (q_2, .inl (cI, 0, .inl (fun _ => 0))), (q_3, .inl (cI, 0, .inl (fun _ => 0))), (q_4, .inl (cI, 0, .inl (fun _ => 0))), (q_5, .inl (cI, 0, .inl (fun _ => 0)))]) [0, 1, 2, 3, 4, 5] rfl) (hD.sub (ws' := [(h0, .inr (9, [.int 0, .int 0, .int 0, .int 0, .int 0, .int 0, .ref q_1, .ref q_2, .ref q_3, .ref q_4, .ref q_5, .null, .int 0, .int 1])), (q_1, .inl (cI, 0, .inl (fun _ => 0))), (q_2, .inl (cI, 0, .inl (fun _ => 0))), (q_3, .inl (cI, 0, .inl (fun _ => 0))), (q_4, .inl (cI, 0, .inl (fun _ => 0))), (q_5, .inl (cI, 0, .inl (fun _ => 0)))]) [0, 1, 2, 3, 4, 5] (by decide) rfl) hS ⟨q_1, q_2, q_3, q_4, q_5, rfl⟩ dX9_init_140
set_option maxHeartbeats 4000000 in
set_option maxRecDepth 100000 in
theorem c_Rows_init (l : Launch) (D : va_G) (cB cI cJ cZ cS cW cT cR : ClassId) (h0 : Nat) (wl : Nat) : Kon l D (tyl cB cI cJ cZ cS cW cT cR) yX5_init cX5_init 2 none { frames := 1, cells := 2, slots := 28, locals := 12 } [.ref h0, .ref wl] [(h0, .inr (5, [.null, .int 0, .int 0, .int 0, .null, .null]))] (Qv D (fun u => ∃ (q_1 : Nat), ∃ (q_2 : Nat), u = [(h0, .inr (5, [.ref wl, .int 0, .int 0, .int 0, .ref q_1, .ref q_2]))])) := by
  refine kon_of (by decide) (Nat.le_of_ble_eq_true rfl) (fun p e s m below meth c ls A hx hb hr hml hown hts hlocks hnm hkb hP hD hS hA hl => ?_)
  have hown : s.vm.findClass RX5 = some m.cls := hown
  have hl : lv_has ls 2 [(0, .ref h0), (1, .ref wl)] := hl
  have hP : va_P D cls [(h0, .inr (5, [.null, .int 0, .int 0, .int 0, .null, .null]))] s.heap := hP
  refine lv_aload_n hx hb dX5_init_0 rfl (lv_at hl 0 rfl) ?_
  refine W.objInit hx hb hown (hts _ kw_243) (hts _ kw_30) (hts _ kw_31) rfl (by rw [hml]; exact hl.1) rfl dX5_init_1 (Nat.le_of_ble_eq_true rfl) (Nat.le_of_ble_eq_true rfl) ?_
  refine W.eq (g2 := F0 m 4 ls []) rfl ?_
  refine lv_aload_n hx hb dX5_init_4 rfl (lv_at hl 0 rfl) ?_
  refine lv_iconst (v := 0) hx hb dX5_init_5 (by decide) ?_
  refine va_put (D := D) (ci := 5) (v := .int 0) (ty := tyX5 1) (C := RX5) (T := TX5) (N := 6) hx hb hts uX5 tyX5 tyX5_ok nmX5 hown hkb.1 hP hD hS 0 rfl rfl 1 (by decide) (hts _ kw_248) (fun _ h9 => h9) rfl (tyX5_ok 1 (by decide)) rfl rfl (Nat.le_of_ble_eq_true rfl) dX5_init_6 (fun H locs hP hD hS => ?_)
  have hP : va_P D cls [(h0, .inr (5, [.null, .int 0, .int 0, .int 0, .null, .null]))] H := hP
  have hD : va_D A [(h0, .inr (5, [.null, .int 0, .int 0, .int 0, .null, .null]))] := hD
  refine lv_aload_n hx hb dX5_init_9 rfl (lv_at hl 0 rfl) ?_
  refine lv_iconst (v := 0) hx hb dX5_init_10 (by decide) ?_
  refine va_put (D := D) (ci := 5) (v := .int 0) (ty := tyX5 2) (C := RX5) (T := TX5) (N := 6) hx hb hts uX5 tyX5 tyX5_ok nmX5 hown hkb.1 hP hD hS 0 rfl rfl 2 (by decide) (hts _ kw_249) (fun _ h9 => h9) rfl (tyX5_ok 2 (by decide)) rfl rfl (Nat.le_of_ble_eq_true rfl) dX5_init_11 (fun H locs hP hD hS => ?_)
  have hP : va_P D cls [(h0, .inr (5, [.null, .int 0, .int 0, .int 0, .null, .null]))] H := hP
  have hD : va_D A [(h0, .inr (5, [.null, .int 0, .int 0, .int 0, .null, .null]))] := hD
  refine lv_aload_n hx hb dX5_init_14 rfl (lv_at hl 0 rfl) ?_
  refine lv_iconst (v := 0) hx hb dX5_init_15 (by decide) ?_
  refine va_put (D := D) (ci := 5) (v := .int 0) (ty := tyX5 3) (C := RX5) (T := TX5) (N := 6) hx hb hts uX5 tyX5 tyX5_ok nmX5 hown hkb.1 hP hD hS 0 rfl rfl 3 (by decide) (hts _ kw_250) (fun _ h9 => h9) rfl (tyX5_ok 3 (by decide)) rfl rfl (Nat.le_of_ble_eq_true rfl) dX5_init_16 (fun H locs hP hD hS => ?_)
  have hP : va_P D cls [(h0, .inr (5, [.null, .int 0, .int 0, .int 0, .null, .null]))] H := hP
  have hD : va_D A [(h0, .inr (5, [.null, .int 0, .int 0, .int 0, .null, .null]))] := hD
  refine lv_aload_n hx hb dX5_init_19 rfl (lv_at hl 0 rfl) ?_
  refine lv_bipush (v := 14) hx hb dX5_init_20 (by decide) ?_
  refine n_a (atype := .int) (t := .int) (a0 := (14, .inl (fun _ => 0))) 1 rfl (fun _ _ h => h) hx hb (hts _ kw_92) rfl hkb.1 hP hD hS hA (fun _ => rfl) (by decide) (by decide +kernel) (by decide) (Nat.le_of_ble_eq_true rfl) (Nat.le_of_ble_eq_true rfl) dX5_init_22 (fun q_1 H hP hD hS => ?_)
  have hP : va_P D cls [(h0, .inr (5, [.null, .int 0, .int 0, .int 0, .null, .null])), (q_1, .inl (cI, 14, .inl (fun _ => 0)))] H := hP
  have hD : va_D A [(h0, .inr (5, [.null, .int 0, .int 0, .int 0, .null, .null])), (q_1, .inl (cI, 14, .inl (fun _ => 0)))] := hD
  refine W.widen (k := 1) (n := 14) (Nat.le_of_ble_eq_true rfl) (Nat.le_of_ble_eq_true rfl) ?_
  refine va_putF (D := D) (ci := 5) (v := .ref q_1) (ty := tyX5 4) (C := RX5) (T := TX5) (N := 6) hx hb hts uX5 tyX5 tyX5_ok nmX5 hown hkb.1 hP hD hS 0 rfl rfl 4 (by decide) (hts _ kw_251) (fun _ h9 => h9) rfl hnm rfl (tyX5_ok 4 (by decide)) rfl rfl (Nat.le_of_ble_eq_true rfl) dX5_init_24 (fun H locs hP hD hS => ?_)
  have hP : va_P D cls [(h0, .inr (5, [.null, .int 0, .int 0, .int 0, .ref q_1, .null])), (q_1, .inl (cI, 14, .inl (fun _ => 0)))] H := hP
  have hD : va_D A [(h0, .inr (5, [.null, .int 0, .int 0, .int 0, .ref q_1, .null])), (q_1, .inl (cI, 14, .inl (fun _ => 0)))] := hD
  refine lv_aload_n hx hb dX5_init_27 rfl (lv_at hl 0 rfl) ?_
  refine lv_bipush (v := 14) hx hb dX5_init_28 (by decide) ?_
  refine n_a (atype := .int) (t := .int) (a0 := (14, .inl (fun _ => 0))) 1 rfl (fun _ _ h => h) hx hb (hts _ kw_92) rfl hkb.1 hP hD hS hA (fun _ => rfl) (by decide) (by decide +kernel) (by decide) (Nat.le_of_ble_eq_true rfl) (Nat.le_of_ble_eq_true rfl) dX5_init_30 (fun q_2 H hP hD hS => ?_)
  have hP : va_P D cls [(h0, .inr (5, [.null, .int 0, .int 0, .int 0, .ref q_1, .null])), (q_1, .inl (cI, 14, .inl (fun _ => 0))), (q_2, .inl (cI, 14, .inl (fun _ => 0)))] H := hP
  have hD : va_D A [(h0, .inr (5, [.null, .int 0, .int 0, .int 0, .ref q_1, .null])), (q_1, .inl (cI, 14, .inl (fun _ => 0))), (q_2, .inl (cI, 14, .inl (fun _ => 0)))] := hD
  refine W.widen (k := 2) (n := 28) (Nat.le_of_ble_eq_true rfl) (Nat.le_of_ble_eq_true rfl) ?_
  refine va_putF (D := D) (ci := 5) (v := .ref q_2) (ty := tyX5 5) (C := RX5) (T := TX5) (N := 6) hx hb hts uX5 tyX5 tyX5_ok nmX5 hown hkb.1 hP hD hS 0 rfl rfl 5 (by decide) (hts _ kw_252) (fun _ h9 => h9) rfl hnm rfl (tyX5_ok 5 (by decide)) rfl rfl (Nat.le_of_ble_eq_true rfl) dX5_init_32 (fun H locs hP hD hS => ?_)
  have hP : va_P D cls [(h0, .inr (5, [.null, .int 0, .int 0, .int 0, .ref q_1, .ref q_2])), (q_1, .inl (cI, 14, .inl (fun _ => 0))), (q_2, .inl (cI, 14, .inl (fun _ => 0)))] H := hP
  have hD : va_D A [(h0, .inr (5, [.null, .int 0, .int 0, .int 0, .ref q_1, .ref q_2])), (q_1, .inl (cI, 14, .inl (fun _ => 0))), (q_2, .inl (cI, 14, .inl (fun _ => 0)))] := hD
  refine lv_aload_n hx hb dX5_init_35 rfl (lv_at hl 0 rfl) ?_
  refine lv_aload_n hx hb dX5_init_36 rfl (lv_at hl 1 rfl) ?_
  refine va_put (D := D) (ci := 5) (v := .ref wl) (ty := tyX5 0) (C := RX5) (T := TX5) (N := 6) hx hb hts uX5 tyX5 tyX5_ok nmX5 hown hkb.1 hP hD hS 0 rfl rfl 0 (by decide) (hts _ kw_244) (fun _ h9 => h9) rfl (tyX5_ok 0 (by decide)) rfl rfl (Nat.le_of_ble_eq_true rfl) dX5_init_37 (fun H locs hP hD hS => ?_)
  have hP : va_P D cls [(h0, .inr (5, [.ref wl, .int 0, .int 0, .int 0, .ref q_1, .ref q_2])), (q_1, .inl (cI, 14, .inl (fun _ => 0))), (q_2, .inl (cI, 14, .inl (fun _ => 0)))] H := hP
  have hD : va_D A [(h0, .inr (5, [.ref wl, .int 0, .int 0, .int 0, .ref q_1, .ref q_2])), (q_1, .inl (cI, 14, .inl (fun _ => 0))), (q_2, .inl (cI, 14, .inl (fun _ => 0)))] := hD
  refine W.widen (k := 2) (n := 28) (Nat.le_of_ble_eq_true rfl) (Nat.le_of_ble_eq_true rfl) ?_
  exact e_v (u := [(h0, .inr (5, [.ref wl, .int 0, .int 0, .int 0, .ref q_1, .ref q_2]))]) hx hb hr hlocks (hP.sub (ws' := [(h0, .inr (5, [.ref wl, .int 0, .int 0, .int 0, .ref q_1, .ref q_2]))]) [0] rfl) (hD.sub (ws' := [(h0, .inr (5, [.ref wl, .int 0, .int 0, .int 0, .ref q_1, .ref q_2]))]) [0] (by decide) rfl) hS ⟨q_1, q_2, rfl⟩ dX5_init_40
set_option maxHeartbeats 4000000 in
set_option maxRecDepth 100000 in
theorem c_Ways_init (l : Launch) (D : va_G) (cB cI cJ cZ cS cW cT cR : ClassId) (h0 : Nat) : Kon l D (tyl cB cI cJ cZ cS cW cT cR) yX10_init cX10_init 1 none { frames := 1, cells := 5, slots := 70, locals := 12 } [.ref h0] [(h0, .inr (10, [.null, .null, .int 0, .null, .null, .null, .int 0]))] (Qv D (fun u => ∃ (q_1 : Nat), ∃ (q_2 : Nat), ∃ (q_3 : Nat), ∃ (q_4 : Nat), ∃ (q_5 : Nat), u = [(h0, .inr (10, [.ref q_1, .ref q_2, .int 0, .ref q_3, .ref q_4, .ref q_5, .int 0]))])) := by
  refine kon_of (by decide) (Nat.le_of_ble_eq_true rfl) (fun p e s m below meth c ls A hx hb hr hml hown hts hlocks hnm hkb hP hD hS hA hl => ?_)
  have hown : s.vm.findClass RX10 = some m.cls := hown
  have hl : lv_has ls 1 [(0, .ref h0)] := hl
  have hP : va_P D cls [(h0, .inr (10, [.null, .null, .int 0, .null, .null, .null, .int 0]))] s.heap := hP
  refine lv_aload_n hx hb dX10_init_0 rfl (lv_at hl 0 rfl) ?_
  refine W.objInit hx hb hown (hts _ kw_271) (hts _ kw_30) (hts _ kw_31) rfl (by rw [hml]; exact hl.1) rfl dX10_init_1 (Nat.le_of_ble_eq_true rfl) (Nat.le_of_ble_eq_true rfl) ?_
  refine W.eq (g2 := F0 m 4 ls []) rfl ?_
  refine lv_aload_n hx hb dX10_init_4 rfl (lv_at hl 0 rfl) ?_
  refine lv_bipush (v := 14) hx hb dX10_init_5 (by decide) ?_
  refine n_a (atype := .int) (t := .int) (a0 := (14, .inl (fun _ => 0))) 1 rfl (fun _ _ h => h) hx hb (hts _ kw_92) rfl hkb.1 hP hD hS hA (fun _ => rfl) (by decide) (by decide +kernel) (by decide) (Nat.le_of_ble_eq_true rfl) (Nat.le_of_ble_eq_true rfl) dX10_init_7 (fun q_1 H hP hD hS => ?_)
  have hP : va_P D cls [(h0, .inr (10, [.null, .null, .int 0, .null, .null, .null, .int 0])), (q_1, .inl (cI, 14, .inl (fun _ => 0)))] H := hP
  have hD : va_D A [(h0, .inr (10, [.null, .null, .int 0, .null, .null, .null, .int 0])), (q_1, .inl (cI, 14, .inl (fun _ => 0)))] := hD
  refine W.widen (k := 1) (n := 14) (Nat.le_of_ble_eq_true rfl) (Nat.le_of_ble_eq_true rfl) ?_
  refine va_putF (D := D) (ci := 10) (v := .ref q_1) (ty := tyX10 0) (C := RX10) (T := TX10) (N := 7) hx hb hts uX10 tyX10 tyX10_ok nmX10 hown hkb.1 hP hD hS 0 rfl rfl 0 (by decide) (hts _ kw_272) (fun _ h9 => h9) rfl hnm rfl (tyX10_ok 0 (by decide)) rfl rfl (Nat.le_of_ble_eq_true rfl) dX10_init_9 (fun H locs hP hD hS => ?_)
  have hP : va_P D cls [(h0, .inr (10, [.ref q_1, .null, .int 0, .null, .null, .null, .int 0])), (q_1, .inl (cI, 14, .inl (fun _ => 0)))] H := hP
  have hD : va_D A [(h0, .inr (10, [.ref q_1, .null, .int 0, .null, .null, .null, .int 0])), (q_1, .inl (cI, 14, .inl (fun _ => 0)))] := hD
  refine lv_aload_n hx hb dX10_init_12 rfl (lv_at hl 0 rfl) ?_
  refine lv_bipush (v := 14) hx hb dX10_init_13 (by decide) ?_
  refine n_a (atype := .int) (t := .int) (a0 := (14, .inl (fun _ => 0))) 1 rfl (fun _ _ h => h) hx hb (hts _ kw_92) rfl hkb.1 hP hD hS hA (fun _ => rfl) (by decide) (by decide +kernel) (by decide) (Nat.le_of_ble_eq_true rfl) (Nat.le_of_ble_eq_true rfl) dX10_init_15 (fun q_2 H hP hD hS => ?_)
  have hP : va_P D cls [(h0, .inr (10, [.ref q_1, .null, .int 0, .null, .null, .null, .int 0])), (q_1, .inl (cI, 14, .inl (fun _ => 0))), (q_2, .inl (cI, 14, .inl (fun _ => 0)))] H := hP
  have hD : va_D A [(h0, .inr (10, [.ref q_1, .null, .int 0, .null, .null, .null, .int 0])), (q_1, .inl (cI, 14, .inl (fun _ => 0))), (q_2, .inl (cI, 14, .inl (fun _ => 0)))] := hD
  refine W.widen (k := 2) (n := 28) (Nat.le_of_ble_eq_true rfl) (Nat.le_of_ble_eq_true rfl) ?_
  refine va_putF (D := D) (ci := 10) (v := .ref q_2) (ty := tyX10 1) (C := RX10) (T := TX10) (N := 7) hx hb hts uX10 tyX10 tyX10_ok nmX10 hown hkb.1 hP hD hS 0 rfl rfl 1 (by decide) (hts _ kw_273) (fun _ h9 => h9) rfl hnm rfl (tyX10_ok 1 (by decide)) rfl rfl (Nat.le_of_ble_eq_true rfl) dX10_init_17 (fun H locs hP hD hS => ?_)
  have hP : va_P D cls [(h0, .inr (10, [.ref q_1, .ref q_2, .int 0, .null, .null, .null, .int 0])), (q_1, .inl (cI, 14, .inl (fun _ => 0))), (q_2, .inl (cI, 14, .inl (fun _ => 0)))] H := hP
  have hD : va_D A [(h0, .inr (10, [.ref q_1, .ref q_2, .int 0, .null, .null, .null, .int 0])), (q_1, .inl (cI, 14, .inl (fun _ => 0))), (q_2, .inl (cI, 14, .inl (fun _ => 0)))] := hD
  refine lv_aload_n hx hb dX10_init_20 rfl (lv_at hl 0 rfl) ?_
  refine lv_iconst (v := 0) hx hb dX10_init_21 (by decide) ?_
  refine va_put (D := D) (ci := 10) (v := .int 0) (ty := tyX10 2) (C := RX10) (T := TX10) (N := 7) hx hb hts uX10 tyX10 tyX10_ok nmX10 hown hkb.1 hP hD hS 0 rfl rfl 2 (by decide) (hts _ kw_275) (fun _ h9 => h9) rfl (tyX10_ok 2 (by decide)) rfl rfl (Nat.le_of_ble_eq_true rfl) dX10_init_22 (fun H locs hP hD hS => ?_)
  have hP : va_P D cls [(h0, .inr (10, [.ref q_1, .ref q_2, .int 0, .null, .null, .null, .int 0])), (q_1, .inl (cI, 14, .inl (fun _ => 0))), (q_2, .inl (cI, 14, .inl (fun _ => 0)))] H := hP
  have hD : va_D A [(h0, .inr (10, [.ref q_1, .ref q_2, .int 0, .null, .null, .null, .int 0])), (q_1, .inl (cI, 14, .inl (fun _ => 0))), (q_2, .inl (cI, 14, .inl (fun _ => 0)))] := hD
  refine lv_aload_n hx hb dX10_init_25 rfl (lv_at hl 0 rfl) ?_
  refine lv_bipush (v := 14) hx hb dX10_init_26 (by decide) ?_
  refine n_a (atype := .long) (t := .long) (a0 := (14, .inr (.inl (fun _ => 0)))) 2 rfl (fun _ _ h => h) hx hb (hts _ kw_295) rfl hkb.1 hP hD hS hA (fun _ => rfl) (by decide) (by decide +kernel) (by decide) (Nat.le_of_ble_eq_true rfl) (Nat.le_of_ble_eq_true rfl) dX10_init_28 (fun q_3 H hP hD hS => ?_)
  have hP : va_P D cls [(h0, .inr (10, [.ref q_1, .ref q_2, .int 0, .null, .null, .null, .int 0])), (q_1, .inl (cI, 14, .inl (fun _ => 0))), (q_2, .inl (cI, 14, .inl (fun _ => 0))), (q_3, .inl (cJ, 14, .inr (.inl (fun _ => 0))))] H := hP
  have hD : va_D A [(h0, .inr (10, [.ref q_1, .ref q_2, .int 0, .null, .null, .null, .int 0])), (q_1, .inl (cI, 14, .inl (fun _ => 0))), (q_2, .inl (cI, 14, .inl (fun _ => 0))), (q_3, .inl (cJ, 14, .inr (.inl (fun _ => 0))))] := hD
  refine W.widen (k := 3) (n := 42) (Nat.le_of_ble_eq_true rfl) (Nat.le_of_ble_eq_true rfl) ?_
  refine va_putF (D := D) (ci := 10) (v := .ref q_3) (ty := tyX10 3) (C := RX10) (T := TX10) (N := 7) hx hb hts uX10 tyX10 tyX10_ok nmX10 hown hkb.1 hP hD hS 0 rfl rfl 3 (by decide) (hts _ kw_276) (fun _ h9 => h9) rfl hnm rfl (tyX10_ok 3 (by decide)) rfl rfl (Nat.le_of_ble_eq_true rfl) dX10_init_30 (fun H locs hP hD hS => ?_)
  have hP : va_P D cls [(h0, .inr (10, [.ref q_1, .ref q_2, .int 0, .ref q_3, .null, .null, .int 0])), (q_1, .inl (cI, 14, .inl (fun _ => 0))), (q_2, .inl (cI, 14, .inl (fun _ => 0))), (q_3, .inl (cJ, 14, .inr (.inl (fun _ => 0))))] H := hP
  have hD : va_D A [(h0, .inr (10, [.ref q_1, .ref q_2, .int 0, .ref q_3, .null, .null, .int 0])), (q_1, .inl (cI, 14, .inl (fun _ => 0))), (q_2, .inl (cI, 14, .inl (fun _ => 0))), (q_3, .inl (cJ, 14, .inr (.inl (fun _ => 0))))] := hD
  refine lv_aload_n hx hb dX10_init_33 rfl (lv_at hl 0 rfl) ?_
  refine lv_bipush (v := 14) hx hb dX10_init_34 (by decide) ?_
  refine n_a (atype := .int) (t := .int) (a0 := (14, .inl (fun _ => 0))) 1 rfl (fun _ _ h => h) hx hb (hts _ kw_92) rfl hkb.1 hP hD hS hA (fun _ => rfl) (by decide) (by decide +kernel) (by decide) (Nat.le_of_ble_eq_true rfl) (Nat.le_of_ble_eq_true rfl) dX10_init_36 (fun q_4 H hP hD hS => ?_)
  have hP : va_P D cls [(h0, .inr (10, [.ref q_1, .ref q_2, .int 0, .ref q_3, .null, .null, .int 0])), (q_1, .inl (cI, 14, .inl (fun _ => 0))), (q_2, .inl (cI, 14, .inl (fun _ => 0))), (q_3, .inl (cJ, 14, .inr (.inl (fun _ => 0)))), (q_4, .inl (cI, 14, .inl (fun _ => 0)))] H := hP
  have hD : va_D A [(h0, .inr (10, [.ref q_1, .ref q_2, .int 0, .ref q_3, .null, .null, .int 0])), (q_1, .inl (cI, 14, .inl (fun _ => 0))), (q_2, .inl (cI, 14, .inl (fun _ => 0))), (q_3, .inl (cJ, 14, .inr (.inl (fun _ => 0)))), (q_4, .inl (cI, 14, .inl (fun _ => 0)))] := hD
  refine W.widen (k := 4) (n := 56) (Nat.le_of_ble_eq_true rfl) (Nat.le_of_ble_eq_true rfl) ?_
  refine va_putF (D := D) (ci := 10) (v := .ref q_4) (ty := tyX10 4) (C := RX10) (T := TX10) (N := 7) hx hb hts uX10 tyX10 tyX10_ok nmX10 hown hkb.1 hP hD hS 0 rfl rfl 4 (by decide) (hts _ kw_277) (fun _ h9 => h9) rfl hnm rfl (tyX10_ok 4 (by decide)) rfl rfl (Nat.le_of_ble_eq_true rfl) dX10_init_38 (fun H locs hP hD hS => ?_)
  have hP : va_P D cls [(h0, .inr (10, [.ref q_1, .ref q_2, .int 0, .ref q_3, .ref q_4, .null, .int 0])), (q_1, .inl (cI, 14, .inl (fun _ => 0))), (q_2, .inl (cI, 14, .inl (fun _ => 0))), (q_3, .inl (cJ, 14, .inr (.inl (fun _ => 0)))), (q_4, .inl (cI, 14, .inl (fun _ => 0)))] H := hP
  have hD : va_D A [(h0, .inr (10, [.ref q_1, .ref q_2, .int 0, .ref q_3, .ref q_4, .null, .int 0])), (q_1, .inl (cI, 14, .inl (fun _ => 0))), (q_2, .inl (cI, 14, .inl (fun _ => 0))), (q_3, .inl (cJ, 14, .inr (.inl (fun _ => 0)))), (q_4, .inl (cI, 14, .inl (fun _ => 0)))] := hD
  refine lv_aload_n hx hb dX10_init_41 rfl (lv_at hl 0 rfl) ?_
  refine lv_bipush (v := 14) hx hb dX10_init_42 (by decide) ?_
  refine n_a (atype := .int) (t := .int) (a0 := (14, .inl (fun _ => 0))) 1 rfl (fun _ _ h => h) hx hb (hts _ kw_92) rfl hkb.1 hP hD hS hA (fun _ => rfl) (by decide) (by decide +kernel) (by decide) (Nat.le_of_ble_eq_true rfl) (Nat.le_of_ble_eq_true rfl) dX10_init_44 (fun q_5 H hP hD hS => ?_)
  have hP : va_P D cls [(h0, .inr (10, [.ref q_1, .ref q_2, .int 0, .ref q_3, .ref q_4, .null, .int 0])), (q_1, .inl (cI, 14, .inl (fun _ => 0))), (q_2, .inl (cI, 14, .inl (fun _ => 0))), (q_3, .inl (cJ, 14, .inr (.inl (fun _ => 0)))), (q_4, .inl (cI, 14, .inl (fun _ => 0))), (q_5, .inl (cI, 14, .inl (fun _ => 0)))] H := hP
  have hD : va_D A [(h0, .inr (10, [.ref q_1, .ref q_2, .int 0, .ref q_3, .ref q_4, .null, .int 0])), (q_1, .inl (cI, 14, .inl (fun _ => 0))), (q_2, .inl (cI, 14, .inl (fun _ => 0))), (q_3, .inl (cJ, 14, .inr (.inl (fun _ => 0)))), (q_4, .inl (cI, 14, .inl (fun _ => 0))), (q_5, .inl (cI, 14, .inl (fun _ => 0)))] := hD
  refine W.widen (k := 5) (n := 70) (Nat.le_of_ble_eq_true rfl) (Nat.le_of_ble_eq_true rfl) ?_
  refine va_putF (D := D) (ci := 10) (v := .ref q_5) (ty := tyX10 5) (C := RX10) (T := TX10) (N := 7) hx hb hts uX10 tyX10 tyX10_ok nmX10 hown hkb.1 hP hD hS 0 rfl rfl 5 (by decide) (hts _ kw_278) (fun _ h9 => h9) rfl hnm rfl (tyX10_ok 5 (by decide)) rfl rfl (Nat.le_of_ble_eq_true rfl) dX10_init_46 (fun H locs hP hD hS => ?_)
  have hP : va_P D cls [(h0, .inr (10, [.ref q_1, .ref q_2, .int 0, .ref q_3, .ref q_4, .ref q_5, .int 0])), (q_1, .inl (cI, 14, .inl (fun _ => 0))), (q_2, .inl (cI, 14, .inl (fun _ => 0))), (q_3, .inl (cJ, 14, .inr (.inl (fun _ => 0)))), (q_4, .inl (cI, 14, .inl (fun _ => 0))), (q_5, .inl (cI, 14, .inl (fun _ => 0)))] H := hP
  have hD : va_D A [(h0, .inr (10, [.ref q_1, .ref q_2, .int 0, .ref q_3, .ref q_4, .ref q_5, .int 0])), (q_1, .inl (cI, 14, .inl (fun _ => 0))), (q_2, .inl (cI, 14, .inl (fun _ => 0))), (q_3, .inl (cJ, 14, .inr (.inl (fun _ => 0)))), (q_4, .inl (cI, 14, .inl (fun _ => 0))), (q_5, .inl (cI, 14, .inl (fun _ => 0)))] := hD
  refine lv_aload_n hx hb dX10_init_49 rfl (lv_at hl 0 rfl) ?_
  refine lv_iconst (v := 0) hx hb dX10_init_50 (by decide) ?_
  refine va_put (D := D) (ci := 10) (v := .int 0) (ty := tyX10 6) (C := RX10) (T := TX10) (N := 7) hx hb hts uX10 tyX10 tyX10_ok nmX10 hown hkb.1 hP hD hS 0 rfl rfl 6 (by decide) (hts _ kw_279) (fun _ h9 => h9) rfl (tyX10_ok 6 (by decide)) rfl rfl (Nat.le_of_ble_eq_true rfl) dX10_init_51 (fun H locs hP hD hS => ?_)
  have hP : va_P D cls [(h0, .inr (10, [.ref q_1, .ref q_2, .int 0, .ref q_3, .ref q_4, .ref q_5, .int 0])), (q_1, .inl (cI, 14, .inl (fun _ => 0))), (q_2, .inl (cI, 14, .inl (fun _ => 0))), (q_3, .inl (cJ, 14, .inr (.inl (fun _ => 0)))), (q_4, .inl (cI, 14, .inl (fun _ => 0))), (q_5, .inl (cI, 14, .inl (fun _ => 0)))] H := hP
  have hD : va_D A [(h0, .inr (10, [.ref q_1, .ref q_2, .int 0, .ref q_3, .ref q_4, .ref q_5, .int 0])), (q_1, .inl (cI, 14, .inl (fun _ => 0))), (q_2, .inl (cI, 14, .inl (fun _ => 0))), (q_3, .inl (cJ, 14, .inr (.inl (fun _ => 0)))), (q_4, .inl (cI, 14, .inl (fun _ => 0))), (q_5, .inl (cI, 14, .inl (fun _ => 0)))] := hD
  refine W.widen (k := 5) (n := 70) (Nat.le_of_ble_eq_true rfl) (Nat.le_of_ble_eq_true rfl) ?_
  exact e_v (u := [(h0, .inr (10, [.ref q_1, .ref q_2, .int 0, .ref q_3, .ref q_4, .ref q_5, .int 0]))]) hx hb hr hlocks (hP.sub (ws' := [(h0, .inr (10, [.ref q_1, .ref q_2, .int 0, .ref q_3, .ref q_4, .ref q_5, .int 0]))]) [0] rfl) (hD.sub (ws' := [(h0, .inr (10, [.ref q_1, .ref q_2, .int 0, .ref q_3, .ref q_4, .ref q_5, .int 0]))]) [0] (by decide) rfl) hS ⟨q_1, q_2, q_3, q_4, q_5, rfl⟩ dX10_init_54
set_option maxHeartbeats 4000000 in
set_option maxRecDepth 100000 in
theorem c_Cut_init (l : Launch) (D : va_G) (cB cI cJ cZ cS cW cT cR : ClassId) (h0 : Nat) : Kon l D (tyl cB cI cJ cZ cS cW cT cR) yX1_init cX1_init 1 none { frames := 1, cells := 4, slots := 84, locals := 12 } [.ref h0] [(h0, .inr (1, [.null, .null, .int 0, .null, .int 0, .int 0, .null]))] (Qv D (fun u => ∃ (q_1 : Nat), ∃ (q_2 : Nat), ∃ (q_3 : Nat), ∃ (q_4 : Nat), u = [(h0, .inr (1, [.ref q_1, .ref q_2, .int 0, .ref q_3, .int 0, .int 0, .ref q_4]))])) := by
  refine kon_of (by decide) (Nat.le_of_ble_eq_true rfl) (fun p e s m below meth c ls A hx hb hr hml hown hts hlocks hnm hkb hP hD hS hA hl => ?_)
  have hown : s.vm.findClass RX1 = some m.cls := hown
  have hl : lv_has ls 1 [(0, .ref h0)] := hl
  have hP : va_P D cls [(h0, .inr (1, [.null, .null, .int 0, .null, .int 0, .int 0, .null]))] s.heap := hP
  refine lv_aload_n hx hb dX1_init_0 rfl (lv_at hl 0 rfl) ?_
  refine W.objInit hx hb hown (hts _ kw_301) (hts _ kw_30) (hts _ kw_31) rfl (by rw [hml]; exact hl.1) rfl dX1_init_1 (Nat.le_of_ble_eq_true rfl) (Nat.le_of_ble_eq_true rfl) ?_
  refine W.eq (g2 := F0 m 4 ls []) rfl ?_
  refine lv_aload_n hx hb dX1_init_4 rfl (lv_at hl 0 rfl) ?_
  refine lv_bipush (v := 14) hx hb dX1_init_5 (by decide) ?_
  refine n_a (atype := .int) (t := .int) (a0 := (14, .inl (fun _ => 0))) 1 rfl (fun _ _ h => h) hx hb (hts _ kw_92) rfl hkb.1 hP hD hS hA (fun _ => rfl) (by decide) (by decide +kernel) (by decide) (Nat.le_of_ble_eq_true rfl) (Nat.le_of_ble_eq_true rfl) dX1_init_7 (fun q_1 H hP hD hS => ?_)
  have hP : va_P D cls [(h0, .inr (1, [.null, .null, .int 0, .null, .int 0, .int 0, .null])), (q_1, .inl (cI, 14, .inl (fun _ => 0)))] H := hP
  have hD : va_D A [(h0, .inr (1, [.null, .null, .int 0, .null, .int 0, .int 0, .null])), (q_1, .inl (cI, 14, .inl (fun _ => 0)))] := hD
  refine W.widen (k := 1) (n := 14) (Nat.le_of_ble_eq_true rfl) (Nat.le_of_ble_eq_true rfl) ?_
  refine va_putF (D := D) (ci := 1) (v := .ref q_1) (ty := tyX1 0) (C := RX1) (T := TX1) (N := 7) hx hb hts uX1 tyX1 tyX1_ok nmX1 hown hkb.1 hP hD hS 0 rfl rfl 0 (by decide) (hts _ kw_302) (fun _ h9 => h9) rfl hnm rfl (tyX1_ok 0 (by decide)) rfl rfl (Nat.le_of_ble_eq_true rfl) dX1_init_9 (fun H locs hP hD hS => ?_)
  have hP : va_P D cls [(h0, .inr (1, [.ref q_1, .null, .int 0, .null, .int 0, .int 0, .null])), (q_1, .inl (cI, 14, .inl (fun _ => 0)))] H := hP
  have hD : va_D A [(h0, .inr (1, [.ref q_1, .null, .int 0, .null, .int 0, .int 0, .null])), (q_1, .inl (cI, 14, .inl (fun _ => 0)))] := hD
  refine lv_aload_n hx hb dX1_init_12 rfl (lv_at hl 0 rfl) ?_
  refine lv_bipush (v := 14) hx hb dX1_init_13 (by decide) ?_
  refine n_a (atype := .int) (t := .int) (a0 := (14, .inl (fun _ => 0))) 1 rfl (fun _ _ h => h) hx hb (hts _ kw_92) rfl hkb.1 hP hD hS hA (fun _ => rfl) (by decide) (by decide +kernel) (by decide) (Nat.le_of_ble_eq_true rfl) (Nat.le_of_ble_eq_true rfl) dX1_init_15 (fun q_2 H hP hD hS => ?_)
  have hP : va_P D cls [(h0, .inr (1, [.ref q_1, .null, .int 0, .null, .int 0, .int 0, .null])), (q_1, .inl (cI, 14, .inl (fun _ => 0))), (q_2, .inl (cI, 14, .inl (fun _ => 0)))] H := hP
  have hD : va_D A [(h0, .inr (1, [.ref q_1, .null, .int 0, .null, .int 0, .int 0, .null])), (q_1, .inl (cI, 14, .inl (fun _ => 0))), (q_2, .inl (cI, 14, .inl (fun _ => 0)))] := hD
  refine W.widen (k := 2) (n := 28) (Nat.le_of_ble_eq_true rfl) (Nat.le_of_ble_eq_true rfl) ?_
  refine va_putF (D := D) (ci := 1) (v := .ref q_2) (ty := tyX1 1) (C := RX1) (T := TX1) (N := 7) hx hb hts uX1 tyX1 tyX1_ok nmX1 hown hkb.1 hP hD hS 0 rfl rfl 1 (by decide) (hts _ kw_303) (fun _ h9 => h9) rfl hnm rfl (tyX1_ok 1 (by decide)) rfl rfl (Nat.le_of_ble_eq_true rfl) dX1_init_17 (fun H locs hP hD hS => ?_)
  have hP : va_P D cls [(h0, .inr (1, [.ref q_1, .ref q_2, .int 0, .null, .int 0, .int 0, .null])), (q_1, .inl (cI, 14, .inl (fun _ => 0))), (q_2, .inl (cI, 14, .inl (fun _ => 0)))] H := hP
  have hD : va_D A [(h0, .inr (1, [.ref q_1, .ref q_2, .int 0, .null, .int 0, .int 0, .null])), (q_1, .inl (cI, 14, .inl (fun _ => 0))), (q_2, .inl (cI, 14, .inl (fun _ => 0)))] := hD
  refine lv_aload_n hx hb dX1_init_20 rfl (lv_at hl 0 rfl) ?_
  refine lv_iconst (v := 0) hx hb dX1_init_21 (by decide) ?_
  refine va_put (D := D) (ci := 1) (v := .int 0) (ty := tyX1 2) (C := RX1) (T := TX1) (N := 7) hx hb hts uX1 tyX1 tyX1_ok nmX1 hown hkb.1 hP hD hS 0 rfl rfl 2 (by decide) (hts _ kw_304) (fun _ h9 => h9) rfl (tyX1_ok 2 (by decide)) rfl rfl (Nat.le_of_ble_eq_true rfl) dX1_init_22 (fun H locs hP hD hS => ?_)
  have hP : va_P D cls [(h0, .inr (1, [.ref q_1, .ref q_2, .int 0, .null, .int 0, .int 0, .null])), (q_1, .inl (cI, 14, .inl (fun _ => 0))), (q_2, .inl (cI, 14, .inl (fun _ => 0)))] H := hP
  have hD : va_D A [(h0, .inr (1, [.ref q_1, .ref q_2, .int 0, .null, .int 0, .int 0, .null])), (q_1, .inl (cI, 14, .inl (fun _ => 0))), (q_2, .inl (cI, 14, .inl (fun _ => 0)))] := hD
  refine lv_aload_n hx hb dX1_init_25 rfl (lv_at hl 0 rfl) ?_
  refine lv_bipush (v := 28) hx hb dX1_init_26 (by decide) ?_
  refine n_a (atype := .int) (t := .int) (a0 := (28, .inl (fun _ => 0))) 1 rfl (fun _ _ h => h) hx hb (hts _ kw_92) rfl hkb.1 hP hD hS hA (fun _ => rfl) (by decide) (by decide +kernel) (by decide) (Nat.le_of_ble_eq_true rfl) (Nat.le_of_ble_eq_true rfl) dX1_init_28 (fun q_3 H hP hD hS => ?_)
  have hP : va_P D cls [(h0, .inr (1, [.ref q_1, .ref q_2, .int 0, .null, .int 0, .int 0, .null])), (q_1, .inl (cI, 14, .inl (fun _ => 0))), (q_2, .inl (cI, 14, .inl (fun _ => 0))), (q_3, .inl (cI, 28, .inl (fun _ => 0)))] H := hP
  have hD : va_D A [(h0, .inr (1, [.ref q_1, .ref q_2, .int 0, .null, .int 0, .int 0, .null])), (q_1, .inl (cI, 14, .inl (fun _ => 0))), (q_2, .inl (cI, 14, .inl (fun _ => 0))), (q_3, .inl (cI, 28, .inl (fun _ => 0)))] := hD
  refine W.widen (k := 3) (n := 56) (Nat.le_of_ble_eq_true rfl) (Nat.le_of_ble_eq_true rfl) ?_
  refine va_putF (D := D) (ci := 1) (v := .ref q_3) (ty := tyX1 3) (C := RX1) (T := TX1) (N := 7) hx hb hts uX1 tyX1 tyX1_ok nmX1 hown hkb.1 hP hD hS 0 rfl rfl 3 (by decide) (hts _ kw_305) (fun _ h9 => h9) rfl hnm rfl (tyX1_ok 3 (by decide)) rfl rfl (Nat.le_of_ble_eq_true rfl) dX1_init_30 (fun H locs hP hD hS => ?_)
  have hP : va_P D cls [(h0, .inr (1, [.ref q_1, .ref q_2, .int 0, .ref q_3, .int 0, .int 0, .null])), (q_1, .inl (cI, 14, .inl (fun _ => 0))), (q_2, .inl (cI, 14, .inl (fun _ => 0))), (q_3, .inl (cI, 28, .inl (fun _ => 0)))] H := hP
  have hD : va_D A [(h0, .inr (1, [.ref q_1, .ref q_2, .int 0, .ref q_3, .int 0, .int 0, .null])), (q_1, .inl (cI, 14, .inl (fun _ => 0))), (q_2, .inl (cI, 14, .inl (fun _ => 0))), (q_3, .inl (cI, 28, .inl (fun _ => 0)))] := hD
  refine lv_aload_n hx hb dX1_init_33 rfl (lv_at hl 0 rfl) ?_
  refine lv_iconst (v := 0) hx hb dX1_init_34 (by decide) ?_
  refine va_put (D := D) (ci := 1) (v := .int 0) (ty := tyX1 4) (C := RX1) (T := TX1) (N := 7) hx hb hts uX1 tyX1 tyX1_ok nmX1 hown hkb.1 hP hD hS 0 rfl rfl 4 (by decide) (hts _ kw_306) (fun _ h9 => h9) rfl (tyX1_ok 4 (by decide)) rfl rfl (Nat.le_of_ble_eq_true rfl) dX1_init_35 (fun H locs hP hD hS => ?_)
  have hP : va_P D cls [(h0, .inr (1, [.ref q_1, .ref q_2, .int 0, .ref q_3, .int 0, .int 0, .null])), (q_1, .inl (cI, 14, .inl (fun _ => 0))), (q_2, .inl (cI, 14, .inl (fun _ => 0))), (q_3, .inl (cI, 28, .inl (fun _ => 0)))] H := hP
  have hD : va_D A [(h0, .inr (1, [.ref q_1, .ref q_2, .int 0, .ref q_3, .int 0, .int 0, .null])), (q_1, .inl (cI, 14, .inl (fun _ => 0))), (q_2, .inl (cI, 14, .inl (fun _ => 0))), (q_3, .inl (cI, 28, .inl (fun _ => 0)))] := hD
  refine lv_aload_n hx hb dX1_init_38 rfl (lv_at hl 0 rfl) ?_
  refine lv_iconst (v := 0) hx hb dX1_init_39 (by decide) ?_
  refine va_put (D := D) (ci := 1) (v := .int 0) (ty := tyX1 5) (C := RX1) (T := TX1) (N := 7) hx hb hts uX1 tyX1 tyX1_ok nmX1 hown hkb.1 hP hD hS 0 rfl rfl 5 (by decide) (hts _ kw_307) (fun _ h9 => h9) rfl (tyX1_ok 5 (by decide)) rfl rfl (Nat.le_of_ble_eq_true rfl) dX1_init_40 (fun H locs hP hD hS => ?_)
  have hP : va_P D cls [(h0, .inr (1, [.ref q_1, .ref q_2, .int 0, .ref q_3, .int 0, .int 0, .null])), (q_1, .inl (cI, 14, .inl (fun _ => 0))), (q_2, .inl (cI, 14, .inl (fun _ => 0))), (q_3, .inl (cI, 28, .inl (fun _ => 0)))] H := hP
  have hD : va_D A [(h0, .inr (1, [.ref q_1, .ref q_2, .int 0, .ref q_3, .int 0, .int 0, .null])), (q_1, .inl (cI, 14, .inl (fun _ => 0))), (q_2, .inl (cI, 14, .inl (fun _ => 0))), (q_3, .inl (cI, 28, .inl (fun _ => 0)))] := hD
  refine lv_aload_n hx hb dX1_init_43 rfl (lv_at hl 0 rfl) ?_
  refine lv_bipush (v := 28) hx hb dX1_init_44 (by decide) ?_
  refine n_a (atype := .int) (t := .int) (a0 := (28, .inl (fun _ => 0))) 1 rfl (fun _ _ h => h) hx hb (hts _ kw_92) rfl hkb.1 hP hD hS hA (fun _ => rfl) (by decide) (by decide +kernel) (by decide) (Nat.le_of_ble_eq_true rfl) (Nat.le_of_ble_eq_true rfl) dX1_init_46 (fun q_4 H hP hD hS => ?_)
  have hP : va_P D cls [(h0, .inr (1, [.ref q_1, .ref q_2, .int 0, .ref q_3, .int 0, .int 0, .null])), (q_1, .inl (cI, 14, .inl (fun _ => 0))), (q_2, .inl (cI, 14, .inl (fun _ => 0))), (q_3, .inl (cI, 28, .inl (fun _ => 0))), (q_4, .inl (cI, 28, .inl (fun _ => 0)))] H := hP
  have hD : va_D A [(h0, .inr (1, [.ref q_1, .ref q_2, .int 0, .ref q_3, .int 0, .int 0, .null])), (q_1, .inl (cI, 14, .inl (fun _ => 0))), (q_2, .inl (cI, 14, .inl (fun _ => 0))), (q_3, .inl (cI, 28, .inl (fun _ => 0))), (q_4, .inl (cI, 28, .inl (fun _ => 0)))] := hD
  refine W.widen (k := 4) (n := 84) (Nat.le_of_ble_eq_true rfl) (Nat.le_of_ble_eq_true rfl) ?_
  refine va_putF (D := D) (ci := 1) (v := .ref q_4) (ty := tyX1 6) (C := RX1) (T := TX1) (N := 7) hx hb hts uX1 tyX1 tyX1_ok nmX1 hown hkb.1 hP hD hS 0 rfl rfl 6 (by decide) (hts _ kw_308) (fun _ h9 => h9) rfl hnm rfl (tyX1_ok 6 (by decide)) rfl rfl (Nat.le_of_ble_eq_true rfl) dX1_init_48 (fun H locs hP hD hS => ?_)
  have hP : va_P D cls [(h0, .inr (1, [.ref q_1, .ref q_2, .int 0, .ref q_3, .int 0, .int 0, .ref q_4])), (q_1, .inl (cI, 14, .inl (fun _ => 0))), (q_2, .inl (cI, 14, .inl (fun _ => 0))), (q_3, .inl (cI, 28, .inl (fun _ => 0))), (q_4, .inl (cI, 28, .inl (fun _ => 0)))] H := hP
  have hD : va_D A [(h0, .inr (1, [.ref q_1, .ref q_2, .int 0, .ref q_3, .int 0, .int 0, .ref q_4])), (q_1, .inl (cI, 14, .inl (fun _ => 0))), (q_2, .inl (cI, 14, .inl (fun _ => 0))), (q_3, .inl (cI, 28, .inl (fun _ => 0))), (q_4, .inl (cI, 28, .inl (fun _ => 0)))] := hD
  refine W.widen (k := 4) (n := 84) (Nat.le_of_ble_eq_true rfl) (Nat.le_of_ble_eq_true rfl) ?_
  exact e_v (u := [(h0, .inr (1, [.ref q_1, .ref q_2, .int 0, .ref q_3, .int 0, .int 0, .ref q_4]))]) hx hb hr hlocks (hP.sub (ws' := [(h0, .inr (1, [.ref q_1, .ref q_2, .int 0, .ref q_3, .int 0, .int 0, .ref q_4]))]) [0] rfl) (hD.sub (ws' := [(h0, .inr (1, [.ref q_1, .ref q_2, .int 0, .ref q_3, .int 0, .int 0, .ref q_4]))]) [0] (by decide) rfl) hS ⟨q_1, q_2, q_3, q_4, rfl⟩ dX1_init_51
set_option maxHeartbeats 4000000 in
set_option maxRecDepth 100000 in
theorem c_Chains_init (l : Launch) (D : va_G) (cB cI cJ cZ cS cW cT cR : ClassId) (h0 : Nat) : Kon l D (tyl cB cI cJ cZ cS cW cT cR) yX0_init cX0_init 1 none { frames := 1, cells := 3, slots := 29, locals := 12 } [.ref h0] [(h0, .inr (0, [.null, .int 0, .null, .null]))] (Qv D (fun u => ∃ (q_1 : Nat), ∃ (q_2 : Nat), ∃ (q_3 : Nat), u = [(h0, .inr (0, [.ref q_1, .int 0, .ref q_2, .ref q_3]))])) := by
  refine kon_of (by decide) (Nat.le_of_ble_eq_true rfl) (fun p e s m below meth c ls A hx hb hr hml hown hts hlocks hnm hkb hP hD hS hA hl => ?_)
  have hown : s.vm.findClass RX0 = some m.cls := hown
  have hl : lv_has ls 1 [(0, .ref h0)] := hl
  have hP : va_P D cls [(h0, .inr (0, [.null, .int 0, .null, .null]))] s.heap := hP
  refine lv_aload_n hx hb dX0_init_0 rfl (lv_at hl 0 rfl) ?_
  refine W.objInit hx hb hown (hts _ kw_329) (hts _ kw_30) (hts _ kw_31) rfl (by rw [hml]; exact hl.1) rfl dX0_init_1 (Nat.le_of_ble_eq_true rfl) (Nat.le_of_ble_eq_true rfl) ?_
  refine W.eq (g2 := F0 m 4 ls []) rfl ?_
  refine lv_aload_n hx hb dX0_init_4 rfl (lv_at hl 0 rfl) ?_
  refine lv_iconst (v := 1) hx hb dX0_init_5 (by decide) ?_
  refine n_a (atype := .int) (t := .int) (a0 := (1, .inl (fun _ => 0))) 1 rfl (fun _ _ h => h) hx hb (hts _ kw_92) rfl hkb.1 hP hD hS hA (fun _ => rfl) (by decide) (by decide +kernel) (by decide) (Nat.le_of_ble_eq_true rfl) (Nat.le_of_ble_eq_true rfl) dX0_init_6 (fun q_1 H hP hD hS => ?_)
  have hP : va_P D cls [(h0, .inr (0, [.null, .int 0, .null, .null])), (q_1, .inl (cI, 1, .inl (fun _ => 0)))] H := hP
  have hD : va_D A [(h0, .inr (0, [.null, .int 0, .null, .null])), (q_1, .inl (cI, 1, .inl (fun _ => 0)))] := hD
  refine W.widen (k := 1) (n := 1) (Nat.le_of_ble_eq_true rfl) (Nat.le_of_ble_eq_true rfl) ?_
  refine va_put (D := D) (ci := 0) (v := .ref q_1) (ty := tyX0 0) (C := RX0) (T := TX0) (N := 4) hx hb hts uX0 tyX0 tyX0_ok nmX0 hown hkb.1 hP hD hS 0 rfl rfl 0 (by decide) (hts _ kw_330) (fun _ h9 => h9) rfl (tyX0_ok 0 (by decide)) rfl rfl (Nat.le_of_ble_eq_true rfl) dX0_init_8 (fun H locs hP hD hS => ?_)
  have hP : va_P D cls [(h0, .inr (0, [.ref q_1, .int 0, .null, .null])), (q_1, .inl (cI, 1, .inl (fun _ => 0)))] H := hP
  have hD : va_D A [(h0, .inr (0, [.ref q_1, .int 0, .null, .null])), (q_1, .inl (cI, 1, .inl (fun _ => 0)))] := hD
  refine lv_aload_n hx hb dX0_init_11 rfl (lv_at hl 0 rfl) ?_
  refine lv_iconst (v := 0) hx hb dX0_init_12 (by decide) ?_
  refine va_put (D := D) (ci := 0) (v := .int 0) (ty := tyX0 1) (C := RX0) (T := TX0) (N := 4) hx hb hts uX0 tyX0 tyX0_ok nmX0 hown hkb.1 hP hD hS 0 rfl rfl 1 (by decide) (hts _ kw_331) (fun _ h9 => h9) rfl (tyX0_ok 1 (by decide)) rfl rfl (Nat.le_of_ble_eq_true rfl) dX0_init_13 (fun H locs hP hD hS => ?_)
  have hP : va_P D cls [(h0, .inr (0, [.ref q_1, .int 0, .null, .null])), (q_1, .inl (cI, 1, .inl (fun _ => 0)))] H := hP
  have hD : va_D A [(h0, .inr (0, [.ref q_1, .int 0, .null, .null])), (q_1, .inl (cI, 1, .inl (fun _ => 0)))] := hD
  refine lv_aload_n hx hb dX0_init_16 rfl (lv_at hl 0 rfl) ?_
  refine lv_bipush (v := 14) hx hb dX0_init_17 (by decide) ?_
  refine n_a (atype := .int) (t := .int) (a0 := (14, .inl (fun _ => 0))) 1 rfl (fun _ _ h => h) hx hb (hts _ kw_92) rfl hkb.1 hP hD hS hA (fun _ => rfl) (by decide) (by decide +kernel) (by decide) (Nat.le_of_ble_eq_true rfl) (Nat.le_of_ble_eq_true rfl) dX0_init_19 (fun q_2 H hP hD hS => ?_)
  have hP : va_P D cls [(h0, .inr (0, [.ref q_1, .int 0, .null, .null])), (q_1, .inl (cI, 1, .inl (fun _ => 0))), (q_2, .inl (cI, 14, .inl (fun _ => 0)))] H := hP
  have hD : va_D A [(h0, .inr (0, [.ref q_1, .int 0, .null, .null])), (q_1, .inl (cI, 1, .inl (fun _ => 0))), (q_2, .inl (cI, 14, .inl (fun _ => 0)))] := hD
  refine W.widen (k := 2) (n := 15) (Nat.le_of_ble_eq_true rfl) (Nat.le_of_ble_eq_true rfl) ?_
  refine va_putF (D := D) (ci := 0) (v := .ref q_2) (ty := tyX0 2) (C := RX0) (T := TX0) (N := 4) hx hb hts uX0 tyX0 tyX0_ok nmX0 hown hkb.1 hP hD hS 0 rfl rfl 2 (by decide) (hts _ kw_332) (fun _ h9 => h9) rfl hnm rfl (tyX0_ok 2 (by decide)) rfl rfl (Nat.le_of_ble_eq_true rfl) dX0_init_21 (fun H locs hP hD hS => ?_)
  have hP : va_P D cls [(h0, .inr (0, [.ref q_1, .int 0, .ref q_2, .null])), (q_1, .inl (cI, 1, .inl (fun _ => 0))), (q_2, .inl (cI, 14, .inl (fun _ => 0)))] H := hP
  have hD : va_D A [(h0, .inr (0, [.ref q_1, .int 0, .ref q_2, .null])), (q_1, .inl (cI, 1, .inl (fun _ => 0))), (q_2, .inl (cI, 14, .inl (fun _ => 0)))] := hD
  refine lv_aload_n hx hb dX0_init_24 rfl (lv_at hl 0 rfl) ?_
  refine lv_bipush (v := 14) hx hb dX0_init_25 (by decide) ?_
  refine n_a (atype := .int) (t := .int) (a0 := (14, .inl (fun _ => 0))) 1 rfl (fun _ _ h => h) hx hb (hts _ kw_92) rfl hkb.1 hP hD hS hA (fun _ => rfl) (by decide) (by decide +kernel) (by decide) (Nat.le_of_ble_eq_true rfl) (Nat.le_of_ble_eq_true rfl) dX0_init_27 (fun q_3 H hP hD hS => ?_)
  have hP : va_P D cls [(h0, .inr (0, [.ref q_1, .int 0, .ref q_2, .null])), (q_1, .inl (cI, 1, .inl (fun _ => 0))), (q_2, .inl (cI, 14, .inl (fun _ => 0))), (q_3, .inl (cI, 14, .inl (fun _ => 0)))] H := hP
  have hD : va_D A [(h0, .inr (0, [.ref q_1, .int 0, .ref q_2, .null])), (q_1, .inl (cI, 1, .inl (fun _ => 0))), (q_2, .inl (cI, 14, .inl (fun _ => 0))), (q_3, .inl (cI, 14, .inl (fun _ => 0)))] := hD
  refine W.widen (k := 3) (n := 29) (Nat.le_of_ble_eq_true rfl) (Nat.le_of_ble_eq_true rfl) ?_
  refine va_putF (D := D) (ci := 0) (v := .ref q_3) (ty := tyX0 3) (C := RX0) (T := TX0) (N := 4) hx hb hts uX0 tyX0 tyX0_ok nmX0 hown hkb.1 hP hD hS 0 rfl rfl 3 (by decide) (hts _ kw_333) (fun _ h9 => h9) rfl hnm rfl (tyX0_ok 3 (by decide)) rfl rfl (Nat.le_of_ble_eq_true rfl) dX0_init_29 (fun H locs hP hD hS => ?_)
  have hP : va_P D cls [(h0, .inr (0, [.ref q_1, .int 0, .ref q_2, .ref q_3])), (q_1, .inl (cI, 1, .inl (fun _ => 0))), (q_2, .inl (cI, 14, .inl (fun _ => 0))), (q_3, .inl (cI, 14, .inl (fun _ => 0)))] H := hP
  have hD : va_D A [(h0, .inr (0, [.ref q_1, .int 0, .ref q_2, .ref q_3])), (q_1, .inl (cI, 1, .inl (fun _ => 0))), (q_2, .inl (cI, 14, .inl (fun _ => 0))), (q_3, .inl (cI, 14, .inl (fun _ => 0)))] := hD
  refine W.widen (k := 3) (n := 29) (Nat.le_of_ble_eq_true rfl) (Nat.le_of_ble_eq_true rfl) ?_
  exact e_v (u := [(h0, .inr (0, [.ref q_1, .int 0, .ref q_2, .ref q_3]))]) hx hb hr hlocks (hP.sub (ws' := [(h0, .inr (0, [.ref q_1, .int 0, .ref q_2, .ref q_3]))]) [0] rfl) (hD.sub (ws' := [(h0, .inr (0, [.ref q_1, .int 0, .ref q_2, .ref q_3]))]) [0] (by decide) rfl) hS ⟨q_1, q_2, q_3, rfl⟩ dX0_init_32
end
