theorem dJ7_copyOf_59c91_0 : decode cJ7_copyOf_59c91 0 = .ok (.iload_n 1, 1) := by decide +kernel
theorem dJ7_copyOf_59c91_1 : decode cJ7_copyOf_59c91 1 = .ok (.aload_n 0, 1) := by decide +kernel
theorem dJ7_copyOf_59c91_2 : decode cJ7_copyOf_59c91 2 = .ok (.arraylength, 1) := by decide +kernel
theorem dJ7_copyOf_59c91_3 : decode cJ7_copyOf_59c91 3 = .ok (.if_icmp .ne 11, 3) := by decide +kernel
theorem dJ7_copyOf_59c91_6 : decode cJ7_copyOf_59c91 6 = .ok (.aload_n 0, 1) := by decide +kernel
theorem dJ7_copyOf_59c91_7 : decode cJ7_copyOf_59c91 7 = .ok (.invokevirtual 316, 3) := by decide +kernel
theorem dJ7_copyOf_59c91_10 : decode cJ7_copyOf_59c91 10 = .ok (.checkcast 317, 3) := by decide +kernel
theorem dJ7_copyOf_59c91_13 : decode cJ7_copyOf_59c91 13 = .ok (.areturn, 1) := by decide +kernel
theorem dJ7_copyOf_59c91_14 : decode cJ7_copyOf_59c91 14 = .ok (.iload_n 1, 1) := by decide +kernel
theorem dJ7_copyOf_59c91_15 : decode cJ7_copyOf_59c91 15 = .ok (.newarray .int, 2) := by decide +kernel
theorem dJ7_copyOf_59c91_17 : decode cJ7_copyOf_59c91 17 = .ok (.astore_n 2, 1) := by decide +kernel
theorem dJ7_copyOf_59c91_18 : decode cJ7_copyOf_59c91 18 = .ok (.aload_n 0, 1) := by decide +kernel
theorem dJ7_copyOf_59c91_19 : decode cJ7_copyOf_59c91 19 = .ok (.iconst 0, 1) := by decide +kernel
theorem dJ7_copyOf_59c91_20 : decode cJ7_copyOf_59c91 20 = .ok (.aload_n 2, 1) := by decide +kernel
theorem dJ7_copyOf_59c91_21 : decode cJ7_copyOf_59c91 21 = .ok (.iconst 0, 1) := by decide +kernel
theorem dJ7_copyOf_59c91_22 : decode cJ7_copyOf_59c91 22 = .ok (.aload_n 0, 1) := by decide +kernel
theorem dJ7_copyOf_59c91_23 : decode cJ7_copyOf_59c91 23 = .ok (.arraylength, 1) := by decide +kernel
theorem dJ7_copyOf_59c91_24 : decode cJ7_copyOf_59c91 24 = .ok (.iload_n 1, 1) := by decide +kernel
theorem dJ7_copyOf_59c91_25 : decode cJ7_copyOf_59c91 25 = .ok (.invokestatic 304, 3) := by decide +kernel
theorem dJ7_copyOf_59c91_28 : decode cJ7_copyOf_59c91 28 = .ok (.invokestatic 150, 3) := by decide +kernel
theorem dJ7_copyOf_59c91_31 : decode cJ7_copyOf_59c91 31 = .ok (.aload_n 2, 1) := by decide +kernel
theorem dJ7_copyOf_59c91_32 : decode cJ7_copyOf_59c91 32 = .ok (.areturn, 1) := by decide +kernel
theorem dX2_init_0 : decode cX2_init 0 = .ok (.aload_n 0, 1) := by decide +kernel
theorem dX2_init_1 : decode cX2_init 1 = .ok (.invokespecial 1, 3) := by decide +kernel
theorem dX2_init_4 : decode cX2_init 4 = .ok (.aload_n 0, 1) := by decide +kernel
theorem dX2_init_5 : decode cX2_init 5 = .ok (.bipush 8, 2) := by decide +kernel
theorem dX2_init_7 : decode cX2_init 7 = .ok (.newarray .int, 2) := by decide +kernel
theorem dX2_init_9 : decode cX2_init 9 = .ok (.putfield 9, 3) := by decide +kernel
theorem dX2_init_12 : decode cX2_init 12 = .ok (.aload_n 0, 1) := by decide +kernel
theorem dX2_init_13 : decode cX2_init 13 = .ok (.bipush 24, 2) := by decide +kernel
theorem dX2_init_15 : decode cX2_init 15 = .ok (.newarray .int, 2) := by decide +kernel
theorem dX2_init_17 : decode cX2_init 17 = .ok (.putfield 13, 3) := by decide +kernel
theorem dX2_init_20 : decode cX2_init 20 = .ok (.aload_n 0, 1) := by decide +kernel
theorem dX2_init_21 : decode cX2_init 21 = .ok (.aload_n 1, 1) := by decide +kernel
theorem dX2_init_22 : decode cX2_init 22 = .ok (.putfield 16, 3) := by decide +kernel
theorem dX2_init_25 : decode cX2_init 25 = .ok (.return_, 1) := by decide +kernel
theorem dX3_made_0 : decode cX3_made 0 = .ok (.new 27, 3) := by decide +kernel
theorem dX3_made_3 : decode cX3_made 3 = .ok (.dup, 1) := by decide +kernel
theorem dX3_made_4 : decode cX3_made 4 = .ok (.aload_n 0, 1) := by decide +kernel
theorem dX3_made_5 : decode cX3_made 5 = .ok (.getfield 9, 3) := by decide +kernel
theorem dX3_made_8 : decode cX3_made 8 = .ok (.aload_n 0, 1) := by decide +kernel
theorem dX3_made_9 : decode cX3_made 9 = .ok (.getfield 15, 3) := by decide +kernel
theorem dX3_made_12 : decode cX3_made 12 = .ok (.invokestatic 29, 3) := by decide +kernel
theorem dX3_made_15 : decode cX3_made 15 = .ok (.invokespecial 35, 3) := by decide +kernel
theorem dX3_made_18 : decode cX3_made 18 = .ok (.areturn, 1) := by decide +kernel
theorem kw_30 : Cond.instanceMethod objectInit ∈ gw := gw_of (tb_of 30 (by decide +kernel)) (by decide +kernel)
theorem kw_31 : Cond.code objectInit ⟨#[0xb1]⟩ 1 none ∈ gw := gw_of (tb_of 31 (by decide +kernel)) (by decide +kernel)
theorem kw_92 : Cond.arrayClass .int ∈ gw := gw_of (tb_of 92 (by decide +kernel)) (by decide +kernel)
theorem kw_719 : Cond.classLink "FootholdWall$LawReader" 27 "FootholdWall$Law" ∈ gw := gw_of (tb_of 719 (by decide +kernel)) (by decide +kernel)
theorem kw_720 : Cond.instantiable "FootholdWall$Law" 3 ∈ gw := gw_of (tb_of 720 (by decide +kernel)) (by decide +kernel)
theorem kw_721 : Cond.methodLink "FootholdWall$LawReader" 29 yJ7_copyOf_59c91 ∈ gw := gw_of (tb_of 721 (by decide +kernel)) (by decide +kernel)
theorem kw_722 : Cond.static yJ7_copyOf_59c91 ∈ gw := gw_of (tb_of 722 (by decide +kernel)) (by decide +kernel)
theorem kw_723 : Cond.code yJ7_copyOf_59c91 cJ7_copyOf_59c91 3 (some (.array .int)) ∈ gw := gw_of (tb_of 723 (by decide +kernel)) (by decide +kernel)
theorem kw_724 : Cond.methodLink "java/util/Arrays" 316 ⟨"[I", "clone", "()Ljava/lang/Object;"⟩ ∈ gw := gw_of (tb_of 724 (by decide +kernel)) (by decide +kernel)
theorem kw_725 : Cond.sameMethod "[I" "java/lang/Object" "clone" "()Ljava/lang/Object;" ∈ gw := gw_of (tb_of 725 (by decide +kernel)) (by decide +kernel)
theorem kw_726 : Cond.native ⟨"java/lang/Object", "clone", "()Ljava/lang/Object;"⟩ ∈ gw := gw_of (tb_of 726 (by decide +kernel)) (by decide +kernel)
theorem kw_727 : Cond.instanceMethod ⟨"java/lang/Object", "clone", "()Ljava/lang/Object;"⟩ ∈ gw := gw_of (tb_of 727 (by decide +kernel)) (by decide +kernel)
theorem kw_728 : Cond.selects "[I" ⟨"[I", "clone", "()Ljava/lang/Object;"⟩ ⟨"java/lang/Object", "clone", "()Ljava/lang/Object;"⟩ ∈ gw := gw_of (tb_of 728 (by decide +kernel)) (by decide +kernel)
theorem kw_730 : Cond.classLink "java/util/Arrays" 317 "[I" ∈ gw := gw_of (tb_of 730 (by decide +kernel)) (by decide +kernel)
theorem kw_731 : Cond.methodLink "java/util/Arrays" 304 Lib.Math.min.name ∈ gw := gw_of (tb_of 731 (by decide +kernel)) (by decide +kernel)
theorem kw_732 : Cond.methodLink "java/util/Arrays" 150 arraycopyName ∈ gw := gw_of (tb_of 732 (by decide +kernel)) (by decide +kernel)
theorem kw_735 : Cond.methodLink "FootholdWall$LawReader" 35 yX2_init ∈ gw := gw_of (tb_of 735 (by decide +kernel)) (by decide +kernel)
theorem kw_736 : Cond.instanceMethod yX2_init ∈ gw := gw_of (tb_of 736 (by decide +kernel)) (by decide +kernel)
theorem kw_737 : Cond.code yX2_init cX2_init 2 none ∈ gw := gw_of (tb_of 737 (by decide +kernel)) (by decide +kernel)
theorem kw_738 : Cond.methodLink "FootholdWall$Law" 1 objectInit ∈ gw := gw_of (tb_of 738 (by decide +kernel)) (by decide +kernel)
