set_option maxHeartbeats 4000000 in
set_option maxRecDepth 100000 in
theorem lw_switch {p : Program} {e : Env} {s : State} {m : MethodId} {below : List Frame} {meth : Method} {c : Code} (l : Launch) (D : va_G) (cB cI cJ cZ cS cW cT cR : ClassId) {b : Nat} {xs : Nat → Int32} (C0 : lw_At p s m meth c b 6 xs) (hkb : kb D (tyl cB cI cJ cZ cS cW cT cR) s) {A : Nat → Prop} (hA : ∀ q : Nat, s.heap.size ≤ q → A q) (hA2 : ∀ q : Nat, A q → s.heap.size ≤ q) (q_1 q_2 q_3 q_4 q_5 q_6 q_7 q_8 q_9 q_10 q_11 q_12 q_13 q_14 q_15 q_16 q_17 q_18 q_19 q_20 q_21 q_22 q_23 q_24 q_25 q_26 q_27 q_28 q_29 q_30 q_31 q_32 q_33 q_34 q_35 q_36 q_37 q_38 q_39 q_40 q_41 q_42 q_43 q_44 q_45 q_46 q_47 q_48 q_49 q_50 q_51 q_52 q_53 q_54 q_55 q_56 q_57 q_58 q_59 q_60 q_61 q_62 q_63 q_64 q_65 q_66 q_67 q_69 q_70 q_71 q_72 q_73 q_74 q_75 q_76 q_77 q_78 q_79 q_80 q_81 q_82 q_83 q_84 q_85 q_86 q_87 q_88 : Nat) {H : Heap} {locs : List Loc} {ls : Array Slot} (hP : va_P D cls [(q_1, .inr (11, [.ref q_2, .int 0, .ref q_3, .ref q_4, .ref q_5, .ref q_6, .ref q_7, .int 0, .int 0, .ref q_8, .ref q_9, .ref q_10, .ref q_11, .ref q_12, .ref q_13, .ref q_14, .ref q_15, .ref q_16, .ref q_17, .int (-1)])), (q_2, .inl (cB, 900, .inl (fun _ => 0))), (q_3, .inr (4, [.ref q_18, .ref q_19, .ref q_20, .int 0, .ref q_21])), (q_18, .inr (7, [.ref q_22, .int 0, .int 0, .int 0, .int 0, .int 0, .int 0, .int (-1)])), (q_20, .inr (9, [.int 14, .int 5, .int 0, .int 0, .int 0, .int 0, .ref q_23, .ref q_24, .ref q_25, .ref q_26, .ref q_27, .null, .int 0, .int 1])), (q_23, .inl (cI, 14, .inl (fun _ => 0))), (q_24, .inl (cI, 14, .inl (fun _ => 0))), (q_25, .inl (cI, 14, .inl (fun _ => 0))), (q_26, .inl (cI, 5, .inl (fun _ => 0))), (q_27, .inl (cI, 5, .inl (fun _ => 0))), (q_21, .inr (6, [.int 0, .int 0, .int 0, .int 0, .ref q_28, .ref q_29])), (q_28, .inl (cI, 14, .inl (fun _ => 0))), (q_29, .inl (cI, 14, .inl (fun _ => 0))), (q_4, .inr (9, [.int 0, .int 0, .int 0, .int 0, .int 0, .int 0, .ref q_30, .ref q_31, .ref q_32, .ref q_33, .ref q_34, .null, .int 0, .int 1])), (q_5, .inr (6, [.int 0, .int 0, .int 0, .int 0, .ref q_35, .ref q_36])), (q_35, .inl (cI, 14, .inl (fun _ => 0))), (q_36, .inl (cI, 14, .inl (fun _ => 0))), (q_6, .inr (6, [.int 0, .int 0, .int 0, .int 0, .ref q_37, .ref q_38])), (q_37, .inl (cI, 14, .inl (fun _ => 0))), (q_38, .inl (cI, 14, .inl (fun _ => 0))), (q_7, .inl (cS, 10, .inr (.inr (.inr (.inr (va_up (va_up (va_up (va_up (va_up (va_up (va_up (va_up (va_up (va_up (fun _ => none) 0 (some q_39)) 1 (some q_40)) 2 (some q_41)) 3 (some q_42)) 4 (some q_43)) 5 (some q_44)) 6 (some q_45)) 7 (some q_46)) 8 (some q_47)) 9 (some q_48))))))), (q_8, .inl (cW, 2, .inr (.inr (.inr (.inr (fun _ => none)))))), (q_9, .inl (cS, 2, .inr (.inr (.inr (.inr (va_up (va_up (fun _ => none) 0 (some q_49)) 1 (some q_50))))))), (q_10, .inl (cT, 4, .inr (.inr (.inr (.inr (va_up (va_up (va_up (va_up (fun _ => none) 0 (some q_51)) 1 (some q_52)) 2 (some q_53)) 3 (some q_54))))))), (q_11, .inl (cR, 5, .inr (.inr (.inr (.inr (va_up (va_up (va_up (va_up (va_up (fun _ => none) 0 (some q_55)) 1 (some q_56)) 2 (some q_57)) 3 (some q_58)) 4 (some q_59))))))), (q_16, .inl (cI, 5, .inl (fun _ => 0))), (q_17, .inl (cI, 5, .inl (fun _ => 0))), (q_49, .inr (6, [.int 0, .int 0, .int 0, .int 0, .ref q_60, .ref q_61])), (q_60, .inl (cI, 14, .inl (fun _ => 0))), (q_61, .inl (cI, 14, .inl (fun _ => 0))), (q_50, .inr (6, [.int 0, .int 0, .int 0, .int 0, .ref q_62, .ref q_63])), (q_62, .inl (cI, 14, .inl (fun _ => 0))), (q_63, .inl (cI, 14, .inl (fun _ => 0))), (q_51, .inr (8, [.ref q_64, .int 0, .int (-1)])), (q_64, .inl (cJ, 40, .inr (.inl (fun _ => 0)))), (q_52, .inr (8, [.ref q_65, .int 0, .int (-1)])), (q_65, .inl (cJ, 40, .inr (.inl (fun _ => 0)))), (q_53, .inr (8, [.ref q_66, .int 0, .int (-1)])), (q_66, .inl (cJ, 40, .inr (.inl (fun _ => 0)))), (q_54, .inr (8, [.ref q_67, .int 0, .int (-1)])), (q_67, .inl (cJ, 40, .inr (.inl (fun _ => 0)))), (q_69, .inr (12, [.int 0, .ref q_70, .ref q_71, .ref q_72, .ref q_73, .int 0, .int 0, .int 0, .int 0, .int 0, .int 0, .int 0, .int 0, .int 0, .int (-1), .ref q_74, .int 0, .ref q_75, .ref q_76, .ref q_77, .int 0, .ref q_78, .ref q_79, .int 0, .int 0, .int 0, .ref q_80, .ref q_81, .ref q_82, .ref q_83, .ref q_84, .ref q_85, .int 0, .ref q_86, .ref q_87, .ref q_88])), (q_71, .inl (cZ, 2, .inl (fun _ => 0))), (q_72, .inl (cI, 900, .inl (fun _ => 0))), (q_73, .inl (cI, 1302, .inl (fun _ => 0))), (q_78, .inl (cI, 31, .inl (fun _ => 0))), (q_86, .inl (cI, 4, .inl rs4)), (q_87, .inl (cI, 4, .inl (fun _ => 0))), (q_88, .inl (cJ, 160, .inr (.inl (fun _ => 0)))), (q_70, .inl (cI, 3906, .inl plc))] H) (hD : va_D A [(q_1, .inr (11, [.ref q_2, .int 0, .ref q_3, .ref q_4, .ref q_5, .ref q_6, .ref q_7, .int 0, .int 0, .ref q_8, .ref q_9, .ref q_10, .ref q_11, .ref q_12, .ref q_13, .ref q_14, .ref q_15, .ref q_16, .ref q_17, .int (-1)])), (q_2, .inl (cB, 900, .inl (fun _ => 0))), (q_3, .inr (4, [.ref q_18, .ref q_19, .ref q_20, .int 0, .ref q_21])), (q_18, .inr (7, [.ref q_22, .int 0, .int 0, .int 0, .int 0, .int 0, .int 0, .int (-1)])), (q_20, .inr (9, [.int 14, .int 5, .int 0, .int 0, .int 0, .int 0, .ref q_23, .ref q_24, .ref q_25, .ref q_26, .ref q_27, .null, .int 0, .int 1])), (q_23, .inl (cI, 14, .inl (fun _ => 0))), (q_24, .inl (cI, 14, .inl (fun _ => 0))), (q_25, .inl (cI, 14, .inl (fun _ => 0))), (q_26, .inl (cI, 5, .inl (fun _ => 0))), (q_27, .inl (cI, 5, .inl (fun _ => 0))), (q_21, .inr (6, [.int 0, .int 0, .int 0, .int 0, .ref q_28, .ref q_29])), (q_28, .inl (cI, 14, .inl (fun _ => 0))), (q_29, .inl (cI, 14, .inl (fun _ => 0))), (q_4, .inr (9, [.int 0, .int 0, .int 0, .int 0, .int 0, .int 0, .ref q_30, .ref q_31, .ref q_32, .ref q_33, .ref q_34, .null, .int 0, .int 1])), (q_5, .inr (6, [.int 0, .int 0, .int 0, .int 0, .ref q_35, .ref q_36])), (q_35, .inl (cI, 14, .inl (fun _ => 0))), (q_36, .inl (cI, 14, .inl (fun _ => 0))), (q_6, .inr (6, [.int 0, .int 0, .int 0, .int 0, .ref q_37, .ref q_38])), (q_37, .inl (cI, 14, .inl (fun _ => 0))), (q_38, .inl (cI, 14, .inl (fun _ => 0))), (q_7, .inl (cS, 10, .inr (.inr (.inr (.inr (va_up (va_up (va_up (va_up (va_up (va_up (va_up (va_up (va_up (va_up (fun _ => none) 0 (some q_39)) 1 (some q_40)) 2 (some q_41)) 3 (some q_42)) 4 (some q_43)) 5 (some q_44)) 6 (some q_45)) 7 (some q_46)) 8 (some q_47)) 9 (some q_48))))))), (q_8, .inl (cW, 2, .inr (.inr (.inr (.inr (fun _ => none)))))), (q_9, .inl (cS, 2, .inr (.inr (.inr (.inr (va_up (va_up (fun _ => none) 0 (some q_49)) 1 (some q_50))))))), (q_10, .inl (cT, 4, .inr (.inr (.inr (.inr (va_up (va_up (va_up (va_up (fun _ => none) 0 (some q_51)) 1 (some q_52)) 2 (some q_53)) 3 (some q_54))))))), (q_11, .inl (cR, 5, .inr (.inr (.inr (.inr (va_up (va_up (va_up (va_up (va_up (fun _ => none) 0 (some q_55)) 1 (some q_56)) 2 (some q_57)) 3 (some q_58)) 4 (some q_59))))))), (q_16, .inl (cI, 5, .inl (fun _ => 0))), (q_17, .inl (cI, 5, .inl (fun _ => 0))), (q_49, .inr (6, [.int 0, .int 0, .int 0, .int 0, .ref q_60, .ref q_61])), (q_60, .inl (cI, 14, .inl (fun _ => 0))), (q_61, .inl (cI, 14, .inl (fun _ => 0))), (q_50, .inr (6, [.int 0, .int 0, .int 0, .int 0, .ref q_62, .ref q_63])), (q_62, .inl (cI, 14, .inl (fun _ => 0))), (q_63, .inl (cI, 14, .inl (fun _ => 0))), (q_51, .inr (8, [.ref q_64, .int 0, .int (-1)])), (q_64, .inl (cJ, 40, .inr (.inl (fun _ => 0)))), (q_52, .inr (8, [.ref q_65, .int 0, .int (-1)])), (q_65, .inl (cJ, 40, .inr (.inl (fun _ => 0)))), (q_53, .inr (8, [.ref q_66, .int 0, .int (-1)])), (q_66, .inl (cJ, 40, .inr (.inl (fun _ => 0)))), (q_54, .inr (8, [.ref q_67, .int 0, .int (-1)])), (q_67, .inl (cJ, 40, .inr (.inl (fun _ => 0)))), (q_69, .inr (12, [.int 0, .ref q_70, .ref q_71, .ref q_72, .ref q_73, .int 0, .int 0, .int 0, .int 0, .int 0, .int 0, .int 0, .int 0, .int 0, .int (-1), .ref q_74, .int 0, .ref q_75, .ref q_76, .ref q_77, .int 0, .ref q_78, .ref q_79, .int 0, .int 0, .int 0, .ref q_80, .ref q_81, .ref q_82, .ref q_83, .ref q_84, .ref q_85, .int 0, .ref q_86, .ref q_87, .ref q_88])), (q_71, .inl (cZ, 2, .inl (fun _ => 0))), (q_72, .inl (cI, 900, .inl (fun _ => 0))), (q_73, .inl (cI, 1302, .inl (fun _ => 0))), (q_78, .inl (cI, 31, .inl (fun _ => 0))), (q_86, .inl (cI, 4, .inl rs4)), (q_87, .inl (cI, 4, .inl (fun _ => 0))), (q_88, .inl (cJ, 160, .inr (.inl (fun _ => 0)))), (q_70, .inl (cI, 3906, .inl plc))]) (hS : va_S A s.heap H locs) (hl : lv_has ls 4 [(0, .ref b), (1, .ref q_1), (2, .ref q_69), (3, .int 0)]) : W p l e room_1 s m #[Value.ref b] below meth c H locs 132 485686 (lw_Z below #[Value.ref b] s) (F0 m 18 ls []) := by
  obtain ⟨hx, hb, hr, hml, hown, hts0, hX, hbl, hlocks, hgv⟩ := id C0
  have hts : ∀ w ∈ gw, w.before #[Value.ref b] s = true := fun w h => hts0 w (gw_tbl h)
  have hown : s.vm.findClass "FootholdWallLaw" = some m.cls := hown
  have hbA : ¬ A b := fun h => absurd (hA2 _ h) (Nat.not_le.mpr hbl)
  refine lv_iload_n hx hb dL_law_18 rfl (lv_at hl 3 rfl) ?_
  refine lv_aload_n hx hb dL_law_19 rfl (lv_at hl 0 rfl) ?_
  refine va_slen hx hb hX hbl hbA hS dL_law_20 ?_
  refine lv_topc (y := 6) (by decide +kernel) ?_
  refine lv_bipush (v := 6) hx hb dL_law_21 (by decide) ?_
  refine lv_isub hx hb dL_law_23 ?_
  refine lv_topc (y := 0) (by decide +kernel) ?_
  refine lv_icmp_gt (tgt := 1404) hx hb dL_law_24 (by decide) (fun c_1 => absurd c_1 (by decide)) (fun _ => ?_)
  refine lv_aload_n hx hb dL_law_27 rfl (lv_at hl 0 rfl) ?_
  refine lv_iload_n hx hb dL_law_28 rfl (lv_at hl 3 rfl) ?_
  refine va_sld hx hb hX hbl hbA hS (in_c (by decide +kernel)) dL_law_29 ?_
  refine lv_bipush (v := 63) hx hb dL_law_30 (by decide) ?_
  refine lv_iand hx hb dL_law_32 ?_
  refine lv_topi (fun v_2 ev_2 => ?_)
  by_cases c_3 : v_2 = 0
  · skip
    refine lv_topc c_3 ?_
    have tc_3 := f_eq (k := 0) (by decide) c_3
    refine lv_tableIn (off := 179) (tgt := 212) hx hb dL_law_33 (by decide) (by decide) (by decide) (by decide) ?_
    exact lw_case0 l D cB cI cJ cZ cS cW cT cR C0 hkb hA hA2 q_1 q_2 q_3 q_4 q_5 q_6 q_7 q_8 q_9 q_10 q_11 q_12 q_13 q_14 q_15 q_16 q_17 q_69 q_70 q_71 q_72 q_73 q_74 q_75 q_76 q_77 q_78 q_79 q_80 q_81 q_82 q_83 q_84 q_85 q_86 q_87 q_88 (hP.sub [0, 1, 41, 43] rfl) (hD.sub [0, 1, 41, 43] (by decide) rfl) hS (lv_sub hl [0, 1, 2, 3] rfl)
  have tc_3 := f_ne (k := 0) (by decide) c_3
  by_cases c_4 : v_2 = 1
  · skip
    refine lv_topc c_4 ?_
    have tc_4 := f_eq (k := 1) (by decide) c_4
    refine lv_tableIn (off := 242) (tgt := 275) hx hb dL_law_33 (by decide) (by decide) (by decide) (by decide) ?_
    exact lw_case1 l D cB cI cJ cZ cS cW cT cR C0 hkb hA hA2 q_1 q_2 q_3 q_4 q_5 q_6 q_7 q_8 q_9 q_10 q_11 q_12 q_13 q_14 q_15 q_16 q_17 q_18 q_19 q_20 q_21 q_22 q_23 q_24 q_25 q_26 q_27 q_28 q_29 q_35 q_36 q_69 q_70 q_71 q_72 q_73 q_74 q_75 q_76 q_77 q_78 q_79 q_80 q_81 q_82 q_83 q_84 q_85 q_86 q_87 q_88 (hP.sub [0, 1, 2, 3, 4, 5, 6, 7, 8, 9, 10, 11, 12, 14, 15, 16, 41, 44, 49] rfl) (hD.sub [0, 1, 2, 3, 4, 5, 6, 7, 8, 9, 10, 11, 12, 14, 15, 16, 41, 44, 49] (by decide) rfl) hS (lv_sub hl [0, 1, 2, 3] rfl)
  have tc_4 := f_ne (k := 1) (by decide) c_4
  by_cases c_5 : v_2 = 2
  · skip
    refine lv_topc c_5 ?_
    have tc_5 := f_eq (k := 2) (by decide) c_5
    refine lv_tableIn (off := 265) (tgt := 298) hx hb dL_law_33 (by decide) (by decide) (by decide) (by decide) ?_
    exact lw_case2 l D cB cI cJ cZ cS cW cT cR C0 hkb hA hA2 q_1 q_2 q_3 q_4 q_5 q_6 q_7 q_8 q_9 q_10 q_11 q_12 q_13 q_14 q_15 q_16 q_17 q_18 q_19 q_20 q_21 q_22 q_69 q_70 q_71 q_72 q_73 q_74 q_75 q_76 q_77 q_78 q_79 q_80 q_81 q_82 q_83 q_84 q_85 q_86 q_87 q_88 (hP.sub [0, 2, 3, 41] rfl) (hD.sub [0, 2, 3, 41] (by decide) rfl) hS (lv_sub hl [0, 1, 2, 3] rfl)
  have tc_5 := f_ne (k := 2) (by decide) c_5
  by_cases c_6 : v_2 = 3
  · skip
    refine lv_topc c_6 ?_
    have tc_6 := f_eq (k := 3) (by decide) c_6
    refine lv_tableIn (off := 288) (tgt := 321) hx hb dL_law_33 (by decide) (by decide) (by decide) (by decide) ?_
    exact lw_case3 l D cB cI cJ cZ cS cW cT cR C0 hkb hA hA2 q_1 q_2 q_3 q_4 q_5 q_6 q_7 q_8 q_9 q_10 q_11 q_12 q_13 q_14 q_15 q_16 q_17 q_30 q_31 q_32 q_33 q_34 q_69 q_70 q_71 q_72 q_73 q_74 q_75 q_76 q_77 q_78 q_79 q_80 q_81 q_82 q_83 q_84 q_85 q_86 q_87 q_88 (hP.sub [0, 13, 41, 49] rfl) (hD.sub [0, 13, 41, 49] (by decide) rfl) hS (lv_sub hl [0, 1, 2, 3] rfl)
  have tc_6 := f_ne (k := 3) (by decide) c_6
  by_cases c_7 : v_2 = 4
  · skip
    refine lv_topc c_7 ?_
    have tc_7 := f_eq (k := 4) (by decide) c_7
    refine lv_tableIn (off := 321) (tgt := 354) hx hb dL_law_33 (by decide) (by decide) (by decide) (by decide) ?_
    exact lw_case4 l D cB cI cJ cZ cS cW cT cR C0 hkb hA hA2 q_1 q_2 q_3 q_4 q_5 q_6 q_7 q_8 q_9 q_10 q_11 q_12 q_13 q_14 q_15 q_16 q_17 q_30 q_31 q_32 q_33 q_34 q_69 q_70 q_71 q_72 q_73 q_74 q_75 q_76 q_77 q_78 q_79 q_80 q_81 q_82 q_83 q_84 q_85 q_86 q_87 q_88 (hP.sub [0, 13, 41, 49] rfl) (hD.sub [0, 13, 41, 49] (by decide) rfl) hS (lv_sub hl [0, 1, 2, 3] rfl)
  have tc_7 := f_ne (k := 4) (by decide) c_7
  by_cases c_8 : v_2 = 5
  · skip
    refine lv_topc c_8 ?_
    have tc_8 := f_eq (k := 5) (by decide) c_8
    refine lv_tableIn (off := 354) (tgt := 387) hx hb dL_law_33 (by decide) (by decide) (by decide) (by decide) ?_
    exact lw_case5 l D cB cI cJ cZ cS cW cT cR C0 hkb hA hA2 q_1 q_2 q_3 q_4 q_5 q_6 q_7 q_8 q_9 q_10 q_11 q_12 q_13 q_14 q_15 q_16 q_17 q_30 q_31 q_32 q_33 q_34 q_69 q_70 q_71 q_72 q_73 q_74 q_75 q_76 q_77 q_78 q_79 q_80 q_81 q_82 q_83 q_84 q_85 q_86 q_87 q_88 (hP.sub [0, 13, 41, 49] rfl) (hD.sub [0, 13, 41, 49] (by decide) rfl) hS (lv_sub hl [0, 1, 2, 3] rfl)
  have tc_8 := f_ne (k := 5) (by decide) c_8
  by_cases c_9 : v_2 = 6
  · skip
    refine lv_topc c_9 ?_
    have tc_9 := f_eq (k := 6) (by decide) c_9
    refine lv_tableIn (off := 397) (tgt := 430) hx hb dL_law_33 (by decide) (by decide) (by decide) (by decide) ?_
    exact lw_case6 l D cB cI cJ cZ cS cW cT cR C0 hkb hA hA2 q_1 q_2 q_3 q_4 q_5 q_6 q_7 q_8 q_9 q_10 q_11 q_12 q_13 q_14 q_15 q_16 q_17 q_30 q_31 q_32 q_33 q_34 q_69 q_70 q_71 q_72 q_73 q_74 q_75 q_76 q_77 q_78 q_79 q_80 q_81 q_82 q_83 q_84 q_85 q_86 q_87 q_88 (hP.sub [0, 13, 41, 49] rfl) (hD.sub [0, 13, 41, 49] (by decide) rfl) hS (lv_sub hl [0, 1, 2, 3] rfl)
  have tc_9 := f_ne (k := 6) (by decide) c_9
  by_cases c_10 : v_2 = 7
  · skip
    refine lv_topc c_10 ?_
    have tc_10 := f_eq (k := 7) (by decide) c_10
    refine lv_tableIn (off := 420) (tgt := 453) hx hb dL_law_33 (by decide) (by decide) (by decide) (by decide) ?_
    exact lw_case7 l D cB cI cJ cZ cS cW cT cR C0 hkb hA hA2 q_1 q_2 q_3 q_4 q_5 q_6 q_7 q_8 q_9 q_10 q_11 q_12 q_13 q_14 q_15 q_16 q_17 q_51 q_52 q_53 q_54 q_64 q_65 q_66 q_67 q_69 q_70 q_71 q_72 q_73 q_74 q_75 q_76 q_77 q_78 q_79 q_80 q_81 q_82 q_83 q_84 q_85 q_86 q_87 q_88 (hP.sub [0, 23, 33, 35, 37, 39, 41, 46] rfl) (hD.sub [0, 23, 33, 35, 37, 39, 41, 46] (by decide) rfl) hS (lv_sub hl [0, 1, 2, 3] rfl)
  have tc_10 := f_ne (k := 7) (by decide) c_10
  by_cases c_11 : v_2 = 8
  · skip
    refine lv_topc c_11 ?_
    have tc_11 := f_eq (k := 8) (by decide) c_11
    refine lv_tableIn (off := 453) (tgt := 486) hx hb dL_law_33 (by decide) (by decide) (by decide) (by decide) ?_
    exact lw_case8 l D cB cI cJ cZ cS cW cT cR C0 hkb hA hA2 q_1 q_2 q_3 q_4 q_5 q_6 q_7 q_8 q_9 q_10 q_11 q_12 q_13 q_14 q_15 q_16 q_17 q_51 q_52 q_53 q_54 q_64 q_65 q_66 q_67 q_69 q_70 q_71 q_72 q_73 q_74 q_75 q_76 q_77 q_78 q_79 q_80 q_81 q_82 q_83 q_84 q_85 q_86 q_87 q_88 (hP.sub [0, 23, 33, 35, 37, 39, 41, 46] rfl) (hD.sub [0, 23, 33, 35, 37, 39, 41, 46] (by decide) rfl) hS (lv_sub hl [0, 1, 2, 3] rfl)
  have tc_11 := f_ne (k := 8) (by decide) c_11
  by_cases c_12 : v_2 = 9
  · skip
    refine lv_topc c_12 ?_
    have tc_12 := f_eq (k := 9) (by decide) c_12
    refine lv_tableIn (off := 476) (tgt := 509) hx hb dL_law_33 (by decide) (by decide) (by decide) (by decide) ?_
    exact lw_case9 l D cB cI cJ cZ cS cW cT cR C0 hkb hA hA2 q_1 q_2 q_3 q_4 q_5 q_6 q_7 q_8 q_9 q_10 q_11 q_12 q_13 q_14 q_15 q_16 q_17 q_30 q_31 q_32 q_33 q_34 q_69 q_70 q_71 q_72 q_73 q_74 q_75 q_76 q_77 q_78 q_79 q_80 q_81 q_82 q_83 q_84 q_85 q_86 q_87 q_88 (hP.sub [0, 13, 41, 49] rfl) (hD.sub [0, 13, 41, 49] (by decide) rfl) hS (lv_sub hl [0, 1, 2, 3] rfl)
  have tc_12 := f_ne (k := 9) (by decide) c_12
  by_cases c_13 : v_2 = 10
  · skip
    refine lv_topc c_13 ?_
    have tc_13 := f_eq (k := 10) (by decide) c_13
    refine lv_tableIn (off := 499) (tgt := 532) hx hb dL_law_33 (by decide) (by decide) (by decide) (by decide) ?_
    exact lw_case10 l D cB cI cJ cZ cS cW cT cR C0 hkb hA hA2 q_1 q_2 q_3 q_4 q_5 q_6 q_7 q_8 q_9 q_10 q_11 q_12 q_13 q_14 q_15 q_16 q_17 q_35 q_36 q_37 q_38 q_39 q_40 q_41 q_42 q_43 q_44 q_45 q_46 q_47 q_48 q_69 q_70 q_71 q_72 q_73 q_74 q_75 q_76 q_77 q_78 q_79 q_80 q_81 q_82 q_83 q_84 q_85 q_86 q_87 q_88 (hP.sub [0, 14, 15, 16, 17, 18, 19, 20, 41, 45, 49] rfl) (hD.sub [0, 14, 15, 16, 17, 18, 19, 20, 41, 45, 49] (by decide) rfl) hS (lv_sub hl [0, 1, 2, 3] rfl)
  have tc_13 := f_ne (k := 10) (by decide) c_13
  by_cases c_14 : v_2 = 11
  · skip
    refine lv_topc c_14 ?_
    have tc_14 := f_eq (k := 11) (by decide) c_14
    refine lv_tableIn (off := 522) (tgt := 555) hx hb dL_law_33 (by decide) (by decide) (by decide) (by decide) ?_
    exact lw_case11 l D cB cI cJ cZ cS cW cT cR C0 hkb hA hA2 q_1 q_2 q_3 q_4 q_5 q_6 q_7 q_8 q_9 q_10 q_11 q_12 q_13 q_14 q_15 q_16 q_17 q_35 q_36 q_37 q_38 q_69 q_70 q_71 q_72 q_73 q_74 q_75 q_76 q_77 q_78 q_79 q_80 q_81 q_82 q_83 q_84 q_85 q_86 q_87 q_88 (hP.sub [0, 14, 15, 16, 17, 18, 19, 41, 45, 49] rfl) (hD.sub [0, 14, 15, 16, 17, 18, 19, 41, 45, 49] (by decide) rfl) hS (lv_sub hl [0, 1, 2, 3] rfl)
  have tc_14 := f_ne (k := 11) (by decide) c_14
  by_cases c_15 : v_2 = 12
  · skip
    refine lv_topc c_15 ?_
    have tc_15 := f_eq (k := 12) (by decide) c_15
    refine lv_tableIn (off := 545) (tgt := 578) hx hb dL_law_33 (by decide) (by decide) (by decide) (by decide) ?_
    exact lw_case12 l D cB cI cJ cZ cS cW cT cR C0 hkb hA hA2 q_1 q_2 q_3 q_4 q_5 q_6 q_7 q_8 q_9 q_10 q_11 q_12 q_13 q_14 q_15 q_16 q_17 q_30 q_31 q_32 q_33 q_34 q_69 q_70 q_71 q_72 q_73 q_74 q_75 q_76 q_77 q_78 q_79 q_80 q_81 q_82 q_83 q_84 q_85 q_86 q_87 q_88 (hP.sub [0, 13, 41, 49] rfl) (hD.sub [0, 13, 41, 49] (by decide) rfl) hS (lv_sub hl [0, 1, 2, 3] rfl)
  have tc_15 := f_ne (k := 12) (by decide) c_15
  by_cases c_16 : v_2 = 13
  · skip
    refine lv_topc c_16 ?_
    have tc_16 := f_eq (k := 13) (by decide) c_16
    refine lv_tableIn (off := 568) (tgt := 601) hx hb dL_law_33 (by decide) (by decide) (by decide) (by decide) ?_
    exact lw_case13 l D cB cI cJ cZ cS cW cT cR C0 hkb hA hA2 q_1 q_2 q_3 q_4 q_5 q_6 q_7 q_8 q_9 q_10 q_11 q_12 q_13 q_14 q_15 q_16 q_17 q_35 q_36 q_37 q_38 q_39 q_40 q_41 q_42 q_43 q_44 q_45 q_46 q_47 q_48 q_69 q_70 q_71 q_72 q_73 q_74 q_75 q_76 q_77 q_78 q_79 q_80 q_81 q_82 q_83 q_84 q_85 q_86 q_87 q_88 (hP.sub [0, 14, 15, 16, 17, 18, 19, 20, 41, 45, 49] rfl) (hD.sub [0, 14, 15, 16, 17, 18, 19, 20, 41, 45, 49] (by decide) rfl) hS (lv_sub hl [0, 1, 2, 3] rfl)
  have tc_16 := f_ne (k := 13) (by decide) c_16
  by_cases c_17 : v_2 = 14
  · skip
    refine lv_topc c_17 ?_
    have tc_17 := f_eq (k := 14) (by decide) c_17
    refine lv_tableIn (off := 581) (tgt := 614) hx hb dL_law_33 (by decide) (by decide) (by decide) (by decide) ?_
    exact lw_case14 l D cB cI cJ cZ cS cW cT cR C0 hkb hA hA2 q_1 q_2 q_3 q_4 q_5 q_6 q_7 q_8 q_9 q_10 q_11 q_12 q_13 q_14 q_15 q_16 q_17 q_69 q_70 q_71 q_72 q_73 q_74 q_75 q_76 q_77 q_78 q_79 q_80 q_81 q_82 q_83 q_84 q_85 q_86 q_87 q_88 (hP.sub [0, 41, 49] rfl) (hD.sub [0, 41, 49] (by decide) rfl) hS (lv_sub hl [0, 1, 2, 3] rfl)
  have tc_17 := f_ne (k := 14) (by decide) c_17
  by_cases c_18 : v_2 = 15
  · skip
    refine lv_topc c_18 ?_
    have tc_18 := f_eq (k := 15) (by decide) c_18
    refine lv_tableIn (off := 604) (tgt := 637) hx hb dL_law_33 (by decide) (by decide) (by decide) (by decide) ?_
    exact lw_case15 l D cB cI cJ cZ cS cW cT cR C0 hkb hA hA2 q_1 q_2 q_3 q_4 q_5 q_6 q_7 q_8 q_9 q_10 q_11 q_12 q_13 q_14 q_15 q_16 q_17 q_30 q_31 q_32 q_33 q_34 q_69 q_70 q_71 q_72 q_73 q_74 q_75 q_76 q_77 q_78 q_79 q_80 q_81 q_82 q_83 q_84 q_85 q_86 q_87 q_88 (hP.sub [0, 13, 41, 49] rfl) (hD.sub [0, 13, 41, 49] (by decide) rfl) hS (lv_sub hl [0, 1, 2, 3] rfl)
  have tc_18 := f_ne (k := 15) (by decide) c_18
  by_cases c_19 : v_2 = 16
  · skip
    refine lv_topc c_19 ?_
    have tc_19 := f_eq (k := 16) (by decide) c_19
    refine lv_tableIn (off := 637) (tgt := 670) hx hb dL_law_33 (by decide) (by decide) (by decide) (by decide) ?_
    exact lw_case16 l D cB cI cJ cZ cS cW cT cR C0 hkb hA hA2 q_1 q_2 q_3 q_4 q_5 q_6 q_7 q_8 q_9 q_10 q_11 q_12 q_13 q_14 q_15 q_16 q_17 q_30 q_31 q_32 q_33 q_34 q_69 q_70 q_71 q_72 q_73 q_74 q_75 q_76 q_77 q_78 q_79 q_80 q_81 q_82 q_83 q_84 q_85 q_86 q_87 q_88 (hP.sub [0, 13, 41, 49] rfl) (hD.sub [0, 13, 41, 49] (by decide) rfl) hS (lv_sub hl [0, 1, 2, 3] rfl)
  have tc_19 := f_ne (k := 16) (by decide) c_19
  by_cases c_20 : v_2 = 17
  · skip
    refine lv_topc c_20 ?_
    have tc_20 := f_eq (k := 17) (by decide) c_20
    refine lv_tableIn (off := 670) (tgt := 703) hx hb dL_law_33 (by decide) (by decide) (by decide) (by decide) ?_
    exact lw_case17 l D cB cI cJ cZ cS cW cT cR C0 hkb hA hA2 q_1 q_2 q_3 q_4 q_5 q_6 q_7 q_8 q_9 q_10 q_11 q_12 q_13 q_14 q_15 q_16 q_17 q_30 q_31 q_32 q_33 q_34 q_69 q_70 q_71 q_72 q_73 q_74 q_75 q_76 q_77 q_78 q_79 q_80 q_81 q_82 q_83 q_84 q_85 q_86 q_87 q_88 (hP.sub [0, 13, 41, 49] rfl) (hD.sub [0, 13, 41, 49] (by decide) rfl) hS (lv_sub hl [0, 1, 2, 3] rfl)
  have tc_20 := f_ne (k := 17) (by decide) c_20
  by_cases c_21 : v_2 = 18
  · skip
    refine lv_topc c_21 ?_
    have tc_21 := f_eq (k := 18) (by decide) c_21
    refine lv_tableIn (off := 694) (tgt := 727) hx hb dL_law_33 (by decide) (by decide) (by decide) (by decide) ?_
    exact lw_case18 l D cB cI cJ cZ cS cW cT cR C0 hkb hA hA2 q_1 q_2 q_3 q_4 q_5 q_6 q_7 q_8 q_9 q_10 q_11 q_12 q_13 q_14 q_15 q_16 q_17 q_30 q_31 q_32 q_33 q_34 q_69 q_70 q_71 q_72 q_73 q_74 q_75 q_76 q_77 q_78 q_79 q_80 q_81 q_82 q_83 q_84 q_85 q_86 q_87 q_88 (hP.sub [0, 13, 41, 49] rfl) (hD.sub [0, 13, 41, 49] (by decide) rfl) hS (lv_sub hl [0, 1, 2, 3] rfl)
  have tc_21 := f_ne (k := 18) (by decide) c_21
  by_cases c_22 : v_2 = 19
  · skip
    refine lv_topc c_22 ?_
    have tc_22 := f_eq (k := 19) (by decide) c_22
    refine lv_tableIn (off := 728) (tgt := 761) hx hb dL_law_33 (by decide) (by decide) (by decide) (by decide) ?_
    exact lw_case19 l D cB cI cJ cZ cS cW cT cR C0 hkb hA hA2 q_1 q_2 q_3 q_4 q_5 q_6 q_7 q_8 q_9 q_10 q_11 q_12 q_13 q_14 q_15 q_16 q_17 q_30 q_31 q_32 q_33 q_34 q_69 q_70 q_71 q_72 q_73 q_74 q_75 q_76 q_77 q_78 q_79 q_80 q_81 q_82 q_83 q_84 q_85 q_86 q_87 q_88 (hP.sub [0, 13, 41, 49] rfl) (hD.sub [0, 13, 41, 49] (by decide) rfl) hS (lv_sub hl [0, 1, 2, 3] rfl)
  have tc_22 := f_ne (k := 19) (by decide) c_22
  by_cases c_23 : v_2 = 20
  · skip
    refine lv_topc c_23 ?_
    have tc_23 := f_eq (k := 20) (by decide) c_23
    refine lv_tableIn (off := 751) (tgt := 784) hx hb dL_law_33 (by decide) (by decide) (by decide) (by decide) ?_
    exact lw_case20 l D cB cI cJ cZ cS cW cT cR C0 hkb hA hA2 q_1 q_2 q_3 q_4 q_5 q_6 q_7 q_8 q_9 q_10 q_11 q_12 q_13 q_14 q_15 q_16 q_17 q_30 q_31 q_32 q_33 q_34 q_69 q_70 q_71 q_72 q_73 q_74 q_75 q_76 q_77 q_78 q_79 q_80 q_81 q_82 q_83 q_84 q_85 q_86 q_87 q_88 (hP.sub [0, 13, 41, 49] rfl) (hD.sub [0, 13, 41, 49] (by decide) rfl) hS (lv_sub hl [0, 1, 2, 3] rfl)
  have tc_23 := f_ne (k := 20) (by decide) c_23
  by_cases c_24 : v_2 = 21
  · skip
    refine lv_topc c_24 ?_
    have tc_24 := f_eq (k := 21) (by decide) c_24
    refine lv_tableIn (off := 784) (tgt := 817) hx hb dL_law_33 (by decide) (by decide) (by decide) (by decide) ?_
    exact lw_case21 l D cB cI cJ cZ cS cW cT cR C0 hkb hA hA2 q_1 q_2 q_3 q_4 q_5 q_6 q_7 q_8 q_9 q_10 q_11 q_12 q_13 q_14 q_15 q_16 q_17 q_30 q_31 q_32 q_33 q_34 q_69 q_70 q_71 q_72 q_73 q_74 q_75 q_76 q_77 q_78 q_79 q_80 q_81 q_82 q_83 q_84 q_85 q_86 q_87 q_88 (hP.sub [0, 13, 41, 49] rfl) (hD.sub [0, 13, 41, 49] (by decide) rfl) hS (lv_sub hl [0, 1, 2, 3] rfl)
  have tc_24 := f_ne (k := 21) (by decide) c_24
  by_cases c_25 : v_2 = 22
  · skip
    refine lv_topc c_25 ?_
    have tc_25 := f_eq (k := 22) (by decide) c_25
    refine lv_tableIn (off := 807) (tgt := 840) hx hb dL_law_33 (by decide) (by decide) (by decide) (by decide) ?_
    exact lw_case22 l D cB cI cJ cZ cS cW cT cR C0 hkb hA hA2 q_1 q_2 q_3 q_4 q_5 q_6 q_7 q_8 q_9 q_10 q_11 q_12 q_13 q_14 q_15 q_16 q_17 q_30 q_31 q_32 q_33 q_34 q_69 q_70 q_71 q_72 q_73 q_74 q_75 q_76 q_77 q_78 q_79 q_80 q_81 q_82 q_83 q_84 q_85 q_86 q_87 q_88 (hP.sub [0, 13, 41, 49] rfl) (hD.sub [0, 13, 41, 49] (by decide) rfl) hS (lv_sub hl [0, 1, 2, 3] rfl)
  have tc_25 := f_ne (k := 22) (by decide) c_25
  by_cases c_26 : v_2 = 23
  · skip
    refine lv_topc c_26 ?_
    have tc_26 := f_eq (k := 23) (by decide) c_26
    refine lv_tableIn (off := 830) (tgt := 863) hx hb dL_law_33 (by decide) (by decide) (by decide) (by decide) ?_
    exact lw_case23 l D cB cI cJ cZ cS cW cT cR C0 hkb hA hA2 q_1 q_2 q_3 q_4 q_5 q_6 q_7 q_8 q_9 q_10 q_11 q_12 q_13 q_14 q_15 q_16 q_17 q_30 q_31 q_32 q_33 q_34 q_69 q_70 q_71 q_72 q_73 q_74 q_75 q_76 q_77 q_78 q_79 q_80 q_81 q_82 q_83 q_84 q_85 q_86 q_87 q_88 (hP.sub [0, 13, 41, 49] rfl) (hD.sub [0, 13, 41, 49] (by decide) rfl) hS (lv_sub hl [0, 1, 2, 3] rfl)
  have tc_26 := f_ne (k := 23) (by decide) c_26
  by_cases c_27 : v_2 = 24
  · skip
    refine lv_topc c_27 ?_
    have tc_27 := f_eq (k := 24) (by decide) c_27
    refine lv_tableIn (off := 843) (tgt := 876) hx hb dL_law_33 (by decide) (by decide) (by decide) (by decide) ?_
    exact lw_case24 l D cB cI cJ cZ cS cW cT cR C0 hkb hA hA2 q_1 q_2 q_3 q_4 q_5 q_6 q_7 q_8 q_9 q_10 q_11 q_12 q_13 q_14 q_15 q_16 q_17 q_30 q_31 q_32 q_33 q_34 q_69 q_70 q_71 q_72 q_73 q_74 q_75 q_76 q_77 q_78 q_79 q_80 q_81 q_82 q_83 q_84 q_85 q_86 q_87 q_88 (hP.sub [0, 13, 41, 49] rfl) (hD.sub [0, 13, 41, 49] (by decide) rfl) hS (lv_sub hl [0, 1, 2, 3] rfl)
  have tc_27 := f_ne (k := 24) (by decide) c_27
  by_cases c_28 : v_2 = 25
  · skip
    refine lv_topc c_28 ?_
    have tc_28 := f_eq (k := 25) (by decide) c_28
    refine lv_tableIn (off := 866) (tgt := 899) hx hb dL_law_33 (by decide) (by decide) (by decide) (by decide) ?_
    exact lw_case25 l D cB cI cJ cZ cS cW cT cR C0 hkb hA hA2 q_1 q_2 q_3 q_4 q_5 q_6 q_7 q_8 q_9 q_10 q_11 q_12 q_13 q_14 q_15 q_16 q_17 q_30 q_31 q_32 q_33 q_34 q_69 q_70 q_71 q_72 q_73 q_74 q_75 q_76 q_77 q_78 q_79 q_80 q_81 q_82 q_83 q_84 q_85 q_86 q_87 q_88 (hP.sub [0, 13, 41, 49] rfl) (hD.sub [0, 13, 41, 49] (by decide) rfl) hS (lv_sub hl [0, 1, 2, 3] rfl)
  have tc_28 := f_ne (k := 25) (by decide) c_28
  by_cases c_29 : v_2 = 26
  · skip
    refine lv_topc c_29 ?_
    have tc_29 := f_eq (k := 26) (by decide) c_29
    refine lv_tableIn (off := 889) (tgt := 922) hx hb dL_law_33 (by decide) (by decide) (by decide) (by decide) ?_
    exact lw_case26 l D cB cI cJ cZ cS cW cT cR C0 hkb hA hA2 q_1 q_2 q_3 q_4 q_5 q_6 q_7 q_8 q_9 q_10 q_11 q_12 q_13 q_14 q_15 q_16 q_17 q_30 q_31 q_32 q_33 q_34 q_69 q_70 q_71 q_72 q_73 q_74 q_75 q_76 q_77 q_78 q_79 q_80 q_81 q_82 q_83 q_84 q_85 q_86 q_87 q_88 (hP.sub [0, 13, 41, 49] rfl) (hD.sub [0, 13, 41, 49] (by decide) rfl) hS (lv_sub hl [0, 1, 2, 3] rfl)
  have tc_29 := f_ne (k := 26) (by decide) c_29
  by_cases c_30 : v_2 = 27
  · skip
    refine lv_topc c_30 ?_
    have tc_30 := f_eq (k := 27) (by decide) c_30
    refine lv_tableIn (off := 922) (tgt := 955) hx hb dL_law_33 (by decide) (by decide) (by decide) (by decide) ?_
    exact lw_case27 l D cB cI cJ cZ cS cW cT cR C0 hkb hA hA2 q_1 q_2 q_3 q_4 q_5 q_6 q_7 q_8 q_9 q_10 q_11 q_12 q_13 q_14 q_15 q_16 q_17 q_30 q_31 q_32 q_33 q_34 q_69 q_70 q_71 q_72 q_73 q_74 q_75 q_76 q_77 q_78 q_79 q_80 q_81 q_82 q_83 q_84 q_85 q_86 q_87 q_88 (hP.sub [0, 13, 41, 49] rfl) (hD.sub [0, 13, 41, 49] (by decide) rfl) hS (lv_sub hl [0, 1, 2, 3] rfl)
  have tc_30 := f_ne (k := 27) (by decide) c_30
  by_cases c_31 : v_2 = 28
  · skip
    refine lv_topc c_31 ?_
    have tc_31 := f_eq (k := 28) (by decide) c_31
    refine lv_tableIn (off := 945) (tgt := 978) hx hb dL_law_33 (by decide) (by decide) (by decide) (by decide) ?_
    exact lw_case28 l D cB cI cJ cZ cS cW cT cR C0 hkb hA hA2 q_1 q_2 q_3 q_4 q_5 q_6 q_7 q_8 q_9 q_10 q_11 q_12 q_13 q_14 q_15 q_16 q_17 q_30 q_31 q_32 q_33 q_34 q_69 q_70 q_71 q_72 q_73 q_74 q_75 q_76 q_77 q_78 q_79 q_80 q_81 q_82 q_83 q_84 q_85 q_86 q_87 q_88 (hP.sub [0, 13, 41, 49] rfl) (hD.sub [0, 13, 41, 49] (by decide) rfl) hS (lv_sub hl [0, 1, 2, 3] rfl)
  have tc_31 := f_ne (k := 28) (by decide) c_31
  by_cases c_32 : v_2 = 29
  · skip
    refine lv_topc c_32 ?_
    have tc_32 := f_eq (k := 29) (by decide) c_32
    refine lv_tableIn (off := 968) (tgt := 1001) hx hb dL_law_33 (by decide) (by decide) (by decide) (by decide) ?_
    exact lw_case29 l D cB cI cJ cZ cS cW cT cR C0 hkb hA hA2 q_1 q_2 q_3 q_4 q_5 q_6 q_7 q_8 q_9 q_10 q_11 q_12 q_13 q_14 q_15 q_16 q_17 q_30 q_31 q_32 q_33 q_34 q_69 q_70 q_71 q_72 q_73 q_74 q_75 q_76 q_77 q_78 q_79 q_80 q_81 q_82 q_83 q_84 q_85 q_86 q_87 q_88 (hP.sub [0, 13, 41, 49] rfl) (hD.sub [0, 13, 41, 49] (by decide) rfl) hS (lv_sub hl [0, 1, 2, 3] rfl)
  have tc_32 := f_ne (k := 29) (by decide) c_32
  by_cases c_33 : v_2 = 30
  · skip
    refine lv_topc c_33 ?_
    have tc_33 := f_eq (k := 30) (by decide) c_33
    refine lv_tableIn (off := 991) (tgt := 1024) hx hb dL_law_33 (by decide) (by decide) (by decide) (by decide) ?_
    exact lw_case30 l D cB cI cJ cZ cS cW cT cR C0 hkb hA hA2 q_1 q_2 q_3 q_4 q_5 q_6 q_7 q_8 q_9 q_10 q_11 q_12 q_13 q_14 q_15 q_16 q_17 q_30 q_31 q_32 q_33 q_34 q_35 q_36 q_69 q_70 q_71 q_72 q_73 q_74 q_75 q_76 q_77 q_78 q_79 q_80 q_81 q_82 q_83 q_84 q_85 q_86 q_87 q_88 (hP.sub [0, 13, 14, 41, 49] rfl) (hD.sub [0, 13, 14, 41, 49] (by decide) rfl) hS (lv_sub hl [0, 1, 2, 3] rfl)
  have tc_33 := f_ne (k := 30) (by decide) c_33
  by_cases c_34 : v_2 = 31
  · skip
    refine lv_topc c_34 ?_
    have tc_34 := f_eq (k := 31) (by decide) c_34
    refine lv_tableIn (off := 1014) (tgt := 1047) hx hb dL_law_33 (by decide) (by decide) (by decide) (by decide) ?_
    exact lw_case31 l D cB cI cJ cZ cS cW cT cR C0 hkb hA hA2 q_1 q_2 q_3 q_4 q_5 q_6 q_7 q_8 q_9 q_10 q_11 q_12 q_13 q_14 q_15 q_16 q_17 q_30 q_31 q_32 q_33 q_34 q_69 q_70 q_71 q_72 q_73 q_74 q_75 q_76 q_77 q_78 q_79 q_80 q_81 q_82 q_83 q_84 q_85 q_86 q_87 q_88 (hP.sub [0, 13, 41, 49] rfl) (hD.sub [0, 13, 41, 49] (by decide) rfl) hS (lv_sub hl [0, 1, 2, 3] rfl)
  have tc_34 := f_ne (k := 31) (by decide) c_34
  by_cases c_35 : v_2 = 32
  · skip
    refine lv_topc c_35 ?_
    have tc_35 := f_eq (k := 32) (by decide) c_35
    refine lv_tableIn (off := 1057) (tgt := 1090) hx hb dL_law_33 (by decide) (by decide) (by decide) (by decide) ?_
    exact lw_case32 l D cB cI cJ cZ cS cW cT cR C0 hkb hA hA2 q_1 q_2 q_3 q_4 q_5 q_6 q_7 q_8 q_9 q_10 q_11 q_12 q_13 q_14 q_15 q_16 q_17 q_30 q_31 q_32 q_33 q_34 q_69 q_70 q_71 q_72 q_73 q_74 q_75 q_76 q_77 q_78 q_79 q_80 q_81 q_82 q_83 q_84 q_85 q_86 q_87 q_88 (hP.sub [0, 13, 41, 49] rfl) (hD.sub [0, 13, 41, 49] (by decide) rfl) hS (lv_sub hl [0, 1, 2, 3] rfl)
  have tc_35 := f_ne (k := 32) (by decide) c_35
  by_cases c_36 : v_2 = 33
  · skip
    refine lv_topc c_36 ?_
    have tc_36 := f_eq (k := 33) (by decide) c_36
    refine lv_tableIn (off := 1080) (tgt := 1113) hx hb dL_law_33 (by decide) (by decide) (by decide) (by decide) ?_
    exact lw_case33 l D cB cI cJ cZ cS cW cT cR C0 hkb hA hA2 q_1 q_2 q_3 q_4 q_5 q_6 q_7 q_8 q_9 q_10 q_11 q_12 q_13 q_14 q_15 q_16 q_17 q_30 q_31 q_32 q_33 q_34 q_69 q_70 q_71 q_72 q_73 q_74 q_75 q_76 q_77 q_78 q_79 q_80 q_81 q_82 q_83 q_84 q_85 q_86 q_87 q_88 (hP.sub [0, 13, 41, 49] rfl) (hD.sub [0, 13, 41, 49] (by decide) rfl) hS (lv_sub hl [0, 1, 2, 3] rfl)
  have tc_36 := f_ne (k := 33) (by decide) c_36
  by_cases c_37 : v_2 = 34
  · skip
    refine lv_topc c_37 ?_
    have tc_37 := f_eq (k := 34) (by decide) c_37
    refine lv_tableIn (off := 1113) (tgt := 1146) hx hb dL_law_33 (by decide) (by decide) (by decide) (by decide) ?_
    exact lw_case34 l D cB cI cJ cZ cS cW cT cR C0 hkb hA hA2 q_1 q_2 q_3 q_4 q_5 q_6 q_7 q_8 q_9 q_10 q_11 q_12 q_13 q_14 q_15 q_16 q_17 q_30 q_31 q_32 q_33 q_34 q_35 q_36 q_69 q_70 q_71 q_72 q_73 q_74 q_75 q_76 q_77 q_78 q_79 q_80 q_81 q_82 q_83 q_84 q_85 q_86 q_87 q_88 (hP.sub [0, 13, 14, 25, 26, 41, 49] rfl) (hD.sub [0, 13, 14, 25, 26, 41, 49] (by decide) rfl) hS (lv_sub hl [0, 1, 2, 3] rfl)
  have tc_37 := f_ne (k := 34) (by decide) c_37
  by_cases c_38 : v_2 = 35
  · skip
    refine lv_topc c_38 ?_
    have tc_38 := f_eq (k := 35) (by decide) c_38
    refine lv_tableIn (off := 1146) (tgt := 1179) hx hb dL_law_33 (by decide) (by decide) (by decide) (by decide) ?_
    exact lw_case35 l D cB cI cJ cZ cS cW cT cR C0 hkb hA hA2 q_1 q_2 q_3 q_4 q_5 q_6 q_7 q_8 q_9 q_10 q_11 q_12 q_13 q_14 q_15 q_16 q_17 q_51 q_52 q_53 q_54 q_64 q_65 q_66 q_67 q_69 q_70 q_71 q_72 q_73 q_74 q_75 q_76 q_77 q_78 q_79 q_80 q_81 q_82 q_83 q_84 q_85 q_86 q_87 q_88 (hP.sub [0, 23, 33, 34, 35, 36, 37, 38, 39, 40, 41, 46, 47, 48] rfl) (hD.sub [0, 23, 33, 34, 35, 36, 37, 38, 39, 40, 41, 46, 47, 48] (by decide) rfl) hS (lv_sub hl [0, 1, 2, 3] rfl)
  have tc_38 := f_ne (k := 35) (by decide) c_38
  by_cases c_39 : v_2 = 36
  · skip
    refine lv_topc c_39 ?_
    have tc_39 := f_eq (k := 36) (by decide) c_39
    refine lv_tableIn (off := 1189) (tgt := 1222) hx hb dL_law_33 (by decide) (by decide) (by decide) (by decide) ?_
    exact lw_case36 l D cB cI cJ cZ cS cW cT cR C0 hkb hA hA2 q_1 q_2 q_3 q_4 q_5 q_6 q_7 q_8 q_9 q_10 q_11 q_12 q_13 q_14 q_15 q_16 q_17 q_51 q_52 q_53 q_54 q_64 q_65 q_66 q_67 q_69 q_70 q_71 q_72 q_73 q_74 q_75 q_76 q_77 q_78 q_79 q_80 q_81 q_82 q_83 q_84 q_85 q_86 q_87 q_88 (hP.sub [0, 23, 33, 35, 37, 39, 41, 46] rfl) (hD.sub [0, 23, 33, 35, 37, 39, 41, 46] (by decide) rfl) hS (lv_sub hl [0, 1, 2, 3] rfl)
  have tc_39 := f_ne (k := 36) (by decide) c_39
  by_cases c_40 : v_2 = 37
  · skip
    refine lv_topc c_40 ?_
    have tc_40 := f_eq (k := 37) (by decide) c_40
    refine lv_tableIn (off := 1263) (tgt := 1296) hx hb dL_law_33 (by decide) (by decide) (by decide) (by decide) ?_
    exact lw_case37 l D cB cI cJ cZ cS cW cT cR C0 hkb hA hA2 q_1 q_2 q_3 q_4 q_5 q_6 q_7 q_8 q_9 q_10 q_11 q_12 q_13 q_14 q_15 q_16 q_17 q_30 q_31 q_32 q_33 q_34 q_69 q_70 q_71 q_72 q_73 q_74 q_75 q_76 q_77 q_78 q_79 q_80 q_81 q_82 q_83 q_84 q_85 q_86 q_87 q_88 (hP.sub [0, 13, 41, 49] rfl) (hD.sub [0, 13, 41, 49] (by decide) rfl) hS (lv_sub hl [0, 1, 2, 3] rfl)
  have tc_40 := f_ne (k := 37) (by decide) c_40
  by_cases c_41 : v_2 = 38
  · skip
    refine lv_topc c_41 ?_
    have tc_41 := f_eq (k := 38) (by decide) c_41
    refine lv_tableIn (off := 1296) (tgt := 1329) hx hb dL_law_33 (by decide) (by decide) (by decide) (by decide) ?_
    exact lw_case38 l D cB cI cJ cZ cS cW cT cR C0 hkb hA hA2 q_1 q_2 q_3 q_4 q_5 q_6 q_7 q_8 q_9 q_10 q_11 q_12 q_13 q_14 q_15 q_16 q_17 q_30 q_31 q_32 q_33 q_34 q_35 q_36 q_49 q_50 q_60 q_61 q_62 q_63 q_69 q_70 q_71 q_72 q_73 q_74 q_75 q_76 q_77 q_78 q_79 q_80 q_81 q_82 q_83 q_84 q_85 q_86 q_87 q_88 (hP.sub [0, 13, 14, 15, 16, 21, 22, 27, 28, 29, 30, 31, 32, 41, 42, 49] rfl) (hD.sub [0, 13, 14, 15, 16, 21, 22, 27, 28, 29, 30, 31, 32, 41, 42, 49] (by decide) rfl) hS (lv_sub hl [0, 1, 2, 3] rfl)
  have tc_41 := f_ne (k := 38) (by decide) c_41
  by_cases c_42 : v_2 = 39
  · skip
    refine lv_topc c_42 ?_
    have tc_42 := f_eq (k := 39) (by decide) c_42
    refine lv_tableIn (off := 1319) (tgt := 1352) hx hb dL_law_33 (by decide) (by decide) (by decide) (by decide) ?_
    exact lw_case39 l D cB cI cJ cZ cS cW cT cR C0 hkb hA hA2 q_1 q_2 q_3 q_4 q_5 q_6 q_7 q_8 q_9 q_10 q_11 q_12 q_13 q_14 q_15 q_16 q_17 q_69 q_70 q_71 q_72 q_73 q_74 q_75 q_76 q_77 q_78 q_79 q_80 q_81 q_82 q_83 q_84 q_85 q_86 q_87 q_88 (hP.sub [0, 21, 41, 42, 49] rfl) (hD.sub [0, 21, 41, 42, 49] (by decide) rfl) hS (lv_sub hl [0, 1, 2, 3] rfl)
  have tc_42 := f_ne (k := 39) (by decide) c_42
  by_cases c_43 : v_2 = 40
  · skip
    refine lv_topc c_43 ?_
    have tc_43 := f_eq (k := 40) (by decide) c_43
    refine lv_tableIn (off := 1342) (tgt := 1375) hx hb dL_law_33 (by decide) (by decide) (by decide) (by decide) ?_
    exact lw_case40 l D cB cI cJ cZ cS cW cT cR C0 hkb hA hA2 q_1 q_2 q_3 q_4 q_5 q_6 q_7 q_8 q_9 q_10 q_11 q_12 q_13 q_14 q_15 q_16 q_17 q_30 q_31 q_32 q_33 q_34 q_35 q_36 q_69 q_70 q_71 q_72 q_73 q_74 q_75 q_76 q_77 q_78 q_79 q_80 q_81 q_82 q_83 q_84 q_85 q_86 q_87 q_88 (hP.sub [0, 13, 14, 41, 49] rfl) (hD.sub [0, 13, 14, 41, 49] (by decide) rfl) hS (lv_sub hl [0, 1, 2, 3] rfl)
  have tc_43 := f_ne (k := 40) (by decide) c_43
  refine lv_tableOut (tgt := 1398) hx hb dL_law_33 (by omega) (by decide) ?_
  exact lw_tail l C0 hA2 (Nat.le_of_ble_eq_true rfl) (Nat.le_of_ble_eq_true rfl) hS (lv_sub hl [0, 3] rfl)
