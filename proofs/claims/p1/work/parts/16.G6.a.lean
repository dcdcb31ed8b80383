theorem cls_X10 : xCls RX10 TX10 12 10 tyX10 := ⟨xin [524, 526, 528, 530, 532, 534, 536, 538, 540, 542, 544, 546] (by decide +kernel) (by decide +kernel), rfl, tyX10_ok, nmX10⟩
theorem st_X10_11 (h0 : Nat) (σ : xS) (k : Nat) (a : Int) : xobj h0 (xU σ k 11 a) k 10 = (xobj h0 σ k 10).set 11 (.int (xJ a)) := by simp [xobj, xU]
theorem ln_X10_11 (h0 : Nat) (σ : xS) (k : Nat) : 11 < (xobj h0 σ k 10).length := by simp [xobj]
theorem cf_X0_shadowsAt : xCF yX0_shadowsAt cX0_shadowsAt 3 (some .int) 2 := ⟨xq 940 (by decide +kernel) rfl, xq 174 (by decide +kernel) rfl, by decide +kernel⟩
theorem cf_X0_spotsInLampShadows : xCF yX0_spotsInLampShadows cX0_spotsInLampShadows 3 (some .int) 2 := ⟨xq 1072 (by decide +kernel) rfl, xq 174 (by decide +kernel) rfl, by decide +kernel⟩
theorem cf_X1_most : xCF yX1_most cX1_most 4 (some .int) 1 := ⟨xq 958 (by decide +kernel) rfl, xq 178 (by decide +kernel) rfl, by decide +kernel⟩
theorem cf_X10_bitsOfTold : xCF yX10_bitsOfTold cX10_bitsOfTold 3 (some .int) 1 := ⟨xq 1108 (by decide +kernel) rfl, xq 168 (by decide +kernel) rfl, by decide +kernel⟩
theorem cf_X10_canBeTried : xCF yX10_canBeTried cX10_canBeTried 2 (some .boolean) 1 := ⟨xq 909 (by decide +kernel) rfl, xq 168 (by decide +kernel) rfl, by decide +kernel⟩
theorem cf_X10_isFreeForLamp : xCF yX10_isFreeForLamp cX10_isFreeForLamp 2 (some .boolean) 1 := ⟨xq 1066 (by decide +kernel) rfl, xq 168 (by decide +kernel) rfl, by decide +kernel⟩
theorem cf_X10_isIn : xCF yX10_isIn cX10_isIn 3 (some .boolean) 3 := ⟨xq 563 (by decide +kernel) rfl, xq 168 (by decide +kernel) rfl, by decide +kernel⟩
theorem cf_X2_howManyDrowned : xCF yX2_howManyDrowned cX2_howManyDrowned 3 (some .int) 0 := ⟨xq 927 (by decide +kernel) rfl, xq 176 (by decide +kernel) rfl, by decide +kernel⟩
theorem cf_X2_howManyOweNothing : xCF yX2_howManyOweNothing cX2_howManyOweNothing 3 (some .int) 0 := ⟨xq 931 (by decide +kernel) rfl, xq 176 (by decide +kernel) rfl, by decide +kernel⟩
theorem cf_X2_setFelon : xCF yX2_setFelon cX2_setFelon 4 none 3 := ⟨xq 624 (by decide +kernel) rfl, xq 176 (by decide +kernel) rfl, by decide +kernel⟩
theorem cf_X2_stepsLeft : xCF yX2_stepsLeft cX2_stepsLeft 2 (some .int) 1 := ⟨xq 782 (by decide +kernel) rfl, xq 176 (by decide +kernel) rfl, by decide +kernel⟩
theorem cf_X3_bestAhead : xCF yX3_bestAhead cX3_bestAhead 5 (some .int) 1 := ⟨xq 1040 (by decide +kernel) rfl, xq 177 (by decide +kernel) rfl, by decide +kernel⟩
theorem cf_X3_countShadedMinutes : xCF yX3_countShadedMinutes cX3_countShadedMinutes 6 none 1 := ⟨xq 1049 (by decide +kernel) rfl, xq 177 (by decide +kernel) rfl, by decide +kernel⟩
theorem cf_X3_howManyNeverShaded : xCF yX3_howManyNeverShaded cX3_howManyNeverShaded 3 (some .int) 0 := ⟨xq 1053 (by decide +kernel) rfl, xq 177 (by decide +kernel) rfl, by decide +kernel⟩
theorem cf_X3_mostShaded : xCF yX3_mostShaded cX3_mostShaded 3 (some .int) 0 := ⟨xq 1058 (by decide +kernel) rfl, xq 177 (by decide +kernel) rfl, by decide +kernel⟩
theorem cf_X6_openSpot : xCF yX6_openSpot cX6_openSpot 4 (some .int) 2 := ⟨xq 706 (by decide +kernel) rfl, xq 170 (by decide +kernel) rfl, by decide +kernel⟩
theorem cf_X7_howManyInMore : xCF yX7_howManyInMore cX7_howManyInMore 3 (some .int) 0 := ⟨xq 979 (by decide +kernel) rfl, xq 175 (by decide +kernel) rfl, by decide +kernel⟩
theorem cf_X8_drop : xCF yX8_drop cX8_drop 1 none 0 := ⟨xq 608 (by decide +kernel) rfl, xq 169 (by decide +kernel) rfl, by decide +kernel⟩
theorem cf_X8_putNumber : xCF yX8_putNumber cX8_putNumber 3 none 1 := ⟨xq 556 (by decide +kernel) rfl, xq 169 (by decide +kernel) rfl, by decide +kernel⟩
theorem wq0 : Cond.selects yX8_putNumber.cls yX8_putNumber yX8_putNumber ∈ xTB := xq 0 (by decide +kernel) rfl
theorem wq7 : Cond.selects yX8_drop.cls yX8_drop yX8_drop ∈ xTB := xq 7 (by decide +kernel) rfl
theorem wq11 : Cond.selects yX2_setFelon.cls yX2_setFelon yX2_setFelon ∈ xTB := xq 11 (by decide +kernel) rfl
theorem wq27 : Cond.selects yX6_openSpot.cls yX6_openSpot yX6_openSpot ∈ xTB := xq 27 (by decide +kernel) rfl
theorem wq39 : Cond.selects yX2_stepsLeft.cls yX2_stepsLeft yX2_stepsLeft ∈ xTB := xq 39 (by decide +kernel) rfl
theorem wq62 : Cond.selects yX10_canBeTried.cls yX10_canBeTried yX10_canBeTried ∈ xTB := xq 62 (by decide +kernel) rfl
theorem wq66 : Cond.selects yX2_howManyDrowned.cls yX2_howManyDrowned yX2_howManyDrowned ∈ xTB := xq 66 (by decide +kernel) rfl
theorem wq67 : Cond.selects yX2_howManyOweNothing.cls yX2_howManyOweNothing yX2_howManyOweNothing ∈ xTB := xq 67 (by decide +kernel) rfl
theorem wq68 : Cond.selects yX0_shadowsAt.cls yX0_shadowsAt yX0_shadowsAt ∈ xTB := xq 68 (by decide +kernel) rfl
theorem wq70 : Cond.selects yX1_most.cls yX1_most yX1_most ∈ xTB := xq 70 (by decide +kernel) rfl
theorem wq74 : Cond.selects yX7_howManyInMore.cls yX7_howManyInMore yX7_howManyInMore ∈ xTB := xq 74 (by decide +kernel) rfl
theorem wq83 : Cond.selects yX3_bestAhead.cls yX3_bestAhead yX3_bestAhead ∈ xTB := xq 83 (by decide +kernel) rfl
theorem wq84 : Cond.selects yX3_countShadedMinutes.cls yX3_countShadedMinutes yX3_countShadedMinutes ∈ xTB := xq 84 (by decide +kernel) rfl
theorem wq85 : Cond.selects yX3_howManyNeverShaded.cls yX3_howManyNeverShaded yX3_howManyNeverShaded ∈ xTB := xq 85 (by decide +kernel) rfl
theorem wq86 : Cond.selects yX3_mostShaded.cls yX3_mostShaded yX3_mostShaded ∈ xTB := xq 86 (by decide +kernel) rfl
theorem wq87 : Cond.selects yX10_isFreeForLamp.cls yX10_isFreeForLamp yX10_isFreeForLamp ∈ xTB := xq 87 (by decide +kernel) rfl
theorem wq88 : Cond.selects yX0_spotsInLampShadows.cls yX0_spotsInLampShadows yX0_spotsInLampShadows ∈ xTB := xq 88 (by decide +kernel) rfl
theorem wq180 : Cond.initialized "java/lang/Math" ∈ xTB := xq 180 (by decide +kernel) rfl
theorem wq512 : Cond.fieldLink "ShadowCourt" (10) "ShadowCourt" "tape" "LShadowCourt$Tape;" ∈ xTB := xq 512 (by decide +kernel) rfl
theorem wq513 : Cond.fieldLink "ShadowCourt" (19) "ShadowCourt" "market" "LShadowCourt$Market;" ∈ xTB := xq 513 (by decide +kernel) rfl
theorem wq514 : Cond.fieldLink "ShadowCourt" (26) "ShadowCourt" "law" "LShadowCourt$Law;" ∈ xTB := xq 514 (by decide +kernel) rfl
theorem wq517 : Cond.fieldLink "ShadowCourt" (51) "ShadowCourt" "clock" "LShadowCourt$Clock;" ∈ xTB := xq 517 (by decide +kernel) rfl
theorem wq518 : Cond.fieldLink "ShadowCourt" (70) "ShadowCourt" "foresight" "LShadowCourt$Foresight;" ∈ xTB := xq 518 (by decide +kernel) rfl
theorem wq519 : Cond.fieldLink "ShadowCourt" (79) "ShadowCourt" "crowd" "LShadowCourt$Crowd;" ∈ xTB := xq 519 (by decide +kernel) rfl
theorem wq520 : Cond.fieldLink "ShadowCourt" (58) "ShadowCourt" "now" "LShadowCourt$Day;" ∈ xTB := xq 520 (by decide +kernel) rfl
theorem wq521 : Cond.fieldLink "ShadowCourt" (62) "ShadowCourt" "kept" "LShadowCourt$Day;" ∈ xTB := xq 521 (by decide +kernel) rfl
theorem wq523 : Cond.fieldLink "ShadowCourt" (87) "ShadowCourt" "isKept" "Z" ∈ xTB := xq 523 (by decide +kernel) rfl
theorem wq555 : Cond.instanceMethod yX8_putNumber ∈ xTB := xq 555 (by decide +kernel) rfl
theorem wq561 : Cond.methodLink "ShadowCourt" (99) yX10_isIn ∈ xTB := xq 561 (by decide +kernel) rfl
theorem wq562 : Cond.static yX10_isIn ∈ xTB := xq 562 (by decide +kernel) rfl
theorem wq594 : Cond.static (⟨"java/lang/Math", "max", "(II)I"⟩ : MethodName) ∈ xTB := xq 594 (by decide +kernel) rfl
theorem wq595 : Cond.code (⟨"java/lang/Math", "max", "(II)I"⟩ : MethodName) prog_14_method_65_code (2) (Option.some FieldType.int) ∈ xTB := xq 595 (by decide +kernel) rfl
theorem wq607 : Cond.instanceMethod yX8_drop ∈ xTB := xq 607 (by decide +kernel) rfl
theorem wq623 : Cond.instanceMethod yX2_setFelon ∈ xTB := xq 623 (by decide +kernel) rfl
theorem wq705 : Cond.instanceMethod yX6_openSpot ∈ xTB := xq 705 (by decide +kernel) rfl
theorem wq781 : Cond.instanceMethod yX2_stepsLeft ∈ xTB := xq 781 (by decide +kernel) rfl
theorem wq906 : Cond.methodLink "ShadowCourt" (167) yX10_canBeTried ∈ xTB := xq 906 (by decide +kernel) rfl
theorem wq908 : Cond.instanceMethod yX10_canBeTried ∈ xTB := xq 908 (by decide +kernel) rfl
theorem wq926 : Cond.instanceMethod yX2_howManyDrowned ∈ xTB := xq 926 (by decide +kernel) rfl
theorem wq930 : Cond.instanceMethod yX2_howManyOweNothing ∈ xTB := xq 930 (by decide +kernel) rfl
theorem wq939 : Cond.instanceMethod yX0_shadowsAt ∈ xTB := xq 939 (by decide +kernel) rfl
theorem wq957 : Cond.instanceMethod yX1_most ∈ xTB := xq 957 (by decide +kernel) rfl
theorem wq978 : Cond.instanceMethod yX7_howManyInMore ∈ xTB := xq 978 (by decide +kernel) rfl
theorem wq1039 : Cond.instanceMethod yX3_bestAhead ∈ xTB := xq 1039 (by decide +kernel) rfl
theorem wq1048 : Cond.instanceMethod yX3_countShadedMinutes ∈ xTB := xq 1048 (by decide +kernel) rfl
theorem wq1052 : Cond.instanceMethod yX3_howManyNeverShaded ∈ xTB := xq 1052 (by decide +kernel) rfl
theorem wq1057 : Cond.instanceMethod yX3_mostShaded ∈ xTB := xq 1057 (by decide +kernel) rfl
theorem wq1063 : Cond.methodLink "ShadowCourt" (266) yX10_isFreeForLamp ∈ xTB := xq 1063 (by decide +kernel) rfl
theorem wq1065 : Cond.instanceMethod yX10_isFreeForLamp ∈ xTB := xq 1065 (by decide +kernel) rfl
theorem wq1068 : Cond.methodLink "ShadowCourt" (330) yX10_holds ∈ xTB := xq 1068 (by decide +kernel) rfl
theorem wq1071 : Cond.instanceMethod yX0_spotsInLampShadows ∈ xTB := xq 1071 (by decide +kernel) rfl
theorem wq1073 : Cond.methodLink "ShadowCourt" (272) (⟨"java/lang/Math", "max", "(II)I"⟩ : MethodName) ∈ xTB := xq 1073 (by decide +kernel) rfl
theorem wq1106 : Cond.methodLink "ShadowCourt" (311) yX10_bitsOfTold ∈ xTB := xq 1106 (by decide +kernel) rfl
theorem wq1107 : Cond.static yX10_bitsOfTold ∈ xTB := xq 1107 (by decide +kernel) rfl
theorem wq1153 : Cond.constant "ShadowCourt" (299) (65535) ∈ xTB := xq 1153 (by decide +kernel) rfl
theorem wn198 : Cond.fieldLinkNest "ShadowCourt" (91) "ShadowCourt$Tape" "length" "I" "ShadowCourt" ∈ xNL := xn 198 (by decide +kernel) rfl
theorem wn263 : Cond.fieldLinkNest "ShadowCourt" (134) "ShadowCourt$Law" "clauses" "I" "ShadowCourt" ∈ xNL := xn 263 (by decide +kernel) rfl
theorem wn341 : Cond.fieldLinkNest "ShadowCourt" (229) "ShadowCourt$Shadows" "size" "I" "ShadowCourt" ∈ xNL := xn 341 (by decide +kernel) rfl
theorem wn356 : Cond.fieldLinkNest "ShadowCourt" (160) "ShadowCourt$Clock" "lampSpot" "[I" "ShadowCourt" ∈ xNL := xn 356 (by decide +kernel) rfl
theorem wn360 : Cond.fieldLinkNest "ShadowCourt" (225) "ShadowCourt$Clock" "shadows" "LShadowCourt$Shadows;" "ShadowCourt" ∈ xNL := xn 360 (by decide +kernel) rfl
theorem wn385 : Cond.fieldLinkNest "ShadowCourt" (141) "ShadowCourt$Day" "judgeSpot" "[I" "ShadowCourt" ∈ xNL := xn 385 (by decide +kernel) rfl
theorem wn391 : Cond.fieldLinkNest "ShadowCourt" (191) "ShadowCourt$Day" "felonSpot" "[I" "ShadowCourt" ∈ xNL := xn 391 (by decide +kernel) rfl
theorem wn403 : Cond.fieldLinkNest "ShadowCourt" (305) "ShadowCourt$Day" "minute" "I" "ShadowCourt" ∈ xNL := xn 403 (by decide +kernel) rfl
theorem wn405 : Cond.fieldLinkNest "ShadowCourt" (300) "ShadowCourt$Day" "drawState" "I" "ShadowCourt" ∈ xNL := xn 405 (by decide +kernel) rfl
theorem wn407 : Cond.fieldLinkNest "ShadowCourt" (175) "ShadowCourt$Day" "timesAway" "I" "ShadowCourt" ∈ xNL := xn 407 (by decide +kernel) rfl
theorem wn411 : Cond.fieldLinkNest "ShadowCourt" (182) "ShadowCourt$Day" "cloudyMinutes" "I" "ShadowCourt" ∈ xNL := xn 411 (by decide +kernel) rfl
theorem wn413 : Cond.fieldLinkNest "ShadowCourt" (185) "ShadowCourt$Day" "felonSteps" "I" "ShadowCourt" ∈ xNL := xn 413 (by decide +kernel) rfl
theorem wn458 : Cond.fieldLinkNest "ShadowCourt" (251) "ShadowCourt$Foresight" "bestFelon" "I" "ShadowCourt" ∈ xNL := xn 458 (by decide +kernel) rfl
theorem wn460 : Cond.fieldLinkNest "ShadowCourt" (263) "ShadowCourt$Foresight" "shadedMinutes" "[I" "ShadowCourt" ∈ xNL := xn 460 (by decide +kernel) rfl
theorem wn553 : Cond.methodLinkNest "ShadowCourt" (95) yX8_putNumber "ShadowCourt" ∈ xNL := xn 553 (by decide +kernel) rfl
theorem wn605 : Cond.methodLinkNest "ShadowCourt" (110) yX8_drop "ShadowCourt" ∈ xNL := xn 605 (by decide +kernel) rfl
theorem wn621 : Cond.methodLinkNest "ShadowCourt" (156) yX2_setFelon "ShadowCourt" ∈ xNL := xn 621 (by decide +kernel) rfl
theorem wn703 : Cond.methodLinkNest "ShadowCourt" (137) yX6_openSpot "ShadowCourt" ∈ xNL := xn 703 (by decide +kernel) rfl
theorem wn759 : Cond.methodLinkNest "ShadowCourt" (163) yX0_goOn "ShadowCourt" ∈ xNL := xn 759 (by decide +kernel) rfl
theorem wn910 : Cond.methodLinkNest "ShadowCourt" (197) yX2_hasFelon "ShadowCourt" ∈ xNL := xn 910 (by decide +kernel) rfl
theorem wn911 : Cond.methodLinkNest "ShadowCourt" (239) yX2_hasJudge "ShadowCourt" ∈ xNL := xn 911 (by decide +kernel) rfl
theorem wn912 : Cond.methodLinkNest "ShadowCourt" (171) yX3_copyOfNow "ShadowCourt" ∈ xNL := xn 912 (by decide +kernel) rfl
theorem wn924 : Cond.methodLinkNest "ShadowCourt" (178) yX2_howManyDrowned "ShadowCourt" ∈ xNL := xn 924 (by decide +kernel) rfl
theorem wn928 : Cond.methodLinkNest "ShadowCourt" (188) yX2_howManyOweNothing "ShadowCourt" ∈ xNL := xn 928 (by decide +kernel) rfl
theorem wn937 : Cond.methodLinkNest "ShadowCourt" (211) yX0_shadowsAt "ShadowCourt" ∈ xNL := xn 937 (by decide +kernel) rfl
theorem wn949 : Cond.methodLinkNest "ShadowCourt" (214) yX6_spotAt "ShadowCourt" ∈ xNL := xn 949 (by decide +kernel) rfl
theorem wn954 : Cond.methodLinkNest "ShadowCourt" (217) yX0_castCloudless "ShadowCourt" ∈ xNL := xn 954 (by decide +kernel) rfl
theorem wn955 : Cond.methodLinkNest "ShadowCourt" (221) yX1_most "ShadowCourt" ∈ xNL := xn 955 (by decide +kernel) rfl
theorem wn976 : Cond.methodLinkNest "ShadowCourt" (232) yX7_howManyInMore "ShadowCourt" ∈ xNL := xn 976 (by decide +kernel) rfl
theorem wn1037 : Cond.methodLinkNest "ShadowCourt" (248) yX3_bestAhead "ShadowCourt" ∈ xNL := xn 1037 (by decide +kernel) rfl
theorem wn1046 : Cond.methodLinkNest "ShadowCourt" (254) yX3_countShadedMinutes "ShadowCourt" ∈ xNL := xn 1046 (by decide +kernel) rfl
theorem wn1050 : Cond.methodLinkNest "ShadowCourt" (257) yX3_howManyNeverShaded "ShadowCourt" ∈ xNL := xn 1050 (by decide +kernel) rfl
theorem wn1055 : Cond.methodLinkNest "ShadowCourt" (260) yX3_mostShaded "ShadowCourt" ∈ xNL := xn 1055 (by decide +kernel) rfl
theorem wn1067 : Cond.methodLinkNest "ShadowCourt" (324) yX6_kindAt "ShadowCourt" ∈ xNL := xn 1067 (by decide +kernel) rfl
theorem wn1069 : Cond.methodLinkNest "ShadowCourt" (269) yX0_spotsInLampShadows "ShadowCourt" ∈ xNL := xn 1069 (by decide +kernel) rfl
theorem wn1158 : Cond.methodLinkNest "ShadowCourt" (303) yX2_copyFrom "ShadowCourt" ∈ xNL := xn 1158 (by decide +kernel) rfl
theorem wn1176 : Cond.methodLinkNest "ShadowCourt" (315) yX2_owedByAll "ShadowCourt" ∈ xNL := xn 1176 (by decide +kernel) rfl
theorem wn1177 : Cond.methodLinkNest "ShadowCourt" (318) yX4_isNight "ShadowCourt" ∈ xNL := xn 1177 (by decide +kernel) rfl
theorem wn1178 : Cond.methodLinkNest "ShadowCourt" (321) yX2_stepsLeft "ShadowCourt" ∈ xNL := xn 1178 (by decide +kernel) rfl
theorem dX10_atOnce_0 : decode cX10_atOnce 0 = .ok (.iload_n 1, 1) := by decide +kernel
theorem dX10_atOnce_1 : decode cX10_atOnce 1 = .ok (.iconst 0, 1) := by decide +kernel
theorem dX10_atOnce_2 : decode cX10_atOnce 2 = .ok (.iconst 2, 1) := by decide +kernel
theorem dX10_atOnce_3 : decode cX10_atOnce 3 = .ok (.invokestatic 99, 3) := by decide +kernel
theorem dX10_atOnce_6 : decode cX10_atOnce 6 = .ok (.ifCond .ne 5, 3) := by decide +kernel
theorem dX10_atOnce_9 : decode cX10_atOnce 9 = .ok (.iconst (-1), 1) := by decide +kernel
theorem dX10_atOnce_10 : decode cX10_atOnce 10 = .ok (.ireturn, 1) := by decide +kernel
theorem dX10_atOnce_11 : decode cX10_atOnce 11 = .ok (.aload_n 0, 1) := by decide +kernel
theorem dX10_atOnce_12 : decode cX10_atOnce 12 = .ok (.getfield 51, 3) := by decide +kernel
theorem dX10_atOnce_15 : decode cX10_atOnce 15 = .ok (.aload_n 0, 1) := by decide +kernel
theorem dX10_atOnce_16 : decode cX10_atOnce 16 = .ok (.getfield 58, 3) := by decide +kernel
theorem dX10_atOnce_19 : decode cX10_atOnce 19 = .ok (.invokevirtual 217, 3) := by decide +kernel
theorem dX10_atOnce_22 : decode cX10_atOnce 22 = .ok (.iload_n 1, 1) := by decide +kernel
theorem dX10_atOnce_23 : decode cX10_atOnce 23 = .ok (.ifCond .ne 15, 3) := by decide +kernel
theorem dX10_atOnce_26 : decode cX10_atOnce 26 = .ok (.aload_n 0, 1) := by decide +kernel
theorem dX10_atOnce_27 : decode cX10_atOnce 27 = .ok (.getfield 79, 3) := by decide +kernel
theorem dX10_atOnce_30 : decode cX10_atOnce 30 = .ok (.aload_n 0, 1) := by decide +kernel
theorem dX10_atOnce_31 : decode cX10_atOnce 31 = .ok (.getfield 58, 3) := by decide +kernel
theorem dX10_atOnce_34 : decode cX10_atOnce 34 = .ok (.invokevirtual 221, 3) := by decide +kernel
theorem dX10_atOnce_37 : decode cX10_atOnce 37 = .ok (.ireturn, 1) := by decide +kernel
theorem dX10_atOnce_38 : decode cX10_atOnce 38 = .ok (.iload_n 1, 1) := by decide +kernel
theorem dX10_atOnce_39 : decode cX10_atOnce 39 = .ok (.iconst 1, 1) := by decide +kernel
theorem dX10_atOnce_40 : decode cX10_atOnce 40 = .ok (.if_icmp .ne 16, 3) := by decide +kernel
theorem dX10_atOnce_43 : decode cX10_atOnce 43 = .ok (.aload_n 0, 1) := by decide +kernel
theorem dX10_atOnce_44 : decode cX10_atOnce 44 = .ok (.getfield 51, 3) := by decide +kernel
theorem dX10_atOnce_47 : decode cX10_atOnce 47 = .ok (.getfield 225, 3) := by decide +kernel
theorem dX10_atOnce_50 : decode cX10_atOnce 50 = .ok (.getfield 229, 3) := by decide +kernel
theorem dX10_atOnce_53 : decode cX10_atOnce 53 = .ok (.goto 13, 3) := by decide +kernel
theorem dX10_atOnce_56 : decode cX10_atOnce 56 = .ok (.aload_n 0, 1) := by decide +kernel
theorem dX10_atOnce_57 : decode cX10_atOnce 57 = .ok (.getfield 51, 3) := by decide +kernel
theorem dX10_atOnce_60 : decode cX10_atOnce 60 = .ok (.getfield 225, 3) := by decide +kernel
theorem dX10_atOnce_63 : decode cX10_atOnce 63 = .ok (.invokevirtual 232, 3) := by decide +kernel
theorem dX10_atOnce_66 : decode cX10_atOnce 66 = .ok (.ireturn, 1) := by decide +kernel
theorem dX10_canBeTried_0 : decode cX10_canBeTried 0 = .ok (.iload_n 1, 1) := by decide +kernel
theorem dX10_canBeTried_1 : decode cX10_canBeTried 1 = .ok (.bipush 10, 2) := by decide +kernel
theorem dX10_canBeTried_3 : decode cX10_canBeTried 3 = .ok (.bipush 29, 2) := by decide +kernel
theorem dX10_canBeTried_5 : decode cX10_canBeTried 5 = .ok (.invokestatic 99, 3) := by decide +kernel
theorem dX10_canBeTried_8 : decode cX10_canBeTried 8 = .ok (.ifCond .eq 15, 3) := by decide +kernel
theorem dX10_canBeTried_11 : decode cX10_canBeTried 11 = .ok (.aload_n 0, 1) := by decide +kernel
theorem dX10_canBeTried_12 : decode cX10_canBeTried 12 = .ok (.getfield 58, 3) := by decide +kernel
theorem dX10_canBeTried_15 : decode cX10_canBeTried 15 = .ok (.iload_n 1, 1) := by decide +kernel
theorem dX10_canBeTried_16 : decode cX10_canBeTried 16 = .ok (.bipush 10, 2) := by decide +kernel
theorem dX10_canBeTried_18 : decode cX10_canBeTried 18 = .ok (.irem, 1) := by decide +kernel
theorem dX10_canBeTried_19 : decode cX10_canBeTried 19 = .ok (.invokevirtual 197, 3) := by decide +kernel
theorem dX10_canBeTried_22 : decode cX10_canBeTried 22 = .ok (.ireturn, 1) := by decide +kernel
theorem dX10_canBeTried_23 : decode cX10_canBeTried 23 = .ok (.iload_n 1, 1) := by decide +kernel
theorem dX10_canBeTried_24 : decode cX10_canBeTried 24 = .ok (.iconst 0, 1) := by decide +kernel
theorem dX10_canBeTried_25 : decode cX10_canBeTried 25 = .ok (.iconst 5, 1) := by decide +kernel
theorem dX10_canBeTried_26 : decode cX10_canBeTried 26 = .ok (.invokestatic 99, 3) := by decide +kernel
theorem dX10_canBeTried_29 : decode cX10_canBeTried 29 = .ok (.ifCond .ne 28, 3) := by decide +kernel
theorem dX10_canBeTried_32 : decode cX10_canBeTried 32 = .ok (.iload_n 1, 1) := by decide +kernel
theorem dX10_canBeTried_33 : decode cX10_canBeTried 33 = .ok (.bipush 30, 2) := by decide +kernel
theorem dX10_canBeTried_35 : decode cX10_canBeTried 35 = .ok (.bipush 31, 2) := by decide +kernel
theorem dX10_canBeTried_37 : decode cX10_canBeTried 37 = .ok (.invokestatic 99, 3) := by decide +kernel
theorem dX10_canBeTried_40 : decode cX10_canBeTried 40 = .ok (.ifCond .eq 21, 3) := by decide +kernel
theorem dX10_canBeTried_43 : decode cX10_canBeTried 43 = .ok (.aload_n 0, 1) := by decide +kernel
theorem dX10_canBeTried_44 : decode cX10_canBeTried 44 = .ok (.getfield 58, 3) := by decide +kernel
theorem dX10_canBeTried_47 : decode cX10_canBeTried 47 = .ok (.iload_n 1, 1) := by decide +kernel
theorem dX10_canBeTried_48 : decode cX10_canBeTried 48 = .ok (.bipush 30, 2) := by decide +kernel
theorem dX10_canBeTried_50 : decode cX10_canBeTried 50 = .ok (.isub, 1) := by decide +kernel
theorem dX10_canBeTried_51 : decode cX10_canBeTried 51 = .ok (.invokevirtual 239, 3) := by decide +kernel
theorem dX10_canBeTried_54 : decode cX10_canBeTried 54 = .ok (.ifCond .eq 7, 3) := by decide +kernel
theorem dX10_canBeTried_57 : decode cX10_canBeTried 57 = .ok (.iconst 1, 1) := by decide +kernel
theorem dX10_canBeTried_58 : decode cX10_canBeTried 58 = .ok (.goto 4, 3) := by decide +kernel
theorem dX10_canBeTried_61 : decode cX10_canBeTried 61 = .ok (.iconst 0, 1) := by decide +kernel
theorem dX10_canBeTried_62 : decode cX10_canBeTried 62 = .ok (.ireturn, 1) := by decide +kernel
theorem dX10_check_0 : decode cX10_check 0 = .ok (.iload_n 1, 1) := by decide +kernel
theorem dX10_check_1 : decode cX10_check 1 = .ok (.iconst 0, 1) := by decide +kernel
theorem dX10_check_2 : decode cX10_check 2 = .ok (.bipush 10, 2) := by decide +kernel
theorem dX10_check_4 : decode cX10_check 4 = .ok (.invokestatic 99, 3) := by decide +kernel
theorem dX10_check_7 : decode cX10_check 7 = .ok (.ifCond .eq 16, 3) := by decide +kernel
theorem dX10_check_10 : decode cX10_check 10 = .ok (.iconst 4, 1) := by decide +kernel
theorem dX10_check_11 : decode cX10_check 11 = .ok (.iload_n 1, 1) := by decide +kernel
theorem dX10_check_12 : decode cX10_check 12 = .ok (.imul, 1) := by decide +kernel
theorem dX10_check_13 : decode cX10_check 13 = .ok (.aload_n 0, 1) := by decide +kernel
theorem dX10_check_14 : decode cX10_check 14 = .ok (.getfield 10, 3) := by decide +kernel
theorem dX10_check_17 : decode cX10_check 17 = .ok (.getfield 91, 3) := by decide +kernel
theorem dX10_check_20 : decode cX10_check 20 = .ok (.if_icmp .le 6, 3) := by decide +kernel
theorem dX10_check_23 : decode cX10_check 23 = .ok (.bipush (-2), 2) := by decide +kernel
theorem dX10_check_25 : decode cX10_check 25 = .ok (.ireturn, 1) := by decide +kernel
theorem dX10_check_26 : decode cX10_check 26 = .ok (.iconst (-1), 1) := by decide +kernel
theorem dX10_check_27 : decode cX10_check 27 = .ok (.istore_n 2, 1) := by decide +kernel
theorem dX10_check_28 : decode cX10_check 28 = .ok (.iconst 0, 1) := by decide +kernel
theorem dX10_check_29 : decode cX10_check 29 = .ok (.istore_n 3, 1) := by decide +kernel
theorem dX10_check_30 : decode cX10_check 30 = .ok (.iload_n 3, 1) := by decide +kernel
theorem dX10_check_31 : decode cX10_check 31 = .ok (.iload_n 1, 1) := by decide +kernel
theorem dX10_check_32 : decode cX10_check 32 = .ok (.if_icmp .ge 38, 3) := by decide +kernel
theorem dX10_check_35 : decode cX10_check 35 = .ok (.iload_n 2, 1) := by decide +kernel
theorem dX10_check_36 : decode cX10_check 36 = .ok (.iconst (-1), 1) := by decide +kernel
theorem dX10_check_37 : decode cX10_check 37 = .ok (.if_icmp .ne 33, 3) := by decide +kernel
theorem dX10_check_40 : decode cX10_check 40 = .ok (.aload_n 0, 1) := by decide +kernel
theorem dX10_check_41 : decode cX10_check 41 = .ok (.getfield 10, 3) := by decide +kernel
theorem dX10_check_44 : decode cX10_check 44 = .ok (.iconst 4, 1) := by decide +kernel
theorem dX10_check_45 : decode cX10_check 45 = .ok (.iload_n 3, 1) := by decide +kernel
theorem dX10_check_46 : decode cX10_check 46 = .ok (.imul, 1) := by decide +kernel
theorem dX10_check_47 : decode cX10_check 47 = .ok (.invokevirtual 308, 3) := by decide +kernel
theorem dX10_check_50 : decode cX10_check 50 = .ok (.aload_n 0, 1) := by decide +kernel
theorem dX10_check_51 : decode cX10_check 51 = .ok (.getfield 58, 3) := by decide +kernel
theorem dX10_check_54 : decode cX10_check 54 = .ok (.getfield 194, 3) := by decide +kernel
theorem dX10_check_57 : decode cX10_check 57 = .ok (.iload_n 3, 1) := by decide +kernel
theorem dX10_check_58 : decode cX10_check 58 = .ok (.iaload, 1) := by decide +kernel
theorem dX10_check_59 : decode cX10_check 59 = .ok (.if_icmp .eq 5, 3) := by decide +kernel
theorem dX10_check_62 : decode cX10_check 62 = .ok (.iload_n 3, 1) := by decide +kernel
theorem dX10_check_63 : decode cX10_check 63 = .ok (.istore_n 2, 1) := by decide +kernel
theorem dX10_check_64 : decode cX10_check 64 = .ok (.iinc 3 1, 3) := by decide +kernel
theorem dX10_check_67 : decode cX10_check 67 = .ok (.goto (-37), 3) := by decide +kernel
theorem dX10_check_70 : decode cX10_check 70 = .ok (.aload_n 0, 1) := by decide +kernel
theorem dX10_check_71 : decode cX10_check 71 = .ok (.getfield 10, 3) := by decide +kernel
theorem dX10_check_74 : decode cX10_check 74 = .ok (.invokevirtual 110, 3) := by decide +kernel
theorem dX10_check_77 : decode cX10_check 77 = .ok (.iload_n 2, 1) := by decide +kernel
theorem dX10_check_78 : decode cX10_check 78 = .ok (.ireturn, 1) := by decide +kernel
theorem dX10_cloudy_0 : decode cX10_cloudy 0 = .ok (.iload_n 1, 1) := by decide +kernel
theorem dX10_cloudy_1 : decode cX10_cloudy 1 = .ok (.iconst 1, 1) := by decide +kernel
theorem dX10_cloudy_2 : decode cX10_cloudy 2 = .ok (.bipush 10, 2) := by decide +kernel
theorem dX10_cloudy_4 : decode cX10_cloudy 4 = .ok (.invokestatic 99, 3) := by decide +kernel
theorem dX10_cloudy_7 : decode cX10_cloudy 7 = .ok (.ifCond .eq 33, 3) := by decide +kernel
theorem dX10_cloudy_10 : decode cX10_cloudy 10 = .ok (.iload_n 2, 1) := by decide +kernel
theorem dX10_cloudy_11 : decode cX10_cloudy 11 = .ok (.iconst 0, 1) := by decide +kernel
theorem dX10_cloudy_12 : decode cX10_cloudy 12 = .ok (.bipush 90, 2) := by decide +kernel
theorem dX10_cloudy_14 : decode cX10_cloudy 14 = .ok (.invokestatic 99, 3) := by decide +kernel
theorem dX10_cloudy_17 : decode cX10_cloudy 17 = .ok (.ifCond .eq 23, 3) := by decide +kernel
theorem dX10_cloudy_20 : decode cX10_cloudy 20 = .ok (.iload_n 3, 1) := by decide +kernel
theorem dX10_cloudy_21 : decode cX10_cloudy 21 = .ok (.iconst 0, 1) := by decide +kernel
theorem dX10_cloudy_22 : decode cX10_cloudy 22 = .ok (.iconst 2, 1) := by decide +kernel
theorem dX10_cloudy_23 : decode cX10_cloudy 23 = .ok (.invokestatic 99, 3) := by decide +kernel
theorem dX10_cloudy_26 : decode cX10_cloudy 26 = .ok (.ifCond .eq 14, 3) := by decide +kernel
theorem dX10_cloudy_29 : decode cX10_cloudy 29 = .ok (.iload_n 1, 1) := by decide +kernel
theorem dX10_cloudy_30 : decode cX10_cloudy 30 = .ok (.aload_n 0, 1) := by decide +kernel
theorem dX10_cloudy_31 : decode cX10_cloudy 31 = .ok (.getfield 10, 3) := by decide +kernel
theorem dX10_cloudy_34 : decode cX10_cloudy 34 = .ok (.getfield 91, 3) := by decide +kernel
theorem dX10_cloudy_37 : decode cX10_cloudy 37 = .ok (.if_icmp .le 5, 3) := by decide +kernel
theorem dX10_cloudy_40 : decode cX10_cloudy 40 = .ok (.iconst (-1), 1) := by decide +kernel
theorem dX10_cloudy_41 : decode cX10_cloudy 41 = .ok (.ireturn, 1) := by decide +kernel
theorem dX10_cloudy_42 : decode cX10_cloudy 42 = .ok (.aload_n 0, 1) := by decide +kernel
theorem dX10_cloudy_43 : decode cX10_cloudy 43 = .ok (.iload_n 1, 1) := by decide +kernel
theorem dX10_cloudy_44 : decode cX10_cloudy 44 = .ok (.iconst 1, 1) := by decide +kernel
theorem dX10_cloudy_45 : decode cX10_cloudy 45 = .ok (.bipush 9, 2) := by decide +kernel
theorem dX10_cloudy_47 : decode cX10_cloudy 47 = .ok (.invokevirtual 277, 3) := by decide +kernel
theorem dX10_cloudy_50 : decode cX10_cloudy 50 = .ok (.ifCond .eq 8, 3) := by decide +kernel
theorem dX10_cloudy_53 : decode cX10_cloudy 53 = .ok (.bipush (-3), 2) := by decide +kernel
theorem dX10_cloudy_55 : decode cX10_cloudy 55 = .ok (.goto 10, 3) := by decide +kernel
theorem dX10_cloudy_58 : decode cX10_cloudy 58 = .ok (.aload_n 0, 1) := by decide +kernel
theorem dX10_cloudy_59 : decode cX10_cloudy 59 = .ok (.iload_n 1, 1) := by decide +kernel
theorem dX10_cloudy_60 : decode cX10_cloudy 60 = .ok (.iload_n 2, 1) := by decide +kernel
theorem dX10_cloudy_61 : decode cX10_cloudy 61 = .ok (.iload_n 3, 1) := by decide +kernel
theorem dX10_cloudy_62 : decode cX10_cloudy 62 = .ok (.invokevirtual 286, 3) := by decide +kernel
theorem dX10_cloudy_65 : decode cX10_cloudy 65 = .ok (.istore 4, 2) := by decide +kernel
theorem dX10_cloudy_67 : decode cX10_cloudy 67 = .ok (.aload_n 0, 1) := by decide +kernel
theorem dX10_cloudy_68 : decode cX10_cloudy 68 = .ok (.getfield 10, 3) := by decide +kernel
theorem dX10_cloudy_71 : decode cX10_cloudy 71 = .ok (.invokevirtual 110, 3) := by decide +kernel
theorem dX10_cloudy_74 : decode cX10_cloudy 74 = .ok (.iload 4, 2) := by decide +kernel
theorem dX10_cloudy_76 : decode cX10_cloudy 76 = .ok (.ireturn, 1) := by decide +kernel
theorem dX10_count_0 : decode cX10_count 0 = .ok (.iload_n 1, 1) := by decide +kernel
theorem dX10_count_1 : decode cX10_count 1 = .ok (.tableswitch 147 0 8 #[51, 59, 70, 81, 92, 100, 108, 116, 124], 51) := by decide +kernel
theorem dX10_count_52 : decode cX10_count 52 = .ok (.aload_n 0, 1) := by decide +kernel
theorem dX10_count_53 : decode cX10_count 53 = .ok (.getfield 58, 3) := by decide +kernel
theorem dX10_count_56 : decode cX10_count 56 = .ok (.getfield 305, 3) := by decide +kernel
theorem dX10_count_59 : decode cX10_count 59 = .ok (.ireturn, 1) := by decide +kernel
theorem dX10_count_60 : decode cX10_count 60 = .ok (.aload_n 0, 1) := by decide +kernel
theorem dX10_count_61 : decode cX10_count 61 = .ok (.getfield 58, 3) := by decide +kernel
theorem dX10_count_64 : decode cX10_count 64 = .ok (.getfield 141, 3) := by decide +kernel
theorem dX10_count_67 : decode cX10_count 67 = .ok (.invokestatic 311, 3) := by decide +kernel
theorem dX10_count_70 : decode cX10_count 70 = .ok (.ireturn, 1) := by decide +kernel
theorem dX10_count_71 : decode cX10_count 71 = .ok (.aload_n 0, 1) := by decide +kernel
theorem dX10_count_72 : decode cX10_count 72 = .ok (.getfield 58, 3) := by decide +kernel
theorem dX10_count_75 : decode cX10_count 75 = .ok (.getfield 191, 3) := by decide +kernel
theorem dX10_count_78 : decode cX10_count 78 = .ok (.invokestatic 311, 3) := by decide +kernel
theorem dX10_count_81 : decode cX10_count 81 = .ok (.ireturn, 1) := by decide +kernel
theorem dX10_count_82 : decode cX10_count 82 = .ok (.aload_n 0, 1) := by decide +kernel
theorem dX10_count_83 : decode cX10_count 83 = .ok (.getfield 51, 3) := by decide +kernel
theorem dX10_count_86 : decode cX10_count 86 = .ok (.getfield 160, 3) := by decide +kernel
theorem dX10_count_89 : decode cX10_count 89 = .ok (.invokestatic 311, 3) := by decide +kernel
theorem dX10_count_92 : decode cX10_count 92 = .ok (.ireturn, 1) := by decide +kernel
theorem dX10_count_93 : decode cX10_count 93 = .ok (.aload_n 0, 1) := by decide +kernel
theorem dX10_count_94 : decode cX10_count 94 = .ok (.getfield 58, 3) := by decide +kernel
theorem dX10_count_97 : decode cX10_count 97 = .ok (.invokevirtual 315, 3) := by decide +kernel
theorem dX10_count_100 : decode cX10_count 100 = .ok (.ireturn, 1) := by decide +kernel
theorem dX10_count_101 : decode cX10_count 101 = .ok (.aload_n 0, 1) := by decide +kernel
theorem dX10_count_102 : decode cX10_count 102 = .ok (.getfield 26, 3) := by decide +kernel
theorem dX10_count_105 : decode cX10_count 105 = .ok (.getfield 134, 3) := by decide +kernel
theorem dX10_count_108 : decode cX10_count 108 = .ok (.ireturn, 1) := by decide +kernel
theorem dX10_count_109 : decode cX10_count 109 = .ok (.aload_n 0, 1) := by decide +kernel
theorem dX10_count_110 : decode cX10_count 110 = .ok (.getfield 10, 3) := by decide +kernel
theorem dX10_count_113 : decode cX10_count 113 = .ok (.getfield 91, 3) := by decide +kernel
theorem dX10_count_116 : decode cX10_count 116 = .ok (.ireturn, 1) := by decide +kernel
theorem dX10_count_117 : decode cX10_count 117 = .ok (.aload_n 0, 1) := by decide +kernel
theorem dX10_count_118 : decode cX10_count 118 = .ok (.getfield 58, 3) := by decide +kernel
theorem dX10_count_121 : decode cX10_count 121 = .ok (.getfield 300, 3) := by decide +kernel
theorem dX10_count_124 : decode cX10_count 124 = .ok (.ireturn, 1) := by decide +kernel
theorem dX10_count_125 : decode cX10_count 125 = .ok (.aload_n 0, 1) := by decide +kernel
theorem dX10_count_126 : decode cX10_count 126 = .ok (.getfield 26, 3) := by decide +kernel
theorem dX10_count_129 : decode cX10_count 129 = .ok (.aload_n 0, 1) := by decide +kernel
theorem dX10_count_130 : decode cX10_count 130 = .ok (.getfield 58, 3) := by decide +kernel
theorem dX10_count_133 : decode cX10_count 133 = .ok (.getfield 305, 3) := by decide +kernel
theorem dX10_count_136 : decode cX10_count 136 = .ok (.invokevirtual 318, 3) := by decide +kernel
theorem dX10_count_139 : decode cX10_count 139 = .ok (.ifCond .eq 7, 3) := by decide +kernel
theorem dX10_count_142 : decode cX10_count 142 = .ok (.iconst 1, 1) := by decide +kernel
theorem dX10_count_143 : decode cX10_count 143 = .ok (.goto 4, 3) := by decide +kernel
theorem dX10_count_146 : decode cX10_count 146 = .ok (.iconst 0, 1) := by decide +kernel
theorem dX10_count_147 : decode cX10_count 147 = .ok (.ireturn, 1) := by decide +kernel
theorem dX10_count_148 : decode cX10_count 148 = .ok (.iload_n 1, 1) := by decide +kernel
theorem dX10_count_149 : decode cX10_count 149 = .ok (.bipush 10, 2) := by decide +kernel
theorem dX10_count_151 : decode cX10_count 151 = .ok (.bipush 11, 2) := by decide +kernel
theorem dX10_count_153 : decode cX10_count 153 = .ok (.invokestatic 99, 3) := by decide +kernel
theorem dX10_count_156 : decode cX10_count 156 = .ok (.ifCond .eq 16, 3) := by decide +kernel
theorem dX10_count_159 : decode cX10_count 159 = .ok (.aload_n 0, 1) := by decide +kernel
theorem dX10_count_160 : decode cX10_count 160 = .ok (.getfield 58, 3) := by decide +kernel
theorem dX10_count_163 : decode cX10_count 163 = .ok (.getfield 141, 3) := by decide +kernel
theorem dX10_count_166 : decode cX10_count 166 = .ok (.iload_n 1, 1) := by decide +kernel
theorem dX10_count_167 : decode cX10_count 167 = .ok (.bipush 10, 2) := by decide +kernel
theorem dX10_count_169 : decode cX10_count 169 = .ok (.isub, 1) := by decide +kernel
theorem dX10_count_170 : decode cX10_count 170 = .ok (.iaload, 1) := by decide +kernel
theorem dX10_count_171 : decode cX10_count 171 = .ok (.ireturn, 1) := by decide +kernel
theorem dX10_count_172 : decode cX10_count 172 = .ok (.iload_n 1, 1) := by decide +kernel
theorem dX10_count_173 : decode cX10_count 173 = .ok (.bipush 20, 2) := by decide +kernel
theorem dX10_count_175 : decode cX10_count 175 = .ok (.bipush 21, 2) := by decide +kernel
theorem dX10_count_177 : decode cX10_count 177 = .ok (.invokestatic 99, 3) := by decide +kernel
theorem dX10_count_180 : decode cX10_count 180 = .ok (.ifCond .eq 15, 3) := by decide +kernel
theorem dX10_count_183 : decode cX10_count 183 = .ok (.aload_n 0, 1) := by decide +kernel
theorem dX10_count_184 : decode cX10_count 184 = .ok (.getfield 58, 3) := by decide +kernel
theorem dX10_count_187 : decode cX10_count 187 = .ok (.iload_n 1, 1) := by decide +kernel
theorem dX10_count_188 : decode cX10_count 188 = .ok (.bipush 20, 2) := by decide +kernel
theorem dX10_count_190 : decode cX10_count 190 = .ok (.isub, 1) := by decide +kernel
theorem dX10_count_191 : decode cX10_count 191 = .ok (.invokevirtual 321, 3) := by decide +kernel
theorem dX10_count_194 : decode cX10_count 194 = .ok (.ireturn, 1) := by decide +kernel
theorem dX10_count_195 : decode cX10_count 195 = .ok (.iload_n 1, 1) := by decide +kernel
theorem dX10_count_196 : decode cX10_count 196 = .ok (.bipush 30, 2) := by decide +kernel
theorem dX10_count_198 : decode cX10_count 198 = .ok (.bipush 33, 2) := by decide +kernel
theorem dX10_count_200 : decode cX10_count 200 = .ok (.invokestatic 99, 3) := by decide +kernel
theorem dX10_count_203 : decode cX10_count 203 = .ok (.ifCond .eq 16, 3) := by decide +kernel
theorem dX10_count_206 : decode cX10_count 206 = .ok (.aload_n 0, 1) := by decide +kernel
theorem dX10_count_207 : decode cX10_count 207 = .ok (.getfield 51, 3) := by decide +kernel
theorem dX10_count_210 : decode cX10_count 210 = .ok (.getfield 160, 3) := by decide +kernel
theorem dX10_count_213 : decode cX10_count 213 = .ok (.iload_n 1, 1) := by decide +kernel
theorem dX10_count_214 : decode cX10_count 214 = .ok (.bipush 30, 2) := by decide +kernel
theorem dX10_count_216 : decode cX10_count 216 = .ok (.isub, 1) := by decide +kernel
theorem dX10_count_217 : decode cX10_count 217 = .ok (.iaload, 1) := by decide +kernel
theorem dX10_count_218 : decode cX10_count 218 = .ok (.ireturn, 1) := by decide +kernel
theorem dX10_count_219 : decode cX10_count 219 = .ok (.iload_n 1, 1) := by decide +kernel
theorem dX10_count_220 : decode cX10_count 220 = .ok (.bipush 100, 2) := by decide +kernel
theorem dX10_count_222 : decode cX10_count 222 = .ok (.sipush 199, 3) := by decide +kernel
theorem dX10_count_225 : decode cX10_count 225 = .ok (.invokestatic 99, 3) := by decide +kernel
theorem dX10_count_228 : decode cX10_count 228 = .ok (.ifCond .eq 17, 3) := by decide +kernel
theorem dX10_count_231 : decode cX10_count 231 = .ok (.aload_n 0, 1) := by decide +kernel
theorem dX10_count_232 : decode cX10_count 232 = .ok (.getfield 19, 3) := by decide +kernel
theorem dX10_count_235 : decode cX10_count 235 = .ok (.iload_n 1, 1) := by decide +kernel
theorem dX10_count_236 : decode cX10_count 236 = .ok (.bipush 100, 2) := by decide +kernel
theorem dX10_count_238 : decode cX10_count 238 = .ok (.isub, 1) := by decide +kernel
theorem dX10_count_239 : decode cX10_count 239 = .ok (.invokevirtual 324, 3) := by decide +kernel
theorem dX10_count_242 : decode cX10_count 242 = .ok (.goto 4, 3) := by decide +kernel
theorem dX10_count_245 : decode cX10_count 245 = .ok (.iconst (-1), 1) := by decide +kernel
theorem dX10_count_246 : decode cX10_count 246 = .ok (.ireturn, 1) := by decide +kernel
theorem dX10_dark_0 : decode cX10_dark 0 = .ok (.iload_n 1, 1) := by decide +kernel
theorem dX10_dark_1 : decode cX10_dark 1 = .ok (.iconst 1, 1) := by decide +kernel
theorem dX10_dark_2 : decode cX10_dark 2 = .ok (.bipush 60, 2) := by decide +kernel
theorem dX10_dark_4 : decode cX10_dark 4 = .ok (.invokestatic 99, 3) := by decide +kernel
theorem dX10_dark_7 : decode cX10_dark 7 = .ok (.ifCond .eq 12, 3) := by decide +kernel
theorem dX10_dark_10 : decode cX10_dark 10 = .ok (.iload_n 2, 1) := by decide +kernel
theorem dX10_dark_11 : decode cX10_dark 11 = .ok (.iconst 0, 1) := by decide +kernel
theorem dX10_dark_12 : decode cX10_dark 12 = .ok (.iconst 2, 1) := by decide +kernel
theorem dX10_dark_13 : decode cX10_dark 13 = .ok (.invokestatic 99, 3) := by decide +kernel
theorem dX10_dark_16 : decode cX10_dark 16 = .ok (.ifCond .ne 5, 3) := by decide +kernel
theorem dX10_dark_19 : decode cX10_dark 19 = .ok (.iconst (-1), 1) := by decide +kernel
theorem dX10_dark_20 : decode cX10_dark 20 = .ok (.ireturn, 1) := by decide +kernel
theorem dX10_dark_21 : decode cX10_dark 21 = .ok (.aload_n 0, 1) := by decide +kernel
theorem dX10_dark_22 : decode cX10_dark 22 = .ok (.getfield 70, 3) := by decide +kernel
theorem dX10_dark_25 : decode cX10_dark 25 = .ok (.iload_n 1, 1) := by decide +kernel
theorem dX10_dark_26 : decode cX10_dark 26 = .ok (.invokevirtual 254, 3) := by decide +kernel
theorem dX10_dark_29 : decode cX10_dark 29 = .ok (.iload_n 2, 1) := by decide +kernel
theorem dX10_dark_30 : decode cX10_dark 30 = .ok (.ifCond .ne 11, 3) := by decide +kernel
theorem dX10_dark_33 : decode cX10_dark 33 = .ok (.aload_n 0, 1) := by decide +kernel
theorem dX10_dark_34 : decode cX10_dark 34 = .ok (.getfield 70, 3) := by decide +kernel
theorem dX10_dark_37 : decode cX10_dark 37 = .ok (.invokevirtual 257, 3) := by decide +kernel
theorem dX10_dark_40 : decode cX10_dark 40 = .ok (.ireturn, 1) := by decide +kernel
theorem dX10_dark_41 : decode cX10_dark 41 = .ok (.aload_n 0, 1) := by decide +kernel
theorem dX10_dark_42 : decode cX10_dark 42 = .ok (.getfield 70, 3) := by decide +kernel
theorem dX10_dark_45 : decode cX10_dark 45 = .ok (.invokevirtual 260, 3) := by decide +kernel
theorem dX10_dark_48 : decode cX10_dark 48 = .ok (.istore_n 3, 1) := by decide +kernel
theorem dX10_dark_49 : decode cX10_dark 49 = .ok (.iload_n 2, 1) := by decide +kernel
theorem dX10_dark_50 : decode cX10_dark 50 = .ok (.iconst 1, 1) := by decide +kernel
theorem dX10_dark_51 : decode cX10_dark 51 = .ok (.if_icmp .ne 15, 3) := by decide +kernel
theorem dX10_dark_54 : decode cX10_dark 54 = .ok (.iload_n 3, 1) := by decide +kernel
theorem dX10_dark_55 : decode cX10_dark 55 = .ok (.iconst (-1), 1) := by decide +kernel
theorem dX10_dark_56 : decode cX10_dark 56 = .ok (.if_icmp .ne 8, 3) := by decide +kernel
theorem dX10_dark_59 : decode cX10_dark 59 = .ok (.bipush (-2), 2) := by decide +kernel
theorem dX10_dark_61 : decode cX10_dark 61 = .ok (.goto 4, 3) := by decide +kernel
theorem dX10_dark_64 : decode cX10_dark 64 = .ok (.iload_n 3, 1) := by decide +kernel
theorem dX10_dark_65 : decode cX10_dark 65 = .ok (.ireturn, 1) := by decide +kernel
theorem dX10_dark_66 : decode cX10_dark 66 = .ok (.iload_n 3, 1) := by decide +kernel
theorem dX10_dark_67 : decode cX10_dark 67 = .ok (.iconst (-1), 1) := by decide +kernel
theorem dX10_dark_68 : decode cX10_dark 68 = .ok (.if_icmp .ne 7, 3) := by decide +kernel
theorem dX10_dark_71 : decode cX10_dark 71 = .ok (.iconst 0, 1) := by decide +kernel
theorem dX10_dark_72 : decode cX10_dark 72 = .ok (.goto 12, 3) := by decide +kernel
theorem dX10_dark_75 : decode cX10_dark 75 = .ok (.aload_n 0, 1) := by decide +kernel
theorem dX10_dark_76 : decode cX10_dark 76 = .ok (.getfield 70, 3) := by decide +kernel
theorem dX10_dark_79 : decode cX10_dark 79 = .ok (.getfield 263, 3) := by decide +kernel
theorem dX10_dark_82 : decode cX10_dark 82 = .ok (.iload_n 3, 1) := by decide +kernel
theorem dX10_dark_83 : decode cX10_dark 83 = .ok (.iaload, 1) := by decide +kernel
theorem dX10_dark_84 : decode cX10_dark 84 = .ok (.ireturn, 1) := by decide +kernel
theorem dX10_feed_0 : decode cX10_feed 0 = .ok (.aload_n 0, 1) := by decide +kernel
theorem dX10_feed_1 : decode cX10_feed 1 = .ok (.getfield 10, 3) := by decide +kernel
theorem dX10_feed_4 : decode cX10_feed 4 = .ok (.getfield 91, 3) := by decide +kernel
theorem dX10_feed_7 : decode cX10_feed 7 = .ok (.sipush 240, 3) := by decide +kernel
theorem dX10_feed_10 : decode cX10_feed 10 = .ok (.if_icmp .le 5, 3) := by decide +kernel
theorem dX10_feed_13 : decode cX10_feed 13 = .ok (.iconst (-1), 1) := by decide +kernel
theorem dX10_feed_14 : decode cX10_feed 14 = .ok (.ireturn, 1) := by decide +kernel
theorem dX10_feed_15 : decode cX10_feed 15 = .ok (.aload_n 0, 1) := by decide +kernel
theorem dX10_feed_16 : decode cX10_feed 16 = .ok (.getfield 10, 3) := by decide +kernel
theorem dX10_feed_19 : decode cX10_feed 19 = .ok (.iload_n 1, 1) := by decide +kernel
theorem dX10_feed_20 : decode cX10_feed 20 = .ok (.invokevirtual 95, 3) := by decide +kernel
theorem dX10_feed_23 : decode cX10_feed 23 = .ok (.aload_n 0, 1) := by decide +kernel
theorem dX10_feed_24 : decode cX10_feed 24 = .ok (.getfield 10, 3) := by decide +kernel
theorem dX10_feed_27 : decode cX10_feed 27 = .ok (.iload_n 2, 1) := by decide +kernel
theorem dX10_feed_28 : decode cX10_feed 28 = .ok (.invokevirtual 95, 3) := by decide +kernel
theorem dX10_feed_31 : decode cX10_feed 31 = .ok (.aload_n 0, 1) := by decide +kernel
theorem dX10_feed_32 : decode cX10_feed 32 = .ok (.getfield 10, 3) := by decide +kernel
theorem dX10_feed_35 : decode cX10_feed 35 = .ok (.iload_n 3, 1) := by decide +kernel
theorem dX10_feed_36 : decode cX10_feed 36 = .ok (.invokevirtual 95, 3) := by decide +kernel
theorem dX10_feed_39 : decode cX10_feed 39 = .ok (.aload_n 0, 1) := by decide +kernel
theorem dX10_feed_40 : decode cX10_feed 40 = .ok (.getfield 10, 3) := by decide +kernel
theorem dX10_feed_43 : decode cX10_feed 43 = .ok (.iload 4, 2) := by decide +kernel
theorem dX10_feed_45 : decode cX10_feed 45 = .ok (.invokevirtual 95, 3) := by decide +kernel
theorem dX10_feed_48 : decode cX10_feed 48 = .ok (.aload_n 0, 1) := by decide +kernel
theorem dX10_feed_49 : decode cX10_feed 49 = .ok (.getfield 10, 3) := by decide +kernel
theorem dX10_feed_52 : decode cX10_feed 52 = .ok (.iload 5, 2) := by decide +kernel
theorem dX10_feed_54 : decode cX10_feed 54 = .ok (.invokevirtual 95, 3) := by decide +kernel
theorem dX10_feed_57 : decode cX10_feed 57 = .ok (.aload_n 0, 1) := by decide +kernel
theorem dX10_feed_58 : decode cX10_feed 58 = .ok (.getfield 10, 3) := by decide +kernel
theorem dX10_feed_61 : decode cX10_feed 61 = .ok (.getfield 91, 3) := by decide +kernel
theorem dX10_feed_64 : decode cX10_feed 64 = .ok (.ireturn, 1) := by decide +kernel
theorem dX10_felon_0 : decode cX10_felon 0 = .ok (.aload_n 0, 1) := by decide +kernel
theorem dX10_felon_1 : decode cX10_felon 1 = .ok (.getfield 19, 3) := by decide +kernel
theorem dX10_felon_4 : decode cX10_felon 4 = .ok (.iload_n 2, 1) := by decide +kernel
theorem dX10_felon_5 : decode cX10_felon 5 = .ok (.iload_n 3, 1) := by decide +kernel
theorem dX10_felon_6 : decode cX10_felon 6 = .ok (.invokevirtual 137, 3) := by decide +kernel
theorem dX10_felon_9 : decode cX10_felon 9 = .ok (.istore 5, 2) := by decide +kernel
theorem dX10_felon_11 : decode cX10_felon 11 = .ok (.iload_n 1, 1) := by decide +kernel
theorem dX10_felon_12 : decode cX10_felon 12 = .ok (.iconst 0, 1) := by decide +kernel
theorem dX10_felon_13 : decode cX10_felon 13 = .ok (.bipush 9, 2) := by decide +kernel
theorem dX10_felon_15 : decode cX10_felon 15 = .ok (.invokestatic 99, 3) := by decide +kernel
theorem dX10_felon_18 : decode cX10_felon 18 = .ok (.ifCond .eq 21, 3) := by decide +kernel
theorem dX10_felon_21 : decode cX10_felon 21 = .ok (.iload 5, 2) := by decide +kernel
theorem dX10_felon_23 : decode cX10_felon 23 = .ok (.iconst (-1), 1) := by decide +kernel
theorem dX10_felon_24 : decode cX10_felon 24 = .ok (.if_icmp .eq 15, 3) := by decide +kernel
theorem dX10_felon_27 : decode cX10_felon 27 = .ok (.iload 4, 2) := by decide +kernel
theorem dX10_felon_29 : decode cX10_felon 29 = .ok (.iconst 0, 1) := by decide +kernel
theorem dX10_felon_30 : decode cX10_felon 30 = .ok (.sipush 999, 3) := by decide +kernel
theorem dX10_felon_33 : decode cX10_felon 33 = .ok (.invokestatic 99, 3) := by decide +kernel
theorem dX10_felon_36 : decode cX10_felon 36 = .ok (.ifCond .ne 5, 3) := by decide +kernel
theorem dX10_felon_39 : decode cX10_felon 39 = .ok (.iconst 0, 1) := by decide +kernel
theorem dX10_felon_40 : decode cX10_felon 40 = .ok (.ireturn, 1) := by decide +kernel
theorem dX10_felon_41 : decode cX10_felon 41 = .ok (.aload_n 0, 1) := by decide +kernel
theorem dX10_felon_42 : decode cX10_felon 42 = .ok (.getfield 58, 3) := by decide +kernel
theorem dX10_felon_45 : decode cX10_felon 45 = .ok (.iload_n 1, 1) := by decide +kernel
theorem dX10_felon_46 : decode cX10_felon 46 = .ok (.iload 5, 2) := by decide +kernel
theorem dX10_felon_48 : decode cX10_felon 48 = .ok (.iload 4, 2) := by decide +kernel
theorem dX10_felon_50 : decode cX10_felon 50 = .ok (.invokevirtual 156, 3) := by decide +kernel
theorem dX10_felon_53 : decode cX10_felon 53 = .ok (.iconst 1, 1) := by decide +kernel
theorem dX10_felon_54 : decode cX10_felon 54 = .ok (.ireturn, 1) := by decide +kernel
theorem dX10_felonIs_0 : decode cX10_felonIs 0 = .ok (.aload_n 0, 1) := by decide +kernel
theorem dX10_felonIs_1 : decode cX10_felonIs 1 = .ok (.getfield 58, 3) := by decide +kernel
theorem dX10_felonIs_4 : decode cX10_felonIs 4 = .ok (.iload_n 1, 1) := by decide +kernel
theorem dX10_felonIs_5 : decode cX10_felonIs 5 = .ok (.invokevirtual 197, 3) := by decide +kernel
theorem dX10_felonIs_8 : decode cX10_felonIs 8 = .ok (.ifCond .ne 5, 3) := by decide +kernel
theorem dX10_felonIs_11 : decode cX10_felonIs 11 = .ok (.iconst (-1), 1) := by decide +kernel
theorem dX10_felonIs_12 : decode cX10_felonIs 12 = .ok (.ireturn, 1) := by decide +kernel
theorem dX10_felonIs_13 : decode cX10_felonIs 13 = .ok (.iload_n 2, 1) := by decide +kernel
theorem dX10_felonIs_14 : decode cX10_felonIs 14 = .ok (.tableswitch 120 0 5 #[38, 48, 58, 68, 86, 99], 38) := by decide +kernel
theorem dX10_felonIs_52 : decode cX10_felonIs 52 = .ok (.aload_n 0, 1) := by decide +kernel
theorem dX10_felonIs_53 : decode cX10_felonIs 53 = .ok (.getfield 58, 3) := by decide +kernel
theorem dX10_felonIs_56 : decode cX10_felonIs 56 = .ok (.getfield 191, 3) := by decide +kernel
theorem dX10_felonIs_59 : decode cX10_felonIs 59 = .ok (.iload_n 1, 1) := by decide +kernel
theorem dX10_felonIs_60 : decode cX10_felonIs 60 = .ok (.iaload, 1) := by decide +kernel
theorem dX10_felonIs_61 : decode cX10_felonIs 61 = .ok (.ireturn, 1) := by decide +kernel
theorem dX10_felonIs_62 : decode cX10_felonIs 62 = .ok (.aload_n 0, 1) := by decide +kernel
theorem dX10_felonIs_63 : decode cX10_felonIs 63 = .ok (.getfield 58, 3) := by decide +kernel
theorem dX10_felonIs_66 : decode cX10_felonIs 66 = .ok (.getfield 194, 3) := by decide +kernel
theorem dX10_felonIs_69 : decode cX10_felonIs 69 = .ok (.iload_n 1, 1) := by decide +kernel
theorem dX10_felonIs_70 : decode cX10_felonIs 70 = .ok (.iaload, 1) := by decide +kernel
theorem dX10_felonIs_71 : decode cX10_felonIs 71 = .ok (.ireturn, 1) := by decide +kernel
theorem dX10_felonIs_72 : decode cX10_felonIs 72 = .ok (.aload_n 0, 1) := by decide +kernel
theorem dX10_felonIs_73 : decode cX10_felonIs 73 = .ok (.getfield 58, 3) := by decide +kernel
theorem dX10_felonIs_76 : decode cX10_felonIs 76 = .ok (.getfield 200, 3) := by decide +kernel
theorem dX10_felonIs_79 : decode cX10_felonIs 79 = .ok (.iload_n 1, 1) := by decide +kernel
theorem dX10_felonIs_80 : decode cX10_felonIs 80 = .ok (.iaload, 1) := by decide +kernel
theorem dX10_felonIs_81 : decode cX10_felonIs 81 = .ok (.ireturn, 1) := by decide +kernel
theorem dX10_felonIs_82 : decode cX10_felonIs 82 = .ok (.aload_n 0, 1) := by decide +kernel
theorem dX10_felonIs_83 : decode cX10_felonIs 83 = .ok (.getfield 58, 3) := by decide +kernel
theorem dX10_felonIs_86 : decode cX10_felonIs 86 = .ok (.getfield 203, 3) := by decide +kernel
theorem dX10_felonIs_89 : decode cX10_felonIs 89 = .ok (.iload_n 1, 1) := by decide +kernel
theorem dX10_felonIs_90 : decode cX10_felonIs 90 = .ok (.baload, 1) := by decide +kernel
theorem dX10_felonIs_91 : decode cX10_felonIs 91 = .ok (.ifCond .eq 7, 3) := by decide +kernel
theorem dX10_felonIs_94 : decode cX10_felonIs 94 = .ok (.iconst 1, 1) := by decide +kernel
theorem dX10_felonIs_95 : decode cX10_felonIs 95 = .ok (.goto 4, 3) := by decide +kernel
theorem dX10_felonIs_98 : decode cX10_felonIs 98 = .ok (.iconst 0, 1) := by decide +kernel
theorem dX10_felonIs_99 : decode cX10_felonIs 99 = .ok (.ireturn, 1) := by decide +kernel
theorem dX10_felonIs_100 : decode cX10_felonIs 100 = .ok (.aload_n 0, 1) := by decide +kernel
theorem dX10_felonIs_101 : decode cX10_felonIs 101 = .ok (.getfield 51, 3) := by decide +kernel
theorem dX10_felonIs_104 : decode cX10_felonIs 104 = .ok (.aload_n 0, 1) := by decide +kernel
theorem dX10_felonIs_105 : decode cX10_felonIs 105 = .ok (.getfield 58, 3) := by decide +kernel
theorem dX10_felonIs_108 : decode cX10_felonIs 108 = .ok (.iload_n 1, 1) := by decide +kernel
theorem dX10_felonIs_109 : decode cX10_felonIs 109 = .ok (.invokevirtual 207, 3) := by decide +kernel
theorem dX10_felonIs_112 : decode cX10_felonIs 112 = .ok (.ireturn, 1) := by decide +kernel
theorem dX10_felonIs_113 : decode cX10_felonIs 113 = .ok (.aload_n 0, 1) := by decide +kernel
theorem dX10_felonIs_114 : decode cX10_felonIs 114 = .ok (.getfield 51, 3) := by decide +kernel
theorem dX10_felonIs_117 : decode cX10_felonIs 117 = .ok (.aload_n 0, 1) := by decide +kernel
theorem dX10_felonIs_118 : decode cX10_felonIs 118 = .ok (.getfield 58, 3) := by decide +kernel
theorem dX10_felonIs_121 : decode cX10_felonIs 121 = .ok (.aload_n 0, 1) := by decide +kernel
theorem dX10_felonIs_122 : decode cX10_felonIs 122 = .ok (.getfield 58, 3) := by decide +kernel
theorem dX10_felonIs_125 : decode cX10_felonIs 125 = .ok (.getfield 191, 3) := by decide +kernel
theorem dX10_felonIs_128 : decode cX10_felonIs 128 = .ok (.iload_n 1, 1) := by decide +kernel
theorem dX10_felonIs_129 : decode cX10_felonIs 129 = .ok (.iaload, 1) := by decide +kernel
theorem dX10_felonIs_130 : decode cX10_felonIs 130 = .ok (.invokevirtual 211, 3) := by decide +kernel
theorem dX10_felonIs_133 : decode cX10_felonIs 133 = .ok (.ireturn, 1) := by decide +kernel
theorem dX10_felonIs_134 : decode cX10_felonIs 134 = .ok (.iconst (-1), 1) := by decide +kernel
theorem dX10_felonIs_135 : decode cX10_felonIs 135 = .ok (.ireturn, 1) := by decide +kernel
theorem dX10_fewest_0 : decode cX10_fewest 0 = .ok (.aload_n 0, 1) := by decide +kernel
theorem dX10_fewest_1 : decode cX10_fewest 1 = .ok (.getfield 58, 3) := by decide +kernel
theorem dX10_fewest_4 : decode cX10_fewest 4 = .ok (.iload_n 1, 1) := by decide +kernel
theorem dX10_fewest_5 : decode cX10_fewest 5 = .ok (.invokevirtual 197, 3) := by decide +kernel
theorem dX10_fewest_8 : decode cX10_fewest 8 = .ok (.ifCond .eq 22, 3) := by decide +kernel
theorem dX10_fewest_11 : decode cX10_fewest 11 = .ok (.iload_n 2, 1) := by decide +kernel
theorem dX10_fewest_12 : decode cX10_fewest 12 = .ok (.iconst 1, 1) := by decide +kernel
theorem dX10_fewest_13 : decode cX10_fewest 13 = .ok (.bipush 30, 2) := by decide +kernel
theorem dX10_fewest_15 : decode cX10_fewest 15 = .ok (.invokestatic 99, 3) := by decide +kernel
theorem dX10_fewest_18 : decode cX10_fewest 18 = .ok (.ifCond .eq 12, 3) := by decide +kernel
theorem dX10_fewest_21 : decode cX10_fewest 21 = .ok (.iload_n 3, 1) := by decide +kernel
theorem dX10_fewest_22 : decode cX10_fewest 22 = .ok (.iconst 1, 1) := by decide +kernel
theorem dX10_fewest_23 : decode cX10_fewest 23 = .ok (.iload_n 2, 1) := by decide +kernel
theorem dX10_fewest_24 : decode cX10_fewest 24 = .ok (.invokestatic 99, 3) := by decide +kernel
theorem dX10_fewest_27 : decode cX10_fewest 27 = .ok (.ifCond .ne 5, 3) := by decide +kernel
theorem dX10_fewest_30 : decode cX10_fewest 30 = .ok (.iconst (-1), 1) := by decide +kernel
theorem dX10_fewest_31 : decode cX10_fewest 31 = .ok (.ireturn, 1) := by decide +kernel
theorem dX10_fewest_32 : decode cX10_fewest 32 = .ok (.aload_n 0, 1) := by decide +kernel
theorem dX10_fewest_33 : decode cX10_fewest 33 = .ok (.getfield 70, 3) := by decide +kernel
theorem dX10_fewest_36 : decode cX10_fewest 36 = .ok (.aload_n 0, 1) := by decide +kernel
theorem dX10_fewest_37 : decode cX10_fewest 37 = .ok (.getfield 58, 3) := by decide +kernel
theorem dX10_fewest_40 : decode cX10_fewest 40 = .ok (.getfield 191, 3) := by decide +kernel
theorem dX10_fewest_43 : decode cX10_fewest 43 = .ok (.iload_n 1, 1) := by decide +kernel
theorem dX10_fewest_44 : decode cX10_fewest 44 = .ok (.iaload, 1) := by decide +kernel
theorem dX10_fewest_45 : decode cX10_fewest 45 = .ok (.iload_n 2, 1) := by decide +kernel
theorem dX10_fewest_46 : decode cX10_fewest 46 = .ok (.iload_n 3, 1) := by decide +kernel
theorem dX10_fewest_47 : decode cX10_fewest 47 = .ok (.invokevirtual 235, 3) := by decide +kernel
theorem dX10_fewest_50 : decode cX10_fewest 50 = .ok (.ireturn, 1) := by decide +kernel
theorem dX10_first_0 : decode cX10_first 0 = .ok (.iload_n 1, 1) := by decide +kernel
theorem dX10_first_1 : decode cX10_first 1 = .ok (.iconst 1, 1) := by decide +kernel
theorem dX10_first_2 : decode cX10_first 2 = .ok (.bipush 60, 2) := by decide +kernel
theorem dX10_first_4 : decode cX10_first 4 = .ok (.invokestatic 99, 3) := by decide +kernel
theorem dX10_first_7 : decode cX10_first 7 = .ok (.ifCond .eq 12, 3) := by decide +kernel
theorem dX10_first_10 : decode cX10_first 10 = .ok (.iload_n 2, 1) := by decide +kernel
theorem dX10_first_11 : decode cX10_first 11 = .ok (.iconst 0, 1) := by decide +kernel
theorem dX10_first_12 : decode cX10_first 12 = .ok (.iconst 1, 1) := by decide +kernel
theorem dX10_first_13 : decode cX10_first 13 = .ok (.invokestatic 99, 3) := by decide +kernel
theorem dX10_first_16 : decode cX10_first 16 = .ok (.ifCond .ne 5, 3) := by decide +kernel
theorem dX10_first_19 : decode cX10_first 19 = .ok (.iconst (-1), 1) := by decide +kernel
theorem dX10_first_20 : decode cX10_first 20 = .ok (.ireturn, 1) := by decide +kernel
theorem dX10_first_21 : decode cX10_first 21 = .ok (.aload_n 0, 1) := by decide +kernel
theorem dX10_first_22 : decode cX10_first 22 = .ok (.getfield 70, 3) := by decide +kernel
theorem dX10_first_25 : decode cX10_first 25 = .ok (.iload_n 1, 1) := by decide +kernel
theorem dX10_first_26 : decode cX10_first 26 = .ok (.invokevirtual 248, 3) := by decide +kernel
theorem dX10_first_29 : decode cX10_first 29 = .ok (.istore_n 3, 1) := by decide +kernel
theorem dX10_first_30 : decode cX10_first 30 = .ok (.iload_n 2, 1) := by decide +kernel
theorem dX10_first_31 : decode cX10_first 31 = .ok (.ifCond .ne 13, 3) := by decide +kernel
theorem dX10_first_34 : decode cX10_first 34 = .ok (.aload_n 0, 1) := by decide +kernel
theorem dX10_first_35 : decode cX10_first 35 = .ok (.getfield 70, 3) := by decide +kernel
theorem dX10_first_38 : decode cX10_first 38 = .ok (.getfield 251, 3) := by decide +kernel
theorem dX10_first_41 : decode cX10_first 41 = .ok (.goto 4, 3) := by decide +kernel
theorem dX10_first_44 : decode cX10_first 44 = .ok (.iload_n 3, 1) := by decide +kernel
theorem dX10_first_45 : decode cX10_first 45 = .ok (.ireturn, 1) := by decide +kernel
theorem dX10_home_0 : decode cX10_home 0 = .ok (.aload_n 0, 1) := by decide +kernel
theorem dX10_home_1 : decode cX10_home 1 = .ok (.getfield 58, 3) := by decide +kernel
theorem dX10_home_4 : decode cX10_home 4 = .ok (.iload_n 1, 1) := by decide +kernel
theorem dX10_home_5 : decode cX10_home 5 = .ok (.invokevirtual 239, 3) := by decide +kernel
theorem dX10_home_8 : decode cX10_home 8 = .ok (.ifCond .eq 12, 3) := by decide +kernel
theorem dX10_home_11 : decode cX10_home 11 = .ok (.iload_n 2, 1) := by decide +kernel
theorem dX10_home_12 : decode cX10_home 12 = .ok (.iconst 1, 1) := by decide +kernel
theorem dX10_home_13 : decode cX10_home 13 = .ok (.iconst 5, 1) := by decide +kernel
theorem dX10_home_14 : decode cX10_home 14 = .ok (.invokestatic 99, 3) := by decide +kernel
theorem dX10_home_17 : decode cX10_home 17 = .ok (.ifCond .ne 5, 3) := by decide +kernel
theorem dX10_home_20 : decode cX10_home 20 = .ok (.iconst (-1), 1) := by decide +kernel
theorem dX10_home_21 : decode cX10_home 21 = .ok (.ireturn, 1) := by decide +kernel
theorem dX10_home_22 : decode cX10_home 22 = .ok (.iload_n 3, 1) := by decide +kernel
theorem dX10_home_23 : decode cX10_home 23 = .ok (.bipush 10, 2) := by decide +kernel
theorem dX10_home_25 : decode cX10_home 25 = .ok (.if_icmp .eq 16, 3) := by decide +kernel
theorem dX10_home_28 : decode cX10_home 28 = .ok (.iload_n 3, 1) := by decide +kernel
theorem dX10_home_29 : decode cX10_home 29 = .ok (.iconst 0, 1) := by decide +kernel
theorem dX10_home_30 : decode cX10_home 30 = .ok (.iload_n 2, 1) := by decide +kernel
theorem dX10_home_31 : decode cX10_home 31 = .ok (.iconst 1, 1) := by decide +kernel
theorem dX10_home_32 : decode cX10_home 32 = .ok (.isub, 1) := by decide +kernel
theorem dX10_home_33 : decode cX10_home 33 = .ok (.invokestatic 99, 3) := by decide +kernel
theorem dX10_home_36 : decode cX10_home 36 = .ok (.ifCond .ne 5, 3) := by decide +kernel
theorem dX10_home_39 : decode cX10_home 39 = .ok (.iconst (-1), 1) := by decide +kernel
theorem dX10_home_40 : decode cX10_home 40 = .ok (.ireturn, 1) := by decide +kernel
theorem dX10_home_41 : decode cX10_home 41 = .ok (.aload_n 0, 1) := by decide +kernel
theorem dX10_home_42 : decode cX10_home 42 = .ok (.getfield 70, 3) := by decide +kernel
theorem dX10_home_45 : decode cX10_home 45 = .ok (.iload_n 1, 1) := by decide +kernel
theorem dX10_home_46 : decode cX10_home 46 = .ok (.iload_n 2, 1) := by decide +kernel
theorem dX10_home_47 : decode cX10_home 47 = .ok (.invokevirtual 242, 3) := by decide +kernel
theorem dX10_home_50 : decode cX10_home 50 = .ok (.istore 4, 2) := by decide +kernel
theorem dX10_home_52 : decode cX10_home 52 = .ok (.iload_n 3, 1) := by decide +kernel
theorem dX10_home_53 : decode cX10_home 53 = .ok (.bipush 10, 2) := by decide +kernel
theorem dX10_home_55 : decode cX10_home 55 = .ok (.if_icmp .ne 8, 3) := by decide +kernel
theorem dX10_home_58 : decode cX10_home 58 = .ok (.iload 4, 2) := by decide +kernel
theorem dX10_home_60 : decode cX10_home 60 = .ok (.goto 12, 3) := by decide +kernel
theorem dX10_home_63 : decode cX10_home 63 = .ok (.aload_n 0, 1) := by decide +kernel
theorem dX10_home_64 : decode cX10_home 64 = .ok (.getfield 70, 3) := by decide +kernel
theorem dX10_home_67 : decode cX10_home 67 = .ok (.getfield 245, 3) := by decide +kernel
theorem dX10_home_70 : decode cX10_home 70 = .ok (.iload_n 3, 1) := by decide +kernel
theorem dX10_home_71 : decode cX10_home 71 = .ok (.iaload, 1) := by decide +kernel
theorem dX10_home_72 : decode cX10_home 72 = .ok (.ireturn, 1) := by decide +kernel
theorem dX10_hung_0 : decode cX10_hung 0 = .ok (.iload_n 1, 1) := by decide +kernel
theorem dX10_hung_1 : decode cX10_hung 1 = .ok (.iconst 0, 1) := by decide +kernel
theorem dX10_hung_2 : decode cX10_hung 2 = .ok (.iconst 1, 1) := by decide +kernel
theorem dX10_hung_3 : decode cX10_hung 3 = .ok (.invokestatic 99, 3) := by decide +kernel
theorem dX10_hung_6 : decode cX10_hung 6 = .ok (.ifCond .ne 5, 3) := by decide +kernel
theorem dX10_hung_9 : decode cX10_hung 9 = .ok (.iconst (-1), 1) := by decide +kernel
theorem dX10_hung_10 : decode cX10_hung 10 = .ok (.ireturn, 1) := by decide +kernel
theorem dX10_hung_11 : decode cX10_hung 11 = .ok (.bipush (-2), 2) := by decide +kernel
theorem dX10_hung_13 : decode cX10_hung 13 = .ok (.istore_n 2, 1) := by decide +kernel
theorem dX10_hung_14 : decode cX10_hung 14 = .ok (.iconst (-1), 1) := by decide +kernel
theorem dX10_hung_15 : decode cX10_hung 15 = .ok (.istore_n 3, 1) := by decide +kernel
theorem dX10_hung_16 : decode cX10_hung 16 = .ok (.iconst 0, 1) := by decide +kernel
theorem dX10_hung_17 : decode cX10_hung 17 = .ok (.istore 4, 2) := by decide +kernel
theorem dX10_hung_19 : decode cX10_hung 19 = .ok (.iload 4, 2) := by decide +kernel
theorem dX10_hung_21 : decode cX10_hung 21 = .ok (.bipush 100, 2) := by decide +kernel
theorem dX10_hung_23 : decode cX10_hung 23 = .ok (.if_icmp .ge 48, 3) := by decide +kernel
theorem dX10_hung_26 : decode cX10_hung 26 = .ok (.aload_n 0, 1) := by decide +kernel
theorem dX10_hung_27 : decode cX10_hung 27 = .ok (.iload 4, 2) := by decide +kernel
theorem dX10_hung_29 : decode cX10_hung 29 = .ok (.invokevirtual 266, 3) := by decide +kernel
theorem dX10_hung_32 : decode cX10_hung 32 = .ok (.ifCond .ne 6, 3) := by decide +kernel
theorem dX10_hung_35 : decode cX10_hung 35 = .ok (.goto 30, 3) := by decide +kernel
theorem dX10_hung_38 : decode cX10_hung 38 = .ok (.aload_n 0, 1) := by decide +kernel
theorem dX10_hung_39 : decode cX10_hung 39 = .ok (.getfield 51, 3) := by decide +kernel
theorem dX10_hung_42 : decode cX10_hung 42 = .ok (.aload_n 0, 1) := by decide +kernel
theorem dX10_hung_43 : decode cX10_hung 43 = .ok (.getfield 58, 3) := by decide +kernel
theorem dX10_hung_46 : decode cX10_hung 46 = .ok (.iload 4, 2) := by decide +kernel
theorem dX10_hung_48 : decode cX10_hung 48 = .ok (.invokevirtual 269, 3) := by decide +kernel
theorem dX10_hung_51 : decode cX10_hung 51 = .ok (.istore 5, 2) := by decide +kernel
theorem dX10_hung_53 : decode cX10_hung 53 = .ok (.iload 5, 2) := by decide +kernel
theorem dX10_hung_55 : decode cX10_hung 55 = .ok (.iload_n 3, 1) := by decide +kernel
theorem dX10_hung_56 : decode cX10_hung 56 = .ok (.if_icmp .le 9, 3) := by decide +kernel
theorem dX10_hung_59 : decode cX10_hung 59 = .ok (.iload 5, 2) := by decide +kernel
theorem dX10_hung_61 : decode cX10_hung 61 = .ok (.istore_n 3, 1) := by decide +kernel
theorem dX10_hung_62 : decode cX10_hung 62 = .ok (.iload 4, 2) := by decide +kernel
theorem dX10_hung_64 : decode cX10_hung 64 = .ok (.istore_n 2, 1) := by decide +kernel
theorem dX10_hung_65 : decode cX10_hung 65 = .ok (.iinc 4 1, 3) := by decide +kernel
theorem dX10_hung_68 : decode cX10_hung 68 = .ok (.goto (-49), 3) := by decide +kernel
theorem dX10_hung_71 : decode cX10_hung 71 = .ok (.iload_n 1, 1) := by decide +kernel
theorem dX10_hung_72 : decode cX10_hung 72 = .ok (.ifCond .ne 7, 3) := by decide +kernel
theorem dX10_hung_75 : decode cX10_hung 75 = .ok (.iload_n 2, 1) := by decide +kernel
theorem dX10_hung_76 : decode cX10_hung 76 = .ok (.goto 8, 3) := by decide +kernel
theorem dX10_hung_79 : decode cX10_hung 79 = .ok (.iload_n 3, 1) := by decide +kernel
theorem dX10_hung_80 : decode cX10_hung 80 = .ok (.iconst 0, 1) := by decide +kernel
theorem dX10_hung_81 : decode cX10_hung 81 = .ok (.invokestatic 272, 3) := by decide +kernel
theorem dX10_hung_84 : decode cX10_hung 84 = .ok (.ireturn, 1) := by decide +kernel
theorem dX10_isFreeForLamp_0 : decode cX10_isFreeForLamp 0 = .ok (.aload_n 0, 1) := by decide +kernel
theorem dX10_isFreeForLamp_1 : decode cX10_isFreeForLamp 1 = .ok (.getfield 19, 3) := by decide +kernel
theorem dX10_isFreeForLamp_4 : decode cX10_isFreeForLamp 4 = .ok (.iload_n 1, 1) := by decide +kernel
theorem dX10_isFreeForLamp_5 : decode cX10_isFreeForLamp 5 = .ok (.invokevirtual 324, 3) := by decide +kernel
theorem dX10_isFreeForLamp_8 : decode cX10_isFreeForLamp 8 = .ok (.ifCond .ne 49, 3) := by decide +kernel
theorem dX10_isFreeForLamp_11 : decode cX10_isFreeForLamp 11 = .ok (.aload_n 0, 1) := by decide +kernel
theorem dX10_isFreeForLamp_12 : decode cX10_isFreeForLamp 12 = .ok (.getfield 58, 3) := by decide +kernel
theorem dX10_isFreeForLamp_15 : decode cX10_isFreeForLamp 15 = .ok (.getfield 141, 3) := by decide +kernel
theorem dX10_isFreeForLamp_18 : decode cX10_isFreeForLamp 18 = .ok (.iload_n 1, 1) := by decide +kernel
theorem dX10_isFreeForLamp_19 : decode cX10_isFreeForLamp 19 = .ok (.invokestatic 330, 3) := by decide +kernel
theorem dX10_isFreeForLamp_22 : decode cX10_isFreeForLamp 22 = .ok (.ifCond .ne 35, 3) := by decide +kernel
theorem dX10_isFreeForLamp_25 : decode cX10_isFreeForLamp 25 = .ok (.aload_n 0, 1) := by decide +kernel
theorem dX10_isFreeForLamp_26 : decode cX10_isFreeForLamp 26 = .ok (.getfield 58, 3) := by decide +kernel
theorem dX10_isFreeForLamp_29 : decode cX10_isFreeForLamp 29 = .ok (.getfield 191, 3) := by decide +kernel
theorem dX10_isFreeForLamp_32 : decode cX10_isFreeForLamp 32 = .ok (.iload_n 1, 1) := by decide +kernel
theorem dX10_isFreeForLamp_33 : decode cX10_isFreeForLamp 33 = .ok (.invokestatic 330, 3) := by decide +kernel
theorem dX10_isFreeForLamp_36 : decode cX10_isFreeForLamp 36 = .ok (.ifCond .ne 21, 3) := by decide +kernel
theorem dX10_isFreeForLamp_39 : decode cX10_isFreeForLamp 39 = .ok (.aload_n 0, 1) := by decide +kernel
theorem dX10_isFreeForLamp_40 : decode cX10_isFreeForLamp 40 = .ok (.getfield 51, 3) := by decide +kernel
theorem dX10_isFreeForLamp_43 : decode cX10_isFreeForLamp 43 = .ok (.getfield 160, 3) := by decide +kernel
theorem dX10_isFreeForLamp_46 : decode cX10_isFreeForLamp 46 = .ok (.iload_n 1, 1) := by decide +kernel
theorem dX10_isFreeForLamp_47 : decode cX10_isFreeForLamp 47 = .ok (.invokestatic 330, 3) := by decide +kernel
theorem dX10_isFreeForLamp_50 : decode cX10_isFreeForLamp 50 = .ok (.ifCond .ne 7, 3) := by decide +kernel
theorem dX10_isFreeForLamp_53 : decode cX10_isFreeForLamp 53 = .ok (.iconst 1, 1) := by decide +kernel
theorem dX10_isFreeForLamp_54 : decode cX10_isFreeForLamp 54 = .ok (.goto 4, 3) := by decide +kernel
theorem dX10_isFreeForLamp_57 : decode cX10_isFreeForLamp 57 = .ok (.iconst 0, 1) := by decide +kernel
theorem dX10_isFreeForLamp_58 : decode cX10_isFreeForLamp 58 = .ok (.ireturn, 1) := by decide +kernel
theorem dX10_judge_0 : decode cX10_judge 0 = .ok (.aload_n 0, 1) := by decide +kernel
theorem dX10_judge_1 : decode cX10_judge 1 = .ok (.getfield 19, 3) := by decide +kernel
theorem dX10_judge_4 : decode cX10_judge 4 = .ok (.iload_n 2, 1) := by decide +kernel
theorem dX10_judge_5 : decode cX10_judge 5 = .ok (.iload_n 3, 1) := by decide +kernel
theorem dX10_judge_6 : decode cX10_judge 6 = .ok (.invokevirtual 137, 3) := by decide +kernel
theorem dX10_judge_9 : decode cX10_judge 9 = .ok (.istore 4, 2) := by decide +kernel
theorem dX10_judge_11 : decode cX10_judge 11 = .ok (.iload_n 1, 1) := by decide +kernel
theorem dX10_judge_12 : decode cX10_judge 12 = .ok (.iconst 0, 1) := by decide +kernel
theorem dX10_judge_13 : decode cX10_judge 13 = .ok (.iconst 1, 1) := by decide +kernel
theorem dX10_judge_14 : decode cX10_judge 14 = .ok (.invokestatic 99, 3) := by decide +kernel
theorem dX10_judge_17 : decode cX10_judge 17 = .ok (.ifCond .eq 25, 3) := by decide +kernel
theorem dX10_judge_20 : decode cX10_judge 20 = .ok (.iload 4, 2) := by decide +kernel
theorem dX10_judge_22 : decode cX10_judge 22 = .ok (.iconst (-1), 1) := by decide +kernel
theorem dX10_judge_23 : decode cX10_judge 23 = .ok (.if_icmp .eq 19, 3) := by decide +kernel
theorem dX10_judge_26 : decode cX10_judge 26 = .ok (.aload_n 0, 1) := by decide +kernel
theorem dX10_judge_27 : decode cX10_judge 27 = .ok (.getfield 58, 3) := by decide +kernel
theorem dX10_judge_30 : decode cX10_judge 30 = .ok (.getfield 141, 3) := by decide +kernel
theorem dX10_judge_33 : decode cX10_judge 33 = .ok (.iconst 1, 1) := by decide +kernel
theorem dX10_judge_34 : decode cX10_judge 34 = .ok (.iload_n 1, 1) := by decide +kernel
theorem dX10_judge_35 : decode cX10_judge 35 = .ok (.isub, 1) := by decide +kernel
theorem dX10_judge_36 : decode cX10_judge 36 = .ok (.iaload, 1) := by decide +kernel
theorem dX10_judge_37 : decode cX10_judge 37 = .ok (.iload 4, 2) := by decide +kernel
theorem dX10_judge_39 : decode cX10_judge 39 = .ok (.if_icmp .ne 5, 3) := by decide +kernel
theorem dX10_judge_42 : decode cX10_judge 42 = .ok (.iconst 0, 1) := by decide +kernel
theorem dX10_judge_43 : decode cX10_judge 43 = .ok (.ireturn, 1) := by decide +kernel
theorem dX10_judge_44 : decode cX10_judge 44 = .ok (.aload_n 0, 1) := by decide +kernel
theorem dX10_judge_45 : decode cX10_judge 45 = .ok (.getfield 58, 3) := by decide +kernel
theorem dX10_judge_48 : decode cX10_judge 48 = .ok (.getfield 141, 3) := by decide +kernel
theorem dX10_judge_51 : decode cX10_judge 51 = .ok (.iload_n 1, 1) := by decide +kernel
theorem dX10_judge_52 : decode cX10_judge 52 = .ok (.iload 4, 2) := by decide +kernel
theorem dX10_judge_54 : decode cX10_judge 54 = .ok (.iastore, 1) := by decide +kernel
theorem dX10_judge_55 : decode cX10_judge 55 = .ok (.iconst 1, 1) := by decide +kernel
theorem dX10_judge_56 : decode cX10_judge 56 = .ok (.ireturn, 1) := by decide +kernel
theorem dX10_keep_0 : decode cX10_keep 0 = .ok (.aload_n 0, 1) := by decide +kernel
theorem dX10_keep_1 : decode cX10_keep 1 = .ok (.getfield 62, 3) := by decide +kernel
theorem dX10_keep_4 : decode cX10_keep 4 = .ok (.aload_n 0, 1) := by decide +kernel
theorem dX10_keep_5 : decode cX10_keep 5 = .ok (.getfield 58, 3) := by decide +kernel
theorem dX10_keep_8 : decode cX10_keep 8 = .ok (.invokevirtual 303, 3) := by decide +kernel
theorem dX10_keep_11 : decode cX10_keep 11 = .ok (.aload_n 0, 1) := by decide +kernel
theorem dX10_keep_12 : decode cX10_keep 12 = .ok (.iconst 1, 1) := by decide +kernel
theorem dX10_keep_13 : decode cX10_keep 13 = .ok (.putfield 87, 3) := by decide +kernel
theorem dX10_keep_16 : decode cX10_keep 16 = .ok (.aload_n 0, 1) := by decide +kernel
theorem dX10_keep_17 : decode cX10_keep 17 = .ok (.getfield 58, 3) := by decide +kernel
theorem dX10_keep_20 : decode cX10_keep 20 = .ok (.getfield 305, 3) := by decide +kernel
theorem dX10_keep_23 : decode cX10_keep 23 = .ok (.ireturn, 1) := by decide +kernel
theorem dX10_lamp_0 : decode cX10_lamp 0 = .ok (.iload_n 1, 1) := by decide +kernel
theorem dX10_lamp_1 : decode cX10_lamp 1 = .ok (.iconst 0, 1) := by decide +kernel
theorem dX10_lamp_2 : decode cX10_lamp 2 = .ok (.iconst 3, 1) := by decide +kernel
theorem dX10_lamp_3 : decode cX10_lamp 3 = .ok (.invokestatic 99, 3) := by decide +kernel
theorem dX10_lamp_6 : decode cX10_lamp 6 = .ok (.ifCond .ne 5, 3) := by decide +kernel
theorem dX10_lamp_9 : decode cX10_lamp 9 = .ok (.iconst 0, 1) := by decide +kernel
theorem dX10_lamp_10 : decode cX10_lamp 10 = .ok (.ireturn, 1) := by decide +kernel
theorem dX10_lamp_11 : decode cX10_lamp 11 = .ok (.aload_n 0, 1) := by decide +kernel
theorem dX10_lamp_12 : decode cX10_lamp 12 = .ok (.getfield 19, 3) := by decide +kernel
theorem dX10_lamp_15 : decode cX10_lamp 15 = .ok (.iload_n 2, 1) := by decide +kernel
theorem dX10_lamp_16 : decode cX10_lamp 16 = .ok (.iload_n 3, 1) := by decide +kernel
theorem dX10_lamp_17 : decode cX10_lamp 17 = .ok (.invokevirtual 137, 3) := by decide +kernel
theorem dX10_lamp_20 : decode cX10_lamp 20 = .ok (.istore 4, 2) := by decide +kernel
theorem dX10_lamp_22 : decode cX10_lamp 22 = .ok (.iload_n 2, 1) := by decide +kernel
theorem dX10_lamp_23 : decode cX10_lamp 23 = .ok (.iconst (-1), 1) := by decide +kernel
theorem dX10_lamp_24 : decode cX10_lamp 24 = .ok (.if_icmp .eq 11, 3) := by decide +kernel
theorem dX10_lamp_27 : decode cX10_lamp 27 = .ok (.iload 4, 2) := by decide +kernel
theorem dX10_lamp_29 : decode cX10_lamp 29 = .ok (.iconst (-1), 1) := by decide +kernel
theorem dX10_lamp_30 : decode cX10_lamp 30 = .ok (.if_icmp .ne 5, 3) := by decide +kernel
theorem dX10_lamp_33 : decode cX10_lamp 33 = .ok (.iconst 0, 1) := by decide +kernel
theorem dX10_lamp_34 : decode cX10_lamp 34 = .ok (.ireturn, 1) := by decide +kernel
theorem dX10_lamp_35 : decode cX10_lamp 35 = .ok (.aload_n 0, 1) := by decide +kernel
theorem dX10_lamp_36 : decode cX10_lamp 36 = .ok (.getfield 51, 3) := by decide +kernel
theorem dX10_lamp_39 : decode cX10_lamp 39 = .ok (.getfield 160, 3) := by decide +kernel
theorem dX10_lamp_42 : decode cX10_lamp 42 = .ok (.iload_n 1, 1) := by decide +kernel
theorem dX10_lamp_43 : decode cX10_lamp 43 = .ok (.iload 4, 2) := by decide +kernel
theorem dX10_lamp_45 : decode cX10_lamp 45 = .ok (.iastore, 1) := by decide +kernel
theorem dX10_lamp_46 : decode cX10_lamp 46 = .ok (.iconst 1, 1) := by decide +kernel
theorem dX10_lamp_47 : decode cX10_lamp 47 = .ok (.ireturn, 1) := by decide +kernel
theorem dX10_law_0 : decode cX10_law 0 = .ok (.iload_n 1, 1) := by decide +kernel
theorem dX10_law_1 : decode cX10_law 1 = .ok (.iconst 1, 1) := by decide +kernel
theorem dX10_law_2 : decode cX10_law 2 = .ok (.sipush 240, 3) := by decide +kernel
theorem dX10_law_5 : decode cX10_law 5 = .ok (.invokestatic 99, 3) := by decide +kernel
theorem dX10_law_8 : decode cX10_law 8 = .ok (.ifCond .eq 14, 3) := by decide +kernel
theorem dX10_law_11 : decode cX10_law 11 = .ok (.iload_n 1, 1) := by decide +kernel
theorem dX10_law_12 : decode cX10_law 12 = .ok (.aload_n 0, 1) := by decide +kernel
theorem dX10_law_13 : decode cX10_law 13 = .ok (.getfield 10, 3) := by decide +kernel
theorem dX10_law_16 : decode cX10_law 16 = .ok (.getfield 91, 3) := by decide +kernel
theorem dX10_law_19 : decode cX10_law 19 = .ok (.if_icmp .le 5, 3) := by decide +kernel
theorem dX10_law_22 : decode cX10_law 22 = .ok (.iconst (-1), 1) := by decide +kernel
theorem dX10_law_23 : decode cX10_law 23 = .ok (.ireturn, 1) := by decide +kernel
theorem dX10_law_24 : decode cX10_law 24 = .ok (.aload_n 0, 1) := by decide +kernel
theorem dX10_law_25 : decode cX10_law 25 = .ok (.getfield 10, 3) := by decide +kernel
theorem dX10_law_28 : decode cX10_law 28 = .ok (.iload_n 1, 1) := by decide +kernel
theorem dX10_law_29 : decode cX10_law 29 = .ok (.invokevirtual 103, 3) := by decide +kernel
theorem dX10_law_32 : decode cX10_law 32 = .ok (.aload_n 0, 1) := by decide +kernel
theorem dX10_law_33 : decode cX10_law 33 = .ok (.getfield 35, 3) := by decide +kernel
theorem dX10_law_36 : decode cX10_law 36 = .ok (.invokevirtual 123, 3) := by decide +kernel
theorem dX10_law_39 : decode cX10_law 39 = .ok (.istore_n 2, 1) := by decide +kernel
theorem dX10_law_40 : decode cX10_law 40 = .ok (.aload_n 0, 1) := by decide +kernel
theorem dX10_law_41 : decode cX10_law 41 = .ok (.getfield 10, 3) := by decide +kernel
theorem dX10_law_44 : decode cX10_law 44 = .ok (.invokevirtual 110, 3) := by decide +kernel
theorem dX10_law_47 : decode cX10_law 47 = .ok (.iload_n 2, 1) := by decide +kernel
theorem dX10_law_48 : decode cX10_law 48 = .ok (.ifCond .ne 11, 3) := by decide +kernel
theorem dX10_law_51 : decode cX10_law 51 = .ok (.aload_n 0, 1) := by decide +kernel
theorem dX10_law_52 : decode cX10_law 52 = .ok (.getfield 10, 3) := by decide +kernel
theorem dX10_law_55 : decode cX10_law 55 = .ok (.getfield 113, 3) := by decide +kernel
theorem dX10_law_58 : decode cX10_law 58 = .ok (.ireturn, 1) := by decide +kernel
theorem dX10_law_59 : decode cX10_law 59 = .ok (.aload_n 0, 1) := by decide +kernel
theorem dX10_law_60 : decode cX10_law 60 = .ok (.getfield 26, 3) := by decide +kernel
theorem dX10_law_63 : decode cX10_law 63 = .ok (.aload_n 0, 1) := by decide +kernel
theorem dX10_law_64 : decode cX10_law 64 = .ok (.getfield 35, 3) := by decide +kernel
theorem dX10_law_67 : decode cX10_law 67 = .ok (.getfield 127, 3) := by decide +kernel
theorem dX10_law_70 : decode cX10_law 70 = .ok (.invokevirtual 130, 3) := by decide +kernel
theorem dX10_law_73 : decode cX10_law 73 = .ok (.aload_n 0, 1) := by decide +kernel
theorem dX10_law_74 : decode cX10_law 74 = .ok (.getfield 26, 3) := by decide +kernel
theorem dX10_law_77 : decode cX10_law 77 = .ok (.getfield 134, 3) := by decide +kernel
theorem dX10_law_80 : decode cX10_law 80 = .ok (.ireturn, 1) := by decide +kernel
theorem dX10_market_0 : decode cX10_market 0 = .ok (.iload_n 1, 1) := by decide +kernel
theorem dX10_market_1 : decode cX10_market 1 = .ok (.iconst 1, 1) := by decide +kernel
theorem dX10_market_2 : decode cX10_market 2 = .ok (.sipush 140, 3) := by decide +kernel
theorem dX10_market_5 : decode cX10_market 5 = .ok (.invokestatic 99, 3) := by decide +kernel
theorem dX10_market_8 : decode cX10_market 8 = .ok (.ifCond .eq 14, 3) := by decide +kernel
theorem dX10_market_11 : decode cX10_market 11 = .ok (.iload_n 1, 1) := by decide +kernel
theorem dX10_market_12 : decode cX10_market 12 = .ok (.aload_n 0, 1) := by decide +kernel
theorem dX10_market_13 : decode cX10_market 13 = .ok (.getfield 10, 3) := by decide +kernel
theorem dX10_market_16 : decode cX10_market 16 = .ok (.getfield 91, 3) := by decide +kernel
theorem dX10_market_19 : decode cX10_market 19 = .ok (.if_icmp .le 5, 3) := by decide +kernel
theorem dX10_market_22 : decode cX10_market 22 = .ok (.iconst (-1), 1) := by decide +kernel
theorem dX10_market_23 : decode cX10_market 23 = .ok (.ireturn, 1) := by decide +kernel
theorem dX10_market_24 : decode cX10_market 24 = .ok (.aload_n 0, 1) := by decide +kernel
theorem dX10_market_25 : decode cX10_market 25 = .ok (.getfield 10, 3) := by decide +kernel
theorem dX10_market_28 : decode cX10_market 28 = .ok (.iload_n 1, 1) := by decide +kernel
theorem dX10_market_29 : decode cX10_market 29 = .ok (.invokevirtual 103, 3) := by decide +kernel
theorem dX10_market_32 : decode cX10_market 32 = .ok (.aload_n 0, 1) := by decide +kernel
theorem dX10_market_33 : decode cX10_market 33 = .ok (.getfield 19, 3) := by decide +kernel
theorem dX10_market_36 : decode cX10_market 36 = .ok (.aload_n 0, 1) := by decide +kernel
theorem dX10_market_37 : decode cX10_market 37 = .ok (.getfield 10, 3) := by decide +kernel
theorem dX10_market_40 : decode cX10_market 40 = .ok (.invokevirtual 106, 3) := by decide +kernel
theorem dX10_market_43 : decode cX10_market 43 = .ok (.istore_n 2, 1) := by decide +kernel
theorem dX10_market_44 : decode cX10_market 44 = .ok (.aload_n 0, 1) := by decide +kernel
theorem dX10_market_45 : decode cX10_market 45 = .ok (.getfield 10, 3) := by decide +kernel
theorem dX10_market_48 : decode cX10_market 48 = .ok (.invokevirtual 110, 3) := by decide +kernel
theorem dX10_market_51 : decode cX10_market 51 = .ok (.iload_n 2, 1) := by decide +kernel
theorem dX10_market_52 : decode cX10_market 52 = .ok (.ifCond .ne 11, 3) := by decide +kernel
theorem dX10_market_55 : decode cX10_market 55 = .ok (.aload_n 0, 1) := by decide +kernel
theorem dX10_market_56 : decode cX10_market 56 = .ok (.getfield 10, 3) := by decide +kernel
theorem dX10_market_59 : decode cX10_market 59 = .ok (.getfield 113, 3) := by decide +kernel
theorem dX10_market_62 : decode cX10_market 62 = .ok (.ireturn, 1) := by decide +kernel
theorem dX10_market_63 : decode cX10_market 63 = .ok (.aload_n 0, 1) := by decide +kernel
theorem dX10_market_64 : decode cX10_market 64 = .ok (.invokevirtual 116, 3) := by decide +kernel
theorem dX10_market_67 : decode cX10_market 67 = .ok (.aload_n 0, 1) := by decide +kernel
theorem dX10_market_68 : decode cX10_market 68 = .ok (.iconst 0, 1) := by decide +kernel
theorem dX10_market_69 : decode cX10_market 69 = .ok (.putfield 87, 3) := by decide +kernel
theorem dX10_market_72 : decode cX10_market 72 = .ok (.bipush 100, 2) := by decide +kernel
theorem dX10_market_74 : decode cX10_market 74 = .ok (.aload_n 0, 1) := by decide +kernel
theorem dX10_market_75 : decode cX10_market 75 = .ok (.getfield 19, 3) := by decide +kernel
theorem dX10_market_78 : decode cX10_market 78 = .ok (.iconst 0, 1) := by decide +kernel
theorem dX10_market_79 : decode cX10_market 79 = .ok (.invokevirtual 119, 3) := by decide +kernel
theorem dX10_market_82 : decode cX10_market 82 = .ok (.isub, 1) := by decide +kernel
theorem dX10_market_83 : decode cX10_market 83 = .ok (.ireturn, 1) := by decide +kernel
theorem dX10_minutes_0 : decode cX10_minutes 0 = .ok (.iload_n 1, 1) := by decide +kernel
theorem dX10_minutes_1 : decode cX10_minutes 1 = .ok (.iconst 1, 1) := by decide +kernel
theorem dX10_minutes_2 : decode cX10_minutes 2 = .ok (.bipush 120, 2) := by decide +kernel
theorem dX10_minutes_4 : decode cX10_minutes 4 = .ok (.invokestatic 99, 3) := by decide +kernel
theorem dX10_minutes_7 : decode cX10_minutes 7 = .ok (.ifCond .eq 19, 3) := by decide +kernel
theorem dX10_minutes_10 : decode cX10_minutes 10 = .ok (.aload_n 0, 1) := by decide +kernel
theorem dX10_minutes_11 : decode cX10_minutes 11 = .ok (.getfield 51, 3) := by decide +kernel
theorem dX10_minutes_14 : decode cX10_minutes 14 = .ok (.aload_n 0, 1) := by decide +kernel
theorem dX10_minutes_15 : decode cX10_minutes 15 = .ok (.getfield 58, 3) := by decide +kernel
theorem dX10_minutes_18 : decode cX10_minutes 18 = .ok (.iload_n 1, 1) := by decide +kernel
theorem dX10_minutes_19 : decode cX10_minutes 19 = .ok (.iconst (-1), 1) := by decide +kernel
theorem dX10_minutes_20 : decode cX10_minutes 20 = .ok (.invokevirtual 163, 3) := by decide +kernel
theorem dX10_minutes_23 : decode cX10_minutes 23 = .ok (.goto 4, 3) := by decide +kernel
theorem dX10_minutes_26 : decode cX10_minutes 26 = .ok (.iconst (-1), 1) := by decide +kernel
theorem dX10_minutes_27 : decode cX10_minutes 27 = .ok (.ireturn, 1) := by decide +kernel
theorem dX10_prints_0 : decode cX10_prints 0 = .ok (.iload_n 1, 1) := by decide +kernel
theorem dX10_prints_1 : decode cX10_prints 1 = .ok (.iconst 2, 1) := by decide +kernel
theorem dX10_prints_2 : decode cX10_prints 2 = .ok (.bipush 20, 2) := by decide +kernel
theorem dX10_prints_4 : decode cX10_prints 4 = .ok (.invokestatic 99, 3) := by decide +kernel
theorem dX10_prints_7 : decode cX10_prints 7 = .ok (.ifCond .eq 23, 3) := by decide +kernel
theorem dX10_prints_10 : decode cX10_prints 10 = .ok (.iload_n 2, 1) := by decide +kernel
theorem dX10_prints_11 : decode cX10_prints 11 = .ok (.iconst 0, 1) := by decide +kernel
theorem dX10_prints_12 : decode cX10_prints 12 = .ok (.iconst 1, 1) := by decide +kernel
theorem dX10_prints_13 : decode cX10_prints 13 = .ok (.invokestatic 99, 3) := by decide +kernel
theorem dX10_prints_16 : decode cX10_prints 16 = .ok (.ifCond .eq 14, 3) := by decide +kernel
theorem dX10_prints_19 : decode cX10_prints 19 = .ok (.iload_n 1, 1) := by decide +kernel
theorem dX10_prints_20 : decode cX10_prints 20 = .ok (.aload_n 0, 1) := by decide +kernel
theorem dX10_prints_21 : decode cX10_prints 21 = .ok (.getfield 10, 3) := by decide +kernel
theorem dX10_prints_24 : decode cX10_prints 24 = .ok (.getfield 91, 3) := by decide +kernel
theorem dX10_prints_27 : decode cX10_prints 27 = .ok (.if_icmp .le 5, 3) := by decide +kernel
theorem dX10_prints_30 : decode cX10_prints 30 = .ok (.iconst (-1), 1) := by decide +kernel
theorem dX10_prints_31 : decode cX10_prints 31 = .ok (.ireturn, 1) := by decide +kernel
theorem dX10_prints_32 : decode cX10_prints 32 = .ok (.iconst (-1), 1) := by decide +kernel
theorem dX10_prints_33 : decode cX10_prints 33 = .ok (.istore_n 3, 1) := by decide +kernel
theorem dX10_prints_34 : decode cX10_prints 34 = .ok (.aload_n 0, 1) := by decide +kernel
theorem dX10_prints_35 : decode cX10_prints 35 = .ok (.iload_n 1, 1) := by decide +kernel
theorem dX10_prints_36 : decode cX10_prints 36 = .ok (.iconst 0, 1) := by decide +kernel
theorem dX10_prints_37 : decode cX10_prints 37 = .ok (.bipush 99, 2) := by decide +kernel
theorem dX10_prints_39 : decode cX10_prints 39 = .ok (.invokevirtual 277, 3) := by decide +kernel
theorem dX10_prints_42 : decode cX10_prints 42 = .ok (.ifCond .eq 9, 3) := by decide +kernel
theorem dX10_prints_45 : decode cX10_prints 45 = .ok (.bipush (-3), 2) := by decide +kernel
theorem dX10_prints_47 : decode cX10_prints 47 = .ok (.istore_n 3, 1) := by decide +kernel
theorem dX10_prints_48 : decode cX10_prints 48 = .ok (.goto 22, 3) := by decide +kernel
theorem dX10_prints_51 : decode cX10_prints 51 = .ok (.iload_n 2, 1) := by decide +kernel
theorem dX10_prints_52 : decode cX10_prints 52 = .ok (.ifCond .ne 12, 3) := by decide +kernel
theorem dX10_prints_55 : decode cX10_prints 55 = .ok (.aload_n 0, 1) := by decide +kernel
theorem dX10_prints_56 : decode cX10_prints 56 = .ok (.iload_n 1, 1) := by decide +kernel
theorem dX10_prints_57 : decode cX10_prints 57 = .ok (.invokevirtual 280, 3) := by decide +kernel
theorem dX10_prints_60 : decode cX10_prints 60 = .ok (.istore_n 3, 1) := by decide +kernel
theorem dX10_prints_61 : decode cX10_prints 61 = .ok (.goto 9, 3) := by decide +kernel
theorem dX10_prints_64 : decode cX10_prints 64 = .ok (.aload_n 0, 1) := by decide +kernel
theorem dX10_prints_65 : decode cX10_prints 65 = .ok (.iload_n 1, 1) := by decide +kernel
theorem dX10_prints_66 : decode cX10_prints 66 = .ok (.invokevirtual 283, 3) := by decide +kernel
theorem dX10_prints_69 : decode cX10_prints 69 = .ok (.istore_n 3, 1) := by decide +kernel
theorem dX10_prints_70 : decode cX10_prints 70 = .ok (.aload_n 0, 1) := by decide +kernel
theorem dX10_prints_71 : decode cX10_prints 71 = .ok (.getfield 10, 3) := by decide +kernel
theorem dX10_prints_74 : decode cX10_prints 74 = .ok (.invokevirtual 110, 3) := by decide +kernel
theorem dX10_prints_77 : decode cX10_prints 77 = .ok (.iload_n 3, 1) := by decide +kernel
theorem dX10_prints_78 : decode cX10_prints 78 = .ok (.ireturn, 1) := by decide +kernel
theorem dX10_seed_0 : decode cX10_seed 0 = .ok (.iload_n 1, 1) := by decide +kernel
theorem dX10_seed_1 : decode cX10_seed 1 = .ok (.iconst 0, 1) := by decide +kernel
theorem dX10_seed_2 : decode cX10_seed 2 = .ok (.ldc_w 299, 3) := by decide +kernel
theorem dX10_seed_5 : decode cX10_seed 5 = .ok (.invokestatic 99, 3) := by decide +kernel
theorem dX10_seed_8 : decode cX10_seed 8 = .ok (.ifCond .ne 5, 3) := by decide +kernel
theorem dX10_seed_11 : decode cX10_seed 11 = .ok (.iconst 0, 1) := by decide +kernel
theorem dX10_seed_12 : decode cX10_seed 12 = .ok (.ireturn, 1) := by decide +kernel
theorem dX10_seed_13 : decode cX10_seed 13 = .ok (.aload_n 0, 1) := by decide +kernel
theorem dX10_seed_14 : decode cX10_seed 14 = .ok (.getfield 58, 3) := by decide +kernel
theorem dX10_seed_17 : decode cX10_seed 17 = .ok (.iload_n 1, 1) := by decide +kernel
theorem dX10_seed_18 : decode cX10_seed 18 = .ok (.putfield 300, 3) := by decide +kernel
theorem dX10_seed_21 : decode cX10_seed 21 = .ok (.iconst 1, 1) := by decide +kernel
theorem dX10_seed_22 : decode cX10_seed 22 = .ok (.ireturn, 1) := by decide +kernel
theorem dX10_servedBy_0 : decode cX10_servedBy 0 = .ok (.iload_n 1, 1) := by decide +kernel
theorem dX10_servedBy_1 : decode cX10_servedBy 1 = .ok (.iconst 1, 1) := by decide +kernel
theorem dX10_servedBy_2 : decode cX10_servedBy 2 = .ok (.bipush 60, 2) := by decide +kernel
theorem dX10_servedBy_4 : decode cX10_servedBy 4 = .ok (.invokestatic 99, 3) := by decide +kernel
theorem dX10_servedBy_7 : decode cX10_servedBy 7 = .ok (.ifCond .eq 12, 3) := by decide +kernel
theorem dX10_servedBy_10 : decode cX10_servedBy 10 = .ok (.iload_n 2, 1) := by decide +kernel
theorem dX10_servedBy_11 : decode cX10_servedBy 11 = .ok (.iconst 0, 1) := by decide +kernel
theorem dX10_servedBy_12 : decode cX10_servedBy 12 = .ok (.iconst 2, 1) := by decide +kernel
theorem dX10_servedBy_13 : decode cX10_servedBy 13 = .ok (.invokestatic 99, 3) := by decide +kernel
theorem dX10_servedBy_16 : decode cX10_servedBy 16 = .ok (.ifCond .ne 5, 3) := by decide +kernel
theorem dX10_servedBy_19 : decode cX10_servedBy 19 = .ok (.iconst (-1), 1) := by decide +kernel
theorem dX10_servedBy_20 : decode cX10_servedBy 20 = .ok (.ireturn, 1) := by decide +kernel
theorem dX10_servedBy_21 : decode cX10_servedBy 21 = .ok (.iload_n 2, 1) := by decide +kernel
theorem dX10_servedBy_22 : decode cX10_servedBy 22 = .ok (.iconst 1, 1) := by decide +kernel
theorem dX10_servedBy_23 : decode cX10_servedBy 23 = .ok (.if_icmp .eq 14, 3) := by decide +kernel
theorem dX10_servedBy_26 : decode cX10_servedBy 26 = .ok (.aload_n 0, 1) := by decide +kernel
theorem dX10_servedBy_27 : decode cX10_servedBy 27 = .ok (.getfield 58, 3) := by decide +kernel
theorem dX10_servedBy_30 : decode cX10_servedBy 30 = .ok (.iconst 0, 1) := by decide +kernel
theorem dX10_servedBy_31 : decode cX10_servedBy 31 = .ok (.invokevirtual 239, 3) := by decide +kernel
theorem dX10_servedBy_34 : decode cX10_servedBy 34 = .ok (.ifCond .eq 18, 3) := by decide +kernel
theorem dX10_servedBy_37 : decode cX10_servedBy 37 = .ok (.iload_n 2, 1) := by decide +kernel
theorem dX10_servedBy_38 : decode cX10_servedBy 38 = .ok (.ifCond .eq 16, 3) := by decide +kernel
theorem dX10_servedBy_41 : decode cX10_servedBy 41 = .ok (.aload_n 0, 1) := by decide +kernel
theorem dX10_servedBy_42 : decode cX10_servedBy 42 = .ok (.getfield 58, 3) := by decide +kernel
theorem dX10_servedBy_45 : decode cX10_servedBy 45 = .ok (.iconst 1, 1) := by decide +kernel
theorem dX10_servedBy_46 : decode cX10_servedBy 46 = .ok (.invokevirtual 239, 3) := by decide +kernel
theorem dX10_servedBy_49 : decode cX10_servedBy 49 = .ok (.ifCond .ne 5, 3) := by decide +kernel
theorem dX10_servedBy_52 : decode cX10_servedBy 52 = .ok (.iconst (-1), 1) := by decide +kernel
theorem dX10_servedBy_53 : decode cX10_servedBy 53 = .ok (.ireturn, 1) := by decide +kernel
theorem dX10_servedBy_54 : decode cX10_servedBy 54 = .ok (.aload_n 0, 1) := by decide +kernel
theorem dX10_servedBy_55 : decode cX10_servedBy 55 = .ok (.getfield 70, 3) := by decide +kernel
theorem dX10_servedBy_58 : decode cX10_servedBy 58 = .ok (.invokevirtual 171, 3) := by decide +kernel
theorem dX10_servedBy_61 : decode cX10_servedBy 61 = .ok (.astore_n 3, 1) := by decide +kernel
theorem dX10_servedBy_62 : decode cX10_servedBy 62 = .ok (.iload_n 2, 1) := by decide +kernel
theorem dX10_servedBy_63 : decode cX10_servedBy 63 = .ok (.iconst 2, 1) := by decide +kernel
theorem dX10_servedBy_64 : decode cX10_servedBy 64 = .ok (.if_icmp .ge 12, 3) := by decide +kernel
theorem dX10_servedBy_67 : decode cX10_servedBy 67 = .ok (.aload_n 3, 1) := by decide +kernel
theorem dX10_servedBy_68 : decode cX10_servedBy 68 = .ok (.getfield 141, 3) := by decide +kernel
theorem dX10_servedBy_71 : decode cX10_servedBy 71 = .ok (.iconst 1, 1) := by decide +kernel
theorem dX10_servedBy_72 : decode cX10_servedBy 72 = .ok (.iload_n 2, 1) := by decide +kernel
theorem dX10_servedBy_73 : decode cX10_servedBy 73 = .ok (.isub, 1) := by decide +kernel
theorem dX10_servedBy_74 : decode cX10_servedBy 74 = .ok (.iconst (-1), 1) := by decide +kernel
theorem dX10_servedBy_75 : decode cX10_servedBy 75 = .ok (.iastore, 1) := by decide +kernel
theorem dX10_servedBy_76 : decode cX10_servedBy 76 = .ok (.aload_n 0, 1) := by decide +kernel
theorem dX10_servedBy_77 : decode cX10_servedBy 77 = .ok (.getfield 51, 3) := by decide +kernel
theorem dX10_servedBy_80 : decode cX10_servedBy 80 = .ok (.aload_n 3, 1) := by decide +kernel
theorem dX10_servedBy_81 : decode cX10_servedBy 81 = .ok (.iload_n 1, 1) := by decide +kernel
theorem dX10_servedBy_82 : decode cX10_servedBy 82 = .ok (.iconst (-1), 1) := by decide +kernel
theorem dX10_servedBy_83 : decode cX10_servedBy 83 = .ok (.invokevirtual 163, 3) := by decide +kernel
theorem dX10_servedBy_86 : decode cX10_servedBy 86 = .ok (.ireturn, 1) := by decide +kernel
theorem dX10_shade_0 : decode cX10_shade 0 = .ok (.iload_n 1, 1) := by decide +kernel
theorem dX10_shade_1 : decode cX10_shade 1 = .ok (.iload_n 2, 1) := by decide +kernel
theorem dX10_shade_2 : decode cX10_shade 2 = .ok (.invokestatic 214, 3) := by decide +kernel
theorem dX10_shade_5 : decode cX10_shade 5 = .ok (.istore_n 3, 1) := by decide +kernel
theorem dX10_shade_6 : decode cX10_shade 6 = .ok (.iload_n 3, 1) := by decide +kernel
theorem dX10_shade_7 : decode cX10_shade 7 = .ok (.iconst (-1), 1) := by decide +kernel
theorem dX10_shade_8 : decode cX10_shade 8 = .ok (.if_icmp .ne 7, 3) := by decide +kernel
theorem dX10_shade_11 : decode cX10_shade 11 = .ok (.iconst (-1), 1) := by decide +kernel
theorem dX10_shade_12 : decode cX10_shade 12 = .ok (.goto 15, 3) := by decide +kernel
theorem dX10_shade_15 : decode cX10_shade 15 = .ok (.aload_n 0, 1) := by decide +kernel
theorem dX10_shade_16 : decode cX10_shade 16 = .ok (.getfield 51, 3) := by decide +kernel
theorem dX10_shade_19 : decode cX10_shade 19 = .ok (.aload_n 0, 1) := by decide +kernel
theorem dX10_shade_20 : decode cX10_shade 20 = .ok (.getfield 58, 3) := by decide +kernel
theorem dX10_shade_23 : decode cX10_shade 23 = .ok (.iload_n 3, 1) := by decide +kernel
theorem dX10_shade_24 : decode cX10_shade 24 = .ok (.invokevirtual 211, 3) := by decide +kernel
theorem dX10_shade_27 : decode cX10_shade 27 = .ok (.ireturn, 1) := by decide +kernel
theorem dX10_together_0 : decode cX10_together 0 = .ok (.iload_n 1, 1) := by decide +kernel
theorem dX10_together_1 : decode cX10_together 1 = .ok (.iconst 1, 1) := by decide +kernel
theorem dX10_together_2 : decode cX10_together 2 = .ok (.bipush 8, 2) := by decide +kernel
theorem dX10_together_4 : decode cX10_together 4 = .ok (.invokestatic 99, 3) := by decide +kernel
theorem dX10_together_7 : decode cX10_together 7 = .ok (.ifCond .eq 27, 3) := by decide +kernel
theorem dX10_together_10 : decode cX10_together 10 = .ok (.iload_n 2, 1) := by decide +kernel
theorem dX10_together_11 : decode cX10_together 11 = .ok (.iconst 0, 1) := by decide +kernel
theorem dX10_together_12 : decode cX10_together 12 = .ok (.iconst 2, 1) := by decide +kernel
theorem dX10_together_13 : decode cX10_together 13 = .ok (.invokestatic 99, 3) := by decide +kernel
theorem dX10_together_16 : decode cX10_together 16 = .ok (.ifCond .eq 18, 3) := by decide +kernel
theorem dX10_together_19 : decode cX10_together 19 = .ok (.aload_n 0, 1) := by decide +kernel
theorem dX10_together_20 : decode cX10_together 20 = .ok (.getfield 10, 3) := by decide +kernel
theorem dX10_together_23 : decode cX10_together 23 = .ok (.getfield 91, 3) := by decide +kernel
theorem dX10_together_26 : decode cX10_together 26 = .ok (.iconst 2, 1) := by decide +kernel
theorem dX10_together_27 : decode cX10_together 27 = .ok (.iload_n 1, 1) := by decide +kernel
theorem dX10_together_28 : decode cX10_together 28 = .ok (.imul, 1) := by decide +kernel
theorem dX10_together_29 : decode cX10_together 29 = .ok (.iconst 1, 1) := by decide +kernel
theorem dX10_together_30 : decode cX10_together 30 = .ok (.iadd, 1) := by decide +kernel
theorem dX10_together_31 : decode cX10_together 31 = .ok (.if_icmp .ge 5, 3) := by decide +kernel
theorem dX10_together_34 : decode cX10_together 34 = .ok (.iconst (-1), 1) := by decide +kernel
theorem dX10_together_35 : decode cX10_together 35 = .ok (.ireturn, 1) := by decide +kernel
theorem dX10_together_36 : decode cX10_together 36 = .ok (.aload_n 0, 1) := by decide +kernel
theorem dX10_together_37 : decode cX10_together 37 = .ok (.getfield 10, 3) := by decide +kernel
theorem dX10_together_40 : decode cX10_together 40 = .ok (.iconst 2, 1) := by decide +kernel
theorem dX10_together_41 : decode cX10_together 41 = .ok (.iload_n 1, 1) := by decide +kernel
theorem dX10_together_42 : decode cX10_together 42 = .ok (.imul, 1) := by decide +kernel
theorem dX10_together_43 : decode cX10_together 43 = .ok (.invokevirtual 289, 3) := by decide +kernel
theorem dX10_together_46 : decode cX10_together 46 = .ok (.istore_n 3, 1) := by decide +kernel
theorem dX10_together_47 : decode cX10_together 47 = .ok (.aload_n 0, 1) := by decide +kernel
theorem dX10_together_48 : decode cX10_together 48 = .ok (.getfield 10, 3) := by decide +kernel
theorem dX10_together_51 : decode cX10_together 51 = .ok (.getfield 91, 3) := by decide +kernel
theorem dX10_together_54 : decode cX10_together 54 = .ok (.iconst 2, 1) := by decide +kernel
theorem dX10_together_55 : decode cX10_together 55 = .ok (.iload_n 1, 1) := by decide +kernel
theorem dX10_together_56 : decode cX10_together 56 = .ok (.imul, 1) := by decide +kernel
theorem dX10_together_57 : decode cX10_together 57 = .ok (.iconst 1, 1) := by decide +kernel
theorem dX10_together_58 : decode cX10_together 58 = .ok (.iadd, 1) := by decide +kernel
theorem dX10_together_59 : decode cX10_together 59 = .ok (.iconst 2, 1) := by decide +kernel
theorem dX10_together_60 : decode cX10_together 60 = .ok (.iload_n 3, 1) := by decide +kernel
theorem dX10_together_61 : decode cX10_together 61 = .ok (.imul, 1) := by decide +kernel
theorem dX10_together_62 : decode cX10_together 62 = .ok (.iadd, 1) := by decide +kernel
theorem dX10_together_63 : decode cX10_together 63 = .ok (.if_icmp .ge 5, 3) := by decide +kernel
theorem dX10_together_66 : decode cX10_together 66 = .ok (.iconst (-1), 1) := by decide +kernel
theorem dX10_together_67 : decode cX10_together 67 = .ok (.ireturn, 1) := by decide +kernel
theorem dX10_together_68 : decode cX10_together 68 = .ok (.bipush (-2), 2) := by decide +kernel
theorem dX10_together_70 : decode cX10_together 70 = .ok (.istore 4, 2) := by decide +kernel
theorem dX10_together_72 : decode cX10_together 72 = .ok (.iload_n 3, 1) := by decide +kernel
theorem dX10_together_73 : decode cX10_together 73 = .ok (.bipush 12, 2) := by decide +kernel
theorem dX10_together_75 : decode cX10_together 75 = .ok (.if_icmp .gt 21, 3) := by decide +kernel
theorem dX10_together_78 : decode cX10_together 78 = .ok (.aload_n 0, 1) := by decide +kernel
theorem dX10_together_79 : decode cX10_together 79 = .ok (.iload_n 1, 1) := by decide +kernel
theorem dX10_together_80 : decode cX10_together 80 = .ok (.iload_n 3, 1) := by decide +kernel
theorem dX10_together_81 : decode cX10_together 81 = .ok (.invokevirtual 292, 3) := by decide +kernel
theorem dX10_together_84 : decode cX10_together 84 = .ok (.ifCond .eq 12, 3) := by decide +kernel
theorem dX10_together_87 : decode cX10_together 87 = .ok (.aload_n 0, 1) := by decide +kernel
theorem dX10_together_88 : decode cX10_together 88 = .ok (.iload_n 1, 1) := by decide +kernel
theorem dX10_together_89 : decode cX10_together 89 = .ok (.iload_n 3, 1) := by decide +kernel
theorem dX10_together_90 : decode cX10_together 90 = .ok (.iload_n 2, 1) := by decide +kernel
theorem dX10_together_91 : decode cX10_together 91 = .ok (.invokevirtual 296, 3) := by decide +kernel
theorem dX10_together_94 : decode cX10_together 94 = .ok (.istore 4, 2) := by decide +kernel
theorem dX10_together_96 : decode cX10_together 96 = .ok (.aload_n 0, 1) := by decide +kernel
theorem dX10_together_97 : decode cX10_together 97 = .ok (.getfield 10, 3) := by decide +kernel
theorem dX10_together_100 : decode cX10_together 100 = .ok (.invokevirtual 110, 3) := by decide +kernel
theorem dX10_together_103 : decode cX10_together 103 = .ok (.iload 4, 2) := by decide +kernel
theorem dX10_together_105 : decode cX10_together 105 = .ok (.ireturn, 1) := by decide +kernel
theorem dX10_tried_0 : decode cX10_tried 0 = .ok (.iload_n 1, 1) := by decide +kernel
theorem dX10_tried_1 : decode cX10_tried 1 = .ok (.iconst 1, 1) := by decide +kernel
theorem dX10_tried_2 : decode cX10_tried 2 = .ok (.bipush 120, 2) := by decide +kernel
theorem dX10_tried_4 : decode cX10_tried 4 = .ok (.invokestatic 99, 3) := by decide +kernel
theorem dX10_tried_7 : decode cX10_tried 7 = .ok (.ifCond .eq 11, 3) := by decide +kernel
theorem dX10_tried_10 : decode cX10_tried 10 = .ok (.aload_n 0, 1) := by decide +kernel
theorem dX10_tried_11 : decode cX10_tried 11 = .ok (.iload_n 2, 1) := by decide +kernel
theorem dX10_tried_12 : decode cX10_tried 12 = .ok (.invokevirtual 167, 3) := by decide +kernel
theorem dX10_tried_15 : decode cX10_tried 15 = .ok (.ifCond .ne 5, 3) := by decide +kernel
theorem dX10_tried_18 : decode cX10_tried 18 = .ok (.iconst (-1), 1) := by decide +kernel
theorem dX10_tried_19 : decode cX10_tried 19 = .ok (.ireturn, 1) := by decide +kernel
theorem dX10_tried_20 : decode cX10_tried 20 = .ok (.aload_n 0, 1) := by decide +kernel
theorem dX10_tried_21 : decode cX10_tried 21 = .ok (.getfield 70, 3) := by decide +kernel
theorem dX10_tried_24 : decode cX10_tried 24 = .ok (.invokevirtual 171, 3) := by decide +kernel
theorem dX10_tried_27 : decode cX10_tried 27 = .ok (.astore_n 3, 1) := by decide +kernel
theorem dX10_tried_28 : decode cX10_tried 28 = .ok (.aload_n 0, 1) := by decide +kernel
theorem dX10_tried_29 : decode cX10_tried 29 = .ok (.getfield 51, 3) := by decide +kernel
theorem dX10_tried_32 : decode cX10_tried 32 = .ok (.aload_n 3, 1) := by decide +kernel
theorem dX10_tried_33 : decode cX10_tried 33 = .ok (.iload_n 1, 1) := by decide +kernel
theorem dX10_tried_34 : decode cX10_tried 34 = .ok (.iconst (-1), 1) := by decide +kernel
theorem dX10_tried_35 : decode cX10_tried 35 = .ok (.invokevirtual 163, 3) := by decide +kernel
theorem dX10_tried_38 : decode cX10_tried 38 = .ok (.istore 4, 2) := by decide +kernel
theorem dX10_tried_40 : decode cX10_tried 40 = .ok (.iload_n 2, 1) := by decide +kernel
theorem dX10_tried_41 : decode cX10_tried 41 = .ok (.tableswitch 67 0 5 #[39, 42, 47, 52, 57, 62], 39) := by decide +kernel
theorem dX10_tried_80 : decode cX10_tried 80 = .ok (.iload 4, 2) := by decide +kernel
theorem dX10_tried_82 : decode cX10_tried 82 = .ok (.ireturn, 1) := by decide +kernel
theorem dX10_tried_83 : decode cX10_tried 83 = .ok (.aload_n 3, 1) := by decide +kernel
theorem dX10_tried_84 : decode cX10_tried 84 = .ok (.getfield 175, 3) := by decide +kernel
theorem dX10_tried_87 : decode cX10_tried 87 = .ok (.ireturn, 1) := by decide +kernel
theorem dX10_tried_88 : decode cX10_tried 88 = .ok (.aload_n 3, 1) := by decide +kernel
theorem dX10_tried_89 : decode cX10_tried 89 = .ok (.invokevirtual 178, 3) := by decide +kernel
theorem dX10_tried_92 : decode cX10_tried 92 = .ok (.ireturn, 1) := by decide +kernel
theorem dX10_tried_93 : decode cX10_tried 93 = .ok (.aload_n 3, 1) := by decide +kernel
theorem dX10_tried_94 : decode cX10_tried 94 = .ok (.getfield 182, 3) := by decide +kernel
theorem dX10_tried_97 : decode cX10_tried 97 = .ok (.ireturn, 1) := by decide +kernel
theorem dX10_tried_98 : decode cX10_tried 98 = .ok (.aload_n 3, 1) := by decide +kernel
theorem dX10_tried_99 : decode cX10_tried 99 = .ok (.getfield 185, 3) := by decide +kernel
theorem dX10_tried_102 : decode cX10_tried 102 = .ok (.ireturn, 1) := by decide +kernel
theorem dX10_tried_103 : decode cX10_tried 103 = .ok (.aload_n 3, 1) := by decide +kernel
theorem dX10_tried_104 : decode cX10_tried 104 = .ok (.invokevirtual 188, 3) := by decide +kernel
theorem dX10_tried_107 : decode cX10_tried 107 = .ok (.ireturn, 1) := by decide +kernel
theorem dX10_tried_108 : decode cX10_tried 108 = .ok (.iload_n 2, 1) := by decide +kernel
theorem dX10_tried_109 : decode cX10_tried 109 = .ok (.bipush 10, 2) := by decide +kernel
theorem dX10_tried_111 : decode cX10_tried 111 = .ok (.bipush 19, 2) := by decide +kernel
theorem dX10_tried_113 : decode cX10_tried 113 = .ok (.invokestatic 99, 3) := by decide +kernel
theorem dX10_tried_116 : decode cX10_tried 116 = .ok (.ifCond .eq 13, 3) := by decide +kernel
theorem dX10_tried_119 : decode cX10_tried 119 = .ok (.aload_n 3, 1) := by decide +kernel
theorem dX10_tried_120 : decode cX10_tried 120 = .ok (.getfield 191, 3) := by decide +kernel
theorem dX10_tried_123 : decode cX10_tried 123 = .ok (.iload_n 2, 1) := by decide +kernel
theorem dX10_tried_124 : decode cX10_tried 124 = .ok (.bipush 10, 2) := by decide +kernel
theorem dX10_tried_126 : decode cX10_tried 126 = .ok (.isub, 1) := by decide +kernel
theorem dX10_tried_127 : decode cX10_tried 127 = .ok (.iaload, 1) := by decide +kernel
theorem dX10_tried_128 : decode cX10_tried 128 = .ok (.ireturn, 1) := by decide +kernel
theorem dX10_tried_129 : decode cX10_tried 129 = .ok (.iload_n 2, 1) := by decide +kernel
theorem dX10_tried_130 : decode cX10_tried 130 = .ok (.bipush 20, 2) := by decide +kernel
theorem dX10_tried_132 : decode cX10_tried 132 = .ok (.bipush 29, 2) := by decide +kernel
theorem dX10_tried_134 : decode cX10_tried 134 = .ok (.invokestatic 99, 3) := by decide +kernel
theorem dX10_tried_137 : decode cX10_tried 137 = .ok (.ifCond .eq 13, 3) := by decide +kernel
theorem dX10_tried_140 : decode cX10_tried 140 = .ok (.aload_n 3, 1) := by decide +kernel
theorem dX10_tried_141 : decode cX10_tried 141 = .ok (.getfield 194, 3) := by decide +kernel
theorem dX10_tried_144 : decode cX10_tried 144 = .ok (.iload_n 2, 1) := by decide +kernel
theorem dX10_tried_145 : decode cX10_tried 145 = .ok (.bipush 20, 2) := by decide +kernel
theorem dX10_tried_147 : decode cX10_tried 147 = .ok (.isub, 1) := by decide +kernel
theorem dX10_tried_148 : decode cX10_tried 148 = .ok (.iaload, 1) := by decide +kernel
theorem dX10_tried_149 : decode cX10_tried 149 = .ok (.ireturn, 1) := by decide +kernel
theorem dX10_tried_150 : decode cX10_tried 150 = .ok (.iload_n 2, 1) := by decide +kernel
theorem dX10_tried_151 : decode cX10_tried 151 = .ok (.bipush 30, 2) := by decide +kernel
theorem dX10_tried_153 : decode cX10_tried 153 = .ok (.bipush 31, 2) := by decide +kernel
theorem dX10_tried_155 : decode cX10_tried 155 = .ok (.invokestatic 99, 3) := by decide +kernel
theorem dX10_tried_158 : decode cX10_tried 158 = .ok (.ifCond .eq 15, 3) := by decide +kernel
theorem dX10_tried_161 : decode cX10_tried 161 = .ok (.aload_n 3, 1) := by decide +kernel
theorem dX10_tried_162 : decode cX10_tried 162 = .ok (.getfield 141, 3) := by decide +kernel
theorem dX10_tried_165 : decode cX10_tried 165 = .ok (.iload_n 2, 1) := by decide +kernel
theorem dX10_tried_166 : decode cX10_tried 166 = .ok (.bipush 30, 2) := by decide +kernel
theorem dX10_tried_168 : decode cX10_tried 168 = .ok (.isub, 1) := by decide +kernel
theorem dX10_tried_169 : decode cX10_tried 169 = .ok (.iaload, 1) := by decide +kernel
theorem dX10_tried_170 : decode cX10_tried 170 = .ok (.goto 4, 3) := by decide +kernel
theorem dX10_tried_173 : decode cX10_tried 173 = .ok (.iconst (-1), 1) := by decide +kernel
theorem dX10_tried_174 : decode cX10_tried 174 = .ok (.ireturn, 1) := by decide +kernel
theorem dX10_undo_0 : decode cX10_undo 0 = .ok (.aload_n 0, 1) := by decide +kernel
theorem dX10_undo_1 : decode cX10_undo 1 = .ok (.getfield 87, 3) := by decide +kernel
theorem dX10_undo_4 : decode cX10_undo 4 = .ok (.ifCond .eq 14, 3) := by decide +kernel
theorem dX10_undo_7 : decode cX10_undo 7 = .ok (.aload_n 0, 1) := by decide +kernel
theorem dX10_undo_8 : decode cX10_undo 8 = .ok (.getfield 58, 3) := by decide +kernel
theorem dX10_undo_11 : decode cX10_undo 11 = .ok (.aload_n 0, 1) := by decide +kernel
theorem dX10_undo_12 : decode cX10_undo 12 = .ok (.getfield 62, 3) := by decide +kernel
theorem dX10_undo_15 : decode cX10_undo 15 = .ok (.invokevirtual 303, 3) := by decide +kernel
theorem dX10_undo_18 : decode cX10_undo 18 = .ok (.aload_n 0, 1) := by decide +kernel
theorem dX10_undo_19 : decode cX10_undo 19 = .ok (.getfield 87, 3) := by decide +kernel
theorem dX10_undo_22 : decode cX10_undo 22 = .ok (.ireturn, 1) := by decide +kernel
theorem dX10_walk_0 : decode cX10_walk 0 = .ok (.iload_n 1, 1) := by decide +kernel
theorem dX10_walk_1 : decode cX10_walk 1 = .ok (.iconst 0, 1) := by decide +kernel
theorem dX10_walk_2 : decode cX10_walk 2 = .ok (.iconst 1, 1) := by decide +kernel
theorem dX10_walk_3 : decode cX10_walk 3 = .ok (.invokestatic 99, 3) := by decide +kernel
theorem dX10_walk_6 : decode cX10_walk 6 = .ok (.ifCond .eq 24, 3) := by decide +kernel
theorem dX10_walk_9 : decode cX10_walk 9 = .ok (.iload_n 2, 1) := by decide +kernel
theorem dX10_walk_10 : decode cX10_walk 10 = .ok (.iconst 1, 1) := by decide +kernel
theorem dX10_walk_11 : decode cX10_walk 11 = .ok (.bipush 80, 2) := by decide +kernel
theorem dX10_walk_13 : decode cX10_walk 13 = .ok (.invokestatic 99, 3) := by decide +kernel
theorem dX10_walk_16 : decode cX10_walk 16 = .ok (.ifCond .eq 14, 3) := by decide +kernel
theorem dX10_walk_19 : decode cX10_walk 19 = .ok (.iload_n 2, 1) := by decide +kernel
theorem dX10_walk_20 : decode cX10_walk 20 = .ok (.aload_n 0, 1) := by decide +kernel
theorem dX10_walk_21 : decode cX10_walk 21 = .ok (.getfield 10, 3) := by decide +kernel
theorem dX10_walk_24 : decode cX10_walk 24 = .ok (.getfield 91, 3) := by decide +kernel
theorem dX10_walk_27 : decode cX10_walk 27 = .ok (.if_icmp .le 5, 3) := by decide +kernel
theorem dX10_walk_30 : decode cX10_walk 30 = .ok (.iconst (-1), 1) := by decide +kernel
theorem dX10_walk_31 : decode cX10_walk 31 = .ok (.ireturn, 1) := by decide +kernel
theorem dX10_walk_32 : decode cX10_walk 32 = .ok (.aload_n 0, 1) := by decide +kernel
theorem dX10_walk_33 : decode cX10_walk 33 = .ok (.getfield 10, 3) := by decide +kernel
theorem dX10_walk_36 : decode cX10_walk 36 = .ok (.iload_n 2, 1) := by decide +kernel
theorem dX10_walk_37 : decode cX10_walk 37 = .ok (.invokevirtual 103, 3) := by decide +kernel
theorem dX10_walk_40 : decode cX10_walk 40 = .ok (.aload_n 0, 1) := by decide +kernel
theorem dX10_walk_41 : decode cX10_walk 41 = .ok (.getfield 42, 3) := by decide +kernel
theorem dX10_walk_44 : decode cX10_walk 44 = .ok (.invokevirtual 144, 3) := by decide +kernel
theorem dX10_walk_47 : decode cX10_walk 47 = .ok (.istore_n 3, 1) := by decide +kernel
theorem dX10_walk_48 : decode cX10_walk 48 = .ok (.aload_n 0, 1) := by decide +kernel
theorem dX10_walk_49 : decode cX10_walk 49 = .ok (.getfield 10, 3) := by decide +kernel
theorem dX10_walk_52 : decode cX10_walk 52 = .ok (.invokevirtual 110, 3) := by decide +kernel
theorem dX10_walk_55 : decode cX10_walk 55 = .ok (.iload_n 3, 1) := by decide +kernel
theorem dX10_walk_56 : decode cX10_walk 56 = .ok (.ifCond .ne 11, 3) := by decide +kernel
theorem dX10_walk_59 : decode cX10_walk 59 = .ok (.aload_n 0, 1) := by decide +kernel
theorem dX10_walk_60 : decode cX10_walk 60 = .ok (.getfield 10, 3) := by decide +kernel
theorem dX10_walk_63 : decode cX10_walk 63 = .ok (.getfield 113, 3) := by decide +kernel
theorem dX10_walk_66 : decode cX10_walk 66 = .ok (.ireturn, 1) := by decide +kernel
theorem dX10_walk_67 : decode cX10_walk 67 = .ok (.aload_n 0, 1) := by decide +kernel
theorem dX10_walk_68 : decode cX10_walk 68 = .ok (.getfield 58, 3) := by decide +kernel
theorem dX10_walk_71 : decode cX10_walk 71 = .ok (.iload_n 1, 1) := by decide +kernel
theorem dX10_walk_72 : decode cX10_walk 72 = .ok (.aload_n 0, 1) := by decide +kernel
theorem dX10_walk_73 : decode cX10_walk 73 = .ok (.getfield 42, 3) := by decide +kernel
theorem dX10_walk_76 : decode cX10_walk 76 = .ok (.invokevirtual 145, 3) := by decide +kernel
theorem dX10_walk_79 : decode cX10_walk 79 = .ok (.invokevirtual 149, 3) := by decide +kernel
theorem dX10_walk_82 : decode cX10_walk 82 = .ok (.aload_n 0, 1) := by decide +kernel
theorem dX10_walk_83 : decode cX10_walk 83 = .ok (.getfield 42, 3) := by decide +kernel
theorem dX10_walk_86 : decode cX10_walk 86 = .ok (.getfield 153, 3) := by decide +kernel
theorem dX10_walk_89 : decode cX10_walk 89 = .ok (.ireturn, 1) := by decide +kernel
