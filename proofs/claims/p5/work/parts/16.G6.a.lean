theorem cls_X1 : xCls RX1 TX1 6 1 tyX1 := ⟨xin [499, 501, 503, 505, 507, 509] (by decide +kernel) (by decide +kernel), rfl, tyX1_ok, nmX1⟩
theorem cls_X3 : xCls RX3 TX3 11 3 tyX3 := ⟨xin [464, 466, 468, 470, 472, 474, 476, 478, 480, 482, 484] (by decide +kernel) (by decide +kernel), rfl, tyX3_ok, nmX3⟩
theorem st_X3_6 (h0 : Nat) (σ : xS) (k : Nat) (a : Int) : xobj h0 (xU σ k 6 a) k 3 = (xobj h0 σ k 3).set 6 (.int (xJ a)) := by simp [xobj, xU]
theorem ln_X3_6 (h0 : Nat) (σ : xS) (k : Nat) : 6 < (xobj h0 σ k 3).length := by simp [xobj]
theorem cf_X0_goOn : xCF yX0_goOn cX0_goOn 8 (some .int) 3 := ⟨xq 762 (by decide +kernel) rfl, xq 174 (by decide +kernel) rfl, by decide +kernel⟩
theorem cf_X0_walkOn : xCF yX0_walkOn cX0_walkOn 2 (some .boolean) 1 := ⟨xq 996 (by decide +kernel) rfl, xq 174 (by decide +kernel) rfl, by decide +kernel⟩
theorem cf_X1_canGo : xCF yX1_canGo cX1_canGo 4 (some .boolean) 3 := ⟨xq 968 (by decide +kernel) rfl, xq 178 (by decide +kernel) rfl, by decide +kernel⟩
theorem cf_X1_findsPlace : xCF yX1_findsPlace cX1_findsPlace 8 (some .boolean) 2 := ⟨xq 964 (by decide +kernel) rfl, xq 178 (by decide +kernel) rfl, by decide +kernel⟩
theorem cf_X1_handOn : xCF yX1_handOn cX1_handOn 6 none 1 := ⟨xq 975 (by decide +kernel) rfl, xq 178 (by decide +kernel) rfl, by decide +kernel⟩
theorem cf_X10_isIn : xCF yX10_isIn cX10_isIn 3 (some .boolean) 3 := ⟨xq 563 (by decide +kernel) rfl, xq 168 (by decide +kernel) rfl, by decide +kernel⟩
theorem cf_X2_clearCounts : xCF yX2_clearCounts cX2_clearCounts 1 none 0 := ⟨xq 923 (by decide +kernel) rfl, xq 176 (by decide +kernel) rfl, by decide +kernel⟩
theorem cf_X2_copyFrom : xCF yX2_copyFrom cX2_copyFrom 3 none 1 := ⟨xq 919 (by decide +kernel) rfl, xq 176 (by decide +kernel) rfl, by decide +kernel⟩
theorem cf_X2_setWalk : xCF yX2_setWalk cX2_setWalk 3 none 2 := ⟨xq 746 (by decide +kernel) rfl, xq 176 (by decide +kernel) rfl, by decide +kernel⟩
theorem cf_X3_copyOfNow : xCF yX3_copyOfNow cX3_copyOfNow 2 (some (.object "ShadowCourt$Day")) 0 := ⟨xq 915 (by decide +kernel) rfl, xq 177 (by decide +kernel) rfl, by decide +kernel⟩
theorem cf_X3_oneStepMore : xCF yX3_oneStepMore cX3_oneStepMore 5 (some .int) 1 := ⟨xq 1006 (by decide +kernel) rfl, xq 177 (by decide +kernel) rfl, by decide +kernel⟩
theorem cf_X3_settle : xCF yX3_settle cX3_settle 5 none 2 := ⟨xq 1012 (by decide +kernel) rfl, xq 177 (by decide +kernel) rfl, by decide +kernel⟩
theorem cf_X3_spreadSteps : xCF yX3_spreadSteps cX3_spreadSteps 4 none 1 := ⟨xq 1001 (by decide +kernel) rfl, xq 177 (by decide +kernel) rfl, by decide +kernel⟩
theorem cf_X3_stepAlone : xCF yX3_stepAlone cX3_stepAlone 2 (some (.array .int)) 1 := ⟨xq 1026 (by decide +kernel) rfl, xq 177 (by decide +kernel) rfl, by decide +kernel⟩
theorem cf_X3_turnToNextWay : xCF yX3_turnToNextWay cX3_turnToNextWay 3 (some .int) 1 := ⟨xq 1032 (by decide +kernel) rfl, xq 177 (by decide +kernel) rfl, by decide +kernel⟩
theorem wq33 : Cond.selects yX2_setWalk.cls yX2_setWalk yX2_setWalk ∈ xTB := xq 33 (by decide +kernel) rfl
theorem wq34 : Cond.selects yX0_goOn.cls yX0_goOn yX0_goOn ∈ xTB := xq 34 (by decide +kernel) rfl
theorem wq63 : Cond.selects yX3_copyOfNow.cls yX3_copyOfNow yX3_copyOfNow ∈ xTB := xq 63 (by decide +kernel) rfl
theorem wq64 : Cond.selects yX2_copyFrom.cls yX2_copyFrom yX2_copyFrom ∈ xTB := xq 64 (by decide +kernel) rfl
theorem wq65 : Cond.selects yX2_clearCounts.cls yX2_clearCounts yX2_clearCounts ∈ xTB := xq 65 (by decide +kernel) rfl
theorem wq71 : Cond.selects yX1_findsPlace.cls yX1_findsPlace yX1_findsPlace ∈ xTB := xq 71 (by decide +kernel) rfl
theorem wq72 : Cond.selects yX1_canGo.cls yX1_canGo yX1_canGo ∈ xTB := xq 72 (by decide +kernel) rfl
theorem wq73 : Cond.selects yX1_handOn.cls yX1_handOn yX1_handOn ∈ xTB := xq 73 (by decide +kernel) rfl
theorem wq76 : Cond.selects yX0_walkOn.cls yX0_walkOn yX0_walkOn ∈ xTB := xq 76 (by decide +kernel) rfl
theorem wq77 : Cond.selects yX3_spreadSteps.cls yX3_spreadSteps yX3_spreadSteps ∈ xTB := xq 77 (by decide +kernel) rfl
theorem wq78 : Cond.selects yX3_oneStepMore.cls yX3_oneStepMore yX3_oneStepMore ∈ xTB := xq 78 (by decide +kernel) rfl
theorem wq79 : Cond.selects yX3_settle.cls yX3_settle yX3_settle ∈ xTB := xq 79 (by decide +kernel) rfl
theorem wq81 : Cond.selects yX3_stepAlone.cls yX3_stepAlone yX3_stepAlone ∈ xTB := xq 81 (by decide +kernel) rfl
theorem wq82 : Cond.selects yX3_turnToNextWay.cls yX3_turnToNextWay yX3_turnToNextWay ∈ xTB := xq 82 (by decide +kernel) rfl
theorem wq450 : Cond.fieldLink "ShadowCourt$Foresight" (9) "ShadowCourt$Foresight" "clock" "LShadowCourt$Clock;" ∈ xTB := xq 450 (by decide +kernel) rfl
theorem wq451 : Cond.fieldLink "ShadowCourt$Foresight" (15) "ShadowCourt$Foresight" "now" "LShadowCourt$Day;" ∈ xTB := xq 451 (by decide +kernel) rfl
theorem wq452 : Cond.fieldLink "ShadowCourt$Foresight" (21) "ShadowCourt$Foresight" "days" "[LShadowCourt$Day;" ∈ xTB := xq 452 (by decide +kernel) rfl
theorem wq453 : Cond.fieldLink "ShadowCourt$Foresight" (28) "ShadowCourt$Foresight" "singleSteps" "[[I" ∈ xTB := xq 453 (by decide +kernel) rfl
theorem wq454 : Cond.fieldLink "ShadowCourt$Foresight" (31) "ShadowCourt$Foresight" "way" "[I" ∈ xTB := xq 454 (by decide +kernel) rfl
theorem wq455 : Cond.fieldLink "ShadowCourt$Foresight" (35) "ShadowCourt$Foresight" "bestWay" "[I" ∈ xTB := xq 455 (by decide +kernel) rfl
theorem wq457 : Cond.fieldLink "ShadowCourt$Foresight" (38) "ShadowCourt$Foresight" "bestFelon" "I" ∈ xTB := xq 457 (by decide +kernel) rfl
theorem wq459 : Cond.fieldLink "ShadowCourt$Foresight" (42) "ShadowCourt$Foresight" "shadedMinutes" "[I" ∈ xTB := xq 459 (by decide +kernel) rfl
theorem wq461 : Cond.fieldLink "ShadowCourt$Foresight" (45) "ShadowCourt$Foresight" "least" "[[I" ∈ xTB := xq 461 (by decide +kernel) rfl
theorem wq462 : Cond.fieldLink "ShadowCourt$Foresight" (48) "ShadowCourt$Foresight" "spread" "[I" ∈ xTB := xq 462 (by decide +kernel) rfl
theorem wq463 : Cond.fieldLink "ShadowCourt$Foresight" (51) "ShadowCourt$Foresight" "wider" "[I" ∈ xTB := xq 463 (by decide +kernel) rfl
theorem wq493 : Cond.fieldLink "ShadowCourt$Crowd" (9) "ShadowCourt$Crowd" "clock" "LShadowCourt$Clock;" ∈ xTB := xq 493 (by decide +kernel) rfl
theorem wq494 : Cond.fieldLink "ShadowCourt$Crowd" (15) "ShadowCourt$Crowd" "reach" "[I" ∈ xTB := xq 494 (by decide +kernel) rfl
theorem wq495 : Cond.fieldLink "ShadowCourt$Crowd" (19) "ShadowCourt$Crowd" "placeOf" "[I" ∈ xTB := xq 495 (by decide +kernel) rfl
theorem wq496 : Cond.fieldLink "ShadowCourt$Crowd" (22) "ShadowCourt$Crowd" "holderOf" "[I" ∈ xTB := xq 496 (by decide +kernel) rfl
theorem wq497 : Cond.fieldLink "ShadowCourt$Crowd" (25) "ShadowCourt$Crowd" "reachedBy" "[I" ∈ xTB := xq 497 (by decide +kernel) rfl
theorem wq498 : Cond.fieldLink "ShadowCourt$Crowd" (28) "ShadowCourt$Crowd" "queue" "[I" ∈ xTB := xq 498 (by decide +kernel) rfl
theorem wq562 : Cond.static yX10_isIn ∈ xTB := xq 562 (by decide +kernel) rfl
theorem wq745 : Cond.instanceMethod yX2_setWalk ∈ xTB := xq 745 (by decide +kernel) rfl
theorem wq761 : Cond.instanceMethod yX0_goOn ∈ xTB := xq 761 (by decide +kernel) rfl
theorem wq914 : Cond.instanceMethod yX3_copyOfNow ∈ xTB := xq 914 (by decide +kernel) rfl
theorem wq918 : Cond.instanceMethod yX2_copyFrom ∈ xTB := xq 918 (by decide +kernel) rfl
theorem wq922 : Cond.instanceMethod yX2_clearCounts ∈ xTB := xq 922 (by decide +kernel) rfl
theorem wq961 : Cond.methodLink "ShadowCourt$Crowd" (43) yX1_findsPlace ∈ xTB := xq 961 (by decide +kernel) rfl
theorem wq963 : Cond.instanceMethod yX1_findsPlace ∈ xTB := xq 963 (by decide +kernel) rfl
theorem wq965 : Cond.methodLink "ShadowCourt$Crowd" (60) yX1_canGo ∈ xTB := xq 965 (by decide +kernel) rfl
theorem wq967 : Cond.instanceMethod yX1_canGo ∈ xTB := xq 967 (by decide +kernel) rfl
theorem wq972 : Cond.methodLink "ShadowCourt$Crowd" (64) yX1_handOn ∈ xTB := xq 972 (by decide +kernel) rfl
theorem wq974 : Cond.instanceMethod yX1_handOn ∈ xTB := xq 974 (by decide +kernel) rfl
theorem wq991 : Cond.constant "ShadowCourt$Foresight" (69) (1000000) ∈ xTB := xq 991 (by decide +kernel) rfl
theorem wq992 : Cond.methodLink "ShadowCourt$Foresight" (61) yX3_copyOfNow ∈ xTB := xq 992 (by decide +kernel) rfl
theorem wq995 : Cond.instanceMethod yX0_walkOn ∈ xTB := xq 995 (by decide +kernel) rfl
theorem wq997 : Cond.methodLink "ShadowCourt$Foresight" (94) (⟨"java/lang/Math", "min", "(II)I"⟩ : MethodName) ∈ xTB := xq 997 (by decide +kernel) rfl
theorem wq998 : Cond.methodLink "ShadowCourt$Foresight" (136) yX3_spreadSteps ∈ xTB := xq 998 (by decide +kernel) rfl
theorem wq1000 : Cond.instanceMethod yX3_spreadSteps ∈ xTB := xq 1000 (by decide +kernel) rfl
theorem wq1002 : Cond.methodLink "ShadowCourt$Foresight" (84) (⟨"java/lang/System", "arraycopy", "(Ljava/lang/Object;ILjava/lang/Object;II)V"⟩ : MethodName) ∈ xTB := xq 1002 (by decide +kernel) rfl
theorem wq1003 : Cond.methodLink "ShadowCourt$Foresight" (144) yX3_oneStepMore ∈ xTB := xq 1003 (by decide +kernel) rfl
theorem wq1005 : Cond.instanceMethod yX3_oneStepMore ∈ xTB := xq 1005 (by decide +kernel) rfl
theorem wq1009 : Cond.methodLink "ShadowCourt$Foresight" (140) yX3_settle ∈ xTB := xq 1009 (by decide +kernel) rfl
theorem wq1011 : Cond.instanceMethod yX3_settle ∈ xTB := xq 1011 (by decide +kernel) rfl
theorem wq1023 : Cond.methodLink "ShadowCourt$Foresight" (70) yX3_stepAlone ∈ xTB := xq 1023 (by decide +kernel) rfl
theorem wq1025 : Cond.instanceMethod yX3_stepAlone ∈ xTB := xq 1025 (by decide +kernel) rfl
theorem wq1029 : Cond.methodLink "ShadowCourt$Foresight" (90) yX3_turnToNextWay ∈ xTB := xq 1029 (by decide +kernel) rfl
theorem wq1031 : Cond.instanceMethod yX3_turnToNextWay ∈ xTB := xq 1031 (by decide +kernel) rfl
theorem wn332 : Cond.fieldLinkNest "ShadowCourt$Crowd" (57) "ShadowCourt$Shadows" "spots" "[I" "ShadowCourt" ∈ xNL := xn 332 (by decide +kernel) rfl
theorem wn333 : Cond.fieldLinkNest "ShadowCourt$Foresight" (117) "ShadowCourt$Shadows" "spots" "[I" "ShadowCourt" ∈ xNL := xn 333 (by decide +kernel) rfl
theorem wn338 : Cond.fieldLinkNest "ShadowCourt$Crowd" (51) "ShadowCourt$Shadows" "size" "I" "ShadowCourt" ∈ xNL := xn 338 (by decide +kernel) rfl
theorem wn339 : Cond.fieldLinkNest "ShadowCourt$Foresight" (112) "ShadowCourt$Shadows" "size" "I" "ShadowCourt" ∈ xNL := xn 339 (by decide +kernel) rfl
theorem wn352 : Cond.fieldLinkNest "ShadowCourt$Crowd" (76) "ShadowCourt$Clock" "market" "LShadowCourt$Market;" "ShadowCourt" ∈ xNL := xn 352 (by decide +kernel) rfl
theorem wn353 : Cond.fieldLinkNest "ShadowCourt$Foresight" (125) "ShadowCourt$Clock" "market" "LShadowCourt$Market;" "ShadowCourt" ∈ xNL := xn 353 (by decide +kernel) rfl
theorem wn358 : Cond.fieldLinkNest "ShadowCourt$Crowd" (47) "ShadowCourt$Clock" "shadows" "LShadowCourt$Shadows;" "ShadowCourt" ∈ xNL := xn 358 (by decide +kernel) rfl
theorem wn359 : Cond.fieldLinkNest "ShadowCourt$Foresight" (108) "ShadowCourt$Clock" "shadows" "LShadowCourt$Shadows;" "ShadowCourt" ∈ xNL := xn 359 (by decide +kernel) rfl
theorem wn389 : Cond.fieldLinkNest "ShadowCourt$Crowd" (80) "ShadowCourt$Day" "felonSpot" "[I" "ShadowCourt" ∈ xNL := xn 389 (by decide +kernel) rfl
theorem wn916 : Cond.methodLinkNest "ShadowCourt$Foresight" (54) yX2_copyFrom "ShadowCourt" ∈ xNL := xn 916 (by decide +kernel) rfl
theorem wn920 : Cond.methodLinkNest "ShadowCourt$Foresight" (58) yX2_clearCounts "ShadowCourt" ∈ xNL := xn 920 (by decide +kernel) rfl
theorem wn959 : Cond.methodLinkNest "ShadowCourt$Crowd" (31) yX2_mustServe "ShadowCourt" ∈ xNL := xn 959 (by decide +kernel) rfl
theorem wn960 : Cond.methodLinkNest "ShadowCourt$Crowd" (37) yX0_reachOf "ShadowCourt" ∈ xNL := xn 960 (by decide +kernel) rfl
theorem wn969 : Cond.methodLinkNest "ShadowCourt$Crowd" (68) yX2_hasFelon "ShadowCourt" ∈ xNL := xn 969 (by decide +kernel) rfl
theorem wn970 : Cond.methodLinkNest "ShadowCourt$Crowd" (71) yX6_isSpot "ShadowCourt" ∈ xNL := xn 970 (by decide +kernel) rfl
theorem wn971 : Cond.methodLinkNest "ShadowCourt$Crowd" (83) yX6_stepsBetween "ShadowCourt" ∈ xNL := xn 971 (by decide +kernel) rfl
theorem wn989 : Cond.methodLinkNest "ShadowCourt$Foresight" (132) yX10_isIn "ShadowCourt" ∈ xNL := xn 989 (by decide +kernel) rfl
theorem wn990 : Cond.methodLinkNest "ShadowCourt$Foresight" (120) yX6_isSpot "ShadowCourt" ∈ xNL := xn 990 (by decide +kernel) rfl
theorem wn993 : Cond.methodLinkNest "ShadowCourt$Foresight" (104) yX0_walkOn "ShadowCourt" ∈ xNL := xn 993 (by decide +kernel) rfl
theorem wn1007 : Cond.methodLinkNest "ShadowCourt$Foresight" (147) yX6_isOpen "ShadowCourt" ∈ xNL := xn 1007 (by decide +kernel) rfl
theorem wn1008 : Cond.methodLinkNest "ShadowCourt$Foresight" (150) yX6_beside "ShadowCourt" ∈ xNL := xn 1008 (by decide +kernel) rfl
theorem wn1013 : Cond.methodLinkNest "ShadowCourt$Foresight" (153) yX7_layersAt "ShadowCourt" ∈ xNL := xn 1013 (by decide +kernel) rfl
theorem wn1022 : Cond.methodLinkNest "ShadowCourt$Foresight" (65) yX2_owedByAll "ShadowCourt" ∈ xNL := xn 1022 (by decide +kernel) rfl
theorem wn1027 : Cond.methodLinkNest "ShadowCourt$Foresight" (74) yX2_setWalk "ShadowCourt" ∈ xNL := xn 1027 (by decide +kernel) rfl
theorem wn1028 : Cond.methodLinkNest "ShadowCourt$Foresight" (78) yX0_goOn "ShadowCourt" ∈ xNL := xn 1028 (by decide +kernel) rfl
theorem wn1041 : Cond.methodLinkNest "ShadowCourt$Foresight" (100) yX2_mustServe "ShadowCourt" ∈ xNL := xn 1041 (by decide +kernel) rfl
theorem wn1054 : Cond.methodLinkNest "ShadowCourt$Foresight" (129) yX6_kindAt "ShadowCourt" ∈ xNL := xn 1054 (by decide +kernel) rfl
theorem dX1_canGo_0 : decode cX1_canGo 0 = .ok (.aload_n 1, 1) := by decide +kernel
theorem dX1_canGo_1 : decode cX1_canGo 1 = .ok (.iload_n 2, 1) := by decide +kernel
theorem dX1_canGo_2 : decode cX1_canGo 2 = .ok (.invokevirtual 68, 3) := by decide +kernel
theorem dX1_canGo_5 : decode cX1_canGo 5 = .ok (.ifCond .eq 40, 3) := by decide +kernel
theorem dX1_canGo_8 : decode cX1_canGo 8 = .ok (.iload_n 3, 1) := by decide +kernel
theorem dX1_canGo_9 : decode cX1_canGo 9 = .ok (.invokestatic 71, 3) := by decide +kernel
theorem dX1_canGo_12 : decode cX1_canGo 12 = .ok (.ifCond .eq 33, 3) := by decide +kernel
theorem dX1_canGo_15 : decode cX1_canGo 15 = .ok (.aload_n 0, 1) := by decide +kernel
theorem dX1_canGo_16 : decode cX1_canGo 16 = .ok (.getfield 9, 3) := by decide +kernel
theorem dX1_canGo_19 : decode cX1_canGo 19 = .ok (.getfield 76, 3) := by decide +kernel
theorem dX1_canGo_22 : decode cX1_canGo 22 = .ok (.aload_n 1, 1) := by decide +kernel
theorem dX1_canGo_23 : decode cX1_canGo 23 = .ok (.getfield 80, 3) := by decide +kernel
theorem dX1_canGo_26 : decode cX1_canGo 26 = .ok (.iload_n 2, 1) := by decide +kernel
theorem dX1_canGo_27 : decode cX1_canGo 27 = .ok (.iaload, 1) := by decide +kernel
theorem dX1_canGo_28 : decode cX1_canGo 28 = .ok (.iload_n 3, 1) := by decide +kernel
theorem dX1_canGo_29 : decode cX1_canGo 29 = .ok (.invokevirtual 83, 3) := by decide +kernel
theorem dX1_canGo_32 : decode cX1_canGo 32 = .ok (.aload_n 0, 1) := by decide +kernel
theorem dX1_canGo_33 : decode cX1_canGo 33 = .ok (.getfield 15, 3) := by decide +kernel
theorem dX1_canGo_36 : decode cX1_canGo 36 = .ok (.iload_n 2, 1) := by decide +kernel
theorem dX1_canGo_37 : decode cX1_canGo 37 = .ok (.iaload, 1) := by decide +kernel
theorem dX1_canGo_38 : decode cX1_canGo 38 = .ok (.if_icmp .gt 7, 3) := by decide +kernel
theorem dX1_canGo_41 : decode cX1_canGo 41 = .ok (.iconst 1, 1) := by decide +kernel
theorem dX1_canGo_42 : decode cX1_canGo 42 = .ok (.goto 4, 3) := by decide +kernel
theorem dX1_canGo_45 : decode cX1_canGo 45 = .ok (.iconst 0, 1) := by decide +kernel
theorem dX1_canGo_46 : decode cX1_canGo 46 = .ok (.ireturn, 1) := by decide +kernel
theorem dX1_findsPlace_0 : decode cX1_findsPlace 0 = .ok (.iconst 0, 1) := by decide +kernel
theorem dX1_findsPlace_1 : decode cX1_findsPlace 1 = .ok (.istore_n 3, 1) := by decide +kernel
theorem dX1_findsPlace_2 : decode cX1_findsPlace 2 = .ok (.iload_n 3, 1) := by decide +kernel
theorem dX1_findsPlace_3 : decode cX1_findsPlace 3 = .ok (.bipush 100, 2) := by decide +kernel
theorem dX1_findsPlace_5 : decode cX1_findsPlace 5 = .ok (.if_icmp .ge 16, 3) := by decide +kernel
theorem dX1_findsPlace_8 : decode cX1_findsPlace 8 = .ok (.aload_n 0, 1) := by decide +kernel
theorem dX1_findsPlace_9 : decode cX1_findsPlace 9 = .ok (.getfield 25, 3) := by decide +kernel
theorem dX1_findsPlace_12 : decode cX1_findsPlace 12 = .ok (.iload_n 3, 1) := by decide +kernel
theorem dX1_findsPlace_13 : decode cX1_findsPlace 13 = .ok (.iconst (-1), 1) := by decide +kernel
theorem dX1_findsPlace_14 : decode cX1_findsPlace 14 = .ok (.iastore, 1) := by decide +kernel
theorem dX1_findsPlace_15 : decode cX1_findsPlace 15 = .ok (.iinc 3 1, 3) := by decide +kernel
theorem dX1_findsPlace_18 : decode cX1_findsPlace 18 = .ok (.goto (-16), 3) := by decide +kernel
theorem dX1_findsPlace_21 : decode cX1_findsPlace 21 = .ok (.aload_n 0, 1) := by decide +kernel
theorem dX1_findsPlace_22 : decode cX1_findsPlace 22 = .ok (.getfield 28, 3) := by decide +kernel
theorem dX1_findsPlace_25 : decode cX1_findsPlace 25 = .ok (.iconst 0, 1) := by decide +kernel
theorem dX1_findsPlace_26 : decode cX1_findsPlace 26 = .ok (.iload_n 2, 1) := by decide +kernel
theorem dX1_findsPlace_27 : decode cX1_findsPlace 27 = .ok (.iastore, 1) := by decide +kernel
theorem dX1_findsPlace_28 : decode cX1_findsPlace 28 = .ok (.iconst 1, 1) := by decide +kernel
theorem dX1_findsPlace_29 : decode cX1_findsPlace 29 = .ok (.istore_n 3, 1) := by decide +kernel
theorem dX1_findsPlace_30 : decode cX1_findsPlace 30 = .ok (.iconst 0, 1) := by decide +kernel
theorem dX1_findsPlace_31 : decode cX1_findsPlace 31 = .ok (.istore 4, 2) := by decide +kernel
theorem dX1_findsPlace_33 : decode cX1_findsPlace 33 = .ok (.iload 4, 2) := by decide +kernel
theorem dX1_findsPlace_35 : decode cX1_findsPlace 35 = .ok (.iload_n 3, 1) := by decide +kernel
theorem dX1_findsPlace_36 : decode cX1_findsPlace 36 = .ok (.if_icmp .ge 147, 3) := by decide +kernel
theorem dX1_findsPlace_39 : decode cX1_findsPlace 39 = .ok (.iload 4, 2) := by decide +kernel
theorem dX1_findsPlace_41 : decode cX1_findsPlace 41 = .ok (.bipush 10, 2) := by decide +kernel
theorem dX1_findsPlace_43 : decode cX1_findsPlace 43 = .ok (.if_icmp .ge 140, 3) := by decide +kernel
theorem dX1_findsPlace_46 : decode cX1_findsPlace 46 = .ok (.aload_n 0, 1) := by decide +kernel
theorem dX1_findsPlace_47 : decode cX1_findsPlace 47 = .ok (.getfield 28, 3) := by decide +kernel
theorem dX1_findsPlace_50 : decode cX1_findsPlace 50 = .ok (.iload 4, 2) := by decide +kernel
theorem dX1_findsPlace_52 : decode cX1_findsPlace 52 = .ok (.iaload, 1) := by decide +kernel
theorem dX1_findsPlace_53 : decode cX1_findsPlace 53 = .ok (.istore 5, 2) := by decide +kernel
theorem dX1_findsPlace_55 : decode cX1_findsPlace 55 = .ok (.iconst 0, 1) := by decide +kernel
theorem dX1_findsPlace_56 : decode cX1_findsPlace 56 = .ok (.istore 6, 2) := by decide +kernel
theorem dX1_findsPlace_58 : decode cX1_findsPlace 58 = .ok (.iload 6, 2) := by decide +kernel
theorem dX1_findsPlace_60 : decode cX1_findsPlace 60 = .ok (.aload_n 0, 1) := by decide +kernel
theorem dX1_findsPlace_61 : decode cX1_findsPlace 61 = .ok (.getfield 9, 3) := by decide +kernel
theorem dX1_findsPlace_64 : decode cX1_findsPlace 64 = .ok (.getfield 47, 3) := by decide +kernel
theorem dX1_findsPlace_67 : decode cX1_findsPlace 67 = .ok (.getfield 51, 3) := by decide +kernel
theorem dX1_findsPlace_70 : decode cX1_findsPlace 70 = .ok (.if_icmp .ge 107, 3) := by decide +kernel
theorem dX1_findsPlace_73 : decode cX1_findsPlace 73 = .ok (.iload 6, 2) := by decide +kernel
theorem dX1_findsPlace_75 : decode cX1_findsPlace 75 = .ok (.bipush 100, 2) := by decide +kernel
theorem dX1_findsPlace_77 : decode cX1_findsPlace 77 = .ok (.if_icmp .ge 100, 3) := by decide +kernel
theorem dX1_findsPlace_80 : decode cX1_findsPlace 80 = .ok (.aload_n 0, 1) := by decide +kernel
theorem dX1_findsPlace_81 : decode cX1_findsPlace 81 = .ok (.getfield 9, 3) := by decide +kernel
theorem dX1_findsPlace_84 : decode cX1_findsPlace 84 = .ok (.getfield 47, 3) := by decide +kernel
theorem dX1_findsPlace_87 : decode cX1_findsPlace 87 = .ok (.getfield 57, 3) := by decide +kernel
theorem dX1_findsPlace_90 : decode cX1_findsPlace 90 = .ok (.iload 6, 2) := by decide +kernel
theorem dX1_findsPlace_92 : decode cX1_findsPlace 92 = .ok (.iaload, 1) := by decide +kernel
theorem dX1_findsPlace_93 : decode cX1_findsPlace 93 = .ok (.istore 7, 2) := by decide +kernel
theorem dX1_findsPlace_95 : decode cX1_findsPlace 95 = .ok (.aload_n 0, 1) := by decide +kernel
theorem dX1_findsPlace_96 : decode cX1_findsPlace 96 = .ok (.aload_n 1, 1) := by decide +kernel
theorem dX1_findsPlace_97 : decode cX1_findsPlace 97 = .ok (.iload 5, 2) := by decide +kernel
theorem dX1_findsPlace_99 : decode cX1_findsPlace 99 = .ok (.iload 7, 2) := by decide +kernel
theorem dX1_findsPlace_101 : decode cX1_findsPlace 101 = .ok (.invokevirtual 60, 3) := by decide +kernel
theorem dX1_findsPlace_104 : decode cX1_findsPlace 104 = .ok (.ifCond .eq 67, 3) := by decide +kernel
theorem dX1_findsPlace_107 : decode cX1_findsPlace 107 = .ok (.aload_n 0, 1) := by decide +kernel
theorem dX1_findsPlace_108 : decode cX1_findsPlace 108 = .ok (.getfield 25, 3) := by decide +kernel
theorem dX1_findsPlace_111 : decode cX1_findsPlace 111 = .ok (.iload 7, 2) := by decide +kernel
theorem dX1_findsPlace_113 : decode cX1_findsPlace 113 = .ok (.iaload, 1) := by decide +kernel
theorem dX1_findsPlace_114 : decode cX1_findsPlace 114 = .ok (.iconst (-1), 1) := by decide +kernel
theorem dX1_findsPlace_115 : decode cX1_findsPlace 115 = .ok (.if_icmp .eq 6, 3) := by decide +kernel
theorem dX1_findsPlace_118 : decode cX1_findsPlace 118 = .ok (.goto 53, 3) := by decide +kernel
theorem dX1_findsPlace_121 : decode cX1_findsPlace 121 = .ok (.aload_n 0, 1) := by decide +kernel
theorem dX1_findsPlace_122 : decode cX1_findsPlace 122 = .ok (.getfield 25, 3) := by decide +kernel
theorem dX1_findsPlace_125 : decode cX1_findsPlace 125 = .ok (.iload 7, 2) := by decide +kernel
theorem dX1_findsPlace_127 : decode cX1_findsPlace 127 = .ok (.iload 5, 2) := by decide +kernel
theorem dX1_findsPlace_129 : decode cX1_findsPlace 129 = .ok (.iastore, 1) := by decide +kernel
theorem dX1_findsPlace_130 : decode cX1_findsPlace 130 = .ok (.aload_n 0, 1) := by decide +kernel
theorem dX1_findsPlace_131 : decode cX1_findsPlace 131 = .ok (.getfield 22, 3) := by decide +kernel
theorem dX1_findsPlace_134 : decode cX1_findsPlace 134 = .ok (.iload 7, 2) := by decide +kernel
theorem dX1_findsPlace_136 : decode cX1_findsPlace 136 = .ok (.iaload, 1) := by decide +kernel
theorem dX1_findsPlace_137 : decode cX1_findsPlace 137 = .ok (.iconst (-1), 1) := by decide +kernel
theorem dX1_findsPlace_138 : decode cX1_findsPlace 138 = .ok (.if_icmp .ne 11, 3) := by decide +kernel
theorem dX1_findsPlace_141 : decode cX1_findsPlace 141 = .ok (.aload_n 0, 1) := by decide +kernel
theorem dX1_findsPlace_142 : decode cX1_findsPlace 142 = .ok (.iload 7, 2) := by decide +kernel
theorem dX1_findsPlace_144 : decode cX1_findsPlace 144 = .ok (.invokevirtual 64, 3) := by decide +kernel
theorem dX1_findsPlace_147 : decode cX1_findsPlace 147 = .ok (.iconst 1, 1) := by decide +kernel
theorem dX1_findsPlace_148 : decode cX1_findsPlace 148 = .ok (.ireturn, 1) := by decide +kernel
theorem dX1_findsPlace_149 : decode cX1_findsPlace 149 = .ok (.iload_n 3, 1) := by decide +kernel
theorem dX1_findsPlace_150 : decode cX1_findsPlace 150 = .ok (.bipush 10, 2) := by decide +kernel
theorem dX1_findsPlace_152 : decode cX1_findsPlace 152 = .ok (.if_icmp .ge 19, 3) := by decide +kernel
theorem dX1_findsPlace_155 : decode cX1_findsPlace 155 = .ok (.aload_n 0, 1) := by decide +kernel
theorem dX1_findsPlace_156 : decode cX1_findsPlace 156 = .ok (.getfield 28, 3) := by decide +kernel
theorem dX1_findsPlace_159 : decode cX1_findsPlace 159 = .ok (.iload_n 3, 1) := by decide +kernel
theorem dX1_findsPlace_160 : decode cX1_findsPlace 160 = .ok (.aload_n 0, 1) := by decide +kernel
theorem dX1_findsPlace_161 : decode cX1_findsPlace 161 = .ok (.getfield 22, 3) := by decide +kernel
theorem dX1_findsPlace_164 : decode cX1_findsPlace 164 = .ok (.iload 7, 2) := by decide +kernel
theorem dX1_findsPlace_166 : decode cX1_findsPlace 166 = .ok (.iaload, 1) := by decide +kernel
theorem dX1_findsPlace_167 : decode cX1_findsPlace 167 = .ok (.iastore, 1) := by decide +kernel
theorem dX1_findsPlace_168 : decode cX1_findsPlace 168 = .ok (.iinc 3 1, 3) := by decide +kernel
theorem dX1_findsPlace_171 : decode cX1_findsPlace 171 = .ok (.iinc 6 1, 3) := by decide +kernel
theorem dX1_findsPlace_174 : decode cX1_findsPlace 174 = .ok (.goto (-116), 3) := by decide +kernel
theorem dX1_findsPlace_177 : decode cX1_findsPlace 177 = .ok (.iinc 4 1, 3) := by decide +kernel
theorem dX1_findsPlace_180 : decode cX1_findsPlace 180 = .ok (.goto (-147), 3) := by decide +kernel
theorem dX1_findsPlace_183 : decode cX1_findsPlace 183 = .ok (.iconst 0, 1) := by decide +kernel
theorem dX1_findsPlace_184 : decode cX1_findsPlace 184 = .ok (.ireturn, 1) := by decide +kernel
theorem dX1_handOn_0 : decode cX1_handOn 0 = .ok (.iload_n 1, 1) := by decide +kernel
theorem dX1_handOn_1 : decode cX1_handOn 1 = .ok (.istore_n 2, 1) := by decide +kernel
theorem dX1_handOn_2 : decode cX1_handOn 2 = .ok (.iconst 0, 1) := by decide +kernel
theorem dX1_handOn_3 : decode cX1_handOn 3 = .ok (.istore_n 3, 1) := by decide +kernel
theorem dX1_handOn_4 : decode cX1_handOn 4 = .ok (.iload_n 3, 1) := by decide +kernel
theorem dX1_handOn_5 : decode cX1_handOn 5 = .ok (.bipush 10, 2) := by decide +kernel
theorem dX1_handOn_7 : decode cX1_handOn 7 = .ok (.if_icmp .ge 65, 3) := by decide +kernel
theorem dX1_handOn_10 : decode cX1_handOn 10 = .ok (.iload_n 2, 1) := by decide +kernel
theorem dX1_handOn_11 : decode cX1_handOn 11 = .ok (.invokestatic 71, 3) := by decide +kernel
theorem dX1_handOn_14 : decode cX1_handOn 14 = .ok (.ifCond .eq 58, 3) := by decide +kernel
theorem dX1_handOn_17 : decode cX1_handOn 17 = .ok (.aload_n 0, 1) := by decide +kernel
theorem dX1_handOn_18 : decode cX1_handOn 18 = .ok (.getfield 25, 3) := by decide +kernel
theorem dX1_handOn_21 : decode cX1_handOn 21 = .ok (.iload_n 2, 1) := by decide +kernel
theorem dX1_handOn_22 : decode cX1_handOn 22 = .ok (.iaload, 1) := by decide +kernel
theorem dX1_handOn_23 : decode cX1_handOn 23 = .ok (.istore 4, 2) := by decide +kernel
theorem dX1_handOn_25 : decode cX1_handOn 25 = .ok (.iload 4, 2) := by decide +kernel
theorem dX1_handOn_27 : decode cX1_handOn 27 = .ok (.ifCond .lt 10, 3) := by decide +kernel
theorem dX1_handOn_30 : decode cX1_handOn 30 = .ok (.iload 4, 2) := by decide +kernel
theorem dX1_handOn_32 : decode cX1_handOn 32 = .ok (.bipush 10, 2) := by decide +kernel
theorem dX1_handOn_34 : decode cX1_handOn 34 = .ok (.if_icmp .lt 4, 3) := by decide +kernel
theorem dX1_handOn_37 : decode cX1_handOn 37 = .ok (.return_, 1) := by decide +kernel
theorem dX1_handOn_38 : decode cX1_handOn 38 = .ok (.aload_n 0, 1) := by decide +kernel
theorem dX1_handOn_39 : decode cX1_handOn 39 = .ok (.getfield 19, 3) := by decide +kernel
theorem dX1_handOn_42 : decode cX1_handOn 42 = .ok (.iload 4, 2) := by decide +kernel
theorem dX1_handOn_44 : decode cX1_handOn 44 = .ok (.iaload, 1) := by decide +kernel
theorem dX1_handOn_45 : decode cX1_handOn 45 = .ok (.istore 5, 2) := by decide +kernel
theorem dX1_handOn_47 : decode cX1_handOn 47 = .ok (.aload_n 0, 1) := by decide +kernel
theorem dX1_handOn_48 : decode cX1_handOn 48 = .ok (.getfield 22, 3) := by decide +kernel
theorem dX1_handOn_51 : decode cX1_handOn 51 = .ok (.iload_n 2, 1) := by decide +kernel
theorem dX1_handOn_52 : decode cX1_handOn 52 = .ok (.iload 4, 2) := by decide +kernel
theorem dX1_handOn_54 : decode cX1_handOn 54 = .ok (.iastore, 1) := by decide +kernel
theorem dX1_handOn_55 : decode cX1_handOn 55 = .ok (.aload_n 0, 1) := by decide +kernel
theorem dX1_handOn_56 : decode cX1_handOn 56 = .ok (.getfield 19, 3) := by decide +kernel
theorem dX1_handOn_59 : decode cX1_handOn 59 = .ok (.iload 4, 2) := by decide +kernel
theorem dX1_handOn_61 : decode cX1_handOn 61 = .ok (.iload_n 2, 1) := by decide +kernel
theorem dX1_handOn_62 : decode cX1_handOn 62 = .ok (.iastore, 1) := by decide +kernel
theorem dX1_handOn_63 : decode cX1_handOn 63 = .ok (.iload 5, 2) := by decide +kernel
theorem dX1_handOn_65 : decode cX1_handOn 65 = .ok (.istore_n 2, 1) := by decide +kernel
theorem dX1_handOn_66 : decode cX1_handOn 66 = .ok (.iinc 3 1, 3) := by decide +kernel
theorem dX1_handOn_69 : decode cX1_handOn 69 = .ok (.goto (-65), 3) := by decide +kernel
theorem dX1_handOn_72 : decode cX1_handOn 72 = .ok (.return_, 1) := by decide +kernel
theorem dX1_most_0 : decode cX1_most 0 = .ok (.iconst 0, 1) := by decide +kernel
theorem dX1_most_1 : decode cX1_most 1 = .ok (.istore_n 2, 1) := by decide +kernel
theorem dX1_most_2 : decode cX1_most 2 = .ok (.iload_n 2, 1) := by decide +kernel
theorem dX1_most_3 : decode cX1_most 3 = .ok (.bipush 100, 2) := by decide +kernel
theorem dX1_most_5 : decode cX1_most 5 = .ok (.if_icmp .ge 16, 3) := by decide +kernel
theorem dX1_most_8 : decode cX1_most 8 = .ok (.aload_n 0, 1) := by decide +kernel
theorem dX1_most_9 : decode cX1_most 9 = .ok (.getfield 22, 3) := by decide +kernel
theorem dX1_most_12 : decode cX1_most 12 = .ok (.iload_n 2, 1) := by decide +kernel
theorem dX1_most_13 : decode cX1_most 13 = .ok (.iconst (-1), 1) := by decide +kernel
theorem dX1_most_14 : decode cX1_most 14 = .ok (.iastore, 1) := by decide +kernel
theorem dX1_most_15 : decode cX1_most 15 = .ok (.iinc 2 1, 3) := by decide +kernel
theorem dX1_most_18 : decode cX1_most 18 = .ok (.goto (-16), 3) := by decide +kernel
theorem dX1_most_21 : decode cX1_most 21 = .ok (.iconst 0, 1) := by decide +kernel
theorem dX1_most_22 : decode cX1_most 22 = .ok (.istore_n 2, 1) := by decide +kernel
theorem dX1_most_23 : decode cX1_most 23 = .ok (.iload_n 2, 1) := by decide +kernel
theorem dX1_most_24 : decode cX1_most 24 = .ok (.bipush 10, 2) := by decide +kernel
theorem dX1_most_26 : decode cX1_most 26 = .ok (.if_icmp .ge 43, 3) := by decide +kernel
theorem dX1_most_29 : decode cX1_most 29 = .ok (.aload_n 0, 1) := by decide +kernel
theorem dX1_most_30 : decode cX1_most 30 = .ok (.getfield 19, 3) := by decide +kernel
theorem dX1_most_33 : decode cX1_most 33 = .ok (.iload_n 2, 1) := by decide +kernel
theorem dX1_most_34 : decode cX1_most 34 = .ok (.iconst (-1), 1) := by decide +kernel
theorem dX1_most_35 : decode cX1_most 35 = .ok (.iastore, 1) := by decide +kernel
theorem dX1_most_36 : decode cX1_most 36 = .ok (.aload_n 0, 1) := by decide +kernel
theorem dX1_most_37 : decode cX1_most 37 = .ok (.getfield 15, 3) := by decide +kernel
theorem dX1_most_40 : decode cX1_most 40 = .ok (.iload_n 2, 1) := by decide +kernel
theorem dX1_most_41 : decode cX1_most 41 = .ok (.aload_n 1, 1) := by decide +kernel
theorem dX1_most_42 : decode cX1_most 42 = .ok (.iload_n 2, 1) := by decide +kernel
theorem dX1_most_43 : decode cX1_most 43 = .ok (.invokevirtual 31, 3) := by decide +kernel
theorem dX1_most_46 : decode cX1_most 46 = .ok (.ifCond .eq 15, 3) := by decide +kernel
theorem dX1_most_49 : decode cX1_most 49 = .ok (.aload_n 0, 1) := by decide +kernel
theorem dX1_most_50 : decode cX1_most 50 = .ok (.getfield 9, 3) := by decide +kernel
theorem dX1_most_53 : decode cX1_most 53 = .ok (.aload_n 1, 1) := by decide +kernel
theorem dX1_most_54 : decode cX1_most 54 = .ok (.iload_n 2, 1) := by decide +kernel
theorem dX1_most_55 : decode cX1_most 55 = .ok (.invokevirtual 37, 3) := by decide +kernel
theorem dX1_most_58 : decode cX1_most 58 = .ok (.goto 4, 3) := by decide +kernel
theorem dX1_most_61 : decode cX1_most 61 = .ok (.iconst (-1), 1) := by decide +kernel
theorem dX1_most_62 : decode cX1_most 62 = .ok (.iastore, 1) := by decide +kernel
theorem dX1_most_63 : decode cX1_most 63 = .ok (.iinc 2 1, 3) := by decide +kernel
theorem dX1_most_66 : decode cX1_most 66 = .ok (.goto (-43), 3) := by decide +kernel
theorem dX1_most_69 : decode cX1_most 69 = .ok (.iconst 0, 1) := by decide +kernel
theorem dX1_most_70 : decode cX1_most 70 = .ok (.istore_n 2, 1) := by decide +kernel
theorem dX1_most_71 : decode cX1_most 71 = .ok (.iconst 0, 1) := by decide +kernel
theorem dX1_most_72 : decode cX1_most 72 = .ok (.istore_n 3, 1) := by decide +kernel
theorem dX1_most_73 : decode cX1_most 73 = .ok (.iload_n 3, 1) := by decide +kernel
theorem dX1_most_74 : decode cX1_most 74 = .ok (.bipush 10, 2) := by decide +kernel
theorem dX1_most_76 : decode cX1_most 76 = .ok (.if_icmp .ge 29, 3) := by decide +kernel
theorem dX1_most_79 : decode cX1_most 79 = .ok (.aload_n 1, 1) := by decide +kernel
theorem dX1_most_80 : decode cX1_most 80 = .ok (.iload_n 3, 1) := by decide +kernel
theorem dX1_most_81 : decode cX1_most 81 = .ok (.invokevirtual 31, 3) := by decide +kernel
theorem dX1_most_84 : decode cX1_most 84 = .ok (.ifCond .eq 15, 3) := by decide +kernel
theorem dX1_most_87 : decode cX1_most 87 = .ok (.aload_n 0, 1) := by decide +kernel
theorem dX1_most_88 : decode cX1_most 88 = .ok (.aload_n 1, 1) := by decide +kernel
theorem dX1_most_89 : decode cX1_most 89 = .ok (.iload_n 3, 1) := by decide +kernel
theorem dX1_most_90 : decode cX1_most 90 = .ok (.invokevirtual 43, 3) := by decide +kernel
theorem dX1_most_93 : decode cX1_most 93 = .ok (.ifCond .eq 6, 3) := by decide +kernel
theorem dX1_most_96 : decode cX1_most 96 = .ok (.iinc 2 1, 3) := by decide +kernel
theorem dX1_most_99 : decode cX1_most 99 = .ok (.iinc 3 1, 3) := by decide +kernel
theorem dX1_most_102 : decode cX1_most 102 = .ok (.goto (-29), 3) := by decide +kernel
theorem dX1_most_105 : decode cX1_most 105 = .ok (.iload_n 2, 1) := by decide +kernel
theorem dX1_most_106 : decode cX1_most 106 = .ok (.ireturn, 1) := by decide +kernel
theorem dX3_bestAhead_0 : decode cX3_bestAhead 0 = .ok (.aload_n 0, 1) := by decide +kernel
theorem dX3_bestAhead_1 : decode cX3_bestAhead 1 = .ok (.getfield 9, 3) := by decide +kernel
theorem dX3_bestAhead_4 : decode cX3_bestAhead 4 = .ok (.aload_n 0, 1) := by decide +kernel
theorem dX3_bestAhead_5 : decode cX3_bestAhead 5 = .ok (.invokevirtual 61, 3) := by decide +kernel
theorem dX3_bestAhead_8 : decode cX3_bestAhead 8 = .ok (.iload_n 1, 1) := by decide +kernel
theorem dX3_bestAhead_9 : decode cX3_bestAhead 9 = .ok (.iconst (-1), 1) := by decide +kernel
theorem dX3_bestAhead_10 : decode cX3_bestAhead 10 = .ok (.invokevirtual 78, 3) := by decide +kernel
theorem dX3_bestAhead_13 : decode cX3_bestAhead 13 = .ok (.istore_n 2, 1) := by decide +kernel
theorem dX3_bestAhead_14 : decode cX3_bestAhead 14 = .ok (.aload_n 0, 1) := by decide +kernel
theorem dX3_bestAhead_15 : decode cX3_bestAhead 15 = .ok (.bipush (-2), 2) := by decide +kernel
theorem dX3_bestAhead_17 : decode cX3_bestAhead 17 = .ok (.putfield 38, 3) := by decide +kernel
theorem dX3_bestAhead_20 : decode cX3_bestAhead 20 = .ok (.iconst 0, 1) := by decide +kernel
theorem dX3_bestAhead_21 : decode cX3_bestAhead 21 = .ok (.istore_n 3, 1) := by decide +kernel
theorem dX3_bestAhead_22 : decode cX3_bestAhead 22 = .ok (.iload_n 3, 1) := by decide +kernel
theorem dX3_bestAhead_23 : decode cX3_bestAhead 23 = .ok (.bipush 10, 2) := by decide +kernel
theorem dX3_bestAhead_25 : decode cX3_bestAhead 25 = .ok (.if_icmp .ge 52, 3) := by decide +kernel
theorem dX3_bestAhead_28 : decode cX3_bestAhead 28 = .ok (.aload_n 0, 1) := by decide +kernel
theorem dX3_bestAhead_29 : decode cX3_bestAhead 29 = .ok (.getfield 15, 3) := by decide +kernel
theorem dX3_bestAhead_32 : decode cX3_bestAhead 32 = .ok (.iload_n 3, 1) := by decide +kernel
theorem dX3_bestAhead_33 : decode cX3_bestAhead 33 = .ok (.invokevirtual 100, 3) := by decide +kernel
theorem dX3_bestAhead_36 : decode cX3_bestAhead 36 = .ok (.ifCond .ne 6, 3) := by decide +kernel
theorem dX3_bestAhead_39 : decode cX3_bestAhead 39 = .ok (.goto 32, 3) := by decide +kernel
theorem dX3_bestAhead_42 : decode cX3_bestAhead 42 = .ok (.aload_n 0, 1) := by decide +kernel
theorem dX3_bestAhead_43 : decode cX3_bestAhead 43 = .ok (.getfield 9, 3) := by decide +kernel
theorem dX3_bestAhead_46 : decode cX3_bestAhead 46 = .ok (.aload_n 0, 1) := by decide +kernel
theorem dX3_bestAhead_47 : decode cX3_bestAhead 47 = .ok (.invokevirtual 61, 3) := by decide +kernel
theorem dX3_bestAhead_50 : decode cX3_bestAhead 50 = .ok (.iload_n 1, 1) := by decide +kernel
theorem dX3_bestAhead_51 : decode cX3_bestAhead 51 = .ok (.iload_n 3, 1) := by decide +kernel
theorem dX3_bestAhead_52 : decode cX3_bestAhead 52 = .ok (.invokevirtual 78, 3) := by decide +kernel
theorem dX3_bestAhead_55 : decode cX3_bestAhead 55 = .ok (.istore 4, 2) := by decide +kernel
theorem dX3_bestAhead_57 : decode cX3_bestAhead 57 = .ok (.iload 4, 2) := by decide +kernel
theorem dX3_bestAhead_59 : decode cX3_bestAhead 59 = .ok (.iload_n 2, 1) := by decide +kernel
theorem dX3_bestAhead_60 : decode cX3_bestAhead 60 = .ok (.if_icmp .le 11, 3) := by decide +kernel
theorem dX3_bestAhead_63 : decode cX3_bestAhead 63 = .ok (.iload 4, 2) := by decide +kernel
theorem dX3_bestAhead_65 : decode cX3_bestAhead 65 = .ok (.istore_n 2, 1) := by decide +kernel
theorem dX3_bestAhead_66 : decode cX3_bestAhead 66 = .ok (.aload_n 0, 1) := by decide +kernel
theorem dX3_bestAhead_67 : decode cX3_bestAhead 67 = .ok (.iload_n 3, 1) := by decide +kernel
theorem dX3_bestAhead_68 : decode cX3_bestAhead 68 = .ok (.putfield 38, 3) := by decide +kernel
theorem dX3_bestAhead_71 : decode cX3_bestAhead 71 = .ok (.iinc 3 1, 3) := by decide +kernel
theorem dX3_bestAhead_74 : decode cX3_bestAhead 74 = .ok (.goto (-52), 3) := by decide +kernel
theorem dX3_bestAhead_77 : decode cX3_bestAhead 77 = .ok (.iload_n 2, 1) := by decide +kernel
theorem dX3_bestAhead_78 : decode cX3_bestAhead 78 = .ok (.ireturn, 1) := by decide +kernel
theorem dX3_copyOfNow_0 : decode cX3_copyOfNow 0 = .ok (.aload_n 0, 1) := by decide +kernel
theorem dX3_copyOfNow_1 : decode cX3_copyOfNow 1 = .ok (.getfield 21, 3) := by decide +kernel
theorem dX3_copyOfNow_4 : decode cX3_copyOfNow 4 = .ok (.iconst 0, 1) := by decide +kernel
theorem dX3_copyOfNow_5 : decode cX3_copyOfNow 5 = .ok (.aaload, 1) := by decide +kernel
theorem dX3_copyOfNow_6 : decode cX3_copyOfNow 6 = .ok (.astore_n 1, 1) := by decide +kernel
theorem dX3_copyOfNow_7 : decode cX3_copyOfNow 7 = .ok (.aload_n 1, 1) := by decide +kernel
theorem dX3_copyOfNow_8 : decode cX3_copyOfNow 8 = .ok (.aload_n 0, 1) := by decide +kernel
theorem dX3_copyOfNow_9 : decode cX3_copyOfNow 9 = .ok (.getfield 15, 3) := by decide +kernel
theorem dX3_copyOfNow_12 : decode cX3_copyOfNow 12 = .ok (.invokevirtual 54, 3) := by decide +kernel
theorem dX3_copyOfNow_15 : decode cX3_copyOfNow 15 = .ok (.aload_n 1, 1) := by decide +kernel
theorem dX3_copyOfNow_16 : decode cX3_copyOfNow 16 = .ok (.invokevirtual 58, 3) := by decide +kernel
theorem dX3_copyOfNow_19 : decode cX3_copyOfNow 19 = .ok (.aload_n 1, 1) := by decide +kernel
theorem dX3_copyOfNow_20 : decode cX3_copyOfNow 20 = .ok (.areturn, 1) := by decide +kernel
theorem dX3_countShadedMinutes_0 : decode cX3_countShadedMinutes 0 = .ok (.iconst 0, 1) := by decide +kernel
theorem dX3_countShadedMinutes_1 : decode cX3_countShadedMinutes 1 = .ok (.istore_n 2, 1) := by decide +kernel
theorem dX3_countShadedMinutes_2 : decode cX3_countShadedMinutes 2 = .ok (.iload_n 2, 1) := by decide +kernel
theorem dX3_countShadedMinutes_3 : decode cX3_countShadedMinutes 3 = .ok (.bipush 100, 2) := by decide +kernel
theorem dX3_countShadedMinutes_5 : decode cX3_countShadedMinutes 5 = .ok (.if_icmp .ge 16, 3) := by decide +kernel
theorem dX3_countShadedMinutes_8 : decode cX3_countShadedMinutes 8 = .ok (.aload_n 0, 1) := by decide +kernel
theorem dX3_countShadedMinutes_9 : decode cX3_countShadedMinutes 9 = .ok (.getfield 42, 3) := by decide +kernel
theorem dX3_countShadedMinutes_12 : decode cX3_countShadedMinutes 12 = .ok (.iload_n 2, 1) := by decide +kernel
theorem dX3_countShadedMinutes_13 : decode cX3_countShadedMinutes 13 = .ok (.iconst 0, 1) := by decide +kernel
theorem dX3_countShadedMinutes_14 : decode cX3_countShadedMinutes 14 = .ok (.iastore, 1) := by decide +kernel
theorem dX3_countShadedMinutes_15 : decode cX3_countShadedMinutes 15 = .ok (.iinc 2 1, 3) := by decide +kernel
theorem dX3_countShadedMinutes_18 : decode cX3_countShadedMinutes 18 = .ok (.goto (-16), 3) := by decide +kernel
theorem dX3_countShadedMinutes_21 : decode cX3_countShadedMinutes 21 = .ok (.aload_n 0, 1) := by decide +kernel
theorem dX3_countShadedMinutes_22 : decode cX3_countShadedMinutes 22 = .ok (.invokevirtual 61, 3) := by decide +kernel
theorem dX3_countShadedMinutes_25 : decode cX3_countShadedMinutes 25 = .ok (.astore_n 2, 1) := by decide +kernel
theorem dX3_countShadedMinutes_26 : decode cX3_countShadedMinutes 26 = .ok (.iconst 0, 1) := by decide +kernel
theorem dX3_countShadedMinutes_27 : decode cX3_countShadedMinutes 27 = .ok (.istore_n 3, 1) := by decide +kernel
theorem dX3_countShadedMinutes_28 : decode cX3_countShadedMinutes 28 = .ok (.iload_n 3, 1) := by decide +kernel
theorem dX3_countShadedMinutes_29 : decode cX3_countShadedMinutes 29 = .ok (.iload_n 1, 1) := by decide +kernel
theorem dX3_countShadedMinutes_30 : decode cX3_countShadedMinutes 30 = .ok (.if_icmp .ge 85, 3) := by decide +kernel
theorem dX3_countShadedMinutes_33 : decode cX3_countShadedMinutes 33 = .ok (.aload_n 0, 1) := by decide +kernel
theorem dX3_countShadedMinutes_34 : decode cX3_countShadedMinutes 34 = .ok (.getfield 9, 3) := by decide +kernel
theorem dX3_countShadedMinutes_37 : decode cX3_countShadedMinutes 37 = .ok (.aload_n 2, 1) := by decide +kernel
theorem dX3_countShadedMinutes_38 : decode cX3_countShadedMinutes 38 = .ok (.invokevirtual 104, 3) := by decide +kernel
theorem dX3_countShadedMinutes_41 : decode cX3_countShadedMinutes 41 = .ok (.ifCond .eq 74, 3) := by decide +kernel
theorem dX3_countShadedMinutes_44 : decode cX3_countShadedMinutes 44 = .ok (.iconst 0, 1) := by decide +kernel
theorem dX3_countShadedMinutes_45 : decode cX3_countShadedMinutes 45 = .ok (.istore 4, 2) := by decide +kernel
theorem dX3_countShadedMinutes_47 : decode cX3_countShadedMinutes 47 = .ok (.iload 4, 2) := by decide +kernel
theorem dX3_countShadedMinutes_49 : decode cX3_countShadedMinutes 49 = .ok (.aload_n 0, 1) := by decide +kernel
theorem dX3_countShadedMinutes_50 : decode cX3_countShadedMinutes 50 = .ok (.getfield 9, 3) := by decide +kernel
theorem dX3_countShadedMinutes_53 : decode cX3_countShadedMinutes 53 = .ok (.getfield 108, 3) := by decide +kernel
theorem dX3_countShadedMinutes_56 : decode cX3_countShadedMinutes 56 = .ok (.getfield 112, 3) := by decide +kernel
theorem dX3_countShadedMinutes_59 : decode cX3_countShadedMinutes 59 = .ok (.if_icmp .ge 50, 3) := by decide +kernel
theorem dX3_countShadedMinutes_62 : decode cX3_countShadedMinutes 62 = .ok (.iload 4, 2) := by decide +kernel
theorem dX3_countShadedMinutes_64 : decode cX3_countShadedMinutes 64 = .ok (.bipush 100, 2) := by decide +kernel
theorem dX3_countShadedMinutes_66 : decode cX3_countShadedMinutes 66 = .ok (.if_icmp .ge 43, 3) := by decide +kernel
theorem dX3_countShadedMinutes_69 : decode cX3_countShadedMinutes 69 = .ok (.aload_n 0, 1) := by decide +kernel
theorem dX3_countShadedMinutes_70 : decode cX3_countShadedMinutes 70 = .ok (.getfield 9, 3) := by decide +kernel
theorem dX3_countShadedMinutes_73 : decode cX3_countShadedMinutes 73 = .ok (.getfield 108, 3) := by decide +kernel
theorem dX3_countShadedMinutes_76 : decode cX3_countShadedMinutes 76 = .ok (.getfield 117, 3) := by decide +kernel
theorem dX3_countShadedMinutes_79 : decode cX3_countShadedMinutes 79 = .ok (.iload 4, 2) := by decide +kernel
theorem dX3_countShadedMinutes_81 : decode cX3_countShadedMinutes 81 = .ok (.iaload, 1) := by decide +kernel
theorem dX3_countShadedMinutes_82 : decode cX3_countShadedMinutes 82 = .ok (.istore 5, 2) := by decide +kernel
theorem dX3_countShadedMinutes_84 : decode cX3_countShadedMinutes 84 = .ok (.iload 5, 2) := by decide +kernel
theorem dX3_countShadedMinutes_86 : decode cX3_countShadedMinutes 86 = .ok (.invokestatic 120, 3) := by decide +kernel
theorem dX3_countShadedMinutes_89 : decode cX3_countShadedMinutes 89 = .ok (.ifCond .eq 14, 3) := by decide +kernel
theorem dX3_countShadedMinutes_92 : decode cX3_countShadedMinutes 92 = .ok (.aload_n 0, 1) := by decide +kernel
theorem dX3_countShadedMinutes_93 : decode cX3_countShadedMinutes 93 = .ok (.getfield 42, 3) := by decide +kernel
theorem dX3_countShadedMinutes_96 : decode cX3_countShadedMinutes 96 = .ok (.iload 5, 2) := by decide +kernel
theorem dX3_countShadedMinutes_98 : decode cX3_countShadedMinutes 98 = .ok (.dup2, 1) := by decide +kernel
theorem dX3_countShadedMinutes_99 : decode cX3_countShadedMinutes 99 = .ok (.iaload, 1) := by decide +kernel
theorem dX3_countShadedMinutes_100 : decode cX3_countShadedMinutes 100 = .ok (.iconst 1, 1) := by decide +kernel
theorem dX3_countShadedMinutes_101 : decode cX3_countShadedMinutes 101 = .ok (.iadd, 1) := by decide +kernel
theorem dX3_countShadedMinutes_102 : decode cX3_countShadedMinutes 102 = .ok (.iastore, 1) := by decide +kernel
theorem dX3_countShadedMinutes_103 : decode cX3_countShadedMinutes 103 = .ok (.iinc 4 1, 3) := by decide +kernel
theorem dX3_countShadedMinutes_106 : decode cX3_countShadedMinutes 106 = .ok (.goto (-59), 3) := by decide +kernel
theorem dX3_countShadedMinutes_109 : decode cX3_countShadedMinutes 109 = .ok (.iinc 3 1, 3) := by decide +kernel
theorem dX3_countShadedMinutes_112 : decode cX3_countShadedMinutes 112 = .ok (.goto (-84), 3) := by decide +kernel
theorem dX3_countShadedMinutes_115 : decode cX3_countShadedMinutes 115 = .ok (.return_, 1) := by decide +kernel
theorem dX3_fewestSteps_0 : decode cX3_fewestSteps 0 = .ok (.iload_n 3, 1) := by decide +kernel
theorem dX3_fewestSteps_1 : decode cX3_fewestSteps 1 = .ok (.iconst 1, 1) := by decide +kernel
theorem dX3_fewestSteps_2 : decode cX3_fewestSteps 2 = .ok (.bipush 30, 2) := by decide +kernel
theorem dX3_fewestSteps_4 : decode cX3_fewestSteps 4 = .ok (.invokestatic 132, 3) := by decide +kernel
theorem dX3_fewestSteps_7 : decode cX3_fewestSteps 7 = .ok (.ifCond .eq 10, 3) := by decide +kernel
theorem dX3_fewestSteps_10 : decode cX3_fewestSteps 10 = .ok (.iload_n 1, 1) := by decide +kernel
theorem dX3_fewestSteps_11 : decode cX3_fewestSteps 11 = .ok (.invokestatic 120, 3) := by decide +kernel
theorem dX3_fewestSteps_14 : decode cX3_fewestSteps 14 = .ok (.ifCond .ne 6, 3) := by decide +kernel
theorem dX3_fewestSteps_17 : decode cX3_fewestSteps 17 = .ok (.bipush (-2), 2) := by decide +kernel
theorem dX3_fewestSteps_19 : decode cX3_fewestSteps 19 = .ok (.ireturn, 1) := by decide +kernel
theorem dX3_fewestSteps_20 : decode cX3_fewestSteps 20 = .ok (.iconst 0, 1) := by decide +kernel
theorem dX3_fewestSteps_21 : decode cX3_fewestSteps 21 = .ok (.istore 4, 2) := by decide +kernel
theorem dX3_fewestSteps_23 : decode cX3_fewestSteps 23 = .ok (.iload 4, 2) := by decide +kernel
theorem dX3_fewestSteps_25 : decode cX3_fewestSteps 25 = .ok (.iload_n 3, 1) := by decide +kernel
theorem dX3_fewestSteps_26 : decode cX3_fewestSteps 26 = .ok (.if_icmp .gt 37, 3) := by decide +kernel
theorem dX3_fewestSteps_29 : decode cX3_fewestSteps 29 = .ok (.iconst 0, 1) := by decide +kernel
theorem dX3_fewestSteps_30 : decode cX3_fewestSteps 30 = .ok (.istore 5, 2) := by decide +kernel
theorem dX3_fewestSteps_32 : decode cX3_fewestSteps 32 = .ok (.iload 5, 2) := by decide +kernel
theorem dX3_fewestSteps_34 : decode cX3_fewestSteps 34 = .ok (.bipush 100, 2) := by decide +kernel
theorem dX3_fewestSteps_36 : decode cX3_fewestSteps 36 = .ok (.if_icmp .ge 21, 3) := by decide +kernel
theorem dX3_fewestSteps_39 : decode cX3_fewestSteps 39 = .ok (.aload_n 0, 1) := by decide +kernel
theorem dX3_fewestSteps_40 : decode cX3_fewestSteps 40 = .ok (.getfield 45, 3) := by decide +kernel
theorem dX3_fewestSteps_43 : decode cX3_fewestSteps 43 = .ok (.iload 4, 2) := by decide +kernel
theorem dX3_fewestSteps_45 : decode cX3_fewestSteps 45 = .ok (.aaload, 1) := by decide +kernel
theorem dX3_fewestSteps_46 : decode cX3_fewestSteps 46 = .ok (.iload 5, 2) := by decide +kernel
theorem dX3_fewestSteps_48 : decode cX3_fewestSteps 48 = .ok (.ldc 69, 2) := by decide +kernel
theorem dX3_fewestSteps_50 : decode cX3_fewestSteps 50 = .ok (.iastore, 1) := by decide +kernel
theorem dX3_fewestSteps_51 : decode cX3_fewestSteps 51 = .ok (.iinc 5 1, 3) := by decide +kernel
theorem dX3_fewestSteps_54 : decode cX3_fewestSteps 54 = .ok (.goto (-22), 3) := by decide +kernel
theorem dX3_fewestSteps_57 : decode cX3_fewestSteps 57 = .ok (.iinc 4 1, 3) := by decide +kernel
theorem dX3_fewestSteps_60 : decode cX3_fewestSteps 60 = .ok (.goto (-37), 3) := by decide +kernel
theorem dX3_fewestSteps_63 : decode cX3_fewestSteps 63 = .ok (.aload_n 0, 1) := by decide +kernel
theorem dX3_fewestSteps_64 : decode cX3_fewestSteps 64 = .ok (.getfield 45, 3) := by decide +kernel
theorem dX3_fewestSteps_67 : decode cX3_fewestSteps 67 = .ok (.iconst 0, 1) := by decide +kernel
theorem dX3_fewestSteps_68 : decode cX3_fewestSteps 68 = .ok (.aaload, 1) := by decide +kernel
theorem dX3_fewestSteps_69 : decode cX3_fewestSteps 69 = .ok (.iload_n 1, 1) := by decide +kernel
theorem dX3_fewestSteps_70 : decode cX3_fewestSteps 70 = .ok (.iconst 0, 1) := by decide +kernel
theorem dX3_fewestSteps_71 : decode cX3_fewestSteps 71 = .ok (.iastore, 1) := by decide +kernel
theorem dX3_fewestSteps_72 : decode cX3_fewestSteps 72 = .ok (.aload_n 0, 1) := by decide +kernel
theorem dX3_fewestSteps_73 : decode cX3_fewestSteps 73 = .ok (.invokevirtual 61, 3) := by decide +kernel
theorem dX3_fewestSteps_76 : decode cX3_fewestSteps 76 = .ok (.astore 4, 2) := by decide +kernel
theorem dX3_fewestSteps_78 : decode cX3_fewestSteps 78 = .ok (.iconst 0, 1) := by decide +kernel
theorem dX3_fewestSteps_79 : decode cX3_fewestSteps 79 = .ok (.istore 5, 2) := by decide +kernel
theorem dX3_fewestSteps_81 : decode cX3_fewestSteps 81 = .ok (.iload 5, 2) := by decide +kernel
theorem dX3_fewestSteps_83 : decode cX3_fewestSteps 83 = .ok (.iload_n 2, 1) := by decide +kernel
theorem dX3_fewestSteps_84 : decode cX3_fewestSteps 84 = .ok (.if_icmp .ge 58, 3) := by decide +kernel
theorem dX3_fewestSteps_87 : decode cX3_fewestSteps 87 = .ok (.aload_n 0, 1) := by decide +kernel
theorem dX3_fewestSteps_88 : decode cX3_fewestSteps 88 = .ok (.getfield 9, 3) := by decide +kernel
theorem dX3_fewestSteps_91 : decode cX3_fewestSteps 91 = .ok (.aload 4, 2) := by decide +kernel
theorem dX3_fewestSteps_93 : decode cX3_fewestSteps 93 = .ok (.invokevirtual 104, 3) := by decide +kernel
theorem dX3_fewestSteps_96 : decode cX3_fewestSteps 96 = .ok (.ifCond .eq 46, 3) := by decide +kernel
theorem dX3_fewestSteps_99 : decode cX3_fewestSteps 99 = .ok (.iload 5, 2) := by decide +kernel
theorem dX3_fewestSteps_101 : decode cX3_fewestSteps 101 = .ok (.iload_n 3, 1) := by decide +kernel
theorem dX3_fewestSteps_102 : decode cX3_fewestSteps 102 = .ok (.invokestatic 94, 3) := by decide +kernel
theorem dX3_fewestSteps_105 : decode cX3_fewestSteps 105 = .ok (.istore 6, 2) := by decide +kernel
theorem dX3_fewestSteps_107 : decode cX3_fewestSteps 107 = .ok (.iload 6, 2) := by decide +kernel
theorem dX3_fewestSteps_109 : decode cX3_fewestSteps 109 = .ok (.ifCond .lt 27, 3) := by decide +kernel
theorem dX3_fewestSteps_112 : decode cX3_fewestSteps 112 = .ok (.aload_n 0, 1) := by decide +kernel
theorem dX3_fewestSteps_113 : decode cX3_fewestSteps 113 = .ok (.aload_n 0, 1) := by decide +kernel
theorem dX3_fewestSteps_114 : decode cX3_fewestSteps 114 = .ok (.getfield 45, 3) := by decide +kernel
theorem dX3_fewestSteps_117 : decode cX3_fewestSteps 117 = .ok (.iload 6, 2) := by decide +kernel
theorem dX3_fewestSteps_119 : decode cX3_fewestSteps 119 = .ok (.aaload, 1) := by decide +kernel
theorem dX3_fewestSteps_120 : decode cX3_fewestSteps 120 = .ok (.invokevirtual 136, 3) := by decide +kernel
theorem dX3_fewestSteps_123 : decode cX3_fewestSteps 123 = .ok (.aload_n 0, 1) := by decide +kernel
theorem dX3_fewestSteps_124 : decode cX3_fewestSteps 124 = .ok (.iload 6, 2) := by decide +kernel
theorem dX3_fewestSteps_126 : decode cX3_fewestSteps 126 = .ok (.iload_n 3, 1) := by decide +kernel
theorem dX3_fewestSteps_127 : decode cX3_fewestSteps 127 = .ok (.invokevirtual 140, 3) := by decide +kernel
theorem dX3_fewestSteps_130 : decode cX3_fewestSteps 130 = .ok (.iinc 6 (-1), 3) := by decide +kernel
theorem dX3_fewestSteps_133 : decode cX3_fewestSteps 133 = .ok (.goto (-26), 3) := by decide +kernel
theorem dX3_fewestSteps_136 : decode cX3_fewestSteps 136 = .ok (.iinc 5 1, 3) := by decide +kernel
theorem dX3_fewestSteps_139 : decode cX3_fewestSteps 139 = .ok (.goto (-58), 3) := by decide +kernel
theorem dX3_fewestSteps_142 : decode cX3_fewestSteps 142 = .ok (.ldc 69, 2) := by decide +kernel
theorem dX3_fewestSteps_144 : decode cX3_fewestSteps 144 = .ok (.istore 5, 2) := by decide +kernel
theorem dX3_fewestSteps_146 : decode cX3_fewestSteps 146 = .ok (.iconst 0, 1) := by decide +kernel
theorem dX3_fewestSteps_147 : decode cX3_fewestSteps 147 = .ok (.istore 6, 2) := by decide +kernel
theorem dX3_fewestSteps_149 : decode cX3_fewestSteps 149 = .ok (.iload 6, 2) := by decide +kernel
theorem dX3_fewestSteps_151 : decode cX3_fewestSteps 151 = .ok (.bipush 100, 2) := by decide +kernel
theorem dX3_fewestSteps_153 : decode cX3_fewestSteps 153 = .ok (.if_icmp .ge 25, 3) := by decide +kernel
theorem dX3_fewestSteps_156 : decode cX3_fewestSteps 156 = .ok (.iload 5, 2) := by decide +kernel
theorem dX3_fewestSteps_158 : decode cX3_fewestSteps 158 = .ok (.aload_n 0, 1) := by decide +kernel
theorem dX3_fewestSteps_159 : decode cX3_fewestSteps 159 = .ok (.getfield 45, 3) := by decide +kernel
theorem dX3_fewestSteps_162 : decode cX3_fewestSteps 162 = .ok (.iload_n 3, 1) := by decide +kernel
theorem dX3_fewestSteps_163 : decode cX3_fewestSteps 163 = .ok (.aaload, 1) := by decide +kernel
theorem dX3_fewestSteps_164 : decode cX3_fewestSteps 164 = .ok (.iload 6, 2) := by decide +kernel
theorem dX3_fewestSteps_166 : decode cX3_fewestSteps 166 = .ok (.iaload, 1) := by decide +kernel
theorem dX3_fewestSteps_167 : decode cX3_fewestSteps 167 = .ok (.invokestatic 94, 3) := by decide +kernel
theorem dX3_fewestSteps_170 : decode cX3_fewestSteps 170 = .ok (.istore 5, 2) := by decide +kernel
theorem dX3_fewestSteps_172 : decode cX3_fewestSteps 172 = .ok (.iinc 6 1, 3) := by decide +kernel
theorem dX3_fewestSteps_175 : decode cX3_fewestSteps 175 = .ok (.goto (-26), 3) := by decide +kernel
theorem dX3_fewestSteps_178 : decode cX3_fewestSteps 178 = .ok (.iload 5, 2) := by decide +kernel
theorem dX3_fewestSteps_180 : decode cX3_fewestSteps 180 = .ok (.ldc 69, 2) := by decide +kernel
theorem dX3_fewestSteps_182 : decode cX3_fewestSteps 182 = .ok (.if_icmp .lt 8, 3) := by decide +kernel
theorem dX3_fewestSteps_185 : decode cX3_fewestSteps 185 = .ok (.bipush (-2), 2) := by decide +kernel
theorem dX3_fewestSteps_187 : decode cX3_fewestSteps 187 = .ok (.goto 5, 3) := by decide +kernel
theorem dX3_fewestSteps_190 : decode cX3_fewestSteps 190 = .ok (.iload 5, 2) := by decide +kernel
theorem dX3_fewestSteps_192 : decode cX3_fewestSteps 192 = .ok (.ireturn, 1) := by decide +kernel
theorem dX3_howManyNeverShaded_0 : decode cX3_howManyNeverShaded 0 = .ok (.iconst 0, 1) := by decide +kernel
theorem dX3_howManyNeverShaded_1 : decode cX3_howManyNeverShaded 1 = .ok (.istore_n 1, 1) := by decide +kernel
theorem dX3_howManyNeverShaded_2 : decode cX3_howManyNeverShaded 2 = .ok (.iconst 0, 1) := by decide +kernel
theorem dX3_howManyNeverShaded_3 : decode cX3_howManyNeverShaded 3 = .ok (.istore_n 2, 1) := by decide +kernel
theorem dX3_howManyNeverShaded_4 : decode cX3_howManyNeverShaded 4 = .ok (.iload_n 2, 1) := by decide +kernel
theorem dX3_howManyNeverShaded_5 : decode cX3_howManyNeverShaded 5 = .ok (.bipush 100, 2) := by decide +kernel
theorem dX3_howManyNeverShaded_7 : decode cX3_howManyNeverShaded 7 = .ok (.if_icmp .ge 41, 3) := by decide +kernel
theorem dX3_howManyNeverShaded_10 : decode cX3_howManyNeverShaded 10 = .ok (.iload_n 1, 1) := by decide +kernel
theorem dX3_howManyNeverShaded_11 : decode cX3_howManyNeverShaded 11 = .ok (.aload_n 0, 1) := by decide +kernel
theorem dX3_howManyNeverShaded_12 : decode cX3_howManyNeverShaded 12 = .ok (.getfield 9, 3) := by decide +kernel
theorem dX3_howManyNeverShaded_15 : decode cX3_howManyNeverShaded 15 = .ok (.getfield 125, 3) := by decide +kernel
theorem dX3_howManyNeverShaded_18 : decode cX3_howManyNeverShaded 18 = .ok (.iload_n 2, 1) := by decide +kernel
theorem dX3_howManyNeverShaded_19 : decode cX3_howManyNeverShaded 19 = .ok (.invokevirtual 129, 3) := by decide +kernel
theorem dX3_howManyNeverShaded_22 : decode cX3_howManyNeverShaded 22 = .ok (.iconst 1, 1) := by decide +kernel
theorem dX3_howManyNeverShaded_23 : decode cX3_howManyNeverShaded 23 = .ok (.if_icmp .eq 16, 3) := by decide +kernel
theorem dX3_howManyNeverShaded_26 : decode cX3_howManyNeverShaded 26 = .ok (.aload_n 0, 1) := by decide +kernel
theorem dX3_howManyNeverShaded_27 : decode cX3_howManyNeverShaded 27 = .ok (.getfield 42, 3) := by decide +kernel
theorem dX3_howManyNeverShaded_30 : decode cX3_howManyNeverShaded 30 = .ok (.iload_n 2, 1) := by decide +kernel
theorem dX3_howManyNeverShaded_31 : decode cX3_howManyNeverShaded 31 = .ok (.iaload, 1) := by decide +kernel
theorem dX3_howManyNeverShaded_32 : decode cX3_howManyNeverShaded 32 = .ok (.ifCond .ne 7, 3) := by decide +kernel
theorem dX3_howManyNeverShaded_35 : decode cX3_howManyNeverShaded 35 = .ok (.iconst 1, 1) := by decide +kernel
theorem dX3_howManyNeverShaded_36 : decode cX3_howManyNeverShaded 36 = .ok (.goto 4, 3) := by decide +kernel
theorem dX3_howManyNeverShaded_39 : decode cX3_howManyNeverShaded 39 = .ok (.iconst 0, 1) := by decide +kernel
theorem dX3_howManyNeverShaded_40 : decode cX3_howManyNeverShaded 40 = .ok (.iadd, 1) := by decide +kernel
theorem dX3_howManyNeverShaded_41 : decode cX3_howManyNeverShaded 41 = .ok (.istore_n 1, 1) := by decide +kernel
theorem dX3_howManyNeverShaded_42 : decode cX3_howManyNeverShaded 42 = .ok (.iinc 2 1, 3) := by decide +kernel
theorem dX3_howManyNeverShaded_45 : decode cX3_howManyNeverShaded 45 = .ok (.goto (-41), 3) := by decide +kernel
theorem dX3_howManyNeverShaded_48 : decode cX3_howManyNeverShaded 48 = .ok (.iload_n 1, 1) := by decide +kernel
theorem dX3_howManyNeverShaded_49 : decode cX3_howManyNeverShaded 49 = .ok (.ireturn, 1) := by decide +kernel
theorem dX3_leastOwedWay_0 : decode cX3_leastOwedWay 0 = .ok (.aload_n 0, 1) := by decide +kernel
theorem dX3_leastOwedWay_1 : decode cX3_leastOwedWay 1 = .ok (.invokevirtual 61, 3) := by decide +kernel
theorem dX3_leastOwedWay_4 : decode cX3_leastOwedWay 4 = .ok (.invokevirtual 65, 3) := by decide +kernel
theorem dX3_leastOwedWay_7 : decode cX3_leastOwedWay 7 = .ok (.istore_n 3, 1) := by decide +kernel
theorem dX3_leastOwedWay_8 : decode cX3_leastOwedWay 8 = .ok (.ldc 69, 2) := by decide +kernel
theorem dX3_leastOwedWay_10 : decode cX3_leastOwedWay 10 = .ok (.istore 4, 2) := by decide +kernel
theorem dX3_leastOwedWay_12 : decode cX3_leastOwedWay 12 = .ok (.iconst 0, 1) := by decide +kernel
theorem dX3_leastOwedWay_13 : decode cX3_leastOwedWay 13 = .ok (.istore 5, 2) := by decide +kernel
theorem dX3_leastOwedWay_15 : decode cX3_leastOwedWay 15 = .ok (.iconst 0, 1) := by decide +kernel
theorem dX3_leastOwedWay_16 : decode cX3_leastOwedWay 16 = .ok (.istore 6, 2) := by decide +kernel
theorem dX3_leastOwedWay_18 : decode cX3_leastOwedWay 18 = .ok (.iload 6, 2) := by decide +kernel
theorem dX3_leastOwedWay_20 : decode cX3_leastOwedWay 20 = .ok (.iconst 5, 1) := by decide +kernel
theorem dX3_leastOwedWay_21 : decode cX3_leastOwedWay 21 = .ok (.if_icmp .ge 17, 3) := by decide +kernel
theorem dX3_leastOwedWay_24 : decode cX3_leastOwedWay 24 = .ok (.aload_n 0, 1) := by decide +kernel
theorem dX3_leastOwedWay_25 : decode cX3_leastOwedWay 25 = .ok (.getfield 31, 3) := by decide +kernel
theorem dX3_leastOwedWay_28 : decode cX3_leastOwedWay 28 = .ok (.iload 6, 2) := by decide +kernel
theorem dX3_leastOwedWay_30 : decode cX3_leastOwedWay 30 = .ok (.iconst 0, 1) := by decide +kernel
theorem dX3_leastOwedWay_31 : decode cX3_leastOwedWay 31 = .ok (.iastore, 1) := by decide +kernel
theorem dX3_leastOwedWay_32 : decode cX3_leastOwedWay 32 = .ok (.iinc 6 1, 3) := by decide +kernel
theorem dX3_leastOwedWay_35 : decode cX3_leastOwedWay 35 = .ok (.goto (-17), 3) := by decide +kernel
theorem dX3_leastOwedWay_38 : decode cX3_leastOwedWay 38 = .ok (.iconst 0, 1) := by decide +kernel
theorem dX3_leastOwedWay_39 : decode cX3_leastOwedWay 39 = .ok (.istore 6, 2) := by decide +kernel
theorem dX3_leastOwedWay_41 : decode cX3_leastOwedWay 41 = .ok (.iload 6, 2) := by decide +kernel
theorem dX3_leastOwedWay_43 : decode cX3_leastOwedWay 43 = .ok (.sipush 3125, 3) := by decide +kernel
theorem dX3_leastOwedWay_46 : decode cX3_leastOwedWay 46 = .ok (.if_icmp .ge 136, 3) := by decide +kernel
theorem dX3_leastOwedWay_49 : decode cX3_leastOwedWay 49 = .ok (.iload 5, 2) := by decide +kernel
theorem dX3_leastOwedWay_51 : decode cX3_leastOwedWay 51 = .ok (.ifCond .lt 131, 3) := by decide +kernel
theorem dX3_leastOwedWay_54 : decode cX3_leastOwedWay 54 = .ok (.aload_n 0, 1) := by decide +kernel
theorem dX3_leastOwedWay_55 : decode cX3_leastOwedWay 55 = .ok (.getfield 21, 3) := by decide +kernel
theorem dX3_leastOwedWay_58 : decode cX3_leastOwedWay 58 = .ok (.iload 5, 2) := by decide +kernel
theorem dX3_leastOwedWay_60 : decode cX3_leastOwedWay 60 = .ok (.aaload, 1) := by decide +kernel
theorem dX3_leastOwedWay_61 : decode cX3_leastOwedWay 61 = .ok (.astore 7, 2) := by decide +kernel
theorem dX3_leastOwedWay_63 : decode cX3_leastOwedWay 63 = .ok (.iload 5, 2) := by decide +kernel
theorem dX3_leastOwedWay_65 : decode cX3_leastOwedWay 65 = .ok (.istore 8, 2) := by decide +kernel
theorem dX3_leastOwedWay_67 : decode cX3_leastOwedWay 67 = .ok (.iload 8, 2) := by decide +kernel
theorem dX3_leastOwedWay_69 : decode cX3_leastOwedWay 69 = .ok (.iload_n 2, 1) := by decide +kernel
theorem dX3_leastOwedWay_70 : decode cX3_leastOwedWay 70 = .ok (.if_icmp .ge 67, 3) := by decide +kernel
theorem dX3_leastOwedWay_73 : decode cX3_leastOwedWay 73 = .ok (.iload 8, 2) := by decide +kernel
theorem dX3_leastOwedWay_75 : decode cX3_leastOwedWay 75 = .ok (.iconst 5, 1) := by decide +kernel
theorem dX3_leastOwedWay_76 : decode cX3_leastOwedWay 76 = .ok (.if_icmp .ge 61, 3) := by decide +kernel
theorem dX3_leastOwedWay_79 : decode cX3_leastOwedWay 79 = .ok (.aload_n 0, 1) := by decide +kernel
theorem dX3_leastOwedWay_80 : decode cX3_leastOwedWay 80 = .ok (.getfield 21, 3) := by decide +kernel
theorem dX3_leastOwedWay_83 : decode cX3_leastOwedWay 83 = .ok (.iload 8, 2) := by decide +kernel
theorem dX3_leastOwedWay_85 : decode cX3_leastOwedWay 85 = .ok (.iconst 1, 1) := by decide +kernel
theorem dX3_leastOwedWay_86 : decode cX3_leastOwedWay 86 = .ok (.iadd, 1) := by decide +kernel
theorem dX3_leastOwedWay_87 : decode cX3_leastOwedWay 87 = .ok (.aaload, 1) := by decide +kernel
theorem dX3_leastOwedWay_88 : decode cX3_leastOwedWay 88 = .ok (.astore 7, 2) := by decide +kernel
theorem dX3_leastOwedWay_90 : decode cX3_leastOwedWay 90 = .ok (.aload 7, 2) := by decide +kernel
theorem dX3_leastOwedWay_92 : decode cX3_leastOwedWay 92 = .ok (.aload_n 0, 1) := by decide +kernel
theorem dX3_leastOwedWay_93 : decode cX3_leastOwedWay 93 = .ok (.getfield 21, 3) := by decide +kernel
theorem dX3_leastOwedWay_96 : decode cX3_leastOwedWay 96 = .ok (.iload 8, 2) := by decide +kernel
theorem dX3_leastOwedWay_98 : decode cX3_leastOwedWay 98 = .ok (.aaload, 1) := by decide +kernel
theorem dX3_leastOwedWay_99 : decode cX3_leastOwedWay 99 = .ok (.invokevirtual 54, 3) := by decide +kernel
theorem dX3_leastOwedWay_102 : decode cX3_leastOwedWay 102 = .ok (.aload 7, 2) := by decide +kernel
theorem dX3_leastOwedWay_104 : decode cX3_leastOwedWay 104 = .ok (.iload_n 1, 1) := by decide +kernel
theorem dX3_leastOwedWay_105 : decode cX3_leastOwedWay 105 = .ok (.aload_n 0, 1) := by decide +kernel
theorem dX3_leastOwedWay_106 : decode cX3_leastOwedWay 106 = .ok (.aload_n 0, 1) := by decide +kernel
theorem dX3_leastOwedWay_107 : decode cX3_leastOwedWay 107 = .ok (.getfield 31, 3) := by decide +kernel
theorem dX3_leastOwedWay_110 : decode cX3_leastOwedWay 110 = .ok (.iload 8, 2) := by decide +kernel
theorem dX3_leastOwedWay_112 : decode cX3_leastOwedWay 112 = .ok (.iaload, 1) := by decide +kernel
theorem dX3_leastOwedWay_113 : decode cX3_leastOwedWay 113 = .ok (.invokevirtual 70, 3) := by decide +kernel
theorem dX3_leastOwedWay_116 : decode cX3_leastOwedWay 116 = .ok (.invokevirtual 74, 3) := by decide +kernel
theorem dX3_leastOwedWay_119 : decode cX3_leastOwedWay 119 = .ok (.aload_n 0, 1) := by decide +kernel
theorem dX3_leastOwedWay_120 : decode cX3_leastOwedWay 120 = .ok (.getfield 9, 3) := by decide +kernel
theorem dX3_leastOwedWay_123 : decode cX3_leastOwedWay 123 = .ok (.aload 7, 2) := by decide +kernel
theorem dX3_leastOwedWay_125 : decode cX3_leastOwedWay 125 = .ok (.iconst 1, 1) := by decide +kernel
theorem dX3_leastOwedWay_126 : decode cX3_leastOwedWay 126 = .ok (.iconst (-1), 1) := by decide +kernel
theorem dX3_leastOwedWay_127 : decode cX3_leastOwedWay 127 = .ok (.invokevirtual 78, 3) := by decide +kernel
theorem dX3_leastOwedWay_130 : decode cX3_leastOwedWay 130 = .ok (.pop, 1) := by decide +kernel
theorem dX3_leastOwedWay_131 : decode cX3_leastOwedWay 131 = .ok (.iinc 8 1, 3) := by decide +kernel
theorem dX3_leastOwedWay_134 : decode cX3_leastOwedWay 134 = .ok (.goto (-67), 3) := by decide +kernel
theorem dX3_leastOwedWay_137 : decode cX3_leastOwedWay 137 = .ok (.aload 7, 2) := by decide +kernel
theorem dX3_leastOwedWay_139 : decode cX3_leastOwedWay 139 = .ok (.invokevirtual 65, 3) := by decide +kernel
theorem dX3_leastOwedWay_142 : decode cX3_leastOwedWay 142 = .ok (.istore 8, 2) := by decide +kernel
theorem dX3_leastOwedWay_144 : decode cX3_leastOwedWay 144 = .ok (.iload 8, 2) := by decide +kernel
theorem dX3_leastOwedWay_146 : decode cX3_leastOwedWay 146 = .ok (.iload 4, 2) := by decide +kernel
theorem dX3_leastOwedWay_148 : decode cX3_leastOwedWay 148 = .ok (.if_icmp .ge 21, 3) := by decide +kernel
theorem dX3_leastOwedWay_151 : decode cX3_leastOwedWay 151 = .ok (.iload 8, 2) := by decide +kernel
theorem dX3_leastOwedWay_153 : decode cX3_leastOwedWay 153 = .ok (.istore 4, 2) := by decide +kernel
theorem dX3_leastOwedWay_155 : decode cX3_leastOwedWay 155 = .ok (.aload_n 0, 1) := by decide +kernel
theorem dX3_leastOwedWay_156 : decode cX3_leastOwedWay 156 = .ok (.getfield 31, 3) := by decide +kernel
theorem dX3_leastOwedWay_159 : decode cX3_leastOwedWay 159 = .ok (.iconst 0, 1) := by decide +kernel
theorem dX3_leastOwedWay_160 : decode cX3_leastOwedWay 160 = .ok (.aload_n 0, 1) := by decide +kernel
theorem dX3_leastOwedWay_161 : decode cX3_leastOwedWay 161 = .ok (.getfield 35, 3) := by decide +kernel
theorem dX3_leastOwedWay_164 : decode cX3_leastOwedWay 164 = .ok (.iconst 0, 1) := by decide +kernel
theorem dX3_leastOwedWay_165 : decode cX3_leastOwedWay 165 = .ok (.iconst 5, 1) := by decide +kernel
theorem dX3_leastOwedWay_166 : decode cX3_leastOwedWay 166 = .ok (.invokestatic 84, 3) := by decide +kernel
theorem dX3_leastOwedWay_169 : decode cX3_leastOwedWay 169 = .ok (.aload_n 0, 1) := by decide +kernel
theorem dX3_leastOwedWay_170 : decode cX3_leastOwedWay 170 = .ok (.iload_n 2, 1) := by decide +kernel
theorem dX3_leastOwedWay_171 : decode cX3_leastOwedWay 171 = .ok (.invokevirtual 90, 3) := by decide +kernel
theorem dX3_leastOwedWay_174 : decode cX3_leastOwedWay 174 = .ok (.istore 5, 2) := by decide +kernel
theorem dX3_leastOwedWay_176 : decode cX3_leastOwedWay 176 = .ok (.iinc 6 1, 3) := by decide +kernel
theorem dX3_leastOwedWay_179 : decode cX3_leastOwedWay 179 = .ok (.goto (-138), 3) := by decide +kernel
theorem dX3_leastOwedWay_182 : decode cX3_leastOwedWay 182 = .ok (.iload_n 3, 1) := by decide +kernel
theorem dX3_leastOwedWay_183 : decode cX3_leastOwedWay 183 = .ok (.iload 4, 2) := by decide +kernel
theorem dX3_leastOwedWay_185 : decode cX3_leastOwedWay 185 = .ok (.isub, 1) := by decide +kernel
theorem dX3_leastOwedWay_186 : decode cX3_leastOwedWay 186 = .ok (.ireturn, 1) := by decide +kernel
theorem dX3_mostShaded_0 : decode cX3_mostShaded 0 = .ok (.iconst (-1), 1) := by decide +kernel
theorem dX3_mostShaded_1 : decode cX3_mostShaded 1 = .ok (.istore_n 1, 1) := by decide +kernel
theorem dX3_mostShaded_2 : decode cX3_mostShaded 2 = .ok (.iconst 0, 1) := by decide +kernel
theorem dX3_mostShaded_3 : decode cX3_mostShaded 3 = .ok (.istore_n 2, 1) := by decide +kernel
theorem dX3_mostShaded_4 : decode cX3_mostShaded 4 = .ok (.iload_n 2, 1) := by decide +kernel
theorem dX3_mostShaded_5 : decode cX3_mostShaded 5 = .ok (.bipush 100, 2) := by decide +kernel
theorem dX3_mostShaded_7 : decode cX3_mostShaded 7 = .ok (.if_icmp .ge 49, 3) := by decide +kernel
theorem dX3_mostShaded_10 : decode cX3_mostShaded 10 = .ok (.aload_n 0, 1) := by decide +kernel
theorem dX3_mostShaded_11 : decode cX3_mostShaded 11 = .ok (.getfield 9, 3) := by decide +kernel
theorem dX3_mostShaded_14 : decode cX3_mostShaded 14 = .ok (.getfield 125, 3) := by decide +kernel
theorem dX3_mostShaded_17 : decode cX3_mostShaded 17 = .ok (.iload_n 2, 1) := by decide +kernel
theorem dX3_mostShaded_18 : decode cX3_mostShaded 18 = .ok (.invokevirtual 129, 3) := by decide +kernel
theorem dX3_mostShaded_21 : decode cX3_mostShaded 21 = .ok (.iconst 1, 1) := by decide +kernel
theorem dX3_mostShaded_22 : decode cX3_mostShaded 22 = .ok (.if_icmp .ne 6, 3) := by decide +kernel
theorem dX3_mostShaded_25 : decode cX3_mostShaded 25 = .ok (.goto 25, 3) := by decide +kernel
theorem dX3_mostShaded_28 : decode cX3_mostShaded 28 = .ok (.iload_n 1, 1) := by decide +kernel
theorem dX3_mostShaded_29 : decode cX3_mostShaded 29 = .ok (.iconst (-1), 1) := by decide +kernel
theorem dX3_mostShaded_30 : decode cX3_mostShaded 30 = .ok (.if_icmp .eq 18, 3) := by decide +kernel
theorem dX3_mostShaded_33 : decode cX3_mostShaded 33 = .ok (.aload_n 0, 1) := by decide +kernel
theorem dX3_mostShaded_34 : decode cX3_mostShaded 34 = .ok (.getfield 42, 3) := by decide +kernel
theorem dX3_mostShaded_37 : decode cX3_mostShaded 37 = .ok (.iload_n 2, 1) := by decide +kernel
theorem dX3_mostShaded_38 : decode cX3_mostShaded 38 = .ok (.iaload, 1) := by decide +kernel
theorem dX3_mostShaded_39 : decode cX3_mostShaded 39 = .ok (.aload_n 0, 1) := by decide +kernel
theorem dX3_mostShaded_40 : decode cX3_mostShaded 40 = .ok (.getfield 42, 3) := by decide +kernel
theorem dX3_mostShaded_43 : decode cX3_mostShaded 43 = .ok (.iload_n 1, 1) := by decide +kernel
theorem dX3_mostShaded_44 : decode cX3_mostShaded 44 = .ok (.iaload, 1) := by decide +kernel
theorem dX3_mostShaded_45 : decode cX3_mostShaded 45 = .ok (.if_icmp .le 5, 3) := by decide +kernel
theorem dX3_mostShaded_48 : decode cX3_mostShaded 48 = .ok (.iload_n 2, 1) := by decide +kernel
theorem dX3_mostShaded_49 : decode cX3_mostShaded 49 = .ok (.istore_n 1, 1) := by decide +kernel
theorem dX3_mostShaded_50 : decode cX3_mostShaded 50 = .ok (.iinc 2 1, 3) := by decide +kernel
theorem dX3_mostShaded_53 : decode cX3_mostShaded 53 = .ok (.goto (-49), 3) := by decide +kernel
theorem dX3_mostShaded_56 : decode cX3_mostShaded 56 = .ok (.iload_n 1, 1) := by decide +kernel
theorem dX3_mostShaded_57 : decode cX3_mostShaded 57 = .ok (.ireturn, 1) := by decide +kernel
theorem dX3_oneStepMore_0 : decode cX3_oneStepMore 0 = .ok (.ldc 69, 2) := by decide +kernel
theorem dX3_oneStepMore_2 : decode cX3_oneStepMore 2 = .ok (.istore_n 2, 1) := by decide +kernel
theorem dX3_oneStepMore_3 : decode cX3_oneStepMore 3 = .ok (.aload_n 0, 1) := by decide +kernel
theorem dX3_oneStepMore_4 : decode cX3_oneStepMore 4 = .ok (.getfield 9, 3) := by decide +kernel
theorem dX3_oneStepMore_7 : decode cX3_oneStepMore 7 = .ok (.getfield 125, 3) := by decide +kernel
theorem dX3_oneStepMore_10 : decode cX3_oneStepMore 10 = .ok (.iload_n 1, 1) := by decide +kernel
theorem dX3_oneStepMore_11 : decode cX3_oneStepMore 11 = .ok (.invokevirtual 147, 3) := by decide +kernel
theorem dX3_oneStepMore_14 : decode cX3_oneStepMore 14 = .ok (.ifCond .ne 5, 3) := by decide +kernel
theorem dX3_oneStepMore_17 : decode cX3_oneStepMore 17 = .ok (.iload_n 2, 1) := by decide +kernel
theorem dX3_oneStepMore_18 : decode cX3_oneStepMore 18 = .ok (.ireturn, 1) := by decide +kernel
theorem dX3_oneStepMore_19 : decode cX3_oneStepMore 19 = .ok (.iconst 0, 1) := by decide +kernel
theorem dX3_oneStepMore_20 : decode cX3_oneStepMore 20 = .ok (.istore_n 3, 1) := by decide +kernel
theorem dX3_oneStepMore_21 : decode cX3_oneStepMore 21 = .ok (.iload_n 3, 1) := by decide +kernel
theorem dX3_oneStepMore_22 : decode cX3_oneStepMore 22 = .ok (.bipush 8, 2) := by decide +kernel
theorem dX3_oneStepMore_24 : decode cX3_oneStepMore 24 = .ok (.if_icmp .ge 38, 3) := by decide +kernel
theorem dX3_oneStepMore_27 : decode cX3_oneStepMore 27 = .ok (.iload_n 1, 1) := by decide +kernel
theorem dX3_oneStepMore_28 : decode cX3_oneStepMore 28 = .ok (.iload_n 3, 1) := by decide +kernel
theorem dX3_oneStepMore_29 : decode cX3_oneStepMore 29 = .ok (.invokestatic 150, 3) := by decide +kernel
theorem dX3_oneStepMore_32 : decode cX3_oneStepMore 32 = .ok (.istore 4, 2) := by decide +kernel
theorem dX3_oneStepMore_34 : decode cX3_oneStepMore 34 = .ok (.iload 4, 2) := by decide +kernel
theorem dX3_oneStepMore_36 : decode cX3_oneStepMore 36 = .ok (.invokestatic 120, 3) := by decide +kernel
theorem dX3_oneStepMore_39 : decode cX3_oneStepMore 39 = .ok (.ifCond .eq 17, 3) := by decide +kernel
theorem dX3_oneStepMore_42 : decode cX3_oneStepMore 42 = .ok (.iload_n 2, 1) := by decide +kernel
theorem dX3_oneStepMore_43 : decode cX3_oneStepMore 43 = .ok (.aload_n 0, 1) := by decide +kernel
theorem dX3_oneStepMore_44 : decode cX3_oneStepMore 44 = .ok (.getfield 48, 3) := by decide +kernel
theorem dX3_oneStepMore_47 : decode cX3_oneStepMore 47 = .ok (.iload 4, 2) := by decide +kernel
theorem dX3_oneStepMore_49 : decode cX3_oneStepMore 49 = .ok (.iaload, 1) := by decide +kernel
theorem dX3_oneStepMore_50 : decode cX3_oneStepMore 50 = .ok (.iconst 1, 1) := by decide +kernel
theorem dX3_oneStepMore_51 : decode cX3_oneStepMore 51 = .ok (.iadd, 1) := by decide +kernel
theorem dX3_oneStepMore_52 : decode cX3_oneStepMore 52 = .ok (.invokestatic 94, 3) := by decide +kernel
theorem dX3_oneStepMore_55 : decode cX3_oneStepMore 55 = .ok (.istore_n 2, 1) := by decide +kernel
theorem dX3_oneStepMore_56 : decode cX3_oneStepMore 56 = .ok (.iinc 3 2, 3) := by decide +kernel
theorem dX3_oneStepMore_59 : decode cX3_oneStepMore 59 = .ok (.goto (-38), 3) := by decide +kernel
theorem dX3_oneStepMore_62 : decode cX3_oneStepMore 62 = .ok (.iload_n 2, 1) := by decide +kernel
theorem dX3_oneStepMore_63 : decode cX3_oneStepMore 63 = .ok (.ireturn, 1) := by decide +kernel
theorem dX3_settle_0 : decode cX3_settle 0 = .ok (.iload_n 1, 1) := by decide +kernel
theorem dX3_settle_1 : decode cX3_settle 1 = .ok (.ifCond .lt 14, 3) := by decide +kernel
theorem dX3_settle_4 : decode cX3_settle 4 = .ok (.iload_n 1, 1) := by decide +kernel
theorem dX3_settle_5 : decode cX3_settle 5 = .ok (.iload_n 2, 1) := by decide +kernel
theorem dX3_settle_6 : decode cX3_settle 6 = .ok (.if_icmp .gt 9, 3) := by decide +kernel
theorem dX3_settle_9 : decode cX3_settle 9 = .ok (.iload_n 2, 1) := by decide +kernel
theorem dX3_settle_10 : decode cX3_settle 10 = .ok (.bipush 30, 2) := by decide +kernel
theorem dX3_settle_12 : decode cX3_settle 12 = .ok (.if_icmp .le 4, 3) := by decide +kernel
theorem dX3_settle_15 : decode cX3_settle 15 = .ok (.return_, 1) := by decide +kernel
theorem dX3_settle_16 : decode cX3_settle 16 = .ok (.iconst 0, 1) := by decide +kernel
theorem dX3_settle_17 : decode cX3_settle 17 = .ok (.istore_n 3, 1) := by decide +kernel
theorem dX3_settle_18 : decode cX3_settle 18 = .ok (.iload_n 3, 1) := by decide +kernel
theorem dX3_settle_19 : decode cX3_settle 19 = .ok (.bipush 100, 2) := by decide +kernel
theorem dX3_settle_21 : decode cX3_settle 21 = .ok (.if_icmp .ge 96, 3) := by decide +kernel
theorem dX3_settle_24 : decode cX3_settle 24 = .ok (.iload_n 1, 1) := by decide +kernel
theorem dX3_settle_25 : decode cX3_settle 25 = .ok (.iload_n 2, 1) := by decide +kernel
theorem dX3_settle_26 : decode cX3_settle 26 = .ok (.if_icmp .ge 21, 3) := by decide +kernel
theorem dX3_settle_29 : decode cX3_settle 29 = .ok (.aload_n 0, 1) := by decide +kernel
theorem dX3_settle_30 : decode cX3_settle 30 = .ok (.getfield 9, 3) := by decide +kernel
theorem dX3_settle_33 : decode cX3_settle 33 = .ok (.getfield 108, 3) := by decide +kernel
theorem dX3_settle_36 : decode cX3_settle 36 = .ok (.iload_n 3, 1) := by decide +kernel
theorem dX3_settle_37 : decode cX3_settle 37 = .ok (.invokevirtual 153, 3) := by decide +kernel
theorem dX3_settle_40 : decode cX3_settle 40 = .ok (.ifCond .le 7, 3) := by decide +kernel
theorem dX3_settle_43 : decode cX3_settle 43 = .ok (.iconst 1, 1) := by decide +kernel
theorem dX3_settle_44 : decode cX3_settle 44 = .ok (.goto 4, 3) := by decide +kernel
theorem dX3_settle_47 : decode cX3_settle 47 = .ok (.iconst 0, 1) := by decide +kernel
theorem dX3_settle_48 : decode cX3_settle 48 = .ok (.istore 4, 2) := by decide +kernel
theorem dX3_settle_50 : decode cX3_settle 50 = .ok (.iload 4, 2) := by decide +kernel
theorem dX3_settle_52 : decode cX3_settle 52 = .ok (.ifCond .eq 45, 3) := by decide +kernel
theorem dX3_settle_55 : decode cX3_settle 55 = .ok (.aload_n 0, 1) := by decide +kernel
theorem dX3_settle_56 : decode cX3_settle 56 = .ok (.getfield 45, 3) := by decide +kernel
theorem dX3_settle_59 : decode cX3_settle 59 = .ok (.iload_n 1, 1) := by decide +kernel
theorem dX3_settle_60 : decode cX3_settle 60 = .ok (.iconst 1, 1) := by decide +kernel
theorem dX3_settle_61 : decode cX3_settle 61 = .ok (.iadd, 1) := by decide +kernel
theorem dX3_settle_62 : decode cX3_settle 62 = .ok (.aaload, 1) := by decide +kernel
theorem dX3_settle_63 : decode cX3_settle 63 = .ok (.iload_n 3, 1) := by decide +kernel
theorem dX3_settle_64 : decode cX3_settle 64 = .ok (.aload_n 0, 1) := by decide +kernel
theorem dX3_settle_65 : decode cX3_settle 65 = .ok (.getfield 45, 3) := by decide +kernel
theorem dX3_settle_68 : decode cX3_settle 68 = .ok (.iload_n 1, 1) := by decide +kernel
theorem dX3_settle_69 : decode cX3_settle 69 = .ok (.iconst 1, 1) := by decide +kernel
theorem dX3_settle_70 : decode cX3_settle 70 = .ok (.iadd, 1) := by decide +kernel
theorem dX3_settle_71 : decode cX3_settle 71 = .ok (.aaload, 1) := by decide +kernel
theorem dX3_settle_72 : decode cX3_settle 72 = .ok (.iload_n 3, 1) := by decide +kernel
theorem dX3_settle_73 : decode cX3_settle 73 = .ok (.iaload, 1) := by decide +kernel
theorem dX3_settle_74 : decode cX3_settle 74 = .ok (.aload_n 0, 1) := by decide +kernel
theorem dX3_settle_75 : decode cX3_settle 75 = .ok (.getfield 48, 3) := by decide +kernel
theorem dX3_settle_78 : decode cX3_settle 78 = .ok (.iload_n 3, 1) := by decide +kernel
theorem dX3_settle_79 : decode cX3_settle 79 = .ok (.iaload, 1) := by decide +kernel
theorem dX3_settle_80 : decode cX3_settle 80 = .ok (.invokestatic 94, 3) := by decide +kernel
theorem dX3_settle_83 : decode cX3_settle 83 = .ok (.iastore, 1) := by decide +kernel
theorem dX3_settle_84 : decode cX3_settle 84 = .ok (.aload_n 0, 1) := by decide +kernel
theorem dX3_settle_85 : decode cX3_settle 85 = .ok (.getfield 45, 3) := by decide +kernel
theorem dX3_settle_88 : decode cX3_settle 88 = .ok (.iload_n 1, 1) := by decide +kernel
theorem dX3_settle_89 : decode cX3_settle 89 = .ok (.aaload, 1) := by decide +kernel
theorem dX3_settle_90 : decode cX3_settle 90 = .ok (.iload_n 3, 1) := by decide +kernel
theorem dX3_settle_91 : decode cX3_settle 91 = .ok (.ldc 69, 2) := by decide +kernel
theorem dX3_settle_93 : decode cX3_settle 93 = .ok (.iastore, 1) := by decide +kernel
theorem dX3_settle_94 : decode cX3_settle 94 = .ok (.goto 17, 3) := by decide +kernel
theorem dX3_settle_97 : decode cX3_settle 97 = .ok (.aload_n 0, 1) := by decide +kernel
theorem dX3_settle_98 : decode cX3_settle 98 = .ok (.getfield 45, 3) := by decide +kernel
theorem dX3_settle_101 : decode cX3_settle 101 = .ok (.iload_n 1, 1) := by decide +kernel
theorem dX3_settle_102 : decode cX3_settle 102 = .ok (.aaload, 1) := by decide +kernel
theorem dX3_settle_103 : decode cX3_settle 103 = .ok (.iload_n 3, 1) := by decide +kernel
theorem dX3_settle_104 : decode cX3_settle 104 = .ok (.aload_n 0, 1) := by decide +kernel
theorem dX3_settle_105 : decode cX3_settle 105 = .ok (.getfield 48, 3) := by decide +kernel
theorem dX3_settle_108 : decode cX3_settle 108 = .ok (.iload_n 3, 1) := by decide +kernel
theorem dX3_settle_109 : decode cX3_settle 109 = .ok (.iaload, 1) := by decide +kernel
theorem dX3_settle_110 : decode cX3_settle 110 = .ok (.iastore, 1) := by decide +kernel
theorem dX3_settle_111 : decode cX3_settle 111 = .ok (.iinc 3 1, 3) := by decide +kernel
theorem dX3_settle_114 : decode cX3_settle 114 = .ok (.goto (-96), 3) := by decide +kernel
theorem dX3_settle_117 : decode cX3_settle 117 = .ok (.return_, 1) := by decide +kernel
theorem dX3_spreadSteps_0 : decode cX3_spreadSteps 0 = .ok (.aload_n 1, 1) := by decide +kernel
theorem dX3_spreadSteps_1 : decode cX3_spreadSteps 1 = .ok (.iconst 0, 1) := by decide +kernel
theorem dX3_spreadSteps_2 : decode cX3_spreadSteps 2 = .ok (.aload_n 0, 1) := by decide +kernel
theorem dX3_spreadSteps_3 : decode cX3_spreadSteps 3 = .ok (.getfield 48, 3) := by decide +kernel
theorem dX3_spreadSteps_6 : decode cX3_spreadSteps 6 = .ok (.iconst 0, 1) := by decide +kernel
theorem dX3_spreadSteps_7 : decode cX3_spreadSteps 7 = .ok (.bipush 100, 2) := by decide +kernel
theorem dX3_spreadSteps_9 : decode cX3_spreadSteps 9 = .ok (.invokestatic 84, 3) := by decide +kernel
theorem dX3_spreadSteps_12 : decode cX3_spreadSteps 12 = .ok (.iconst 0, 1) := by decide +kernel
theorem dX3_spreadSteps_13 : decode cX3_spreadSteps 13 = .ok (.istore_n 2, 1) := by decide +kernel
theorem dX3_spreadSteps_14 : decode cX3_spreadSteps 14 = .ok (.iload_n 2, 1) := by decide +kernel
theorem dX3_spreadSteps_15 : decode cX3_spreadSteps 15 = .ok (.iconst 3, 1) := by decide +kernel
theorem dX3_spreadSteps_16 : decode cX3_spreadSteps 16 = .ok (.if_icmp .ge 58, 3) := by decide +kernel
theorem dX3_spreadSteps_19 : decode cX3_spreadSteps 19 = .ok (.iconst 0, 1) := by decide +kernel
theorem dX3_spreadSteps_20 : decode cX3_spreadSteps 20 = .ok (.istore_n 3, 1) := by decide +kernel
theorem dX3_spreadSteps_21 : decode cX3_spreadSteps 21 = .ok (.iload_n 3, 1) := by decide +kernel
theorem dX3_spreadSteps_22 : decode cX3_spreadSteps 22 = .ok (.bipush 100, 2) := by decide +kernel
theorem dX3_spreadSteps_24 : decode cX3_spreadSteps 24 = .ok (.if_icmp .ge 29, 3) := by decide +kernel
theorem dX3_spreadSteps_27 : decode cX3_spreadSteps 27 = .ok (.aload_n 0, 1) := by decide +kernel
theorem dX3_spreadSteps_28 : decode cX3_spreadSteps 28 = .ok (.getfield 51, 3) := by decide +kernel
theorem dX3_spreadSteps_31 : decode cX3_spreadSteps 31 = .ok (.iload_n 3, 1) := by decide +kernel
theorem dX3_spreadSteps_32 : decode cX3_spreadSteps 32 = .ok (.aload_n 0, 1) := by decide +kernel
theorem dX3_spreadSteps_33 : decode cX3_spreadSteps 33 = .ok (.getfield 48, 3) := by decide +kernel
theorem dX3_spreadSteps_36 : decode cX3_spreadSteps 36 = .ok (.iload_n 3, 1) := by decide +kernel
theorem dX3_spreadSteps_37 : decode cX3_spreadSteps 37 = .ok (.iaload, 1) := by decide +kernel
theorem dX3_spreadSteps_38 : decode cX3_spreadSteps 38 = .ok (.aload_n 0, 1) := by decide +kernel
theorem dX3_spreadSteps_39 : decode cX3_spreadSteps 39 = .ok (.iload_n 3, 1) := by decide +kernel
theorem dX3_spreadSteps_40 : decode cX3_spreadSteps 40 = .ok (.invokevirtual 144, 3) := by decide +kernel
theorem dX3_spreadSteps_43 : decode cX3_spreadSteps 43 = .ok (.invokestatic 94, 3) := by decide +kernel
theorem dX3_spreadSteps_46 : decode cX3_spreadSteps 46 = .ok (.iastore, 1) := by decide +kernel
theorem dX3_spreadSteps_47 : decode cX3_spreadSteps 47 = .ok (.iinc 3 1, 3) := by decide +kernel
theorem dX3_spreadSteps_50 : decode cX3_spreadSteps 50 = .ok (.goto (-29), 3) := by decide +kernel
theorem dX3_spreadSteps_53 : decode cX3_spreadSteps 53 = .ok (.aload_n 0, 1) := by decide +kernel
theorem dX3_spreadSteps_54 : decode cX3_spreadSteps 54 = .ok (.getfield 51, 3) := by decide +kernel
theorem dX3_spreadSteps_57 : decode cX3_spreadSteps 57 = .ok (.iconst 0, 1) := by decide +kernel
theorem dX3_spreadSteps_58 : decode cX3_spreadSteps 58 = .ok (.aload_n 0, 1) := by decide +kernel
theorem dX3_spreadSteps_59 : decode cX3_spreadSteps 59 = .ok (.getfield 48, 3) := by decide +kernel
theorem dX3_spreadSteps_62 : decode cX3_spreadSteps 62 = .ok (.iconst 0, 1) := by decide +kernel
theorem dX3_spreadSteps_63 : decode cX3_spreadSteps 63 = .ok (.bipush 100, 2) := by decide +kernel
theorem dX3_spreadSteps_65 : decode cX3_spreadSteps 65 = .ok (.invokestatic 84, 3) := by decide +kernel
theorem dX3_spreadSteps_68 : decode cX3_spreadSteps 68 = .ok (.iinc 2 1, 3) := by decide +kernel
theorem dX3_spreadSteps_71 : decode cX3_spreadSteps 71 = .ok (.goto (-57), 3) := by decide +kernel
theorem dX3_spreadSteps_74 : decode cX3_spreadSteps 74 = .ok (.return_, 1) := by decide +kernel
theorem dX3_stepAlone_0 : decode cX3_stepAlone 0 = .ok (.aload_n 0, 1) := by decide +kernel
theorem dX3_stepAlone_1 : decode cX3_stepAlone 1 = .ok (.getfield 28, 3) := by decide +kernel
theorem dX3_stepAlone_4 : decode cX3_stepAlone 4 = .ok (.iload_n 1, 1) := by decide +kernel
theorem dX3_stepAlone_5 : decode cX3_stepAlone 5 = .ok (.ifCond .lt 12, 3) := by decide +kernel
theorem dX3_stepAlone_8 : decode cX3_stepAlone 8 = .ok (.iload_n 1, 1) := by decide +kernel
theorem dX3_stepAlone_9 : decode cX3_stepAlone 9 = .ok (.iconst 4, 1) := by decide +kernel
theorem dX3_stepAlone_10 : decode cX3_stepAlone 10 = .ok (.if_icmp .gt 7, 3) := by decide +kernel
theorem dX3_stepAlone_13 : decode cX3_stepAlone 13 = .ok (.iload_n 1, 1) := by decide +kernel
theorem dX3_stepAlone_14 : decode cX3_stepAlone 14 = .ok (.goto 4, 3) := by decide +kernel
theorem dX3_stepAlone_17 : decode cX3_stepAlone 17 = .ok (.iconst 4, 1) := by decide +kernel
theorem dX3_stepAlone_18 : decode cX3_stepAlone 18 = .ok (.aaload, 1) := by decide +kernel
theorem dX3_stepAlone_19 : decode cX3_stepAlone 19 = .ok (.areturn, 1) := by decide +kernel
theorem dX3_turnToNextWay_0 : decode cX3_turnToNextWay 0 = .ok (.iload_n 1, 1) := by decide +kernel
theorem dX3_turnToNextWay_1 : decode cX3_turnToNextWay 1 = .ok (.iconst 5, 1) := by decide +kernel
theorem dX3_turnToNextWay_2 : decode cX3_turnToNextWay 2 = .ok (.invokestatic 94, 3) := by decide +kernel
theorem dX3_turnToNextWay_5 : decode cX3_turnToNextWay 5 = .ok (.iconst 1, 1) := by decide +kernel
theorem dX3_turnToNextWay_6 : decode cX3_turnToNextWay 6 = .ok (.isub, 1) := by decide +kernel
theorem dX3_turnToNextWay_7 : decode cX3_turnToNextWay 7 = .ok (.istore_n 2, 1) := by decide +kernel
theorem dX3_turnToNextWay_8 : decode cX3_turnToNextWay 8 = .ok (.iload_n 2, 1) := by decide +kernel
theorem dX3_turnToNextWay_9 : decode cX3_turnToNextWay 9 = .ok (.ifCond .lt 38, 3) := by decide +kernel
theorem dX3_turnToNextWay_12 : decode cX3_turnToNextWay 12 = .ok (.aload_n 0, 1) := by decide +kernel
theorem dX3_turnToNextWay_13 : decode cX3_turnToNextWay 13 = .ok (.getfield 31, 3) := by decide +kernel
theorem dX3_turnToNextWay_16 : decode cX3_turnToNextWay 16 = .ok (.iload_n 2, 1) := by decide +kernel
theorem dX3_turnToNextWay_17 : decode cX3_turnToNextWay 17 = .ok (.iaload, 1) := by decide +kernel
theorem dX3_turnToNextWay_18 : decode cX3_turnToNextWay 18 = .ok (.iconst 4, 1) := by decide +kernel
theorem dX3_turnToNextWay_19 : decode cX3_turnToNextWay 19 = .ok (.if_icmp .ge 15, 3) := by decide +kernel
theorem dX3_turnToNextWay_22 : decode cX3_turnToNextWay 22 = .ok (.aload_n 0, 1) := by decide +kernel
theorem dX3_turnToNextWay_23 : decode cX3_turnToNextWay 23 = .ok (.getfield 31, 3) := by decide +kernel
theorem dX3_turnToNextWay_26 : decode cX3_turnToNextWay 26 = .ok (.iload_n 2, 1) := by decide +kernel
theorem dX3_turnToNextWay_27 : decode cX3_turnToNextWay 27 = .ok (.dup2, 1) := by decide +kernel
theorem dX3_turnToNextWay_28 : decode cX3_turnToNextWay 28 = .ok (.iaload, 1) := by decide +kernel
theorem dX3_turnToNextWay_29 : decode cX3_turnToNextWay 29 = .ok (.iconst 1, 1) := by decide +kernel
theorem dX3_turnToNextWay_30 : decode cX3_turnToNextWay 30 = .ok (.iadd, 1) := by decide +kernel
theorem dX3_turnToNextWay_31 : decode cX3_turnToNextWay 31 = .ok (.iastore, 1) := by decide +kernel
theorem dX3_turnToNextWay_32 : decode cX3_turnToNextWay 32 = .ok (.iload_n 2, 1) := by decide +kernel
theorem dX3_turnToNextWay_33 : decode cX3_turnToNextWay 33 = .ok (.ireturn, 1) := by decide +kernel
theorem dX3_turnToNextWay_34 : decode cX3_turnToNextWay 34 = .ok (.aload_n 0, 1) := by decide +kernel
theorem dX3_turnToNextWay_35 : decode cX3_turnToNextWay 35 = .ok (.getfield 31, 3) := by decide +kernel
theorem dX3_turnToNextWay_38 : decode cX3_turnToNextWay 38 = .ok (.iload_n 2, 1) := by decide +kernel
theorem dX3_turnToNextWay_39 : decode cX3_turnToNextWay 39 = .ok (.iconst 0, 1) := by decide +kernel
theorem dX3_turnToNextWay_40 : decode cX3_turnToNextWay 40 = .ok (.iastore, 1) := by decide +kernel
theorem dX3_turnToNextWay_41 : decode cX3_turnToNextWay 41 = .ok (.iinc 2 (-1), 3) := by decide +kernel
theorem dX3_turnToNextWay_44 : decode cX3_turnToNextWay 44 = .ok (.goto (-36), 3) := by decide +kernel
theorem dX3_turnToNextWay_47 : decode cX3_turnToNextWay 47 = .ok (.iconst (-1), 1) := by decide +kernel
theorem dX3_turnToNextWay_48 : decode cX3_turnToNextWay 48 = .ok (.ireturn, 1) := by decide +kernel
