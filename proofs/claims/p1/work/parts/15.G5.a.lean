theorem cls_X1 : xCls RX1 TX1 6 1 tyX1 := ⟨xin [499, 501, 503, 505, 507, 509] (by decide +kernel) (by decide +kernel), rfl, tyX1_ok, nmX1⟩
theorem cls_X3 : xCls RX3 TX3 11 3 tyX3 := ⟨xin [464, 466, 468, 470, 472, 474, 476, 478, 480, 482, 484] (by decide +kernel) (by decide +kernel), rfl, tyX3_ok, nmX3⟩
theorem cls_X8 : xCls RX8 TX8 5 8 tyX8 := ⟨xin [206, 208, 210, 212, 214] (by decide +kernel) (by decide +kernel), rfl, tyX8_ok, nmX8⟩
theorem st_X3_6 (h0 : Nat) (σ : xS) (k : Nat) (a : Int) : xobj h0 (xU σ k 6 a) k 3 = (xobj h0 σ k 3).set 6 (.int (xJ a)) := by simp [xobj, xU]
theorem ln_X3_6 (h0 : Nat) (σ : xS) (k : Nat) : 6 < (xobj h0 σ k 3).length := by simp [xobj]
theorem st_X8_1 (h0 : Nat) (σ : xS) (k : Nat) (a : Int) : xobj h0 (xU σ k 1 a) k 8 = (xobj h0 σ k 8).set 1 (.int (xJ a)) := by simp [xobj, xU]
theorem ln_X8_1 (h0 : Nat) (σ : xS) (k : Nat) : 1 < (xobj h0 σ k 8).length := by simp [xobj]
theorem cf_X0_goOn : xCF yX0_goOn cX0_goOn 8 (some .int) 3 := ⟨xq 762 (by decide +kernel) rfl, xq 174 (by decide +kernel) rfl, by decide +kernel⟩
theorem cf_X0_walkOn : xCF yX0_walkOn cX0_walkOn 2 (some .boolean) 1 := ⟨xq 996 (by decide +kernel) rfl, xq 174 (by decide +kernel) rfl, by decide +kernel⟩
theorem cf_X2_clearCounts : xCF yX2_clearCounts cX2_clearCounts 1 none 0 := ⟨xq 923 (by decide +kernel) rfl, xq 176 (by decide +kernel) rfl, by decide +kernel⟩
theorem cf_X2_copyFrom : xCF yX2_copyFrom cX2_copyFrom 3 none 1 := ⟨xq 919 (by decide +kernel) rfl, xq 176 (by decide +kernel) rfl, by decide +kernel⟩
theorem cf_X3_copyOfNow : xCF yX3_copyOfNow cX3_copyOfNow 2 (some (.object "ShadowCourt$Day")) 0 := ⟨xq 915 (by decide +kernel) rfl, xq 177 (by decide +kernel) rfl, by decide +kernel⟩
theorem wq34 : Cond.selects yX0_goOn.cls yX0_goOn yX0_goOn ∈ xTB := xq 34 (by decide +kernel) rfl
theorem wq63 : Cond.selects yX3_copyOfNow.cls yX3_copyOfNow yX3_copyOfNow ∈ xTB := xq 63 (by decide +kernel) rfl
theorem wq64 : Cond.selects yX2_copyFrom.cls yX2_copyFrom yX2_copyFrom ∈ xTB := xq 64 (by decide +kernel) rfl
theorem wq65 : Cond.selects yX2_clearCounts.cls yX2_clearCounts yX2_clearCounts ∈ xTB := xq 65 (by decide +kernel) rfl
theorem wq76 : Cond.selects yX0_walkOn.cls yX0_walkOn yX0_walkOn ∈ xTB := xq 76 (by decide +kernel) rfl
theorem wq196 : Cond.fieldLink "ShadowCourt$Tape" (11) "ShadowCourt$Tape" "bytes" "[I" ∈ xTB := xq 196 (by decide +kernel) rfl
theorem wq197 : Cond.fieldLink "ShadowCourt$Tape" (15) "ShadowCourt$Tape" "length" "I" ∈ xTB := xq 197 (by decide +kernel) rfl
theorem wq450 : Cond.fieldLink "ShadowCourt$Foresight" (9) "ShadowCourt$Foresight" "clock" "LShadowCourt$Clock;" ∈ xTB := xq 450 (by decide +kernel) rfl
theorem wq451 : Cond.fieldLink "ShadowCourt$Foresight" (15) "ShadowCourt$Foresight" "now" "LShadowCourt$Day;" ∈ xTB := xq 451 (by decide +kernel) rfl
theorem wq452 : Cond.fieldLink "ShadowCourt$Foresight" (21) "ShadowCourt$Foresight" "days" "[LShadowCourt$Day;" ∈ xTB := xq 452 (by decide +kernel) rfl
theorem wq457 : Cond.fieldLink "ShadowCourt$Foresight" (38) "ShadowCourt$Foresight" "bestFelon" "I" ∈ xTB := xq 457 (by decide +kernel) rfl
theorem wq459 : Cond.fieldLink "ShadowCourt$Foresight" (42) "ShadowCourt$Foresight" "shadedMinutes" "[I" ∈ xTB := xq 459 (by decide +kernel) rfl
theorem wq494 : Cond.fieldLink "ShadowCourt$Crowd" (15) "ShadowCourt$Crowd" "reach" "[I" ∈ xTB := xq 494 (by decide +kernel) rfl
theorem wq495 : Cond.fieldLink "ShadowCourt$Crowd" (19) "ShadowCourt$Crowd" "placeOf" "[I" ∈ xTB := xq 495 (by decide +kernel) rfl
theorem wq496 : Cond.fieldLink "ShadowCourt$Crowd" (22) "ShadowCourt$Crowd" "holderOf" "[I" ∈ xTB := xq 496 (by decide +kernel) rfl
theorem wq761 : Cond.instanceMethod yX0_goOn ∈ xTB := xq 761 (by decide +kernel) rfl
theorem wq914 : Cond.instanceMethod yX3_copyOfNow ∈ xTB := xq 914 (by decide +kernel) rfl
theorem wq918 : Cond.instanceMethod yX2_copyFrom ∈ xTB := xq 918 (by decide +kernel) rfl
theorem wq922 : Cond.instanceMethod yX2_clearCounts ∈ xTB := xq 922 (by decide +kernel) rfl
theorem wq992 : Cond.methodLink "ShadowCourt$Foresight" (61) yX3_copyOfNow ∈ xTB := xq 992 (by decide +kernel) rfl
theorem wq995 : Cond.instanceMethod yX0_walkOn ∈ xTB := xq 995 (by decide +kernel) rfl
theorem wn339 : Cond.fieldLinkNest "ShadowCourt$Foresight" (112) "ShadowCourt$Shadows" "size" "I" "ShadowCourt" ∈ xNL := xn 339 (by decide +kernel) rfl
theorem wn353 : Cond.fieldLinkNest "ShadowCourt$Foresight" (125) "ShadowCourt$Clock" "market" "LShadowCourt$Market;" "ShadowCourt" ∈ xNL := xn 353 (by decide +kernel) rfl
theorem wn359 : Cond.fieldLinkNest "ShadowCourt$Foresight" (108) "ShadowCourt$Clock" "shadows" "LShadowCourt$Shadows;" "ShadowCourt" ∈ xNL := xn 359 (by decide +kernel) rfl
theorem wn916 : Cond.methodLinkNest "ShadowCourt$Foresight" (54) yX2_copyFrom "ShadowCourt" ∈ xNL := xn 916 (by decide +kernel) rfl
theorem wn920 : Cond.methodLinkNest "ShadowCourt$Foresight" (58) yX2_clearCounts "ShadowCourt" ∈ xNL := xn 920 (by decide +kernel) rfl
theorem wn959 : Cond.methodLinkNest "ShadowCourt$Crowd" (31) yX2_mustServe "ShadowCourt" ∈ xNL := xn 959 (by decide +kernel) rfl
theorem wn993 : Cond.methodLinkNest "ShadowCourt$Foresight" (104) yX0_walkOn "ShadowCourt" ∈ xNL := xn 993 (by decide +kernel) rfl
theorem wn1028 : Cond.methodLinkNest "ShadowCourt$Foresight" (78) yX0_goOn "ShadowCourt" ∈ xNL := xn 1028 (by decide +kernel) rfl
theorem wn1041 : Cond.methodLinkNest "ShadowCourt$Foresight" (100) yX2_mustServe "ShadowCourt" ∈ xNL := xn 1041 (by decide +kernel) rfl
theorem wn1054 : Cond.methodLinkNest "ShadowCourt$Foresight" (129) yX6_kindAt "ShadowCourt" ∈ xNL := xn 1054 (by decide +kernel) rfl
theorem dX1_most_0 : decode cX1_most 0 = .ok (.iconst 0, 1) := by decide +kernel
theorem dX1_most_1 : decode cX1_most 1 = .ok (.istore_n 2, 1) := by decide +kernel
theorem dX1_most_2 : decode cX1_most 2 = .ok (.iload_n 2, 1) := by decide +kernel
theorem dX1_most_3 : decode cX1_most 3 = .ok (.bipush 100, 2) := by decide +kernel
theorem dX1_most_5 : decode cX1_most 5 = .ok (.if_icmp .ge 16, 3) := by decide +kernel
theorem dX1_most_8 : decode cX1_most 8 = .ok (.aload_n 0, 1) := by decide +kernel
theorem dX1_most_9 : decode cX1_most 9 = .ok (.getfield 22, 3) := by decide +kernel
theorem dX1_most_12 : decode cX1_most 12 = .ok (.iload_n 2, 1) := by decide +kernel
theorem dX1_most_13 : decode cX1_most 13 = .ok (.iconst (-1), 1) := by decide +kernel
theorem dX1_most_14 : decode cX1_most 14 = .ok (.iastore, 1) := by decide +kernel
theorem dX1_most_15 : decode cX1_most 15 = .ok (.iinc 2 1, 3) := by decide +kernel
theorem dX1_most_18 : decode cX1_most 18 = .ok (.goto (-16), 3) := by decide +kernel
theorem dX1_most_21 : decode cX1_most 21 = .ok (.iconst 0, 1) := by decide +kernel
theorem dX1_most_22 : decode cX1_most 22 = .ok (.istore_n 2, 1) := by decide +kernel
theorem dX1_most_23 : decode cX1_most 23 = .ok (.iload_n 2, 1) := by decide +kernel
theorem dX1_most_24 : decode cX1_most 24 = .ok (.bipush 10, 2) := by decide +kernel
theorem dX1_most_26 : decode cX1_most 26 = .ok (.if_icmp .ge 43, 3) := by decide +kernel
theorem dX1_most_29 : decode cX1_most 29 = .ok (.aload_n 0, 1) := by decide +kernel
theorem dX1_most_30 : decode cX1_most 30 = .ok (.getfield 19, 3) := by decide +kernel
theorem dX1_most_33 : decode cX1_most 33 = .ok (.iload_n 2, 1) := by decide +kernel
theorem dX1_most_34 : decode cX1_most 34 = .ok (.iconst (-1), 1) := by decide +kernel
theorem dX1_most_35 : decode cX1_most 35 = .ok (.iastore, 1) := by decide +kernel
theorem dX1_most_36 : decode cX1_most 36 = .ok (.aload_n 0, 1) := by decide +kernel
theorem dX1_most_37 : decode cX1_most 37 = .ok (.getfield 15, 3) := by decide +kernel
theorem dX1_most_40 : decode cX1_most 40 = .ok (.iload_n 2, 1) := by decide +kernel
theorem dX1_most_41 : decode cX1_most 41 = .ok (.aload_n 1, 1) := by decide +kernel
theorem dX1_most_42 : decode cX1_most 42 = .ok (.iload_n 2, 1) := by decide +kernel
theorem dX1_most_43 : decode cX1_most 43 = .ok (.invokevirtual 31, 3) := by decide +kernel
theorem dX1_most_46 : decode cX1_most 46 = .ok (.ifCond .eq 15, 3) := by decide +kernel
theorem dX1_most_49 : decode cX1_most 49 = .ok (.aload_n 0, 1) := by decide +kernel
theorem dX1_most_50 : decode cX1_most 50 = .ok (.getfield 9, 3) := by decide +kernel
theorem dX1_most_53 : decode cX1_most 53 = .ok (.aload_n 1, 1) := by decide +kernel
theorem dX1_most_54 : decode cX1_most 54 = .ok (.iload_n 2, 1) := by decide +kernel
theorem dX1_most_55 : decode cX1_most 55 = .ok (.invokevirtual 37, 3) := by decide +kernel
theorem dX1_most_58 : decode cX1_most 58 = .ok (.goto 4, 3) := by decide +kernel
theorem dX1_most_61 : decode cX1_most 61 = .ok (.iconst (-1), 1) := by decide +kernel
theorem dX1_most_62 : decode cX1_most 62 = .ok (.iastore, 1) := by decide +kernel
theorem dX1_most_63 : decode cX1_most 63 = .ok (.iinc 2 1, 3) := by decide +kernel
theorem dX1_most_66 : decode cX1_most 66 = .ok (.goto (-43), 3) := by decide +kernel
theorem dX1_most_69 : decode cX1_most 69 = .ok (.iconst 0, 1) := by decide +kernel
theorem dX1_most_70 : decode cX1_most 70 = .ok (.istore_n 2, 1) := by decide +kernel
theorem dX1_most_71 : decode cX1_most 71 = .ok (.iconst 0, 1) := by decide +kernel
theorem dX1_most_72 : decode cX1_most 72 = .ok (.istore_n 3, 1) := by decide +kernel
theorem dX1_most_73 : decode cX1_most 73 = .ok (.iload_n 3, 1) := by decide +kernel
theorem dX1_most_74 : decode cX1_most 74 = .ok (.bipush 10, 2) := by decide +kernel
theorem dX1_most_76 : decode cX1_most 76 = .ok (.if_icmp .ge 29, 3) := by decide +kernel
theorem dX1_most_79 : decode cX1_most 79 = .ok (.aload_n 1, 1) := by decide +kernel
theorem dX1_most_80 : decode cX1_most 80 = .ok (.iload_n 3, 1) := by decide +kernel
theorem dX1_most_81 : decode cX1_most 81 = .ok (.invokevirtual 31, 3) := by decide +kernel
theorem dX1_most_84 : decode cX1_most 84 = .ok (.ifCond .eq 15, 3) := by decide +kernel
theorem dX1_most_87 : decode cX1_most 87 = .ok (.aload_n 0, 1) := by decide +kernel
theorem dX1_most_88 : decode cX1_most 88 = .ok (.aload_n 1, 1) := by decide +kernel
theorem dX1_most_89 : decode cX1_most 89 = .ok (.iload_n 3, 1) := by decide +kernel
theorem dX1_most_90 : decode cX1_most 90 = .ok (.invokevirtual 43, 3) := by decide +kernel
theorem dX1_most_93 : decode cX1_most 93 = .ok (.ifCond .eq 6, 3) := by decide +kernel
theorem dX1_most_96 : decode cX1_most 96 = .ok (.iinc 2 1, 3) := by decide +kernel
theorem dX1_most_99 : decode cX1_most 99 = .ok (.iinc 3 1, 3) := by decide +kernel
theorem dX1_most_102 : decode cX1_most 102 = .ok (.goto (-29), 3) := by decide +kernel
theorem dX1_most_105 : decode cX1_most 105 = .ok (.iload_n 2, 1) := by decide +kernel
theorem dX1_most_106 : decode cX1_most 106 = .ok (.ireturn, 1) := by decide +kernel
theorem dX2_setFelon_0 : decode cX2_setFelon 0 = .ok (.iload_n 1, 1) := by decide +kernel
theorem dX2_setFelon_1 : decode cX2_setFelon 1 = .ok (.ifCond .lt 37, 3) := by decide +kernel
theorem dX2_setFelon_4 : decode cX2_setFelon 4 = .ok (.iload_n 1, 1) := by decide +kernel
theorem dX2_setFelon_5 : decode cX2_setFelon 5 = .ok (.bipush 10, 2) := by decide +kernel
theorem dX2_setFelon_7 : decode cX2_setFelon 7 = .ok (.if_icmp .ge 31, 3) := by decide +kernel
theorem dX2_setFelon_10 : decode cX2_setFelon 10 = .ok (.aload_n 0, 1) := by decide +kernel
theorem dX2_setFelon_11 : decode cX2_setFelon 11 = .ok (.getfield 23, 3) := by decide +kernel
theorem dX2_setFelon_14 : decode cX2_setFelon 14 = .ok (.iload_n 1, 1) := by decide +kernel
theorem dX2_setFelon_15 : decode cX2_setFelon 15 = .ok (.iload_n 2, 1) := by decide +kernel
theorem dX2_setFelon_16 : decode cX2_setFelon 16 = .ok (.iastore, 1) := by decide +kernel
theorem dX2_setFelon_17 : decode cX2_setFelon 17 = .ok (.aload_n 0, 1) := by decide +kernel
theorem dX2_setFelon_18 : decode cX2_setFelon 18 = .ok (.getfield 26, 3) := by decide +kernel
theorem dX2_setFelon_21 : decode cX2_setFelon 21 = .ok (.iload_n 1, 1) := by decide +kernel
theorem dX2_setFelon_22 : decode cX2_setFelon 22 = .ok (.iload_n 3, 1) := by decide +kernel
theorem dX2_setFelon_23 : decode cX2_setFelon 23 = .ok (.iastore, 1) := by decide +kernel
theorem dX2_setFelon_24 : decode cX2_setFelon 24 = .ok (.aload_n 0, 1) := by decide +kernel
theorem dX2_setFelon_25 : decode cX2_setFelon 25 = .ok (.getfield 29, 3) := by decide +kernel
theorem dX2_setFelon_28 : decode cX2_setFelon 28 = .ok (.iload_n 1, 1) := by decide +kernel
theorem dX2_setFelon_29 : decode cX2_setFelon 29 = .ok (.iconst 0, 1) := by decide +kernel
theorem dX2_setFelon_30 : decode cX2_setFelon 30 = .ok (.iastore, 1) := by decide +kernel
theorem dX2_setFelon_31 : decode cX2_setFelon 31 = .ok (.aload_n 0, 1) := by decide +kernel
theorem dX2_setFelon_32 : decode cX2_setFelon 32 = .ok (.getfield 32, 3) := by decide +kernel
theorem dX2_setFelon_35 : decode cX2_setFelon 35 = .ok (.iload_n 1, 1) := by decide +kernel
theorem dX2_setFelon_36 : decode cX2_setFelon 36 = .ok (.iconst 0, 1) := by decide +kernel
theorem dX2_setFelon_37 : decode cX2_setFelon 37 = .ok (.bastore, 1) := by decide +kernel
theorem dX2_setFelon_38 : decode cX2_setFelon 38 = .ok (.return_, 1) := by decide +kernel
theorem dX2_stepsLeft_0 : decode cX2_stepsLeft 0 = .ok (.iload_n 1, 1) := by decide +kernel
theorem dX2_stepsLeft_1 : decode cX2_stepsLeft 1 = .ok (.ifCond .lt 25, 3) := by decide +kernel
theorem dX2_stepsLeft_4 : decode cX2_stepsLeft 4 = .ok (.iload_n 1, 1) := by decide +kernel
theorem dX2_stepsLeft_5 : decode cX2_stepsLeft 5 = .ok (.iconst 2, 1) := by decide +kernel
theorem dX2_stepsLeft_6 : decode cX2_stepsLeft 6 = .ok (.if_icmp .ge 20, 3) := by decide +kernel
theorem dX2_stepsLeft_9 : decode cX2_stepsLeft 9 = .ok (.aload_n 0, 1) := by decide +kernel
theorem dX2_stepsLeft_10 : decode cX2_stepsLeft 10 = .ok (.getfield 17, 3) := by decide +kernel
theorem dX2_stepsLeft_13 : decode cX2_stepsLeft 13 = .ok (.iload_n 1, 1) := by decide +kernel
theorem dX2_stepsLeft_14 : decode cX2_stepsLeft 14 = .ok (.aaload, 1) := by decide +kernel
theorem dX2_stepsLeft_15 : decode cX2_stepsLeft 15 = .ok (.arraylength, 1) := by decide +kernel
theorem dX2_stepsLeft_16 : decode cX2_stepsLeft 16 = .ok (.aload_n 0, 1) := by decide +kernel
theorem dX2_stepsLeft_17 : decode cX2_stepsLeft 17 = .ok (.getfield 20, 3) := by decide +kernel
theorem dX2_stepsLeft_20 : decode cX2_stepsLeft 20 = .ok (.iload_n 1, 1) := by decide +kernel
theorem dX2_stepsLeft_21 : decode cX2_stepsLeft 21 = .ok (.iaload, 1) := by decide +kernel
theorem dX2_stepsLeft_22 : decode cX2_stepsLeft 22 = .ok (.isub, 1) := by decide +kernel
theorem dX2_stepsLeft_23 : decode cX2_stepsLeft 23 = .ok (.goto 4, 3) := by decide +kernel
theorem dX2_stepsLeft_26 : decode cX2_stepsLeft 26 = .ok (.iconst 0, 1) := by decide +kernel
theorem dX2_stepsLeft_27 : decode cX2_stepsLeft 27 = .ok (.ireturn, 1) := by decide +kernel
theorem dX3_bestAhead_0 : decode cX3_bestAhead 0 = .ok (.aload_n 0, 1) := by decide +kernel
theorem dX3_bestAhead_1 : decode cX3_bestAhead 1 = .ok (.getfield 9, 3) := by decide +kernel
theorem dX3_bestAhead_4 : decode cX3_bestAhead 4 = .ok (.aload_n 0, 1) := by decide +kernel
theorem dX3_bestAhead_5 : decode cX3_bestAhead 5 = .ok (.invokevirtual 61, 3) := by decide +kernel
theorem dX3_bestAhead_8 : decode cX3_bestAhead 8 = .ok (.iload_n 1, 1) := by decide +kernel
theorem dX3_bestAhead_9 : decode cX3_bestAhead 9 = .ok (.iconst (-1), 1) := by decide +kernel
theorem dX3_bestAhead_10 : decode cX3_bestAhead 10 = .ok (.invokevirtual 78, 3) := by decide +kernel
theorem dX3_bestAhead_13 : decode cX3_bestAhead 13 = .ok (.istore_n 2, 1) := by decide +kernel
theorem dX3_bestAhead_14 : decode cX3_bestAhead 14 = .ok (.aload_n 0, 1) := by decide +kernel
theorem dX3_bestAhead_15 : decode cX3_bestAhead 15 = .ok (.bipush (-2), 2) := by decide +kernel
theorem dX3_bestAhead_17 : decode cX3_bestAhead 17 = .ok (.putfield 38, 3) := by decide +kernel
theorem dX3_bestAhead_20 : decode cX3_bestAhead 20 = .ok (.iconst 0, 1) := by decide +kernel
theorem dX3_bestAhead_21 : decode cX3_bestAhead 21 = .ok (.istore_n 3, 1) := by decide +kernel
theorem dX3_bestAhead_22 : decode cX3_bestAhead 22 = .ok (.iload_n 3, 1) := by decide +kernel
theorem dX3_bestAhead_23 : decode cX3_bestAhead 23 = .ok (.bipush 10, 2) := by decide +kernel
theorem dX3_bestAhead_25 : decode cX3_bestAhead 25 = .ok (.if_icmp .ge 52, 3) := by decide +kernel
theorem dX3_bestAhead_28 : decode cX3_bestAhead 28 = .ok (.aload_n 0, 1) := by decide +kernel
theorem dX3_bestAhead_29 : decode cX3_bestAhead 29 = .ok (.getfield 15, 3) := by decide +kernel
theorem dX3_bestAhead_32 : decode cX3_bestAhead 32 = .ok (.iload_n 3, 1) := by decide +kernel
theorem dX3_bestAhead_33 : decode cX3_bestAhead 33 = .ok (.invokevirtual 100, 3) := by decide +kernel
theorem dX3_bestAhead_36 : decode cX3_bestAhead 36 = .ok (.ifCond .ne 6, 3) := by decide +kernel
theorem dX3_bestAhead_39 : decode cX3_bestAhead 39 = .ok (.goto 32, 3) := by decide +kernel
theorem dX3_bestAhead_42 : decode cX3_bestAhead 42 = .ok (.aload_n 0, 1) := by decide +kernel
theorem dX3_bestAhead_43 : decode cX3_bestAhead 43 = .ok (.getfield 9, 3) := by decide +kernel
theorem dX3_bestAhead_46 : decode cX3_bestAhead 46 = .ok (.aload_n 0, 1) := by decide +kernel
theorem dX3_bestAhead_47 : decode cX3_bestAhead 47 = .ok (.invokevirtual 61, 3) := by decide +kernel
theorem dX3_bestAhead_50 : decode cX3_bestAhead 50 = .ok (.iload_n 1, 1) := by decide +kernel
theorem dX3_bestAhead_51 : decode cX3_bestAhead 51 = .ok (.iload_n 3, 1) := by decide +kernel
theorem dX3_bestAhead_52 : decode cX3_bestAhead 52 = .ok (.invokevirtual 78, 3) := by decide +kernel
theorem dX3_bestAhead_55 : decode cX3_bestAhead 55 = .ok (.istore 4, 2) := by decide +kernel
theorem dX3_bestAhead_57 : decode cX3_bestAhead 57 = .ok (.iload 4, 2) := by decide +kernel
theorem dX3_bestAhead_59 : decode cX3_bestAhead 59 = .ok (.iload_n 2, 1) := by decide +kernel
theorem dX3_bestAhead_60 : decode cX3_bestAhead 60 = .ok (.if_icmp .le 11, 3) := by decide +kernel
theorem dX3_bestAhead_63 : decode cX3_bestAhead 63 = .ok (.iload 4, 2) := by decide +kernel
theorem dX3_bestAhead_65 : decode cX3_bestAhead 65 = .ok (.istore_n 2, 1) := by decide +kernel
theorem dX3_bestAhead_66 : decode cX3_bestAhead 66 = .ok (.aload_n 0, 1) := by decide +kernel
theorem dX3_bestAhead_67 : decode cX3_bestAhead 67 = .ok (.iload_n 3, 1) := by decide +kernel
theorem dX3_bestAhead_68 : decode cX3_bestAhead 68 = .ok (.putfield 38, 3) := by decide +kernel
theorem dX3_bestAhead_71 : decode cX3_bestAhead 71 = .ok (.iinc 3 1, 3) := by decide +kernel
theorem dX3_bestAhead_74 : decode cX3_bestAhead 74 = .ok (.goto (-52), 3) := by decide +kernel
theorem dX3_bestAhead_77 : decode cX3_bestAhead 77 = .ok (.iload_n 2, 1) := by decide +kernel
theorem dX3_bestAhead_78 : decode cX3_bestAhead 78 = .ok (.ireturn, 1) := by decide +kernel
theorem dX3_copyOfNow_0 : decode cX3_copyOfNow 0 = .ok (.aload_n 0, 1) := by decide +kernel
theorem dX3_copyOfNow_1 : decode cX3_copyOfNow 1 = .ok (.getfield 21, 3) := by decide +kernel
theorem dX3_copyOfNow_4 : decode cX3_copyOfNow 4 = .ok (.iconst 0, 1) := by decide +kernel
theorem dX3_copyOfNow_5 : decode cX3_copyOfNow 5 = .ok (.aaload, 1) := by decide +kernel
theorem dX3_copyOfNow_6 : decode cX3_copyOfNow 6 = .ok (.astore_n 1, 1) := by decide +kernel
theorem dX3_copyOfNow_7 : decode cX3_copyOfNow 7 = .ok (.aload_n 1, 1) := by decide +kernel
theorem dX3_copyOfNow_8 : decode cX3_copyOfNow 8 = .ok (.aload_n 0, 1) := by decide +kernel
theorem dX3_copyOfNow_9 : decode cX3_copyOfNow 9 = .ok (.getfield 15, 3) := by decide +kernel
theorem dX3_copyOfNow_12 : decode cX3_copyOfNow 12 = .ok (.invokevirtual 54, 3) := by decide +kernel
theorem dX3_copyOfNow_15 : decode cX3_copyOfNow 15 = .ok (.aload_n 1, 1) := by decide +kernel
theorem dX3_copyOfNow_16 : decode cX3_copyOfNow 16 = .ok (.invokevirtual 58, 3) := by decide +kernel
theorem dX3_copyOfNow_19 : decode cX3_copyOfNow 19 = .ok (.aload_n 1, 1) := by decide +kernel
theorem dX3_copyOfNow_20 : decode cX3_copyOfNow 20 = .ok (.areturn, 1) := by decide +kernel
theorem dX3_countShadedMinutes_0 : decode cX3_countShadedMinutes 0 = .ok (.iconst 0, 1) := by decide +kernel
theorem dX3_countShadedMinutes_1 : decode cX3_countShadedMinutes 1 = .ok (.istore_n 2, 1) := by decide +kernel
theorem dX3_countShadedMinutes_2 : decode cX3_countShadedMinutes 2 = .ok (.iload_n 2, 1) := by decide +kernel
theorem dX3_countShadedMinutes_3 : decode cX3_countShadedMinutes 3 = .ok (.bipush 100, 2) := by decide +kernel
theorem dX3_countShadedMinutes_5 : decode cX3_countShadedMinutes 5 = .ok (.if_icmp .ge 16, 3) := by decide +kernel
theorem dX3_countShadedMinutes_8 : decode cX3_countShadedMinutes 8 = .ok (.aload_n 0, 1) := by decide +kernel
theorem dX3_countShadedMinutes_9 : decode cX3_countShadedMinutes 9 = .ok (.getfield 42, 3) := by decide +kernel
theorem dX3_countShadedMinutes_12 : decode cX3_countShadedMinutes 12 = .ok (.iload_n 2, 1) := by decide +kernel
theorem dX3_countShadedMinutes_13 : decode cX3_countShadedMinutes 13 = .ok (.iconst 0, 1) := by decide +kernel
theorem dX3_countShadedMinutes_14 : decode cX3_countShadedMinutes 14 = .ok (.iastore, 1) := by decide +kernel
theorem dX3_countShadedMinutes_15 : decode cX3_countShadedMinutes 15 = .ok (.iinc 2 1, 3) := by decide +kernel
theorem dX3_countShadedMinutes_18 : decode cX3_countShadedMinutes 18 = .ok (.goto (-16), 3) := by decide +kernel
theorem dX3_countShadedMinutes_21 : decode cX3_countShadedMinutes 21 = .ok (.aload_n 0, 1) := by decide +kernel
theorem dX3_countShadedMinutes_22 : decode cX3_countShadedMinutes 22 = .ok (.invokevirtual 61, 3) := by decide +kernel
theorem dX3_countShadedMinutes_25 : decode cX3_countShadedMinutes 25 = .ok (.astore_n 2, 1) := by decide +kernel
theorem dX3_countShadedMinutes_26 : decode cX3_countShadedMinutes 26 = .ok (.iconst 0, 1) := by decide +kernel
theorem dX3_countShadedMinutes_27 : decode cX3_countShadedMinutes 27 = .ok (.istore_n 3, 1) := by decide +kernel
theorem dX3_countShadedMinutes_28 : decode cX3_countShadedMinutes 28 = .ok (.iload_n 3, 1) := by decide +kernel
theorem dX3_countShadedMinutes_29 : decode cX3_countShadedMinutes 29 = .ok (.iload_n 1, 1) := by decide +kernel
theorem dX3_countShadedMinutes_30 : decode cX3_countShadedMinutes 30 = .ok (.if_icmp .ge 85, 3) := by decide +kernel
theorem dX3_countShadedMinutes_33 : decode cX3_countShadedMinutes 33 = .ok (.aload_n 0, 1) := by decide +kernel
theorem dX3_countShadedMinutes_34 : decode cX3_countShadedMinutes 34 = .ok (.getfield 9, 3) := by decide +kernel
theorem dX3_countShadedMinutes_37 : decode cX3_countShadedMinutes 37 = .ok (.aload_n 2, 1) := by decide +kernel
theorem dX3_countShadedMinutes_38 : decode cX3_countShadedMinutes 38 = .ok (.invokevirtual 104, 3) := by decide +kernel
theorem dX3_countShadedMinutes_41 : decode cX3_countShadedMinutes 41 = .ok (.ifCond .eq 74, 3) := by decide +kernel
theorem dX3_countShadedMinutes_44 : decode cX3_countShadedMinutes 44 = .ok (.iconst 0, 1) := by decide +kernel
theorem dX3_countShadedMinutes_45 : decode cX3_countShadedMinutes 45 = .ok (.istore 4, 2) := by decide +kernel
theorem dX3_countShadedMinutes_47 : decode cX3_countShadedMinutes 47 = .ok (.iload 4, 2) := by decide +kernel
theorem dX3_countShadedMinutes_49 : decode cX3_countShadedMinutes 49 = .ok (.aload_n 0, 1) := by decide +kernel
theorem dX3_countShadedMinutes_50 : decode cX3_countShadedMinutes 50 = .ok (.getfield 9, 3) := by decide +kernel
theorem dX3_countShadedMinutes_53 : decode cX3_countShadedMinutes 53 = .ok (.getfield 108, 3) := by decide +kernel
theorem dX3_countShadedMinutes_56 : decode cX3_countShadedMinutes 56 = .ok (.getfield 112, 3) := by decide +kernel
theorem dX3_countShadedMinutes_59 : decode cX3_countShadedMinutes 59 = .ok (.if_icmp .ge 50, 3) := by decide +kernel
theorem dX3_countShadedMinutes_62 : decode cX3_countShadedMinutes 62 = .ok (.iload 4, 2) := by decide +kernel
theorem dX3_countShadedMinutes_64 : decode cX3_countShadedMinutes 64 = .ok (.bipush 100, 2) := by decide +kernel
theorem dX3_countShadedMinutes_66 : decode cX3_countShadedMinutes 66 = .ok (.if_icmp .ge 43, 3) := by decide +kernel
theorem dX3_countShadedMinutes_69 : decode cX3_countShadedMinutes 69 = .ok (.aload_n 0, 1) := by decide +kernel
theorem dX3_countShadedMinutes_70 : decode cX3_countShadedMinutes 70 = .ok (.getfield 9, 3) := by decide +kernel
theorem dX3_countShadedMinutes_73 : decode cX3_countShadedMinutes 73 = .ok (.getfield 108, 3) := by decide +kernel
theorem dX3_countShadedMinutes_76 : decode cX3_countShadedMinutes 76 = .ok (.getfield 117, 3) := by decide +kernel
theorem dX3_countShadedMinutes_79 : decode cX3_countShadedMinutes 79 = .ok (.iload 4, 2) := by decide +kernel
theorem dX3_countShadedMinutes_81 : decode cX3_countShadedMinutes 81 = .ok (.iaload, 1) := by decide +kernel
theorem dX3_countShadedMinutes_82 : decode cX3_countShadedMinutes 82 = .ok (.istore 5, 2) := by decide +kernel
theorem dX3_countShadedMinutes_84 : decode cX3_countShadedMinutes 84 = .ok (.iload 5, 2) := by decide +kernel
theorem dX3_countShadedMinutes_86 : decode cX3_countShadedMinutes 86 = .ok (.invokestatic 120, 3) := by decide +kernel
theorem dX3_countShadedMinutes_89 : decode cX3_countShadedMinutes 89 = .ok (.ifCond .eq 14, 3) := by decide +kernel
theorem dX3_countShadedMinutes_92 : decode cX3_countShadedMinutes 92 = .ok (.aload_n 0, 1) := by decide +kernel
theorem dX3_countShadedMinutes_93 : decode cX3_countShadedMinutes 93 = .ok (.getfield 42, 3) := by decide +kernel
theorem dX3_countShadedMinutes_96 : decode cX3_countShadedMinutes 96 = .ok (.iload 5, 2) := by decide +kernel
theorem dX3_countShadedMinutes_98 : decode cX3_countShadedMinutes 98 = .ok (.dup2, 1) := by decide +kernel
theorem dX3_countShadedMinutes_99 : decode cX3_countShadedMinutes 99 = .ok (.iaload, 1) := by decide +kernel
theorem dX3_countShadedMinutes_100 : decode cX3_countShadedMinutes 100 = .ok (.iconst 1, 1) := by decide +kernel
theorem dX3_countShadedMinutes_101 : decode cX3_countShadedMinutes 101 = .ok (.iadd, 1) := by decide +kernel
theorem dX3_countShadedMinutes_102 : decode cX3_countShadedMinutes 102 = .ok (.iastore, 1) := by decide +kernel
theorem dX3_countShadedMinutes_103 : decode cX3_countShadedMinutes 103 = .ok (.iinc 4 1, 3) := by decide +kernel
theorem dX3_countShadedMinutes_106 : decode cX3_countShadedMinutes 106 = .ok (.goto (-59), 3) := by decide +kernel
theorem dX3_countShadedMinutes_109 : decode cX3_countShadedMinutes 109 = .ok (.iinc 3 1, 3) := by decide +kernel
theorem dX3_countShadedMinutes_112 : decode cX3_countShadedMinutes 112 = .ok (.goto (-84), 3) := by decide +kernel
theorem dX3_countShadedMinutes_115 : decode cX3_countShadedMinutes 115 = .ok (.return_, 1) := by decide +kernel
theorem dX3_howManyNeverShaded_0 : decode cX3_howManyNeverShaded 0 = .ok (.iconst 0, 1) := by decide +kernel
theorem dX3_howManyNeverShaded_1 : decode cX3_howManyNeverShaded 1 = .ok (.istore_n 1, 1) := by decide +kernel
theorem dX3_howManyNeverShaded_2 : decode cX3_howManyNeverShaded 2 = .ok (.iconst 0, 1) := by decide +kernel
theorem dX3_howManyNeverShaded_3 : decode cX3_howManyNeverShaded 3 = .ok (.istore_n 2, 1) := by decide +kernel
theorem dX3_howManyNeverShaded_4 : decode cX3_howManyNeverShaded 4 = .ok (.iload_n 2, 1) := by decide +kernel
theorem dX3_howManyNeverShaded_5 : decode cX3_howManyNeverShaded 5 = .ok (.bipush 100, 2) := by decide +kernel
theorem dX3_howManyNeverShaded_7 : decode cX3_howManyNeverShaded 7 = .ok (.if_icmp .ge 41, 3) := by decide +kernel
theorem dX3_howManyNeverShaded_10 : decode cX3_howManyNeverShaded 10 = .ok (.iload_n 1, 1) := by decide +kernel
theorem dX3_howManyNeverShaded_11 : decode cX3_howManyNeverShaded 11 = .ok (.aload_n 0, 1) := by decide +kernel
theorem dX3_howManyNeverShaded_12 : decode cX3_howManyNeverShaded 12 = .ok (.getfield 9, 3) := by decide +kernel
theorem dX3_howManyNeverShaded_15 : decode cX3_howManyNeverShaded 15 = .ok (.getfield 125, 3) := by decide +kernel
theorem dX3_howManyNeverShaded_18 : decode cX3_howManyNeverShaded 18 = .ok (.iload_n 2, 1) := by decide +kernel
theorem dX3_howManyNeverShaded_19 : decode cX3_howManyNeverShaded 19 = .ok (.invokevirtual 129, 3) := by decide +kernel
theorem dX3_howManyNeverShaded_22 : decode cX3_howManyNeverShaded 22 = .ok (.iconst 1, 1) := by decide +kernel
theorem dX3_howManyNeverShaded_23 : decode cX3_howManyNeverShaded 23 = .ok (.if_icmp .eq 16, 3) := by decide +kernel
theorem dX3_howManyNeverShaded_26 : decode cX3_howManyNeverShaded 26 = .ok (.aload_n 0, 1) := by decide +kernel
theorem dX3_howManyNeverShaded_27 : decode cX3_howManyNeverShaded 27 = .ok (.getfield 42, 3) := by decide +kernel
theorem dX3_howManyNeverShaded_30 : decode cX3_howManyNeverShaded 30 = .ok (.iload_n 2, 1) := by decide +kernel
theorem dX3_howManyNeverShaded_31 : decode cX3_howManyNeverShaded 31 = .ok (.iaload, 1) := by decide +kernel
theorem dX3_howManyNeverShaded_32 : decode cX3_howManyNeverShaded 32 = .ok (.ifCond .ne 7, 3) := by decide +kernel
theorem dX3_howManyNeverShaded_35 : decode cX3_howManyNeverShaded 35 = .ok (.iconst 1, 1) := by decide +kernel
theorem dX3_howManyNeverShaded_36 : decode cX3_howManyNeverShaded 36 = .ok (.goto 4, 3) := by decide +kernel
theorem dX3_howManyNeverShaded_39 : decode cX3_howManyNeverShaded 39 = .ok (.iconst 0, 1) := by decide +kernel
theorem dX3_howManyNeverShaded_40 : decode cX3_howManyNeverShaded 40 = .ok (.iadd, 1) := by decide +kernel
theorem dX3_howManyNeverShaded_41 : decode cX3_howManyNeverShaded 41 = .ok (.istore_n 1, 1) := by decide +kernel
theorem dX3_howManyNeverShaded_42 : decode cX3_howManyNeverShaded 42 = .ok (.iinc 2 1, 3) := by decide +kernel
theorem dX3_howManyNeverShaded_45 : decode cX3_howManyNeverShaded 45 = .ok (.goto (-41), 3) := by decide +kernel
theorem dX3_howManyNeverShaded_48 : decode cX3_howManyNeverShaded 48 = .ok (.iload_n 1, 1) := by decide +kernel
theorem dX3_howManyNeverShaded_49 : decode cX3_howManyNeverShaded 49 = .ok (.ireturn, 1) := by decide +kernel
theorem dX3_mostShaded_0 : decode cX3_mostShaded 0 = .ok (.iconst (-1), 1) := by decide +kernel
theorem dX3_mostShaded_1 : decode cX3_mostShaded 1 = .ok (.istore_n 1, 1) := by decide +kernel
theorem dX3_mostShaded_2 : decode cX3_mostShaded 2 = .ok (.iconst 0, 1) := by decide +kernel
theorem dX3_mostShaded_3 : decode cX3_mostShaded 3 = .ok (.istore_n 2, 1) := by decide +kernel
theorem dX3_mostShaded_4 : decode cX3_mostShaded 4 = .ok (.iload_n 2, 1) := by decide +kernel
theorem dX3_mostShaded_5 : decode cX3_mostShaded 5 = .ok (.bipush 100, 2) := by decide +kernel
theorem dX3_mostShaded_7 : decode cX3_mostShaded 7 = .ok (.if_icmp .ge 49, 3) := by decide +kernel
theorem dX3_mostShaded_10 : decode cX3_mostShaded 10 = .ok (.aload_n 0, 1) := by decide +kernel
theorem dX3_mostShaded_11 : decode cX3_mostShaded 11 = .ok (.getfield 9, 3) := by decide +kernel
theorem dX3_mostShaded_14 : decode cX3_mostShaded 14 = .ok (.getfield 125, 3) := by decide +kernel
theorem dX3_mostShaded_17 : decode cX3_mostShaded 17 = .ok (.iload_n 2, 1) := by decide +kernel
theorem dX3_mostShaded_18 : decode cX3_mostShaded 18 = .ok (.invokevirtual 129, 3) := by decide +kernel
theorem dX3_mostShaded_21 : decode cX3_mostShaded 21 = .ok (.iconst 1, 1) := by decide +kernel
theorem dX3_mostShaded_22 : decode cX3_mostShaded 22 = .ok (.if_icmp .ne 6, 3) := by decide +kernel
theorem dX3_mostShaded_25 : decode cX3_mostShaded 25 = .ok (.goto 25, 3) := by decide +kernel
theorem dX3_mostShaded_28 : decode cX3_mostShaded 28 = .ok (.iload_n 1, 1) := by decide +kernel
theorem dX3_mostShaded_29 : decode cX3_mostShaded 29 = .ok (.iconst (-1), 1) := by decide +kernel
theorem dX3_mostShaded_30 : decode cX3_mostShaded 30 = .ok (.if_icmp .eq 18, 3) := by decide +kernel
theorem dX3_mostShaded_33 : decode cX3_mostShaded 33 = .ok (.aload_n 0, 1) := by decide +kernel
theorem dX3_mostShaded_34 : decode cX3_mostShaded 34 = .ok (.getfield 42, 3) := by decide +kernel
theorem dX3_mostShaded_37 : decode cX3_mostShaded 37 = .ok (.iload_n 2, 1) := by decide +kernel
theorem dX3_mostShaded_38 : decode cX3_mostShaded 38 = .ok (.iaload, 1) := by decide +kernel
theorem dX3_mostShaded_39 : decode cX3_mostShaded 39 = .ok (.aload_n 0, 1) := by decide +kernel
theorem dX3_mostShaded_40 : decode cX3_mostShaded 40 = .ok (.getfield 42, 3) := by decide +kernel
theorem dX3_mostShaded_43 : decode cX3_mostShaded 43 = .ok (.iload_n 1, 1) := by decide +kernel
theorem dX3_mostShaded_44 : decode cX3_mostShaded 44 = .ok (.iaload, 1) := by decide +kernel
theorem dX3_mostShaded_45 : decode cX3_mostShaded 45 = .ok (.if_icmp .le 5, 3) := by decide +kernel
theorem dX3_mostShaded_48 : decode cX3_mostShaded 48 = .ok (.iload_n 2, 1) := by decide +kernel
theorem dX3_mostShaded_49 : decode cX3_mostShaded 49 = .ok (.istore_n 1, 1) := by decide +kernel
theorem dX3_mostShaded_50 : decode cX3_mostShaded 50 = .ok (.iinc 2 1, 3) := by decide +kernel
theorem dX3_mostShaded_53 : decode cX3_mostShaded 53 = .ok (.goto (-49), 3) := by decide +kernel
theorem dX3_mostShaded_56 : decode cX3_mostShaded 56 = .ok (.iload_n 1, 1) := by decide +kernel
theorem dX3_mostShaded_57 : decode cX3_mostShaded 57 = .ok (.ireturn, 1) := by decide +kernel
theorem dX8_drop_0 : decode cX8_drop 0 = .ok (.aload_n 0, 1) := by decide +kernel
theorem dX8_drop_1 : decode cX8_drop 1 = .ok (.iconst 0, 1) := by decide +kernel
theorem dX8_drop_2 : decode cX8_drop 2 = .ok (.putfield 15, 3) := by decide +kernel
theorem dX8_drop_5 : decode cX8_drop 5 = .ok (.return_, 1) := by decide +kernel
theorem dX8_putNumber_0 : decode cX8_putNumber 0 = .ok (.bipush 24, 2) := by decide +kernel
theorem dX8_putNumber_2 : decode cX8_putNumber 2 = .ok (.istore_n 2, 1) := by decide +kernel
theorem dX8_putNumber_3 : decode cX8_putNumber 3 = .ok (.iload_n 2, 1) := by decide +kernel
theorem dX8_putNumber_4 : decode cX8_putNumber 4 = .ok (.ifCond .lt 52, 3) := by decide +kernel
theorem dX8_putNumber_7 : decode cX8_putNumber 7 = .ok (.aload_n 0, 1) := by decide +kernel
theorem dX8_putNumber_8 : decode cX8_putNumber 8 = .ok (.getfield 15, 3) := by decide +kernel
theorem dX8_putNumber_11 : decode cX8_putNumber 11 = .ok (.ifCond .lt 39, 3) := by decide +kernel
theorem dX8_putNumber_14 : decode cX8_putNumber 14 = .ok (.aload_n 0, 1) := by decide +kernel
theorem dX8_putNumber_15 : decode cX8_putNumber 15 = .ok (.getfield 15, 3) := by decide +kernel
theorem dX8_putNumber_18 : decode cX8_putNumber 18 = .ok (.sipush 260, 3) := by decide +kernel
theorem dX8_putNumber_21 : decode cX8_putNumber 21 = .ok (.if_icmp .ge 29, 3) := by decide +kernel
theorem dX8_putNumber_24 : decode cX8_putNumber 24 = .ok (.aload_n 0, 1) := by decide +kernel
theorem dX8_putNumber_25 : decode cX8_putNumber 25 = .ok (.getfield 11, 3) := by decide +kernel
theorem dX8_putNumber_28 : decode cX8_putNumber 28 = .ok (.aload_n 0, 1) := by decide +kernel
theorem dX8_putNumber_29 : decode cX8_putNumber 29 = .ok (.getfield 15, 3) := by decide +kernel
theorem dX8_putNumber_32 : decode cX8_putNumber 32 = .ok (.iload_n 1, 1) := by decide +kernel
theorem dX8_putNumber_33 : decode cX8_putNumber 33 = .ok (.iload_n 2, 1) := by decide +kernel
theorem dX8_putNumber_34 : decode cX8_putNumber 34 = .ok (.ishr, 1) := by decide +kernel
theorem dX8_putNumber_35 : decode cX8_putNumber 35 = .ok (.sipush 255, 3) := by decide +kernel
theorem dX8_putNumber_38 : decode cX8_putNumber 38 = .ok (.iand, 1) := by decide +kernel
theorem dX8_putNumber_39 : decode cX8_putNumber 39 = .ok (.iastore, 1) := by decide +kernel
theorem dX8_putNumber_40 : decode cX8_putNumber 40 = .ok (.aload_n 0, 1) := by decide +kernel
theorem dX8_putNumber_41 : decode cX8_putNumber 41 = .ok (.dup, 1) := by decide +kernel
theorem dX8_putNumber_42 : decode cX8_putNumber 42 = .ok (.getfield 15, 3) := by decide +kernel
theorem dX8_putNumber_45 : decode cX8_putNumber 45 = .ok (.iconst 1, 1) := by decide +kernel
theorem dX8_putNumber_46 : decode cX8_putNumber 46 = .ok (.iadd, 1) := by decide +kernel
theorem dX8_putNumber_47 : decode cX8_putNumber 47 = .ok (.putfield 15, 3) := by decide +kernel
theorem dX8_putNumber_50 : decode cX8_putNumber 50 = .ok (.iinc 2 (-8), 3) := by decide +kernel
theorem dX8_putNumber_53 : decode cX8_putNumber 53 = .ok (.goto (-50), 3) := by decide +kernel
theorem dX8_putNumber_56 : decode cX8_putNumber 56 = .ok (.return_, 1) := by decide +kernel
