theorem cls_X5 : xCls RX5 TX5 2 5 tyX5 := ⟨xin [296, 298] (by decide +kernel) (by decide +kernel), rfl, tyX5_ok, nmX5⟩
theorem cf_X4_empty : xCF yX4_empty cX4_empty 1 none 0 := ⟨xq 640 (by decide +kernel) rfl, xq 171 (by decide +kernel) rfl, by decide +kernel⟩
theorem cf_X4_landSkip : xCF yX4_landSkip cX4_landSkip 2 none 1 := ⟨xq 693 (by decide +kernel) rfl, xq 171 (by decide +kernel) rfl, by decide +kernel⟩
theorem cf_X4_placeOfLetter : xCF yX4_placeOfLetter cX4_placeOfLetter 2 (some .int) 1 := ⟨xq 677 (by decide +kernel) rfl, xq 171 (by decide +kernel) rfl, by decide +kernel⟩
theorem cf_X4_put : xCF yX4_put cX4_put 4 (some .int) 2 := ⟨xq 673 (by decide +kernel) rfl, xq 171 (by decide +kernel) rfl, by decide +kernel⟩
theorem cf_X5_isKind : xCF yX5_isKind cX5_isKind 1 (some .boolean) 1 := ⟨xq 644 (by decide +kernel) rfl, xq 172 (by decide +kernel) rfl, by decide +kernel⟩
theorem cf_X5_readClause : xCF yX5_readClause cX5_readClause 3 (some .boolean) 2 := ⟨xq 649 (by decide +kernel) rfl, xq 172 (by decide +kernel) rfl, by decide +kernel⟩
theorem cf_X5_readFactor : xCF yX5_readFactor cX5_readFactor 4 (some .boolean) 1 := ⟨xq 661 (by decide +kernel) rfl, xq 172 (by decide +kernel) rfl, by decide +kernel⟩
theorem cf_X5_readNumber : xCF yX5_readNumber cX5_readNumber 3 (some .boolean) 0 := ⟨xq 669 (by decide +kernel) rfl, xq 172 (by decide +kernel) rfl, by decide +kernel⟩
theorem cf_X5_readParts : xCF yX5_readParts cX5_readParts 4 (some .boolean) 1 := ⟨xq 681 (by decide +kernel) rfl, xq 172 (by decide +kernel) rfl, by decide +kernel⟩
theorem cf_X5_readPiece : xCF yX5_readPiece cX5_readPiece 5 (some .boolean) 1 := ⟨xq 689 (by decide +kernel) rfl, xq 172 (by decide +kernel) rfl, by decide +kernel⟩
theorem cf_X5_readPieces : xCF yX5_readPieces cX5_readPieces 4 (some .boolean) 1 := ⟨xq 685 (by decide +kernel) rfl, xq 172 (by decide +kernel) rfl, by decide +kernel⟩
theorem cf_X5_readSum : xCF yX5_readSum cX5_readSum 4 (some .boolean) 1 := ⟨xq 653 (by decide +kernel) rfl, xq 172 (by decide +kernel) rfl, by decide +kernel⟩
theorem cf_X5_readTerm : xCF yX5_readTerm cX5_readTerm 4 (some .boolean) 1 := ⟨xq 657 (by decide +kernel) rfl, xq 172 (by decide +kernel) rfl, by decide +kernel⟩
theorem cf_X8_isDigit : xCF yX8_isDigit cX8_isDigit 1 (some .boolean) 0 := ⟨xq 665 (by decide +kernel) rfl, xq 169 (by decide +kernel) rfl, by decide +kernel⟩
theorem cf_X8_passes : xCF yX8_passes cX8_passes 2 (some .boolean) 1 := ⟨xq 599 (by decide +kernel) rfl, xq 169 (by decide +kernel) rfl, by decide +kernel⟩
theorem wq6 : Cond.selects yX8_passes.cls yX8_passes yX8_passes ∈ xTB := xq 6 (by decide +kernel) rfl
theorem wq14 : Cond.selects yX4_empty.cls yX4_empty yX4_empty ∈ xTB := xq 14 (by decide +kernel) rfl
theorem wq15 : Cond.selects yX5_readClause.cls yX5_readClause yX5_readClause ∈ xTB := xq 15 (by decide +kernel) rfl
theorem wq16 : Cond.selects yX5_readSum.cls yX5_readSum yX5_readSum ∈ xTB := xq 16 (by decide +kernel) rfl
theorem wq17 : Cond.selects yX5_readTerm.cls yX5_readTerm yX5_readTerm ∈ xTB := xq 17 (by decide +kernel) rfl
theorem wq18 : Cond.selects yX5_readFactor.cls yX5_readFactor yX5_readFactor ∈ xTB := xq 18 (by decide +kernel) rfl
theorem wq19 : Cond.selects yX8_isDigit.cls yX8_isDigit yX8_isDigit ∈ xTB := xq 19 (by decide +kernel) rfl
theorem wq20 : Cond.selects yX5_readNumber.cls yX5_readNumber yX5_readNumber ∈ xTB := xq 20 (by decide +kernel) rfl
theorem wq21 : Cond.selects yX4_put.cls yX4_put yX4_put ∈ xTB := xq 21 (by decide +kernel) rfl
theorem wq22 : Cond.selects yX5_readParts.cls yX5_readParts yX5_readParts ∈ xTB := xq 22 (by decide +kernel) rfl
theorem wq23 : Cond.selects yX5_readPieces.cls yX5_readPieces yX5_readPieces ∈ xTB := xq 23 (by decide +kernel) rfl
theorem wq24 : Cond.selects yX5_readPiece.cls yX5_readPiece yX5_readPiece ∈ xTB := xq 24 (by decide +kernel) rfl
theorem wq25 : Cond.selects yX4_landSkip.cls yX4_landSkip yX4_landSkip ∈ xTB := xq 25 (by decide +kernel) rfl
theorem wq293 : Cond.fieldLink "ShadowCourt$LawReader" (9) "ShadowCourt$LawReader" "tape" "LShadowCourt$Tape;" ∈ xTB := xq 293 (by decide +kernel) rfl
theorem wq294 : Cond.fieldLink "ShadowCourt$LawReader" (18) "ShadowCourt$LawReader" "written" "LShadowCourt$Law;" ∈ xTB := xq 294 (by decide +kernel) rfl
theorem wq598 : Cond.instanceMethod yX8_passes ∈ xTB := xq 598 (by decide +kernel) rfl
theorem wq639 : Cond.instanceMethod yX4_empty ∈ xTB := xq 639 (by decide +kernel) rfl
theorem wq642 : Cond.methodLink "ShadowCourt$LawReader" (31) yX5_isKind ∈ xTB := xq 642 (by decide +kernel) rfl
theorem wq643 : Cond.static yX5_isKind ∈ xTB := xq 643 (by decide +kernel) rfl
theorem wq646 : Cond.methodLink "ShadowCourt$LawReader" (43) yX5_readClause ∈ xTB := xq 646 (by decide +kernel) rfl
theorem wq648 : Cond.instanceMethod yX5_readClause ∈ xTB := xq 648 (by decide +kernel) rfl
theorem wq650 : Cond.methodLink "ShadowCourt$LawReader" (62) yX5_readSum ∈ xTB := xq 650 (by decide +kernel) rfl
theorem wq652 : Cond.instanceMethod yX5_readSum ∈ xTB := xq 652 (by decide +kernel) rfl
theorem wq654 : Cond.methodLink "ShadowCourt$LawReader" (85) yX5_readTerm ∈ xTB := xq 654 (by decide +kernel) rfl
theorem wq656 : Cond.instanceMethod yX5_readTerm ∈ xTB := xq 656 (by decide +kernel) rfl
theorem wq658 : Cond.methodLink "ShadowCourt$LawReader" (88) yX5_readFactor ∈ xTB := xq 658 (by decide +kernel) rfl
theorem wq660 : Cond.instanceMethod yX5_readFactor ∈ xTB := xq 660 (by decide +kernel) rfl
theorem wq664 : Cond.instanceMethod yX8_isDigit ∈ xTB := xq 664 (by decide +kernel) rfl
theorem wq666 : Cond.methodLink "ShadowCourt$LawReader" (95) yX5_readNumber ∈ xTB := xq 666 (by decide +kernel) rfl
theorem wq668 : Cond.instanceMethod yX5_readNumber ∈ xTB := xq 668 (by decide +kernel) rfl
theorem wq672 : Cond.instanceMethod yX4_put ∈ xTB := xq 672 (by decide +kernel) rfl
theorem wq676 : Cond.static yX4_placeOfLetter ∈ xTB := xq 676 (by decide +kernel) rfl
theorem wq678 : Cond.methodLink "ShadowCourt$LawReader" (72) yX5_readParts ∈ xTB := xq 678 (by decide +kernel) rfl
theorem wq680 : Cond.instanceMethod yX5_readParts ∈ xTB := xq 680 (by decide +kernel) rfl
theorem wq682 : Cond.methodLink "ShadowCourt$LawReader" (75) yX5_readPieces ∈ xTB := xq 682 (by decide +kernel) rfl
theorem wq684 : Cond.instanceMethod yX5_readPieces ∈ xTB := xq 684 (by decide +kernel) rfl
theorem wq686 : Cond.methodLink "ShadowCourt$LawReader" (82) yX5_readPiece ∈ xTB := xq 686 (by decide +kernel) rfl
theorem wq688 : Cond.instanceMethod yX5_readPiece ∈ xTB := xq 688 (by decide +kernel) rfl
theorem wq692 : Cond.instanceMethod yX4_landSkip ∈ xTB := xq 692 (by decide +kernel) rfl
theorem wn201 : Cond.fieldLinkNest "ShadowCourt$LawReader" (35) "ShadowCourt$Tape" "at" "I" "ShadowCourt" ∈ xNL := xn 201 (by decide +kernel) rfl
theorem wn254 : Cond.fieldLinkNest "ShadowCourt$LawReader" (59) "ShadowCourt$Law" "used" "I" "ShadowCourt" ∈ xNL := xn 254 (by decide +kernel) rfl
theorem wn256 : Cond.fieldLinkNest "ShadowCourt$LawReader" (52) "ShadowCourt$Law" "kindOfClause" "[I" "ShadowCourt" ∈ xNL := xn 256 (by decide +kernel) rfl
theorem wn258 : Cond.fieldLinkNest "ShadowCourt$LawReader" (56) "ShadowCourt$Law" "worthAt" "[I" "ShadowCourt" ∈ xNL := xn 258 (by decide +kernel) rfl
theorem wn260 : Cond.fieldLinkNest "ShadowCourt$LawReader" (69) "ShadowCourt$Law" "askedAt" "[I" "ShadowCourt" ∈ xNL := xn 260 (by decide +kernel) rfl
theorem wn262 : Cond.fieldLinkNest "ShadowCourt$LawReader" (46) "ShadowCourt$Law" "clauses" "I" "ShadowCourt" ∈ xNL := xn 262 (by decide +kernel) rfl
theorem wn637 : Cond.methodLinkNest "ShadowCourt$LawReader" (22) yX4_empty "ShadowCourt" ∈ xNL := xn 637 (by decide +kernel) rfl
theorem wn641 : Cond.methodLinkNest "ShadowCourt$LawReader" (25) yX8_sign "ShadowCourt" ∈ xNL := xn 641 (by decide +kernel) rfl
theorem wn645 : Cond.methodLinkNest "ShadowCourt$LawReader" (39) yX8_fails "ShadowCourt" ∈ xNL := xn 645 (by decide +kernel) rfl
theorem wn662 : Cond.methodLinkNest "ShadowCourt$LawReader" (91) yX8_isDigit "ShadowCourt" ∈ xNL := xn 662 (by decide +kernel) rfl
theorem wn670 : Cond.methodLinkNest "ShadowCourt$LawReader" (65) yX4_put "ShadowCourt" ∈ xNL := xn 670 (by decide +kernel) rfl
theorem wn674 : Cond.methodLinkNest "ShadowCourt$LawReader" (49) yX8_passes "ShadowCourt" ∈ xNL := xn 674 (by decide +kernel) rfl
theorem wn675 : Cond.methodLinkNest "ShadowCourt$LawReader" (98) yX4_placeOfLetter "ShadowCourt" ∈ xNL := xn 675 (by decide +kernel) rfl
theorem wn690 : Cond.methodLinkNest "ShadowCourt$LawReader" (78) yX4_landSkip "ShadowCourt" ∈ xNL := xn 690 (by decide +kernel) rfl
theorem dX5_isKind_0 : decode cX5_isKind 0 = .ok (.iload_n 0, 1) := by decide +kernel
theorem dX5_isKind_1 : decode cX5_isKind 1 = .ok (.bipush 97, 2) := by decide +kernel
theorem dX5_isKind_3 : decode cX5_isKind 3 = .ok (.if_icmp .eq 33, 3) := by decide +kernel
theorem dX5_isKind_6 : decode cX5_isKind 6 = .ok (.iload_n 0, 1) := by decide +kernel
theorem dX5_isKind_7 : decode cX5_isKind 7 = .ok (.bipush 108, 2) := by decide +kernel
theorem dX5_isKind_9 : decode cX5_isKind 9 = .ok (.if_icmp .eq 27, 3) := by decide +kernel
theorem dX5_isKind_12 : decode cX5_isKind 12 = .ok (.iload_n 0, 1) := by decide +kernel
theorem dX5_isKind_13 : decode cX5_isKind 13 = .ok (.bipush 99, 2) := by decide +kernel
theorem dX5_isKind_15 : decode cX5_isKind 15 = .ok (.if_icmp .eq 21, 3) := by decide +kernel
theorem dX5_isKind_18 : decode cX5_isKind 18 = .ok (.iload_n 0, 1) := by decide +kernel
theorem dX5_isKind_19 : decode cX5_isKind 19 = .ok (.bipush 110, 2) := by decide +kernel
theorem dX5_isKind_21 : decode cX5_isKind 21 = .ok (.if_icmp .eq 15, 3) := by decide +kernel
theorem dX5_isKind_24 : decode cX5_isKind 24 = .ok (.iload_n 0, 1) := by decide +kernel
theorem dX5_isKind_25 : decode cX5_isKind 25 = .ok (.bipush 118, 2) := by decide +kernel
theorem dX5_isKind_27 : decode cX5_isKind 27 = .ok (.if_icmp .eq 9, 3) := by decide +kernel
theorem dX5_isKind_30 : decode cX5_isKind 30 = .ok (.iload_n 0, 1) := by decide +kernel
theorem dX5_isKind_31 : decode cX5_isKind 31 = .ok (.bipush 111, 2) := by decide +kernel
theorem dX5_isKind_33 : decode cX5_isKind 33 = .ok (.if_icmp .ne 7, 3) := by decide +kernel
theorem dX5_isKind_36 : decode cX5_isKind 36 = .ok (.iconst 1, 1) := by decide +kernel
theorem dX5_isKind_37 : decode cX5_isKind 37 = .ok (.goto 4, 3) := by decide +kernel
theorem dX5_isKind_40 : decode cX5_isKind 40 = .ok (.iconst 0, 1) := by decide +kernel
theorem dX5_isKind_41 : decode cX5_isKind 41 = .ok (.ireturn, 1) := by decide +kernel
theorem dX5_readClause_0 : decode cX5_readClause 0 = .ok (.iload_n 2, 1) := by decide +kernel
theorem dX5_readClause_1 : decode cX5_readClause 1 = .ok (.ifCond .lt 9, 3) := by decide +kernel
theorem dX5_readClause_4 : decode cX5_readClause 4 = .ok (.iload_n 2, 1) := by decide +kernel
theorem dX5_readClause_5 : decode cX5_readClause 5 = .ok (.bipush 16, 2) := by decide +kernel
theorem dX5_readClause_7 : decode cX5_readClause 7 = .ok (.if_icmp .lt 5, 3) := by decide +kernel
theorem dX5_readClause_10 : decode cX5_readClause 10 = .ok (.iconst 0, 1) := by decide +kernel
theorem dX5_readClause_11 : decode cX5_readClause 11 = .ok (.ireturn, 1) := by decide +kernel
theorem dX5_readClause_12 : decode cX5_readClause 12 = .ok (.aload_n 0, 1) := by decide +kernel
theorem dX5_readClause_13 : decode cX5_readClause 13 = .ok (.getfield 18, 3) := by decide +kernel
theorem dX5_readClause_16 : decode cX5_readClause 16 = .ok (.getfield 52, 3) := by decide +kernel
theorem dX5_readClause_19 : decode cX5_readClause 19 = .ok (.iload_n 2, 1) := by decide +kernel
theorem dX5_readClause_20 : decode cX5_readClause 20 = .ok (.iload_n 1, 1) := by decide +kernel
theorem dX5_readClause_21 : decode cX5_readClause 21 = .ok (.iastore, 1) := by decide +kernel
theorem dX5_readClause_22 : decode cX5_readClause 22 = .ok (.aload_n 0, 1) := by decide +kernel
theorem dX5_readClause_23 : decode cX5_readClause 23 = .ok (.getfield 18, 3) := by decide +kernel
theorem dX5_readClause_26 : decode cX5_readClause 26 = .ok (.getfield 56, 3) := by decide +kernel
theorem dX5_readClause_29 : decode cX5_readClause 29 = .ok (.iload_n 2, 1) := by decide +kernel
theorem dX5_readClause_30 : decode cX5_readClause 30 = .ok (.aload_n 0, 1) := by decide +kernel
theorem dX5_readClause_31 : decode cX5_readClause 31 = .ok (.getfield 18, 3) := by decide +kernel
theorem dX5_readClause_34 : decode cX5_readClause 34 = .ok (.getfield 59, 3) := by decide +kernel
theorem dX5_readClause_37 : decode cX5_readClause 37 = .ok (.iastore, 1) := by decide +kernel
theorem dX5_readClause_38 : decode cX5_readClause 38 = .ok (.iload_n 1, 1) := by decide +kernel
theorem dX5_readClause_39 : decode cX5_readClause 39 = .ok (.bipush 110, 2) := by decide +kernel
theorem dX5_readClause_41 : decode cX5_readClause 41 = .ok (.if_icmp .eq 13, 3) := by decide +kernel
theorem dX5_readClause_44 : decode cX5_readClause 44 = .ok (.aload_n 0, 1) := by decide +kernel
theorem dX5_readClause_45 : decode cX5_readClause 45 = .ok (.iconst 0, 1) := by decide +kernel
theorem dX5_readClause_46 : decode cX5_readClause 46 = .ok (.invokevirtual 62, 3) := by decide +kernel
theorem dX5_readClause_49 : decode cX5_readClause 49 = .ok (.ifCond .ne 5, 3) := by decide +kernel
theorem dX5_readClause_52 : decode cX5_readClause 52 = .ok (.iconst 0, 1) := by decide +kernel
theorem dX5_readClause_53 : decode cX5_readClause 53 = .ok (.ireturn, 1) := by decide +kernel
theorem dX5_readClause_54 : decode cX5_readClause 54 = .ok (.aload_n 0, 1) := by decide +kernel
theorem dX5_readClause_55 : decode cX5_readClause 55 = .ok (.getfield 18, 3) := by decide +kernel
theorem dX5_readClause_58 : decode cX5_readClause 58 = .ok (.iconst 0, 1) := by decide +kernel
theorem dX5_readClause_59 : decode cX5_readClause 59 = .ok (.iconst 0, 1) := by decide +kernel
theorem dX5_readClause_60 : decode cX5_readClause 60 = .ok (.invokevirtual 65, 3) := by decide +kernel
theorem dX5_readClause_63 : decode cX5_readClause 63 = .ok (.pop, 1) := by decide +kernel
theorem dX5_readClause_64 : decode cX5_readClause 64 = .ok (.aload_n 0, 1) := by decide +kernel
theorem dX5_readClause_65 : decode cX5_readClause 65 = .ok (.getfield 18, 3) := by decide +kernel
theorem dX5_readClause_68 : decode cX5_readClause 68 = .ok (.getfield 69, 3) := by decide +kernel
theorem dX5_readClause_71 : decode cX5_readClause 71 = .ok (.iload_n 2, 1) := by decide +kernel
theorem dX5_readClause_72 : decode cX5_readClause 72 = .ok (.aload_n 0, 1) := by decide +kernel
theorem dX5_readClause_73 : decode cX5_readClause 73 = .ok (.getfield 18, 3) := by decide +kernel
theorem dX5_readClause_76 : decode cX5_readClause 76 = .ok (.getfield 59, 3) := by decide +kernel
theorem dX5_readClause_79 : decode cX5_readClause 79 = .ok (.iastore, 1) := by decide +kernel
theorem dX5_readClause_80 : decode cX5_readClause 80 = .ok (.aload_n 0, 1) := by decide +kernel
theorem dX5_readClause_81 : decode cX5_readClause 81 = .ok (.getfield 9, 3) := by decide +kernel
theorem dX5_readClause_84 : decode cX5_readClause 84 = .ok (.bipush 40, 2) := by decide +kernel
theorem dX5_readClause_86 : decode cX5_readClause 86 = .ok (.invokevirtual 49, 3) := by decide +kernel
theorem dX5_readClause_89 : decode cX5_readClause 89 = .ok (.ifCond .eq 23, 3) := by decide +kernel
theorem dX5_readClause_92 : decode cX5_readClause 92 = .ok (.aload_n 0, 1) := by decide +kernel
theorem dX5_readClause_93 : decode cX5_readClause 93 = .ok (.iconst 1, 1) := by decide +kernel
theorem dX5_readClause_94 : decode cX5_readClause 94 = .ok (.invokevirtual 72, 3) := by decide +kernel
theorem dX5_readClause_97 : decode cX5_readClause 97 = .ok (.ifCond .eq 15, 3) := by decide +kernel
theorem dX5_readClause_100 : decode cX5_readClause 100 = .ok (.aload_n 0, 1) := by decide +kernel
theorem dX5_readClause_101 : decode cX5_readClause 101 = .ok (.getfield 9, 3) := by decide +kernel
theorem dX5_readClause_104 : decode cX5_readClause 104 = .ok (.bipush 41, 2) := by decide +kernel
theorem dX5_readClause_106 : decode cX5_readClause 106 = .ok (.invokevirtual 49, 3) := by decide +kernel
theorem dX5_readClause_109 : decode cX5_readClause 109 = .ok (.ifCond .ne 5, 3) := by decide +kernel
theorem dX5_readClause_112 : decode cX5_readClause 112 = .ok (.iconst 0, 1) := by decide +kernel
theorem dX5_readClause_113 : decode cX5_readClause 113 = .ok (.ireturn, 1) := by decide +kernel
theorem dX5_readClause_114 : decode cX5_readClause 114 = .ok (.aload_n 0, 1) := by decide +kernel
theorem dX5_readClause_115 : decode cX5_readClause 115 = .ok (.getfield 18, 3) := by decide +kernel
theorem dX5_readClause_118 : decode cX5_readClause 118 = .ok (.iconst 0, 1) := by decide +kernel
theorem dX5_readClause_119 : decode cX5_readClause 119 = .ok (.iconst 0, 1) := by decide +kernel
theorem dX5_readClause_120 : decode cX5_readClause 120 = .ok (.invokevirtual 65, 3) := by decide +kernel
theorem dX5_readClause_123 : decode cX5_readClause 123 = .ok (.pop, 1) := by decide +kernel
theorem dX5_readClause_124 : decode cX5_readClause 124 = .ok (.iconst 1, 1) := by decide +kernel
theorem dX5_readClause_125 : decode cX5_readClause 125 = .ok (.ireturn, 1) := by decide +kernel
theorem dX5_readFactor_0 : decode cX5_readFactor 0 = .ok (.aload_n 0, 1) := by decide +kernel
theorem dX5_readFactor_1 : decode cX5_readFactor 1 = .ok (.getfield 9, 3) := by decide +kernel
theorem dX5_readFactor_4 : decode cX5_readFactor 4 = .ok (.invokevirtual 91, 3) := by decide +kernel
theorem dX5_readFactor_7 : decode cX5_readFactor 7 = .ok (.ifCond .eq 8, 3) := by decide +kernel
theorem dX5_readFactor_10 : decode cX5_readFactor 10 = .ok (.aload_n 0, 1) := by decide +kernel
theorem dX5_readFactor_11 : decode cX5_readFactor 11 = .ok (.invokevirtual 95, 3) := by decide +kernel
theorem dX5_readFactor_14 : decode cX5_readFactor 14 = .ok (.ireturn, 1) := by decide +kernel
theorem dX5_readFactor_15 : decode cX5_readFactor 15 = .ok (.aload_n 0, 1) := by decide +kernel
theorem dX5_readFactor_16 : decode cX5_readFactor 16 = .ok (.getfield 9, 3) := by decide +kernel
theorem dX5_readFactor_19 : decode cX5_readFactor 19 = .ok (.invokevirtual 25, 3) := by decide +kernel
theorem dX5_readFactor_22 : decode cX5_readFactor 22 = .ok (.istore_n 2, 1) := by decide +kernel
theorem dX5_readFactor_23 : decode cX5_readFactor 23 = .ok (.iload_n 2, 1) := by decide +kernel
theorem dX5_readFactor_24 : decode cX5_readFactor 24 = .ok (.bipush 91, 2) := by decide +kernel
theorem dX5_readFactor_26 : decode cX5_readFactor 26 = .ok (.if_icmp .ne 66, 3) := by decide +kernel
theorem dX5_readFactor_29 : decode cX5_readFactor 29 = .ok (.iload_n 1, 1) := by decide +kernel
theorem dX5_readFactor_30 : decode cX5_readFactor 30 = .ok (.bipush 6, 2) := by decide +kernel
theorem dX5_readFactor_32 : decode cX5_readFactor 32 = .ok (.if_icmp .lt 19, 3) := by decide +kernel
theorem dX5_readFactor_35 : decode cX5_readFactor 35 = .ok (.aload_n 0, 1) := by decide +kernel
theorem dX5_readFactor_36 : decode cX5_readFactor 36 = .ok (.getfield 9, 3) := by decide +kernel
theorem dX5_readFactor_39 : decode cX5_readFactor 39 = .ok (.iconst 5, 1) := by decide +kernel
theorem dX5_readFactor_40 : decode cX5_readFactor 40 = .ok (.aload_n 0, 1) := by decide +kernel
theorem dX5_readFactor_41 : decode cX5_readFactor 41 = .ok (.getfield 9, 3) := by decide +kernel
theorem dX5_readFactor_44 : decode cX5_readFactor 44 = .ok (.getfield 35, 3) := by decide +kernel
theorem dX5_readFactor_47 : decode cX5_readFactor 47 = .ok (.invokevirtual 39, 3) := by decide +kernel
theorem dX5_readFactor_50 : decode cX5_readFactor 50 = .ok (.ireturn, 1) := by decide +kernel
theorem dX5_readFactor_51 : decode cX5_readFactor 51 = .ok (.aload_n 0, 1) := by decide +kernel
theorem dX5_readFactor_52 : decode cX5_readFactor 52 = .ok (.getfield 9, 3) := by decide +kernel
theorem dX5_readFactor_55 : decode cX5_readFactor 55 = .ok (.dup, 1) := by decide +kernel
theorem dX5_readFactor_56 : decode cX5_readFactor 56 = .ok (.getfield 35, 3) := by decide +kernel
theorem dX5_readFactor_59 : decode cX5_readFactor 59 = .ok (.iconst 1, 1) := by decide +kernel
theorem dX5_readFactor_60 : decode cX5_readFactor 60 = .ok (.iadd, 1) := by decide +kernel
theorem dX5_readFactor_61 : decode cX5_readFactor 61 = .ok (.putfield 35, 3) := by decide +kernel
theorem dX5_readFactor_64 : decode cX5_readFactor 64 = .ok (.aload_n 0, 1) := by decide +kernel
theorem dX5_readFactor_65 : decode cX5_readFactor 65 = .ok (.iload_n 1, 1) := by decide +kernel
theorem dX5_readFactor_66 : decode cX5_readFactor 66 = .ok (.iconst 1, 1) := by decide +kernel
theorem dX5_readFactor_67 : decode cX5_readFactor 67 = .ok (.iadd, 1) := by decide +kernel
theorem dX5_readFactor_68 : decode cX5_readFactor 68 = .ok (.invokevirtual 62, 3) := by decide +kernel
theorem dX5_readFactor_71 : decode cX5_readFactor 71 = .ok (.ifCond .eq 19, 3) := by decide +kernel
theorem dX5_readFactor_74 : decode cX5_readFactor 74 = .ok (.aload_n 0, 1) := by decide +kernel
theorem dX5_readFactor_75 : decode cX5_readFactor 75 = .ok (.getfield 9, 3) := by decide +kernel
theorem dX5_readFactor_78 : decode cX5_readFactor 78 = .ok (.bipush 93, 2) := by decide +kernel
theorem dX5_readFactor_80 : decode cX5_readFactor 80 = .ok (.invokevirtual 49, 3) := by decide +kernel
theorem dX5_readFactor_83 : decode cX5_readFactor 83 = .ok (.ifCond .eq 7, 3) := by decide +kernel
theorem dX5_readFactor_86 : decode cX5_readFactor 86 = .ok (.iconst 1, 1) := by decide +kernel
theorem dX5_readFactor_87 : decode cX5_readFactor 87 = .ok (.goto 4, 3) := by decide +kernel
theorem dX5_readFactor_90 : decode cX5_readFactor 90 = .ok (.iconst 0, 1) := by decide +kernel
theorem dX5_readFactor_91 : decode cX5_readFactor 91 = .ok (.ireturn, 1) := by decide +kernel
theorem dX5_readFactor_92 : decode cX5_readFactor 92 = .ok (.iload_n 2, 1) := by decide +kernel
theorem dX5_readFactor_93 : decode cX5_readFactor 93 = .ok (.invokestatic 98, 3) := by decide +kernel
theorem dX5_readFactor_96 : decode cX5_readFactor 96 = .ok (.istore_n 3, 1) := by decide +kernel
theorem dX5_readFactor_97 : decode cX5_readFactor 97 = .ok (.iload_n 3, 1) := by decide +kernel
theorem dX5_readFactor_98 : decode cX5_readFactor 98 = .ok (.iconst (-1), 1) := by decide +kernel
theorem dX5_readFactor_99 : decode cX5_readFactor 99 = .ok (.if_icmp .ne 19, 3) := by decide +kernel
theorem dX5_readFactor_102 : decode cX5_readFactor 102 = .ok (.aload_n 0, 1) := by decide +kernel
theorem dX5_readFactor_103 : decode cX5_readFactor 103 = .ok (.getfield 9, 3) := by decide +kernel
theorem dX5_readFactor_106 : decode cX5_readFactor 106 = .ok (.iconst 1, 1) := by decide +kernel
theorem dX5_readFactor_107 : decode cX5_readFactor 107 = .ok (.aload_n 0, 1) := by decide +kernel
theorem dX5_readFactor_108 : decode cX5_readFactor 108 = .ok (.getfield 9, 3) := by decide +kernel
theorem dX5_readFactor_111 : decode cX5_readFactor 111 = .ok (.getfield 35, 3) := by decide +kernel
theorem dX5_readFactor_114 : decode cX5_readFactor 114 = .ok (.invokevirtual 39, 3) := by decide +kernel
theorem dX5_readFactor_117 : decode cX5_readFactor 117 = .ok (.ireturn, 1) := by decide +kernel
theorem dX5_readFactor_118 : decode cX5_readFactor 118 = .ok (.aload_n 0, 1) := by decide +kernel
theorem dX5_readFactor_119 : decode cX5_readFactor 119 = .ok (.getfield 9, 3) := by decide +kernel
theorem dX5_readFactor_122 : decode cX5_readFactor 122 = .ok (.dup, 1) := by decide +kernel
theorem dX5_readFactor_123 : decode cX5_readFactor 123 = .ok (.getfield 35, 3) := by decide +kernel
theorem dX5_readFactor_126 : decode cX5_readFactor 126 = .ok (.iconst 1, 1) := by decide +kernel
theorem dX5_readFactor_127 : decode cX5_readFactor 127 = .ok (.iadd, 1) := by decide +kernel
theorem dX5_readFactor_128 : decode cX5_readFactor 128 = .ok (.putfield 35, 3) := by decide +kernel
theorem dX5_readFactor_131 : decode cX5_readFactor 131 = .ok (.aload_n 0, 1) := by decide +kernel
theorem dX5_readFactor_132 : decode cX5_readFactor 132 = .ok (.getfield 18, 3) := by decide +kernel
theorem dX5_readFactor_135 : decode cX5_readFactor 135 = .ok (.iconst 2, 1) := by decide +kernel
theorem dX5_readFactor_136 : decode cX5_readFactor 136 = .ok (.iload_n 3, 1) := by decide +kernel
theorem dX5_readFactor_137 : decode cX5_readFactor 137 = .ok (.invokevirtual 65, 3) := by decide +kernel
theorem dX5_readFactor_140 : decode cX5_readFactor 140 = .ok (.pop, 1) := by decide +kernel
theorem dX5_readFactor_141 : decode cX5_readFactor 141 = .ok (.iconst 1, 1) := by decide +kernel
theorem dX5_readFactor_142 : decode cX5_readFactor 142 = .ok (.ireturn, 1) := by decide +kernel
theorem dX5_readNumber_0 : decode cX5_readNumber 0 = .ok (.iconst 0, 1) := by decide +kernel
theorem dX5_readNumber_1 : decode cX5_readNumber 1 = .ok (.istore_n 1, 1) := by decide +kernel
theorem dX5_readNumber_2 : decode cX5_readNumber 2 = .ok (.iconst 0, 1) := by decide +kernel
theorem dX5_readNumber_3 : decode cX5_readNumber 3 = .ok (.istore_n 2, 1) := by decide +kernel
theorem dX5_readNumber_4 : decode cX5_readNumber 4 = .ok (.iload_n 2, 1) := by decide +kernel
theorem dX5_readNumber_5 : decode cX5_readNumber 5 = .ok (.iconst 5, 1) := by decide +kernel
theorem dX5_readNumber_6 : decode cX5_readNumber 6 = .ok (.if_icmp .ge 48, 3) := by decide +kernel
theorem dX5_readNumber_9 : decode cX5_readNumber 9 = .ok (.aload_n 0, 1) := by decide +kernel
theorem dX5_readNumber_10 : decode cX5_readNumber 10 = .ok (.getfield 9, 3) := by decide +kernel
theorem dX5_readNumber_13 : decode cX5_readNumber 13 = .ok (.invokevirtual 91, 3) := by decide +kernel
theorem dX5_readNumber_16 : decode cX5_readNumber 16 = .ok (.ifCond .eq 38, 3) := by decide +kernel
theorem dX5_readNumber_19 : decode cX5_readNumber 19 = .ok (.bipush 10, 2) := by decide +kernel
theorem dX5_readNumber_21 : decode cX5_readNumber 21 = .ok (.iload_n 1, 1) := by decide +kernel
theorem dX5_readNumber_22 : decode cX5_readNumber 22 = .ok (.imul, 1) := by decide +kernel
theorem dX5_readNumber_23 : decode cX5_readNumber 23 = .ok (.aload_n 0, 1) := by decide +kernel
theorem dX5_readNumber_24 : decode cX5_readNumber 24 = .ok (.getfield 9, 3) := by decide +kernel
theorem dX5_readNumber_27 : decode cX5_readNumber 27 = .ok (.invokevirtual 25, 3) := by decide +kernel
theorem dX5_readNumber_30 : decode cX5_readNumber 30 = .ok (.iadd, 1) := by decide +kernel
theorem dX5_readNumber_31 : decode cX5_readNumber 31 = .ok (.bipush 48, 2) := by decide +kernel
theorem dX5_readNumber_33 : decode cX5_readNumber 33 = .ok (.isub, 1) := by decide +kernel
theorem dX5_readNumber_34 : decode cX5_readNumber 34 = .ok (.istore_n 1, 1) := by decide +kernel
theorem dX5_readNumber_35 : decode cX5_readNumber 35 = .ok (.aload_n 0, 1) := by decide +kernel
theorem dX5_readNumber_36 : decode cX5_readNumber 36 = .ok (.getfield 9, 3) := by decide +kernel
theorem dX5_readNumber_39 : decode cX5_readNumber 39 = .ok (.dup, 1) := by decide +kernel
theorem dX5_readNumber_40 : decode cX5_readNumber 40 = .ok (.getfield 35, 3) := by decide +kernel
theorem dX5_readNumber_43 : decode cX5_readNumber 43 = .ok (.iconst 1, 1) := by decide +kernel
theorem dX5_readNumber_44 : decode cX5_readNumber 44 = .ok (.iadd, 1) := by decide +kernel
theorem dX5_readNumber_45 : decode cX5_readNumber 45 = .ok (.putfield 35, 3) := by decide +kernel
theorem dX5_readNumber_48 : decode cX5_readNumber 48 = .ok (.iinc 2 1, 3) := by decide +kernel
theorem dX5_readNumber_51 : decode cX5_readNumber 51 = .ok (.goto (-47), 3) := by decide +kernel
theorem dX5_readNumber_54 : decode cX5_readNumber 54 = .ok (.aload_n 0, 1) := by decide +kernel
theorem dX5_readNumber_55 : decode cX5_readNumber 55 = .ok (.getfield 9, 3) := by decide +kernel
theorem dX5_readNumber_58 : decode cX5_readNumber 58 = .ok (.invokevirtual 91, 3) := by decide +kernel
theorem dX5_readNumber_61 : decode cX5_readNumber 61 = .ok (.ifCond .eq 19, 3) := by decide +kernel
theorem dX5_readNumber_64 : decode cX5_readNumber 64 = .ok (.aload_n 0, 1) := by decide +kernel
theorem dX5_readNumber_65 : decode cX5_readNumber 65 = .ok (.getfield 9, 3) := by decide +kernel
theorem dX5_readNumber_68 : decode cX5_readNumber 68 = .ok (.iconst 2, 1) := by decide +kernel
theorem dX5_readNumber_69 : decode cX5_readNumber 69 = .ok (.aload_n 0, 1) := by decide +kernel
theorem dX5_readNumber_70 : decode cX5_readNumber 70 = .ok (.getfield 9, 3) := by decide +kernel
theorem dX5_readNumber_73 : decode cX5_readNumber 73 = .ok (.getfield 35, 3) := by decide +kernel
theorem dX5_readNumber_76 : decode cX5_readNumber 76 = .ok (.invokevirtual 39, 3) := by decide +kernel
theorem dX5_readNumber_79 : decode cX5_readNumber 79 = .ok (.ireturn, 1) := by decide +kernel
theorem dX5_readNumber_80 : decode cX5_readNumber 80 = .ok (.aload_n 0, 1) := by decide +kernel
theorem dX5_readNumber_81 : decode cX5_readNumber 81 = .ok (.getfield 18, 3) := by decide +kernel
theorem dX5_readNumber_84 : decode cX5_readNumber 84 = .ok (.iconst 1, 1) := by decide +kernel
theorem dX5_readNumber_85 : decode cX5_readNumber 85 = .ok (.iload_n 1, 1) := by decide +kernel
theorem dX5_readNumber_86 : decode cX5_readNumber 86 = .ok (.invokevirtual 65, 3) := by decide +kernel
theorem dX5_readNumber_89 : decode cX5_readNumber 89 = .ok (.pop, 1) := by decide +kernel
theorem dX5_readNumber_90 : decode cX5_readNumber 90 = .ok (.iconst 1, 1) := by decide +kernel
theorem dX5_readNumber_91 : decode cX5_readNumber 91 = .ok (.ireturn, 1) := by decide +kernel
theorem dX5_readParts_0 : decode cX5_readParts 0 = .ok (.aload_n 0, 1) := by decide +kernel
theorem dX5_readParts_1 : decode cX5_readParts 1 = .ok (.iload_n 1, 1) := by decide +kernel
theorem dX5_readParts_2 : decode cX5_readParts 2 = .ok (.invokevirtual 75, 3) := by decide +kernel
theorem dX5_readParts_5 : decode cX5_readParts 5 = .ok (.ifCond .ne 5, 3) := by decide +kernel
theorem dX5_readParts_8 : decode cX5_readParts 8 = .ok (.iconst 0, 1) := by decide +kernel
theorem dX5_readParts_9 : decode cX5_readParts 9 = .ok (.ireturn, 1) := by decide +kernel
theorem dX5_readParts_10 : decode cX5_readParts 10 = .ok (.iconst 0, 1) := by decide +kernel
theorem dX5_readParts_11 : decode cX5_readParts 11 = .ok (.istore_n 2, 1) := by decide +kernel
theorem dX5_readParts_12 : decode cX5_readParts 12 = .ok (.iload_n 2, 1) := by decide +kernel
theorem dX5_readParts_13 : decode cX5_readParts 13 = .ok (.sipush 300, 3) := by decide +kernel
theorem dX5_readParts_16 : decode cX5_readParts 16 = .ok (.if_icmp .ge 62, 3) := by decide +kernel
theorem dX5_readParts_19 : decode cX5_readParts 19 = .ok (.aload_n 0, 1) := by decide +kernel
theorem dX5_readParts_20 : decode cX5_readParts 20 = .ok (.getfield 9, 3) := by decide +kernel
theorem dX5_readParts_23 : decode cX5_readParts 23 = .ok (.invokevirtual 25, 3) := by decide +kernel
theorem dX5_readParts_26 : decode cX5_readParts 26 = .ok (.bipush 124, 2) := by decide +kernel
theorem dX5_readParts_28 : decode cX5_readParts 28 = .ok (.if_icmp .ne 50, 3) := by decide +kernel
theorem dX5_readParts_31 : decode cX5_readParts 31 = .ok (.aload_n 0, 1) := by decide +kernel
theorem dX5_readParts_32 : decode cX5_readParts 32 = .ok (.getfield 9, 3) := by decide +kernel
theorem dX5_readParts_35 : decode cX5_readParts 35 = .ok (.dup, 1) := by decide +kernel
theorem dX5_readParts_36 : decode cX5_readParts 36 = .ok (.getfield 35, 3) := by decide +kernel
theorem dX5_readParts_39 : decode cX5_readParts 39 = .ok (.iconst 1, 1) := by decide +kernel
theorem dX5_readParts_40 : decode cX5_readParts 40 = .ok (.iadd, 1) := by decide +kernel
theorem dX5_readParts_41 : decode cX5_readParts 41 = .ok (.putfield 35, 3) := by decide +kernel
theorem dX5_readParts_44 : decode cX5_readParts 44 = .ok (.aload_n 0, 1) := by decide +kernel
theorem dX5_readParts_45 : decode cX5_readParts 45 = .ok (.getfield 18, 3) := by decide +kernel
theorem dX5_readParts_48 : decode cX5_readParts 48 = .ok (.iconst 5, 1) := by decide +kernel
theorem dX5_readParts_49 : decode cX5_readParts 49 = .ok (.iconst 0, 1) := by decide +kernel
theorem dX5_readParts_50 : decode cX5_readParts 50 = .ok (.invokevirtual 65, 3) := by decide +kernel
theorem dX5_readParts_53 : decode cX5_readParts 53 = .ok (.istore_n 3, 1) := by decide +kernel
theorem dX5_readParts_54 : decode cX5_readParts 54 = .ok (.aload_n 0, 1) := by decide +kernel
theorem dX5_readParts_55 : decode cX5_readParts 55 = .ok (.iload_n 1, 1) := by decide +kernel
theorem dX5_readParts_56 : decode cX5_readParts 56 = .ok (.invokevirtual 75, 3) := by decide +kernel
theorem dX5_readParts_59 : decode cX5_readParts 59 = .ok (.ifCond .ne 5, 3) := by decide +kernel
theorem dX5_readParts_62 : decode cX5_readParts 62 = .ok (.iconst 0, 1) := by decide +kernel
theorem dX5_readParts_63 : decode cX5_readParts 63 = .ok (.ireturn, 1) := by decide +kernel
theorem dX5_readParts_64 : decode cX5_readParts 64 = .ok (.aload_n 0, 1) := by decide +kernel
theorem dX5_readParts_65 : decode cX5_readParts 65 = .ok (.getfield 18, 3) := by decide +kernel
theorem dX5_readParts_68 : decode cX5_readParts 68 = .ok (.iload_n 3, 1) := by decide +kernel
theorem dX5_readParts_69 : decode cX5_readParts 69 = .ok (.invokevirtual 78, 3) := by decide +kernel
theorem dX5_readParts_72 : decode cX5_readParts 72 = .ok (.iinc 2 1, 3) := by decide +kernel
theorem dX5_readParts_75 : decode cX5_readParts 75 = .ok (.goto (-63), 3) := by decide +kernel
theorem dX5_readParts_78 : decode cX5_readParts 78 = .ok (.iconst 1, 1) := by decide +kernel
theorem dX5_readParts_79 : decode cX5_readParts 79 = .ok (.ireturn, 1) := by decide +kernel
theorem dX5_readPiece_0 : decode cX5_readPiece 0 = .ok (.aload_n 0, 1) := by decide +kernel
theorem dX5_readPiece_1 : decode cX5_readPiece 1 = .ok (.getfield 9, 3) := by decide +kernel
theorem dX5_readPiece_4 : decode cX5_readPiece 4 = .ok (.invokevirtual 25, 3) := by decide +kernel
theorem dX5_readPiece_7 : decode cX5_readPiece 7 = .ok (.istore_n 2, 1) := by decide +kernel
theorem dX5_readPiece_8 : decode cX5_readPiece 8 = .ok (.iload_n 2, 1) := by decide +kernel
theorem dX5_readPiece_9 : decode cX5_readPiece 9 = .ok (.bipush 33, 2) := by decide +kernel
theorem dX5_readPiece_11 : decode cX5_readPiece 11 = .ok (.if_icmp .eq 9, 3) := by decide +kernel
theorem dX5_readPiece_14 : decode cX5_readPiece 14 = .ok (.iload_n 2, 1) := by decide +kernel
theorem dX5_readPiece_15 : decode cX5_readPiece 15 = .ok (.bipush 40, 2) := by decide +kernel
theorem dX5_readPiece_17 : decode cX5_readPiece 17 = .ok (.if_icmp .ne 92, 3) := by decide +kernel
theorem dX5_readPiece_20 : decode cX5_readPiece 20 = .ok (.iload_n 1, 1) := by decide +kernel
theorem dX5_readPiece_21 : decode cX5_readPiece 21 = .ok (.bipush 6, 2) := by decide +kernel
theorem dX5_readPiece_23 : decode cX5_readPiece 23 = .ok (.if_icmp .lt 19, 3) := by decide +kernel
theorem dX5_readPiece_26 : decode cX5_readPiece 26 = .ok (.aload_n 0, 1) := by decide +kernel
theorem dX5_readPiece_27 : decode cX5_readPiece 27 = .ok (.getfield 9, 3) := by decide +kernel
theorem dX5_readPiece_30 : decode cX5_readPiece 30 = .ok (.iconst 5, 1) := by decide +kernel
theorem dX5_readPiece_31 : decode cX5_readPiece 31 = .ok (.aload_n 0, 1) := by decide +kernel
theorem dX5_readPiece_32 : decode cX5_readPiece 32 = .ok (.getfield 9, 3) := by decide +kernel
theorem dX5_readPiece_35 : decode cX5_readPiece 35 = .ok (.getfield 35, 3) := by decide +kernel
theorem dX5_readPiece_38 : decode cX5_readPiece 38 = .ok (.invokevirtual 39, 3) := by decide +kernel
theorem dX5_readPiece_41 : decode cX5_readPiece 41 = .ok (.ireturn, 1) := by decide +kernel
theorem dX5_readPiece_42 : decode cX5_readPiece 42 = .ok (.aload_n 0, 1) := by decide +kernel
theorem dX5_readPiece_43 : decode cX5_readPiece 43 = .ok (.getfield 9, 3) := by decide +kernel
theorem dX5_readPiece_46 : decode cX5_readPiece 46 = .ok (.dup, 1) := by decide +kernel
theorem dX5_readPiece_47 : decode cX5_readPiece 47 = .ok (.getfield 35, 3) := by decide +kernel
theorem dX5_readPiece_50 : decode cX5_readPiece 50 = .ok (.iconst 1, 1) := by decide +kernel
theorem dX5_readPiece_51 : decode cX5_readPiece 51 = .ok (.iadd, 1) := by decide +kernel
theorem dX5_readPiece_52 : decode cX5_readPiece 52 = .ok (.putfield 35, 3) := by decide +kernel
theorem dX5_readPiece_55 : decode cX5_readPiece 55 = .ok (.iload_n 2, 1) := by decide +kernel
theorem dX5_readPiece_56 : decode cX5_readPiece 56 = .ok (.bipush 40, 2) := by decide +kernel
theorem dX5_readPiece_58 : decode cX5_readPiece 58 = .ok (.if_icmp .ne 31, 3) := by decide +kernel
theorem dX5_readPiece_61 : decode cX5_readPiece 61 = .ok (.aload_n 0, 1) := by decide +kernel
theorem dX5_readPiece_62 : decode cX5_readPiece 62 = .ok (.iload_n 1, 1) := by decide +kernel
theorem dX5_readPiece_63 : decode cX5_readPiece 63 = .ok (.iconst 1, 1) := by decide +kernel
theorem dX5_readPiece_64 : decode cX5_readPiece 64 = .ok (.iadd, 1) := by decide +kernel
theorem dX5_readPiece_65 : decode cX5_readPiece 65 = .ok (.invokevirtual 72, 3) := by decide +kernel
theorem dX5_readPiece_68 : decode cX5_readPiece 68 = .ok (.ifCond .eq 19, 3) := by decide +kernel
theorem dX5_readPiece_71 : decode cX5_readPiece 71 = .ok (.aload_n 0, 1) := by decide +kernel
theorem dX5_readPiece_72 : decode cX5_readPiece 72 = .ok (.getfield 9, 3) := by decide +kernel
theorem dX5_readPiece_75 : decode cX5_readPiece 75 = .ok (.bipush 41, 2) := by decide +kernel
theorem dX5_readPiece_77 : decode cX5_readPiece 77 = .ok (.invokevirtual 49, 3) := by decide +kernel
theorem dX5_readPiece_80 : decode cX5_readPiece 80 = .ok (.ifCond .eq 7, 3) := by decide +kernel
theorem dX5_readPiece_83 : decode cX5_readPiece 83 = .ok (.iconst 1, 1) := by decide +kernel
theorem dX5_readPiece_84 : decode cX5_readPiece 84 = .ok (.goto 4, 3) := by decide +kernel
theorem dX5_readPiece_87 : decode cX5_readPiece 87 = .ok (.iconst 0, 1) := by decide +kernel
theorem dX5_readPiece_88 : decode cX5_readPiece 88 = .ok (.ireturn, 1) := by decide +kernel
theorem dX5_readPiece_89 : decode cX5_readPiece 89 = .ok (.aload_n 0, 1) := by decide +kernel
theorem dX5_readPiece_90 : decode cX5_readPiece 90 = .ok (.iload_n 1, 1) := by decide +kernel
theorem dX5_readPiece_91 : decode cX5_readPiece 91 = .ok (.iconst 1, 1) := by decide +kernel
theorem dX5_readPiece_92 : decode cX5_readPiece 92 = .ok (.iadd, 1) := by decide +kernel
theorem dX5_readPiece_93 : decode cX5_readPiece 93 = .ok (.invokevirtual 82, 3) := by decide +kernel
theorem dX5_readPiece_96 : decode cX5_readPiece 96 = .ok (.istore_n 3, 1) := by decide +kernel
theorem dX5_readPiece_97 : decode cX5_readPiece 97 = .ok (.aload_n 0, 1) := by decide +kernel
theorem dX5_readPiece_98 : decode cX5_readPiece 98 = .ok (.getfield 18, 3) := by decide +kernel
theorem dX5_readPiece_101 : decode cX5_readPiece 101 = .ok (.iconst 3, 1) := by decide +kernel
theorem dX5_readPiece_102 : decode cX5_readPiece 102 = .ok (.iconst 0, 1) := by decide +kernel
theorem dX5_readPiece_103 : decode cX5_readPiece 103 = .ok (.invokevirtual 65, 3) := by decide +kernel
theorem dX5_readPiece_106 : decode cX5_readPiece 106 = .ok (.pop, 1) := by decide +kernel
theorem dX5_readPiece_107 : decode cX5_readPiece 107 = .ok (.iload_n 3, 1) := by decide +kernel
theorem dX5_readPiece_108 : decode cX5_readPiece 108 = .ok (.ireturn, 1) := by decide +kernel
theorem dX5_readPiece_109 : decode cX5_readPiece 109 = .ok (.aload_n 0, 1) := by decide +kernel
theorem dX5_readPiece_110 : decode cX5_readPiece 110 = .ok (.iload_n 1, 1) := by decide +kernel
theorem dX5_readPiece_111 : decode cX5_readPiece 111 = .ok (.invokevirtual 62, 3) := by decide +kernel
theorem dX5_readPiece_114 : decode cX5_readPiece 114 = .ok (.ifCond .ne 5, 3) := by decide +kernel
theorem dX5_readPiece_117 : decode cX5_readPiece 117 = .ok (.iconst 0, 1) := by decide +kernel
theorem dX5_readPiece_118 : decode cX5_readPiece 118 = .ok (.ireturn, 1) := by decide +kernel
theorem dX5_readPiece_119 : decode cX5_readPiece 119 = .ok (.aload_n 0, 1) := by decide +kernel
theorem dX5_readPiece_120 : decode cX5_readPiece 120 = .ok (.getfield 9, 3) := by decide +kernel
theorem dX5_readPiece_123 : decode cX5_readPiece 123 = .ok (.invokevirtual 25, 3) := by decide +kernel
theorem dX5_readPiece_126 : decode cX5_readPiece 126 = .ok (.istore_n 3, 1) := by decide +kernel
theorem dX5_readPiece_127 : decode cX5_readPiece 127 = .ok (.iload_n 3, 1) := by decide +kernel
theorem dX5_readPiece_128 : decode cX5_readPiece 128 = .ok (.bipush 60, 2) := by decide +kernel
theorem dX5_readPiece_130 : decode cX5_readPiece 130 = .ok (.if_icmp .eq 31, 3) := by decide +kernel
theorem dX5_readPiece_133 : decode cX5_readPiece 133 = .ok (.iload_n 3, 1) := by decide +kernel
theorem dX5_readPiece_134 : decode cX5_readPiece 134 = .ok (.bipush 62, 2) := by decide +kernel
theorem dX5_readPiece_136 : decode cX5_readPiece 136 = .ok (.if_icmp .eq 25, 3) := by decide +kernel
theorem dX5_readPiece_139 : decode cX5_readPiece 139 = .ok (.iload_n 3, 1) := by decide +kernel
theorem dX5_readPiece_140 : decode cX5_readPiece 140 = .ok (.bipush 61, 2) := by decide +kernel
theorem dX5_readPiece_142 : decode cX5_readPiece 142 = .ok (.if_icmp .eq 19, 3) := by decide +kernel
theorem dX5_readPiece_145 : decode cX5_readPiece 145 = .ok (.aload_n 0, 1) := by decide +kernel
theorem dX5_readPiece_146 : decode cX5_readPiece 146 = .ok (.getfield 9, 3) := by decide +kernel
theorem dX5_readPiece_149 : decode cX5_readPiece 149 = .ok (.iconst 1, 1) := by decide +kernel
theorem dX5_readPiece_150 : decode cX5_readPiece 150 = .ok (.aload_n 0, 1) := by decide +kernel
theorem dX5_readPiece_151 : decode cX5_readPiece 151 = .ok (.getfield 9, 3) := by decide +kernel
theorem dX5_readPiece_154 : decode cX5_readPiece 154 = .ok (.getfield 35, 3) := by decide +kernel
theorem dX5_readPiece_157 : decode cX5_readPiece 157 = .ok (.invokevirtual 39, 3) := by decide +kernel
theorem dX5_readPiece_160 : decode cX5_readPiece 160 = .ok (.ireturn, 1) := by decide +kernel
theorem dX5_readPiece_161 : decode cX5_readPiece 161 = .ok (.aload_n 0, 1) := by decide +kernel
theorem dX5_readPiece_162 : decode cX5_readPiece 162 = .ok (.getfield 9, 3) := by decide +kernel
theorem dX5_readPiece_165 : decode cX5_readPiece 165 = .ok (.dup, 1) := by decide +kernel
theorem dX5_readPiece_166 : decode cX5_readPiece 166 = .ok (.getfield 35, 3) := by decide +kernel
theorem dX5_readPiece_169 : decode cX5_readPiece 169 = .ok (.iconst 1, 1) := by decide +kernel
theorem dX5_readPiece_170 : decode cX5_readPiece 170 = .ok (.iadd, 1) := by decide +kernel
theorem dX5_readPiece_171 : decode cX5_readPiece 171 = .ok (.putfield 35, 3) := by decide +kernel
theorem dX5_readPiece_174 : decode cX5_readPiece 174 = .ok (.aload_n 0, 1) := by decide +kernel
theorem dX5_readPiece_175 : decode cX5_readPiece 175 = .ok (.iload_n 1, 1) := by decide +kernel
theorem dX5_readPiece_176 : decode cX5_readPiece 176 = .ok (.invokevirtual 62, 3) := by decide +kernel
theorem dX5_readPiece_179 : decode cX5_readPiece 179 = .ok (.istore 4, 2) := by decide +kernel
theorem dX5_readPiece_181 : decode cX5_readPiece 181 = .ok (.aload_n 0, 1) := by decide +kernel
theorem dX5_readPiece_182 : decode cX5_readPiece 182 = .ok (.getfield 18, 3) := by decide +kernel
theorem dX5_readPiece_185 : decode cX5_readPiece 185 = .ok (.iload_n 3, 1) := by decide +kernel
theorem dX5_readPiece_186 : decode cX5_readPiece 186 = .ok (.iconst 0, 1) := by decide +kernel
theorem dX5_readPiece_187 : decode cX5_readPiece 187 = .ok (.invokevirtual 65, 3) := by decide +kernel
theorem dX5_readPiece_190 : decode cX5_readPiece 190 = .ok (.pop, 1) := by decide +kernel
theorem dX5_readPiece_191 : decode cX5_readPiece 191 = .ok (.iload 4, 2) := by decide +kernel
theorem dX5_readPiece_193 : decode cX5_readPiece 193 = .ok (.ireturn, 1) := by decide +kernel
theorem dX5_readPieces_0 : decode cX5_readPieces 0 = .ok (.aload_n 0, 1) := by decide +kernel
theorem dX5_readPieces_1 : decode cX5_readPieces 1 = .ok (.iload_n 1, 1) := by decide +kernel
theorem dX5_readPieces_2 : decode cX5_readPieces 2 = .ok (.invokevirtual 82, 3) := by decide +kernel
theorem dX5_readPieces_5 : decode cX5_readPieces 5 = .ok (.ifCond .ne 5, 3) := by decide +kernel
theorem dX5_readPieces_8 : decode cX5_readPieces 8 = .ok (.iconst 0, 1) := by decide +kernel
theorem dX5_readPieces_9 : decode cX5_readPieces 9 = .ok (.ireturn, 1) := by decide +kernel
theorem dX5_readPieces_10 : decode cX5_readPieces 10 = .ok (.iconst 0, 1) := by decide +kernel
theorem dX5_readPieces_11 : decode cX5_readPieces 11 = .ok (.istore_n 2, 1) := by decide +kernel
theorem dX5_readPieces_12 : decode cX5_readPieces 12 = .ok (.iload_n 2, 1) := by decide +kernel
theorem dX5_readPieces_13 : decode cX5_readPieces 13 = .ok (.sipush 300, 3) := by decide +kernel
theorem dX5_readPieces_16 : decode cX5_readPieces 16 = .ok (.if_icmp .ge 62, 3) := by decide +kernel
theorem dX5_readPieces_19 : decode cX5_readPieces 19 = .ok (.aload_n 0, 1) := by decide +kernel
theorem dX5_readPieces_20 : decode cX5_readPieces 20 = .ok (.getfield 9, 3) := by decide +kernel
theorem dX5_readPieces_23 : decode cX5_readPieces 23 = .ok (.invokevirtual 25, 3) := by decide +kernel
theorem dX5_readPieces_26 : decode cX5_readPieces 26 = .ok (.bipush 38, 2) := by decide +kernel
theorem dX5_readPieces_28 : decode cX5_readPieces 28 = .ok (.if_icmp .ne 50, 3) := by decide +kernel
theorem dX5_readPieces_31 : decode cX5_readPieces 31 = .ok (.aload_n 0, 1) := by decide +kernel
theorem dX5_readPieces_32 : decode cX5_readPieces 32 = .ok (.getfield 9, 3) := by decide +kernel
theorem dX5_readPieces_35 : decode cX5_readPieces 35 = .ok (.dup, 1) := by decide +kernel
theorem dX5_readPieces_36 : decode cX5_readPieces 36 = .ok (.getfield 35, 3) := by decide +kernel
theorem dX5_readPieces_39 : decode cX5_readPieces 39 = .ok (.iconst 1, 1) := by decide +kernel
theorem dX5_readPieces_40 : decode cX5_readPieces 40 = .ok (.iadd, 1) := by decide +kernel
theorem dX5_readPieces_41 : decode cX5_readPieces 41 = .ok (.putfield 35, 3) := by decide +kernel
theorem dX5_readPieces_44 : decode cX5_readPieces 44 = .ok (.aload_n 0, 1) := by decide +kernel
theorem dX5_readPieces_45 : decode cX5_readPieces 45 = .ok (.getfield 18, 3) := by decide +kernel
theorem dX5_readPieces_48 : decode cX5_readPieces 48 = .ok (.iconst 4, 1) := by decide +kernel
theorem dX5_readPieces_49 : decode cX5_readPieces 49 = .ok (.iconst 0, 1) := by decide +kernel
theorem dX5_readPieces_50 : decode cX5_readPieces 50 = .ok (.invokevirtual 65, 3) := by decide +kernel
theorem dX5_readPieces_53 : decode cX5_readPieces 53 = .ok (.istore_n 3, 1) := by decide +kernel
theorem dX5_readPieces_54 : decode cX5_readPieces 54 = .ok (.aload_n 0, 1) := by decide +kernel
theorem dX5_readPieces_55 : decode cX5_readPieces 55 = .ok (.iload_n 1, 1) := by decide +kernel
theorem dX5_readPieces_56 : decode cX5_readPieces 56 = .ok (.invokevirtual 82, 3) := by decide +kernel
theorem dX5_readPieces_59 : decode cX5_readPieces 59 = .ok (.ifCond .ne 5, 3) := by decide +kernel
theorem dX5_readPieces_62 : decode cX5_readPieces 62 = .ok (.iconst 0, 1) := by decide +kernel
theorem dX5_readPieces_63 : decode cX5_readPieces 63 = .ok (.ireturn, 1) := by decide +kernel
theorem dX5_readPieces_64 : decode cX5_readPieces 64 = .ok (.aload_n 0, 1) := by decide +kernel
theorem dX5_readPieces_65 : decode cX5_readPieces 65 = .ok (.getfield 18, 3) := by decide +kernel
theorem dX5_readPieces_68 : decode cX5_readPieces 68 = .ok (.iload_n 3, 1) := by decide +kernel
theorem dX5_readPieces_69 : decode cX5_readPieces 69 = .ok (.invokevirtual 78, 3) := by decide +kernel
theorem dX5_readPieces_72 : decode cX5_readPieces 72 = .ok (.iinc 2 1, 3) := by decide +kernel
theorem dX5_readPieces_75 : decode cX5_readPieces 75 = .ok (.goto (-63), 3) := by decide +kernel
theorem dX5_readPieces_78 : decode cX5_readPieces 78 = .ok (.iconst 1, 1) := by decide +kernel
theorem dX5_readPieces_79 : decode cX5_readPieces 79 = .ok (.ireturn, 1) := by decide +kernel
theorem dX5_readSum_0 : decode cX5_readSum 0 = .ok (.aload_n 0, 1) := by decide +kernel
theorem dX5_readSum_1 : decode cX5_readSum 1 = .ok (.iload_n 1, 1) := by decide +kernel
theorem dX5_readSum_2 : decode cX5_readSum 2 = .ok (.invokevirtual 85, 3) := by decide +kernel
theorem dX5_readSum_5 : decode cX5_readSum 5 = .ok (.ifCond .ne 5, 3) := by decide +kernel
theorem dX5_readSum_8 : decode cX5_readSum 8 = .ok (.iconst 0, 1) := by decide +kernel
theorem dX5_readSum_9 : decode cX5_readSum 9 = .ok (.ireturn, 1) := by decide +kernel
theorem dX5_readSum_10 : decode cX5_readSum 10 = .ok (.iconst 0, 1) := by decide +kernel
theorem dX5_readSum_11 : decode cX5_readSum 11 = .ok (.istore_n 2, 1) := by decide +kernel
theorem dX5_readSum_12 : decode cX5_readSum 12 = .ok (.iload_n 2, 1) := by decide +kernel
theorem dX5_readSum_13 : decode cX5_readSum 13 = .ok (.sipush 300, 3) := by decide +kernel
theorem dX5_readSum_16 : decode cX5_readSum 16 = .ok (.if_icmp .ge 64, 3) := by decide +kernel
theorem dX5_readSum_19 : decode cX5_readSum 19 = .ok (.aload_n 0, 1) := by decide +kernel
theorem dX5_readSum_20 : decode cX5_readSum 20 = .ok (.getfield 9, 3) := by decide +kernel
theorem dX5_readSum_23 : decode cX5_readSum 23 = .ok (.invokevirtual 25, 3) := by decide +kernel
theorem dX5_readSum_26 : decode cX5_readSum 26 = .ok (.istore_n 3, 1) := by decide +kernel
theorem dX5_readSum_27 : decode cX5_readSum 27 = .ok (.iload_n 3, 1) := by decide +kernel
theorem dX5_readSum_28 : decode cX5_readSum 28 = .ok (.bipush 43, 2) := by decide +kernel
theorem dX5_readSum_30 : decode cX5_readSum 30 = .ok (.if_icmp .eq 11, 3) := by decide +kernel
theorem dX5_readSum_33 : decode cX5_readSum 33 = .ok (.iload_n 3, 1) := by decide +kernel
theorem dX5_readSum_34 : decode cX5_readSum 34 = .ok (.bipush 45, 2) := by decide +kernel
theorem dX5_readSum_36 : decode cX5_readSum 36 = .ok (.if_icmp .eq 5, 3) := by decide +kernel
theorem dX5_readSum_39 : decode cX5_readSum 39 = .ok (.iconst 1, 1) := by decide +kernel
theorem dX5_readSum_40 : decode cX5_readSum 40 = .ok (.ireturn, 1) := by decide +kernel
theorem dX5_readSum_41 : decode cX5_readSum 41 = .ok (.aload_n 0, 1) := by decide +kernel
theorem dX5_readSum_42 : decode cX5_readSum 42 = .ok (.getfield 9, 3) := by decide +kernel
theorem dX5_readSum_45 : decode cX5_readSum 45 = .ok (.dup, 1) := by decide +kernel
theorem dX5_readSum_46 : decode cX5_readSum 46 = .ok (.getfield 35, 3) := by decide +kernel
theorem dX5_readSum_49 : decode cX5_readSum 49 = .ok (.iconst 1, 1) := by decide +kernel
theorem dX5_readSum_50 : decode cX5_readSum 50 = .ok (.iadd, 1) := by decide +kernel
theorem dX5_readSum_51 : decode cX5_readSum 51 = .ok (.putfield 35, 3) := by decide +kernel
theorem dX5_readSum_54 : decode cX5_readSum 54 = .ok (.aload_n 0, 1) := by decide +kernel
theorem dX5_readSum_55 : decode cX5_readSum 55 = .ok (.iload_n 1, 1) := by decide +kernel
theorem dX5_readSum_56 : decode cX5_readSum 56 = .ok (.invokevirtual 85, 3) := by decide +kernel
theorem dX5_readSum_59 : decode cX5_readSum 59 = .ok (.ifCond .ne 5, 3) := by decide +kernel
theorem dX5_readSum_62 : decode cX5_readSum 62 = .ok (.iconst 0, 1) := by decide +kernel
theorem dX5_readSum_63 : decode cX5_readSum 63 = .ok (.ireturn, 1) := by decide +kernel
theorem dX5_readSum_64 : decode cX5_readSum 64 = .ok (.aload_n 0, 1) := by decide +kernel
theorem dX5_readSum_65 : decode cX5_readSum 65 = .ok (.getfield 18, 3) := by decide +kernel
theorem dX5_readSum_68 : decode cX5_readSum 68 = .ok (.iload_n 3, 1) := by decide +kernel
theorem dX5_readSum_69 : decode cX5_readSum 69 = .ok (.iconst 0, 1) := by decide +kernel
theorem dX5_readSum_70 : decode cX5_readSum 70 = .ok (.invokevirtual 65, 3) := by decide +kernel
theorem dX5_readSum_73 : decode cX5_readSum 73 = .ok (.pop, 1) := by decide +kernel
theorem dX5_readSum_74 : decode cX5_readSum 74 = .ok (.iinc 2 1, 3) := by decide +kernel
theorem dX5_readSum_77 : decode cX5_readSum 77 = .ok (.goto (-65), 3) := by decide +kernel
theorem dX5_readSum_80 : decode cX5_readSum 80 = .ok (.iconst 0, 1) := by decide +kernel
theorem dX5_readSum_81 : decode cX5_readSum 81 = .ok (.ireturn, 1) := by decide +kernel
theorem dX5_readTerm_0 : decode cX5_readTerm 0 = .ok (.aload_n 0, 1) := by decide +kernel
theorem dX5_readTerm_1 : decode cX5_readTerm 1 = .ok (.iload_n 1, 1) := by decide +kernel
theorem dX5_readTerm_2 : decode cX5_readTerm 2 = .ok (.invokevirtual 88, 3) := by decide +kernel
theorem dX5_readTerm_5 : decode cX5_readTerm 5 = .ok (.ifCond .ne 5, 3) := by decide +kernel
theorem dX5_readTerm_8 : decode cX5_readTerm 8 = .ok (.iconst 0, 1) := by decide +kernel
theorem dX5_readTerm_9 : decode cX5_readTerm 9 = .ok (.ireturn, 1) := by decide +kernel
theorem dX5_readTerm_10 : decode cX5_readTerm 10 = .ok (.iconst 0, 1) := by decide +kernel
theorem dX5_readTerm_11 : decode cX5_readTerm 11 = .ok (.istore_n 2, 1) := by decide +kernel
theorem dX5_readTerm_12 : decode cX5_readTerm 12 = .ok (.iload_n 2, 1) := by decide +kernel
theorem dX5_readTerm_13 : decode cX5_readTerm 13 = .ok (.sipush 300, 3) := by decide +kernel
theorem dX5_readTerm_16 : decode cX5_readTerm 16 = .ok (.if_icmp .ge 70, 3) := by decide +kernel
theorem dX5_readTerm_19 : decode cX5_readTerm 19 = .ok (.aload_n 0, 1) := by decide +kernel
theorem dX5_readTerm_20 : decode cX5_readTerm 20 = .ok (.getfield 9, 3) := by decide +kernel
theorem dX5_readTerm_23 : decode cX5_readTerm 23 = .ok (.invokevirtual 25, 3) := by decide +kernel
theorem dX5_readTerm_26 : decode cX5_readTerm 26 = .ok (.istore_n 3, 1) := by decide +kernel
theorem dX5_readTerm_27 : decode cX5_readTerm 27 = .ok (.iload_n 3, 1) := by decide +kernel
theorem dX5_readTerm_28 : decode cX5_readTerm 28 = .ok (.bipush 42, 2) := by decide +kernel
theorem dX5_readTerm_30 : decode cX5_readTerm 30 = .ok (.if_icmp .eq 17, 3) := by decide +kernel
theorem dX5_readTerm_33 : decode cX5_readTerm 33 = .ok (.iload_n 3, 1) := by decide +kernel
theorem dX5_readTerm_34 : decode cX5_readTerm 34 = .ok (.bipush 47, 2) := by decide +kernel
theorem dX5_readTerm_36 : decode cX5_readTerm 36 = .ok (.if_icmp .eq 11, 3) := by decide +kernel
theorem dX5_readTerm_39 : decode cX5_readTerm 39 = .ok (.iload_n 3, 1) := by decide +kernel
theorem dX5_readTerm_40 : decode cX5_readTerm 40 = .ok (.bipush 37, 2) := by decide +kernel
theorem dX5_readTerm_42 : decode cX5_readTerm 42 = .ok (.if_icmp .eq 5, 3) := by decide +kernel
theorem dX5_readTerm_45 : decode cX5_readTerm 45 = .ok (.iconst 1, 1) := by decide +kernel
theorem dX5_readTerm_46 : decode cX5_readTerm 46 = .ok (.ireturn, 1) := by decide +kernel
theorem dX5_readTerm_47 : decode cX5_readTerm 47 = .ok (.aload_n 0, 1) := by decide +kernel
theorem dX5_readTerm_48 : decode cX5_readTerm 48 = .ok (.getfield 9, 3) := by decide +kernel
theorem dX5_readTerm_51 : decode cX5_readTerm 51 = .ok (.dup, 1) := by decide +kernel
theorem dX5_readTerm_52 : decode cX5_readTerm 52 = .ok (.getfield 35, 3) := by decide +kernel
theorem dX5_readTerm_55 : decode cX5_readTerm 55 = .ok (.iconst 1, 1) := by decide +kernel
theorem dX5_readTerm_56 : decode cX5_readTerm 56 = .ok (.iadd, 1) := by decide +kernel
theorem dX5_readTerm_57 : decode cX5_readTerm 57 = .ok (.putfield 35, 3) := by decide +kernel
theorem dX5_readTerm_60 : decode cX5_readTerm 60 = .ok (.aload_n 0, 1) := by decide +kernel
theorem dX5_readTerm_61 : decode cX5_readTerm 61 = .ok (.iload_n 1, 1) := by decide +kernel
theorem dX5_readTerm_62 : decode cX5_readTerm 62 = .ok (.invokevirtual 88, 3) := by decide +kernel
theorem dX5_readTerm_65 : decode cX5_readTerm 65 = .ok (.ifCond .ne 5, 3) := by decide +kernel
theorem dX5_readTerm_68 : decode cX5_readTerm 68 = .ok (.iconst 0, 1) := by decide +kernel
theorem dX5_readTerm_69 : decode cX5_readTerm 69 = .ok (.ireturn, 1) := by decide +kernel
theorem dX5_readTerm_70 : decode cX5_readTerm 70 = .ok (.aload_n 0, 1) := by decide +kernel
theorem dX5_readTerm_71 : decode cX5_readTerm 71 = .ok (.getfield 18, 3) := by decide +kernel
theorem dX5_readTerm_74 : decode cX5_readTerm 74 = .ok (.iload_n 3, 1) := by decide +kernel
theorem dX5_readTerm_75 : decode cX5_readTerm 75 = .ok (.iconst 0, 1) := by decide +kernel
theorem dX5_readTerm_76 : decode cX5_readTerm 76 = .ok (.invokevirtual 65, 3) := by decide +kernel
theorem dX5_readTerm_79 : decode cX5_readTerm 79 = .ok (.pop, 1) := by decide +kernel
theorem dX5_readTerm_80 : decode cX5_readTerm 80 = .ok (.iinc 2 1, 3) := by decide +kernel
theorem dX5_readTerm_83 : decode cX5_readTerm 83 = .ok (.goto (-71), 3) := by decide +kernel
theorem dX5_readTerm_86 : decode cX5_readTerm 86 = .ok (.iconst 0, 1) := by decide +kernel
theorem dX5_readTerm_87 : decode cX5_readTerm 87 = .ok (.ireturn, 1) := by decide +kernel
theorem dX5_readWhole_0 : decode cX5_readWhole 0 = .ok (.aload_n 0, 1) := by decide +kernel
theorem dX5_readWhole_1 : decode cX5_readWhole 1 = .ok (.getfield 18, 3) := by decide +kernel
theorem dX5_readWhole_4 : decode cX5_readWhole 4 = .ok (.invokevirtual 22, 3) := by decide +kernel
theorem dX5_readWhole_7 : decode cX5_readWhole 7 = .ok (.iconst 0, 1) := by decide +kernel
theorem dX5_readWhole_8 : decode cX5_readWhole 8 = .ok (.istore_n 1, 1) := by decide +kernel
theorem dX5_readWhole_9 : decode cX5_readWhole 9 = .ok (.iload_n 1, 1) := by decide +kernel
theorem dX5_readWhole_10 : decode cX5_readWhole 10 = .ok (.bipush 16, 2) := by decide +kernel
theorem dX5_readWhole_12 : decode cX5_readWhole 12 = .ok (.if_icmp .gt 123, 3) := by decide +kernel
theorem dX5_readWhole_15 : decode cX5_readWhole 15 = .ok (.aload_n 0, 1) := by decide +kernel
theorem dX5_readWhole_16 : decode cX5_readWhole 16 = .ok (.getfield 9, 3) := by decide +kernel
theorem dX5_readWhole_19 : decode cX5_readWhole 19 = .ok (.invokevirtual 25, 3) := by decide +kernel
theorem dX5_readWhole_22 : decode cX5_readWhole 22 = .ok (.istore_n 2, 1) := by decide +kernel
theorem dX5_readWhole_23 : decode cX5_readWhole 23 = .ok (.iload_n 2, 1) := by decide +kernel
theorem dX5_readWhole_24 : decode cX5_readWhole 24 = .ok (.invokestatic 31, 3) := by decide +kernel
theorem dX5_readWhole_27 : decode cX5_readWhole 27 = .ok (.ifCond .ne 19, 3) := by decide +kernel
theorem dX5_readWhole_30 : decode cX5_readWhole 30 = .ok (.aload_n 0, 1) := by decide +kernel
theorem dX5_readWhole_31 : decode cX5_readWhole 31 = .ok (.getfield 9, 3) := by decide +kernel
theorem dX5_readWhole_34 : decode cX5_readWhole 34 = .ok (.iconst 1, 1) := by decide +kernel
theorem dX5_readWhole_35 : decode cX5_readWhole 35 = .ok (.aload_n 0, 1) := by decide +kernel
theorem dX5_readWhole_36 : decode cX5_readWhole 36 = .ok (.getfield 9, 3) := by decide +kernel
theorem dX5_readWhole_39 : decode cX5_readWhole 39 = .ok (.getfield 35, 3) := by decide +kernel
theorem dX5_readWhole_42 : decode cX5_readWhole 42 = .ok (.invokevirtual 39, 3) := by decide +kernel
theorem dX5_readWhole_45 : decode cX5_readWhole 45 = .ok (.ireturn, 1) := by decide +kernel
theorem dX5_readWhole_46 : decode cX5_readWhole 46 = .ok (.iload_n 1, 1) := by decide +kernel
theorem dX5_readWhole_47 : decode cX5_readWhole 47 = .ok (.bipush 16, 2) := by decide +kernel
theorem dX5_readWhole_49 : decode cX5_readWhole 49 = .ok (.if_icmp .ne 19, 3) := by decide +kernel
theorem dX5_readWhole_52 : decode cX5_readWhole 52 = .ok (.aload_n 0, 1) := by decide +kernel
theorem dX5_readWhole_53 : decode cX5_readWhole 53 = .ok (.getfield 9, 3) := by decide +kernel
theorem dX5_readWhole_56 : decode cX5_readWhole 56 = .ok (.iconst 4, 1) := by decide +kernel
theorem dX5_readWhole_57 : decode cX5_readWhole 57 = .ok (.aload_n 0, 1) := by decide +kernel
theorem dX5_readWhole_58 : decode cX5_readWhole 58 = .ok (.getfield 9, 3) := by decide +kernel
theorem dX5_readWhole_61 : decode cX5_readWhole 61 = .ok (.getfield 35, 3) := by decide +kernel
theorem dX5_readWhole_64 : decode cX5_readWhole 64 = .ok (.invokevirtual 39, 3) := by decide +kernel
theorem dX5_readWhole_67 : decode cX5_readWhole 67 = .ok (.ireturn, 1) := by decide +kernel
theorem dX5_readWhole_68 : decode cX5_readWhole 68 = .ok (.aload_n 0, 1) := by decide +kernel
theorem dX5_readWhole_69 : decode cX5_readWhole 69 = .ok (.getfield 9, 3) := by decide +kernel
theorem dX5_readWhole_72 : decode cX5_readWhole 72 = .ok (.dup, 1) := by decide +kernel
theorem dX5_readWhole_73 : decode cX5_readWhole 73 = .ok (.getfield 35, 3) := by decide +kernel
theorem dX5_readWhole_76 : decode cX5_readWhole 76 = .ok (.iconst 1, 1) := by decide +kernel
theorem dX5_readWhole_77 : decode cX5_readWhole 77 = .ok (.iadd, 1) := by decide +kernel
theorem dX5_readWhole_78 : decode cX5_readWhole 78 = .ok (.putfield 35, 3) := by decide +kernel
theorem dX5_readWhole_81 : decode cX5_readWhole 81 = .ok (.aload_n 0, 1) := by decide +kernel
theorem dX5_readWhole_82 : decode cX5_readWhole 82 = .ok (.iload_n 2, 1) := by decide +kernel
theorem dX5_readWhole_83 : decode cX5_readWhole 83 = .ok (.iload_n 1, 1) := by decide +kernel
theorem dX5_readWhole_84 : decode cX5_readWhole 84 = .ok (.invokevirtual 43, 3) := by decide +kernel
theorem dX5_readWhole_87 : decode cX5_readWhole 87 = .ok (.ifCond .ne 5, 3) := by decide +kernel
theorem dX5_readWhole_90 : decode cX5_readWhole 90 = .ok (.iconst 0, 1) := by decide +kernel
theorem dX5_readWhole_91 : decode cX5_readWhole 91 = .ok (.ireturn, 1) := by decide +kernel
theorem dX5_readWhole_92 : decode cX5_readWhole 92 = .ok (.aload_n 0, 1) := by decide +kernel
theorem dX5_readWhole_93 : decode cX5_readWhole 93 = .ok (.getfield 18, 3) := by decide +kernel
theorem dX5_readWhole_96 : decode cX5_readWhole 96 = .ok (.iload_n 1, 1) := by decide +kernel
theorem dX5_readWhole_97 : decode cX5_readWhole 97 = .ok (.iconst 1, 1) := by decide +kernel
theorem dX5_readWhole_98 : decode cX5_readWhole 98 = .ok (.iadd, 1) := by decide +kernel
theorem dX5_readWhole_99 : decode cX5_readWhole 99 = .ok (.putfield 46, 3) := by decide +kernel
theorem dX5_readWhole_102 : decode cX5_readWhole 102 = .ok (.aload_n 0, 1) := by decide +kernel
theorem dX5_readWhole_103 : decode cX5_readWhole 103 = .ok (.getfield 9, 3) := by decide +kernel
theorem dX5_readWhole_106 : decode cX5_readWhole 106 = .ok (.invokevirtual 25, 3) := by decide +kernel
theorem dX5_readWhole_109 : decode cX5_readWhole 109 = .ok (.iconst (-1), 1) := by decide +kernel
theorem dX5_readWhole_110 : decode cX5_readWhole 110 = .ok (.if_icmp .ne 5, 3) := by decide +kernel
theorem dX5_readWhole_113 : decode cX5_readWhole 113 = .ok (.iconst 1, 1) := by decide +kernel
theorem dX5_readWhole_114 : decode cX5_readWhole 114 = .ok (.ireturn, 1) := by decide +kernel
theorem dX5_readWhole_115 : decode cX5_readWhole 115 = .ok (.aload_n 0, 1) := by decide +kernel
theorem dX5_readWhole_116 : decode cX5_readWhole 116 = .ok (.getfield 9, 3) := by decide +kernel
theorem dX5_readWhole_119 : decode cX5_readWhole 119 = .ok (.bipush 59, 2) := by decide +kernel
theorem dX5_readWhole_121 : decode cX5_readWhole 121 = .ok (.invokevirtual 49, 3) := by decide +kernel
theorem dX5_readWhole_124 : decode cX5_readWhole 124 = .ok (.ifCond .ne 5, 3) := by decide +kernel
theorem dX5_readWhole_127 : decode cX5_readWhole 127 = .ok (.iconst 0, 1) := by decide +kernel
theorem dX5_readWhole_128 : decode cX5_readWhole 128 = .ok (.ireturn, 1) := by decide +kernel
theorem dX5_readWhole_129 : decode cX5_readWhole 129 = .ok (.iinc 1 1, 3) := by decide +kernel
theorem dX5_readWhole_132 : decode cX5_readWhole 132 = .ok (.goto (-123), 3) := by decide +kernel
theorem dX5_readWhole_135 : decode cX5_readWhole 135 = .ok (.iconst 0, 1) := by decide +kernel
theorem dX5_readWhole_136 : decode cX5_readWhole 136 = .ok (.ireturn, 1) := by decide +kernel
