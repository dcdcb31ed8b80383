theorem cls_X0 : xCls RX0 TX0 6 0 tyX0 := ⟨xin [363, 365, 367, 369, 371, 373] (by decide +kernel) (by decide +kernel), rfl, tyX0_ok, nmX0⟩
theorem cls_X7 : xCls RX7 TX7 4 7 tyX7 := ⟨xin [342, 344, 346, 348] (by decide +kernel) (by decide +kernel), rfl, tyX7_ok, nmX7⟩
theorem st_X7_3 (h0 : Nat) (σ : xS) (k : Nat) (a : Int) : xobj h0 (xU σ k 3 a) k 7 = (xobj h0 σ k 7).set 3 (.int (xJ a)) := by simp [xobj, xU]
theorem ln_X7_3 (h0 : Nat) (σ : xS) (k : Nat) : 3 < (xobj h0 σ k 7).length := by simp [xobj]
theorem cf_X0_cast : xCF yX0_cast cX0_cast 6 none 3 := ⟨xq 825 (by decide +kernel) rfl, xq 174 (by decide +kernel) rfl, by decide +kernel⟩
theorem cf_X0_castCloudless : xCF yX0_castCloudless cX0_castCloudless 2 none 1 := ⟨xq 944 (by decide +kernel) rfl, xq 174 (by decide +kernel) rfl, by decide +kernel⟩
theorem cf_X0_castOfLamp : xCF yX0_castOfLamp cX0_castOfLamp 6 none 2 := ⟨xq 846 (by decide +kernel) rfl, xq 174 (by decide +kernel) rfl, by decide +kernel⟩
theorem cf_X0_felonsGo : xCF yX0_felonsGo cX0_felonsGo 8 none 3 := ⟨xq 876 (by decide +kernel) rfl, xq 174 (by decide +kernel) rfl, by decide +kernel⟩
theorem cf_X0_findShadow : xCF yX0_findShadow cX0_findShadow 9 (some .int) 3 := ⟨xq 884 (by decide +kernel) rfl, xq 174 (by decide +kernel) rfl, by decide +kernel⟩
theorem cf_X0_judgesStep : xCF yX0_judgesStep cX0_judgesStep 5 none 1 := ⟨xq 770 (by decide +kernel) rfl, xq 174 (by decide +kernel) rfl, by decide +kernel⟩
theorem cf_X0_lineUp : xCF yX0_lineUp cX0_lineUp 7 (some .int) 2 := ⟨xq 855 (by decide +kernel) rfl, xq 174 (by decide +kernel) rfl, by decide +kernel⟩
theorem cf_X0_reachOf : xCF yX0_reachOf cX0_reachOf 3 (some .int) 2 := ⟨xq 880 (by decide +kernel) rfl, xq 174 (by decide +kernel) rfl, by decide +kernel⟩
theorem cf_X0_tellFelon : xCF yX0_tellFelon cX0_tellFelon 4 none 2 := ⟨xq 867 (by decide +kernel) rfl, xq 174 (by decide +kernel) rfl, by decide +kernel⟩
theorem cf_X10_holds : xCF yX10_holds cX10_holds 3 (some .boolean) 2 := ⟨xq 851 (by decide +kernel) rfl, xq 168 (by decide +kernel) rfl, by decide +kernel⟩
theorem cf_X2_draw : xCF yX2_draw cX2_draw 1 (some .int) 0 := ⟨xq 798 (by decide +kernel) rfl, xq 176 (by decide +kernel) rfl, by decide +kernel⟩
theorem cf_X2_hasJudge : xCF yX2_hasJudge cX2_hasJudge 2 (some .boolean) 1 := ⟨xq 774 (by decide +kernel) rfl, xq 176 (by decide +kernel) rfl, by decide +kernel⟩
theorem cf_X2_mustServe : xCF yX2_mustServe cX2_mustServe 2 (some .boolean) 1 := ⟨xq 859 (by decide +kernel) rfl, xq 176 (by decide +kernel) rfl, by decide +kernel⟩
theorem cf_X2_owedByAll : xCF yX2_owedByAll cX2_owedByAll 3 (some .int) 0 := ⟨xq 766 (by decide +kernel) rfl, xq 176 (by decide +kernel) rfl, by decide +kernel⟩
theorem cf_X2_takeStep : xCF yX2_takeStep cX2_takeStep 3 (some .int) 1 := ⟨xq 778 (by decide +kernel) rfl, xq 176 (by decide +kernel) rfl, by decide +kernel⟩
theorem cf_X4_isNight : xCF yX4_isNight cX4_isNight 3 (some .boolean) 1 := ⟨xq 820 (by decide +kernel) rfl, xq 171 (by decide +kernel) rfl, by decide +kernel⟩
theorem cf_X4_tellFelon : xCF yX4_tellFelon cX4_tellFelon 6 none 5 := ⟨xq 872 (by decide +kernel) rfl, xq 171 (by decide +kernel) rfl, by decide +kernel⟩
theorem cf_X4_tellJudge : xCF yX4_tellJudge cX4_tellJudge 3 none 2 := ⟨xq 836 (by decide +kernel) rfl, xq 171 (by decide +kernel) rfl, by decide +kernel⟩
theorem cf_X4_worthOf : xCF yX4_worthOf cX4_worthOf 4 (some .int) 2 := ⟨xq 803 (by decide +kernel) rfl, xq 171 (by decide +kernel) rfl, by decide +kernel⟩
theorem cf_X6_stepsBetween : xCF yX6_stepsBetween cX6_stepsBetween 3 (some .int) 2 := ⟨xq 889 (by decide +kernel) rfl, xq 170 (by decide +kernel) rfl, by decide +kernel⟩
theorem cf_X7_clear : xCF yX7_clear cX7_clear 3 none 0 := ⟨xq 829 (by decide +kernel) rfl, xq 175 (by decide +kernel) rfl, by decide +kernel⟩
theorem cf_X7_fall : xCF yX7_fall cX7_fall 7 none 4 := ⟨xq 840 (by decide +kernel) rfl, xq 175 (by decide +kernel) rfl, by decide +kernel⟩
theorem cf_X7_layersAt : xCF yX7_layersAt cX7_layersAt 2 (some .int) 1 := ⟨xq 900 (by decide +kernel) rfl, xq 175 (by decide +kernel) rfl, by decide +kernel⟩
theorem wq35 : Cond.selects yX2_owedByAll.cls yX2_owedByAll yX2_owedByAll ∈ xTB := xq 35 (by decide +kernel) rfl
theorem wq36 : Cond.selects yX0_judgesStep.cls yX0_judgesStep yX0_judgesStep ∈ xTB := xq 36 (by decide +kernel) rfl
theorem wq37 : Cond.selects yX2_hasJudge.cls yX2_hasJudge yX2_hasJudge ∈ xTB := xq 37 (by decide +kernel) rfl
theorem wq38 : Cond.selects yX2_takeStep.cls yX2_takeStep yX2_takeStep ∈ xTB := xq 38 (by decide +kernel) rfl
theorem wq41 : Cond.selects yX2_draw.cls yX2_draw yX2_draw ∈ xTB := xq 41 (by decide +kernel) rfl
theorem wq42 : Cond.selects yX4_worthOf.cls yX4_worthOf yX4_worthOf ∈ xTB := xq 42 (by decide +kernel) rfl
theorem wq45 : Cond.selects yX4_isNight.cls yX4_isNight yX4_isNight ∈ xTB := xq 45 (by decide +kernel) rfl
theorem wq46 : Cond.selects yX0_cast.cls yX0_cast yX0_cast ∈ xTB := xq 46 (by decide +kernel) rfl
theorem wq47 : Cond.selects yX7_clear.cls yX7_clear yX7_clear ∈ xTB := xq 47 (by decide +kernel) rfl
theorem wq48 : Cond.selects yX4_tellJudge.cls yX4_tellJudge yX4_tellJudge ∈ xTB := xq 48 (by decide +kernel) rfl
theorem wq49 : Cond.selects yX7_fall.cls yX7_fall yX7_fall ∈ xTB := xq 49 (by decide +kernel) rfl
theorem wq50 : Cond.selects yX0_castOfLamp.cls yX0_castOfLamp yX0_castOfLamp ∈ xTB := xq 50 (by decide +kernel) rfl
theorem wq51 : Cond.selects yX0_lineUp.cls yX0_lineUp yX0_lineUp ∈ xTB := xq 51 (by decide +kernel) rfl
theorem wq52 : Cond.selects yX2_mustServe.cls yX2_mustServe yX2_mustServe ∈ xTB := xq 52 (by decide +kernel) rfl
theorem wq54 : Cond.selects yX0_tellFelon.cls yX0_tellFelon yX0_tellFelon ∈ xTB := xq 54 (by decide +kernel) rfl
theorem wq55 : Cond.selects yX4_tellFelon.cls yX4_tellFelon yX4_tellFelon ∈ xTB := xq 55 (by decide +kernel) rfl
theorem wq56 : Cond.selects yX0_felonsGo.cls yX0_felonsGo yX0_felonsGo ∈ xTB := xq 56 (by decide +kernel) rfl
theorem wq57 : Cond.selects yX0_reachOf.cls yX0_reachOf yX0_reachOf ∈ xTB := xq 57 (by decide +kernel) rfl
theorem wq58 : Cond.selects yX0_findShadow.cls yX0_findShadow yX0_findShadow ∈ xTB := xq 58 (by decide +kernel) rfl
theorem wq59 : Cond.selects yX6_stepsBetween.cls yX6_stepsBetween yX6_stepsBetween ∈ xTB := xq 59 (by decide +kernel) rfl
theorem wq61 : Cond.selects yX7_layersAt.cls yX7_layersAt yX7_layersAt ∈ xTB := xq 61 (by decide +kernel) rfl
theorem wq69 : Cond.selects yX0_castCloudless.cls yX0_castCloudless yX0_castCloudless ∈ xTB := xq 69 (by decide +kernel) rfl
theorem wq330 : Cond.fieldLink "ShadowCourt$Shadows" (9) "ShadowCourt$Shadows" "layers" "[I" ∈ xTB := xq 330 (by decide +kernel) rfl
theorem wq331 : Cond.fieldLink "ShadowCourt$Shadows" (15) "ShadowCourt$Shadows" "spots" "[I" ∈ xTB := xq 331 (by decide +kernel) rfl
theorem wq335 : Cond.fieldLink "ShadowCourt$Shadows" (18) "ShadowCourt$Shadows" "isTaken" "[Z" ∈ xTB := xq 335 (by decide +kernel) rfl
theorem wq337 : Cond.fieldLink "ShadowCourt$Shadows" (22) "ShadowCourt$Shadows" "size" "I" ∈ xTB := xq 337 (by decide +kernel) rfl
theorem wq351 : Cond.fieldLink "ShadowCourt$Clock" (9) "ShadowCourt$Clock" "market" "LShadowCourt$Market;" ∈ xTB := xq 351 (by decide +kernel) rfl
theorem wq354 : Cond.fieldLink "ShadowCourt$Clock" (15) "ShadowCourt$Clock" "law" "LShadowCourt$Law;" ∈ xTB := xq 354 (by decide +kernel) rfl
theorem wq355 : Cond.fieldLink "ShadowCourt$Clock" (19) "ShadowCourt$Clock" "lampSpot" "[I" ∈ xTB := xq 355 (by decide +kernel) rfl
theorem wq357 : Cond.fieldLink "ShadowCourt$Clock" (26) "ShadowCourt$Clock" "shadows" "LShadowCourt$Shadows;" ∈ xTB := xq 357 (by decide +kernel) rfl
theorem wq361 : Cond.fieldLink "ShadowCourt$Clock" (30) "ShadowCourt$Clock" "line" "[I" ∈ xTB := xq 361 (by decide +kernel) rfl
theorem wq362 : Cond.fieldLink "ShadowCourt$Clock" (33) "ShadowCourt$Clock" "ranks" "[I" ∈ xTB := xq 362 (by decide +kernel) rfl
theorem wq765 : Cond.instanceMethod yX2_owedByAll ∈ xTB := xq 765 (by decide +kernel) rfl
theorem wq767 : Cond.methodLink "ShadowCourt$Clock" (46) yX0_judgesStep ∈ xTB := xq 767 (by decide +kernel) rfl
theorem wq769 : Cond.instanceMethod yX0_judgesStep ∈ xTB := xq 769 (by decide +kernel) rfl
theorem wq773 : Cond.instanceMethod yX2_hasJudge ∈ xTB := xq 773 (by decide +kernel) rfl
theorem wq777 : Cond.instanceMethod yX2_takeStep ∈ xTB := xq 777 (by decide +kernel) rfl
theorem wq797 : Cond.instanceMethod yX2_draw ∈ xTB := xq 797 (by decide +kernel) rfl
theorem wq802 : Cond.instanceMethod yX4_worthOf ∈ xTB := xq 802 (by decide +kernel) rfl
theorem wq819 : Cond.instanceMethod yX4_isNight ∈ xTB := xq 819 (by decide +kernel) rfl
theorem wq822 : Cond.methodLink "ShadowCourt$Clock" (70) yX0_cast ∈ xTB := xq 822 (by decide +kernel) rfl
theorem wq824 : Cond.instanceMethod yX0_cast ∈ xTB := xq 824 (by decide +kernel) rfl
theorem wq828 : Cond.instanceMethod yX7_clear ∈ xTB := xq 828 (by decide +kernel) rfl
theorem wq835 : Cond.instanceMethod yX4_tellJudge ∈ xTB := xq 835 (by decide +kernel) rfl
theorem wq839 : Cond.instanceMethod yX7_fall ∈ xTB := xq 839 (by decide +kernel) rfl
theorem wq843 : Cond.methodLink "ShadowCourt$Clock" (111) yX0_castOfLamp ∈ xTB := xq 843 (by decide +kernel) rfl
theorem wq845 : Cond.instanceMethod yX0_castOfLamp ∈ xTB := xq 845 (by decide +kernel) rfl
theorem wq850 : Cond.static yX10_holds ∈ xTB := xq 850 (by decide +kernel) rfl
theorem wq852 : Cond.methodLink "ShadowCourt$Clock" (74) yX0_lineUp ∈ xTB := xq 852 (by decide +kernel) rfl
theorem wq854 : Cond.instanceMethod yX0_lineUp ∈ xTB := xq 854 (by decide +kernel) rfl
theorem wq858 : Cond.instanceMethod yX2_mustServe ∈ xTB := xq 858 (by decide +kernel) rfl
theorem wq864 : Cond.methodLink "ShadowCourt$Clock" (150) yX0_tellFelon ∈ xTB := xq 864 (by decide +kernel) rfl
theorem wq866 : Cond.instanceMethod yX0_tellFelon ∈ xTB := xq 866 (by decide +kernel) rfl
theorem wq871 : Cond.instanceMethod yX4_tellFelon ∈ xTB := xq 871 (by decide +kernel) rfl
theorem wq873 : Cond.methodLink "ShadowCourt$Clock" (78) yX0_felonsGo ∈ xTB := xq 873 (by decide +kernel) rfl
theorem wq875 : Cond.instanceMethod yX0_felonsGo ∈ xTB := xq 875 (by decide +kernel) rfl
theorem wq877 : Cond.methodLink "ShadowCourt$Clock" (155) yX0_reachOf ∈ xTB := xq 877 (by decide +kernel) rfl
theorem wq879 : Cond.instanceMethod yX0_reachOf ∈ xTB := xq 879 (by decide +kernel) rfl
theorem wq881 : Cond.methodLink "ShadowCourt$Clock" (158) yX0_findShadow ∈ xTB := xq 881 (by decide +kernel) rfl
theorem wq883 : Cond.instanceMethod yX0_findShadow ∈ xTB := xq 883 (by decide +kernel) rfl
theorem wq888 : Cond.instanceMethod yX6_stepsBetween ∈ xTB := xq 888 (by decide +kernel) rfl
theorem wq896 : Cond.methodLink "ShadowCourt$Clock" (168) (⟨"java/lang/Math", "min", "(II)I"⟩ : MethodName) ∈ xTB := xq 896 (by decide +kernel) rfl
theorem wq899 : Cond.instanceMethod yX7_layersAt ∈ xTB := xq 899 (by decide +kernel) rfl
theorem wq901 : Cond.methodLink "ShadowCourt$Clock" (177) (⟨"java/lang/Math", "max", "(II)I"⟩ : MethodName) ∈ xTB := xq 901 (by decide +kernel) rfl
theorem wq941 : Cond.methodLink "ShadowCourt$Clock" (128) yX0_castCloudless ∈ xTB := xq 941 (by decide +kernel) rfl
theorem wq943 : Cond.instanceMethod yX0_castCloudless ∈ xTB := xq 943 (by decide +kernel) rfl
theorem wq980 : Cond.methodLink "ShadowCourt$Shadows" (40) yX7_layersAt ∈ xTB := xq 980 (by decide +kernel) rfl
theorem wn334 : Cond.fieldLinkNest "ShadowCourt$Clock" (183) "ShadowCourt$Shadows" "spots" "[I" "ShadowCourt" ∈ xNL := xn 334 (by decide +kernel) rfl
theorem wn336 : Cond.fieldLinkNest "ShadowCourt$Clock" (173) "ShadowCourt$Shadows" "isTaken" "[Z" "ShadowCourt" ∈ xNL := xn 336 (by decide +kernel) rfl
theorem wn340 : Cond.fieldLinkNest "ShadowCourt$Clock" (125) "ShadowCourt$Shadows" "size" "I" "ShadowCourt" ∈ xNL := xn 340 (by decide +kernel) rfl
theorem wn384 : Cond.fieldLinkNest "ShadowCourt$Clock" (89) "ShadowCourt$Day" "judgeSpot" "[I" "ShadowCourt" ∈ xNL := xn 384 (by decide +kernel) rfl
theorem wn390 : Cond.fieldLinkNest "ShadowCourt$Clock" (137) "ShadowCourt$Day" "felonSpot" "[I" "ShadowCourt" ∈ xNL := xn 390 (by decide +kernel) rfl
theorem wn393 : Cond.fieldLinkNest "ShadowCourt$Clock" (140) "ShadowCourt$Day" "owed" "[I" "ShadowCourt" ∈ xNL := xn 393 (by decide +kernel) rfl
theorem wn396 : Cond.fieldLinkNest "ShadowCourt$Clock" (143) "ShadowCourt$Day" "away" "[I" "ShadowCourt" ∈ xNL := xn 396 (by decide +kernel) rfl
theorem wn400 : Cond.fieldLinkNest "ShadowCourt$Clock" (180) "ShadowCourt$Day" "drowned" "[Z" "ShadowCourt" ∈ xNL := xn 400 (by decide +kernel) rfl
theorem wn402 : Cond.fieldLinkNest "ShadowCourt$Clock" (42) "ShadowCourt$Day" "minute" "I" "ShadowCourt" ∈ xNL := xn 402 (by decide +kernel) rfl
theorem wn408 : Cond.fieldLinkNest "ShadowCourt$Clock" (165) "ShadowCourt$Day" "timesAway" "I" "ShadowCourt" ∈ xNL := xn 408 (by decide +kernel) rfl
theorem wn410 : Cond.fieldLinkNest "ShadowCourt$Clock" (63) "ShadowCourt$Day" "cloudyMinutes" "I" "ShadowCourt" ∈ xNL := xn 410 (by decide +kernel) rfl
theorem wn414 : Cond.fieldLinkNest "ShadowCourt$Clock" (189) "ShadowCourt$Day" "felonSteps" "I" "ShadowCourt" ∈ xNL := xn 414 (by decide +kernel) rfl
theorem wn763 : Cond.methodLinkNest "ShadowCourt$Clock" (36) yX2_owedByAll "ShadowCourt" ∈ xNL := xn 763 (by decide +kernel) rfl
theorem wn771 : Cond.methodLinkNest "ShadowCourt$Clock" (82) yX2_hasJudge "ShadowCourt" ∈ xNL := xn 771 (by decide +kernel) rfl
theorem wn775 : Cond.methodLinkNest "ShadowCourt$Clock" (85) yX2_takeStep "ShadowCourt" ∈ xNL := xn 775 (by decide +kernel) rfl
theorem wn783 : Cond.methodLinkNest "ShadowCourt$Clock" (92) yX6_beside "ShadowCourt" ∈ xNL := xn 783 (by decide +kernel) rfl
theorem wn790 : Cond.methodLinkNest "ShadowCourt$Clock" (97) yX6_isOpen "ShadowCourt" ∈ xNL := xn 790 (by decide +kernel) rfl
theorem wn791 : Cond.methodLinkNest "ShadowCourt$Clock" (50) yX4_tellMinute "ShadowCourt" ∈ xNL := xn 791 (by decide +kernel) rfl
theorem wn795 : Cond.methodLinkNest "ShadowCourt$Clock" (56) yX2_draw "ShadowCourt" ∈ xNL := xn 795 (by decide +kernel) rfl
theorem wn800 : Cond.methodLinkNest "ShadowCourt$Clock" (59) yX4_worthOf "ShadowCourt" ∈ xNL := xn 800 (by decide +kernel) rfl
theorem wn817 : Cond.methodLinkNest "ShadowCourt$Clock" (66) yX4_isNight "ShadowCourt" ∈ xNL := xn 817 (by decide +kernel) rfl
theorem wn826 : Cond.methodLinkNest "ShadowCourt$Clock" (100) yX7_clear "ShadowCourt" ∈ xNL := xn 826 (by decide +kernel) rfl
theorem wn830 : Cond.methodLinkNest "ShadowCourt$Shadows" (26) yX6_isSpot "ShadowCourt" ∈ xNL := xn 830 (by decide +kernel) rfl
theorem wn833 : Cond.methodLinkNest "ShadowCourt$Clock" (103) yX4_tellJudge "ShadowCourt" ∈ xNL := xn 833 (by decide +kernel) rfl
theorem wn837 : Cond.methodLinkNest "ShadowCourt$Clock" (107) yX7_fall "ShadowCourt" ∈ xNL := xn 837 (by decide +kernel) rfl
theorem wn841 : Cond.methodLinkNest "ShadowCourt$Shadows" (32) yX6_beside "ShadowCourt" ∈ xNL := xn 841 (by decide +kernel) rfl
theorem wn842 : Cond.methodLinkNest "ShadowCourt$Shadows" (36) yX6_kindAt "ShadowCourt" ∈ xNL := xn 842 (by decide +kernel) rfl
theorem wn847 : Cond.fieldLinkNest "ShadowCourt$Clock" (115) "ShadowCourt" "WAY_X" "[I" "ShadowCourt" ∈ xNL := xn 847 (by decide +kernel) rfl
theorem wn848 : Cond.methodLinkNest "ShadowCourt$Clock" (118) yX6_kindAt "ShadowCourt" ∈ xNL := xn 848 (by decide +kernel) rfl
theorem wn849 : Cond.methodLinkNest "ShadowCourt$Clock" (121) yX10_holds "ShadowCourt" ∈ xNL := xn 849 (by decide +kernel) rfl
theorem wn856 : Cond.methodLinkNest "ShadowCourt$Clock" (152) yX2_mustServe "ShadowCourt" ∈ xNL := xn 856 (by decide +kernel) rfl
theorem wn868 : Cond.methodLinkNest "ShadowCourt$Clock" (134) yX2_hasFelon "ShadowCourt" ∈ xNL := xn 868 (by decide +kernel) rfl
theorem wn869 : Cond.methodLinkNest "ShadowCourt$Clock" (146) yX4_tellFelon "ShadowCourt" ∈ xNL := xn 869 (by decide +kernel) rfl
theorem wn885 : Cond.methodLinkNest "ShadowCourt$Clock" (162) yX6_isSpot "ShadowCourt" ∈ xNL := xn 885 (by decide +kernel) rfl
theorem wn886 : Cond.methodLinkNest "ShadowCourt$Clock" (186) yX6_stepsBetween "ShadowCourt" ∈ xNL := xn 886 (by decide +kernel) rfl
theorem wn897 : Cond.methodLinkNest "ShadowCourt$Clock" (131) yX7_layersAt "ShadowCourt" ∈ xNL := xn 897 (by decide +kernel) rfl
theorem dX0_cast_0 : decode cX0_cast 0 = .ok (.aload_n 0, 1) := by decide +kernel
theorem dX0_cast_1 : decode cX0_cast 1 = .ok (.getfield 26, 3) := by decide +kernel
theorem dX0_cast_4 : decode cX0_cast 4 = .ok (.invokevirtual 100, 3) := by decide +kernel
theorem dX0_cast_7 : decode cX0_cast 7 = .ok (.iconst 0, 1) := by decide +kernel
theorem dX0_cast_8 : decode cX0_cast 8 = .ok (.istore 4, 2) := by decide +kernel
theorem dX0_cast_10 : decode cX0_cast 10 = .ok (.iload 4, 2) := by decide +kernel
theorem dX0_cast_12 : decode cX0_cast 12 = .ok (.iconst 2, 1) := by decide +kernel
theorem dX0_cast_13 : decode cX0_cast 13 = .ok (.if_icmp .ge 84, 3) := by decide +kernel
theorem dX0_cast_16 : decode cX0_cast 16 = .ok (.iload_n 2, 1) := by decide +kernel
theorem dX0_cast_17 : decode cX0_cast 17 = .ok (.ifCond .eq 80, 3) := by decide +kernel
theorem dX0_cast_20 : decode cX0_cast 20 = .ok (.aload_n 1, 1) := by decide +kernel
theorem dX0_cast_21 : decode cX0_cast 21 = .ok (.iload 4, 2) := by decide +kernel
theorem dX0_cast_23 : decode cX0_cast 23 = .ok (.invokevirtual 82, 3) := by decide +kernel
theorem dX0_cast_26 : decode cX0_cast 26 = .ok (.ifCond .eq 65, 3) := by decide +kernel
theorem dX0_cast_29 : decode cX0_cast 29 = .ok (.aload_n 0, 1) := by decide +kernel
theorem dX0_cast_30 : decode cX0_cast 30 = .ok (.getfield 15, 3) := by decide +kernel
theorem dX0_cast_33 : decode cX0_cast 33 = .ok (.aload_n 1, 1) := by decide +kernel
theorem dX0_cast_34 : decode cX0_cast 34 = .ok (.getfield 42, 3) := by decide +kernel
theorem dX0_cast_37 : decode cX0_cast 37 = .ok (.iload 4, 2) := by decide +kernel
theorem dX0_cast_39 : decode cX0_cast 39 = .ok (.invokevirtual 103, 3) := by decide +kernel
theorem dX0_cast_42 : decode cX0_cast 42 = .ok (.aload_n 0, 1) := by decide +kernel
theorem dX0_cast_43 : decode cX0_cast 43 = .ok (.getfield 15, 3) := by decide +kernel
theorem dX0_cast_46 : decode cX0_cast 46 = .ok (.bipush 108, 2) := by decide +kernel
theorem dX0_cast_48 : decode cX0_cast 48 = .ok (.bipush 9, 2) := by decide +kernel
theorem dX0_cast_50 : decode cX0_cast 50 = .ok (.invokevirtual 59, 3) := by decide +kernel
theorem dX0_cast_53 : decode cX0_cast 53 = .ok (.istore 5, 2) := by decide +kernel
theorem dX0_cast_55 : decode cX0_cast 55 = .ok (.iload 5, 2) := by decide +kernel
theorem dX0_cast_57 : decode cX0_cast 57 = .ok (.ifCond .le 34, 3) := by decide +kernel
theorem dX0_cast_60 : decode cX0_cast 60 = .ok (.aload_n 0, 1) := by decide +kernel
theorem dX0_cast_61 : decode cX0_cast 61 = .ok (.getfield 26, 3) := by decide +kernel
theorem dX0_cast_64 : decode cX0_cast 64 = .ok (.aload_n 0, 1) := by decide +kernel
theorem dX0_cast_65 : decode cX0_cast 65 = .ok (.getfield 9, 3) := by decide +kernel
theorem dX0_cast_68 : decode cX0_cast 68 = .ok (.aload_n 1, 1) := by decide +kernel
theorem dX0_cast_69 : decode cX0_cast 69 = .ok (.getfield 89, 3) := by decide +kernel
theorem dX0_cast_72 : decode cX0_cast 72 = .ok (.iload 4, 2) := by decide +kernel
theorem dX0_cast_74 : decode cX0_cast 74 = .ok (.iaload, 1) := by decide +kernel
theorem dX0_cast_75 : decode cX0_cast 75 = .ok (.aload_n 0, 1) := by decide +kernel
theorem dX0_cast_76 : decode cX0_cast 76 = .ok (.getfield 15, 3) := by decide +kernel
theorem dX0_cast_79 : decode cX0_cast 79 = .ok (.bipush 97, 2) := by decide +kernel
theorem dX0_cast_81 : decode cX0_cast 81 = .ok (.bipush 7, 2) := by decide +kernel
theorem dX0_cast_83 : decode cX0_cast 83 = .ok (.invokevirtual 59, 3) := by decide +kernel
theorem dX0_cast_86 : decode cX0_cast 86 = .ok (.iload 5, 2) := by decide +kernel
theorem dX0_cast_88 : decode cX0_cast 88 = .ok (.invokevirtual 107, 3) := by decide +kernel
theorem dX0_cast_91 : decode cX0_cast 91 = .ok (.iinc 4 1, 3) := by decide +kernel
theorem dX0_cast_94 : decode cX0_cast 94 = .ok (.goto (-84), 3) := by decide +kernel
theorem dX0_cast_97 : decode cX0_cast 97 = .ok (.iconst 0, 1) := by decide +kernel
theorem dX0_cast_98 : decode cX0_cast 98 = .ok (.istore 4, 2) := by decide +kernel
theorem dX0_cast_100 : decode cX0_cast 100 = .ok (.iload 4, 2) := by decide +kernel
theorem dX0_cast_102 : decode cX0_cast 102 = .ok (.iconst 4, 1) := by decide +kernel
theorem dX0_cast_103 : decode cX0_cast 103 = .ok (.if_icmp .ge 25, 3) := by decide +kernel
theorem dX0_cast_106 : decode cX0_cast 106 = .ok (.iload_n 3, 1) := by decide +kernel
theorem dX0_cast_107 : decode cX0_cast 107 = .ok (.ifCond .eq 21, 3) := by decide +kernel
theorem dX0_cast_110 : decode cX0_cast 110 = .ok (.aload_n 0, 1) := by decide +kernel
theorem dX0_cast_111 : decode cX0_cast 111 = .ok (.aload_n 1, 1) := by decide +kernel
theorem dX0_cast_112 : decode cX0_cast 112 = .ok (.aload_n 0, 1) := by decide +kernel
theorem dX0_cast_113 : decode cX0_cast 113 = .ok (.getfield 19, 3) := by decide +kernel
theorem dX0_cast_116 : decode cX0_cast 116 = .ok (.iload 4, 2) := by decide +kernel
theorem dX0_cast_118 : decode cX0_cast 118 = .ok (.iaload, 1) := by decide +kernel
theorem dX0_cast_119 : decode cX0_cast 119 = .ok (.invokevirtual 111, 3) := by decide +kernel
theorem dX0_cast_122 : decode cX0_cast 122 = .ok (.iinc 4 1, 3) := by decide +kernel
theorem dX0_cast_125 : decode cX0_cast 125 = .ok (.goto (-25), 3) := by decide +kernel
theorem dX0_cast_128 : decode cX0_cast 128 = .ok (.return_, 1) := by decide +kernel
theorem dX0_castCloudless_0 : decode cX0_castCloudless 0 = .ok (.aload_n 0, 1) := by decide +kernel
theorem dX0_castCloudless_1 : decode cX0_castCloudless 1 = .ok (.aload_n 1, 1) := by decide +kernel
theorem dX0_castCloudless_2 : decode cX0_castCloudless 2 = .ok (.iconst 1, 1) := by decide +kernel
theorem dX0_castCloudless_3 : decode cX0_castCloudless 3 = .ok (.aload_n 0, 1) := by decide +kernel
theorem dX0_castCloudless_4 : decode cX0_castCloudless 4 = .ok (.getfield 15, 3) := by decide +kernel
theorem dX0_castCloudless_7 : decode cX0_castCloudless 7 = .ok (.aload_n 1, 1) := by decide +kernel
theorem dX0_castCloudless_8 : decode cX0_castCloudless 8 = .ok (.getfield 42, 3) := by decide +kernel
theorem dX0_castCloudless_11 : decode cX0_castCloudless 11 = .ok (.invokevirtual 66, 3) := by decide +kernel
theorem dX0_castCloudless_14 : decode cX0_castCloudless 14 = .ok (.invokevirtual 70, 3) := by decide +kernel
theorem dX0_castCloudless_17 : decode cX0_castCloudless 17 = .ok (.return_, 1) := by decide +kernel
theorem dX0_castOfLamp_0 : decode cX0_castOfLamp 0 = .ok (.iconst 0, 1) := by decide +kernel
theorem dX0_castOfLamp_1 : decode cX0_castOfLamp 1 = .ok (.istore_n 3, 1) := by decide +kernel
theorem dX0_castOfLamp_2 : decode cX0_castOfLamp 2 = .ok (.iload_n 3, 1) := by decide +kernel
theorem dX0_castOfLamp_3 : decode cX0_castOfLamp 3 = .ok (.getstatic 115, 3) := by decide +kernel
theorem dX0_castOfLamp_6 : decode cX0_castOfLamp 6 = .ok (.arraylength, 1) := by decide +kernel
theorem dX0_castOfLamp_7 : decode cX0_castOfLamp 7 = .ok (.if_icmp .ge 83, 3) := by decide +kernel
theorem dX0_castOfLamp_10 : decode cX0_castOfLamp 10 = .ok (.iload_n 2, 1) := by decide +kernel
theorem dX0_castOfLamp_11 : decode cX0_castOfLamp 11 = .ok (.iconst (-1), 1) := by decide +kernel
theorem dX0_castOfLamp_12 : decode cX0_castOfLamp 12 = .ok (.if_icmp .eq 78, 3) := by decide +kernel
theorem dX0_castOfLamp_15 : decode cX0_castOfLamp 15 = .ok (.iload_n 2, 1) := by decide +kernel
theorem dX0_castOfLamp_16 : decode cX0_castOfLamp 16 = .ok (.istore 4, 2) := by decide +kernel
theorem dX0_castOfLamp_18 : decode cX0_castOfLamp 18 = .ok (.iconst 0, 1) := by decide +kernel
theorem dX0_castOfLamp_19 : decode cX0_castOfLamp 19 = .ok (.istore 5, 2) := by decide +kernel
theorem dX0_castOfLamp_21 : decode cX0_castOfLamp 21 = .ok (.iload 5, 2) := by decide +kernel
theorem dX0_castOfLamp_23 : decode cX0_castOfLamp 23 = .ok (.iconst 4, 1) := by decide +kernel
theorem dX0_castOfLamp_24 : decode cX0_castOfLamp 24 = .ok (.if_icmp .ge 60, 3) := by decide +kernel
theorem dX0_castOfLamp_27 : decode cX0_castOfLamp 27 = .ok (.iload 4, 2) := by decide +kernel
theorem dX0_castOfLamp_29 : decode cX0_castOfLamp 29 = .ok (.iload_n 3, 1) := by decide +kernel
theorem dX0_castOfLamp_30 : decode cX0_castOfLamp 30 = .ok (.invokestatic 92, 3) := by decide +kernel
theorem dX0_castOfLamp_33 : decode cX0_castOfLamp 33 = .ok (.istore 4, 2) := by decide +kernel
theorem dX0_castOfLamp_35 : decode cX0_castOfLamp 35 = .ok (.aload_n 0, 1) := by decide +kernel
theorem dX0_castOfLamp_36 : decode cX0_castOfLamp 36 = .ok (.getfield 9, 3) := by decide +kernel
theorem dX0_castOfLamp_39 : decode cX0_castOfLamp 39 = .ok (.iload 4, 2) := by decide +kernel
theorem dX0_castOfLamp_41 : decode cX0_castOfLamp 41 = .ok (.invokevirtual 118, 3) := by decide +kernel
theorem dX0_castOfLamp_44 : decode cX0_castOfLamp 44 = .ok (.iconst 1, 1) := by decide +kernel
theorem dX0_castOfLamp_45 : decode cX0_castOfLamp 45 = .ok (.if_icmp .ne 6, 3) := by decide +kernel
theorem dX0_castOfLamp_48 : decode cX0_castOfLamp 48 = .ok (.goto 36, 3) := by decide +kernel
theorem dX0_castOfLamp_51 : decode cX0_castOfLamp 51 = .ok (.aload_n 1, 1) := by decide +kernel
theorem dX0_castOfLamp_52 : decode cX0_castOfLamp 52 = .ok (.getfield 89, 3) := by decide +kernel
theorem dX0_castOfLamp_55 : decode cX0_castOfLamp 55 = .ok (.iload 4, 2) := by decide +kernel
theorem dX0_castOfLamp_57 : decode cX0_castOfLamp 57 = .ok (.invokestatic 121, 3) := by decide +kernel
theorem dX0_castOfLamp_60 : decode cX0_castOfLamp 60 = .ok (.ifCond .eq 18, 3) := by decide +kernel
theorem dX0_castOfLamp_63 : decode cX0_castOfLamp 63 = .ok (.aload_n 0, 1) := by decide +kernel
theorem dX0_castOfLamp_64 : decode cX0_castOfLamp 64 = .ok (.getfield 26, 3) := by decide +kernel
theorem dX0_castOfLamp_67 : decode cX0_castOfLamp 67 = .ok (.aload_n 0, 1) := by decide +kernel
theorem dX0_castOfLamp_68 : decode cX0_castOfLamp 68 = .ok (.getfield 9, 3) := by decide +kernel
theorem dX0_castOfLamp_71 : decode cX0_castOfLamp 71 = .ok (.iload 4, 2) := by decide +kernel
theorem dX0_castOfLamp_73 : decode cX0_castOfLamp 73 = .ok (.iload_n 3, 1) := by decide +kernel
theorem dX0_castOfLamp_74 : decode cX0_castOfLamp 74 = .ok (.iconst 2, 1) := by decide +kernel
theorem dX0_castOfLamp_75 : decode cX0_castOfLamp 75 = .ok (.invokevirtual 107, 3) := by decide +kernel
theorem dX0_castOfLamp_78 : decode cX0_castOfLamp 78 = .ok (.iinc 5 1, 3) := by decide +kernel
theorem dX0_castOfLamp_81 : decode cX0_castOfLamp 81 = .ok (.goto (-60), 3) := by decide +kernel
theorem dX0_castOfLamp_84 : decode cX0_castOfLamp 84 = .ok (.iinc 3 1, 3) := by decide +kernel
theorem dX0_castOfLamp_87 : decode cX0_castOfLamp 87 = .ok (.goto (-85), 3) := by decide +kernel
theorem dX0_castOfLamp_90 : decode cX0_castOfLamp 90 = .ok (.return_, 1) := by decide +kernel
theorem dX0_felonsGo_0 : decode cX0_felonsGo 0 = .ok (.iconst 0, 1) := by decide +kernel
theorem dX0_felonsGo_1 : decode cX0_felonsGo 1 = .ok (.istore 4, 2) := by decide +kernel
theorem dX0_felonsGo_3 : decode cX0_felonsGo 3 = .ok (.iload 4, 2) := by decide +kernel
theorem dX0_felonsGo_5 : decode cX0_felonsGo 5 = .ok (.iload_n 2, 1) := by decide +kernel
theorem dX0_felonsGo_6 : decode cX0_felonsGo 6 = .ok (.if_icmp .ge 203, 3) := by decide +kernel
theorem dX0_felonsGo_9 : decode cX0_felonsGo 9 = .ok (.iload 4, 2) := by decide +kernel
theorem dX0_felonsGo_11 : decode cX0_felonsGo 11 = .ok (.bipush 10, 2) := by decide +kernel
theorem dX0_felonsGo_13 : decode cX0_felonsGo 13 = .ok (.if_icmp .ge 196, 3) := by decide +kernel
theorem dX0_felonsGo_16 : decode cX0_felonsGo 16 = .ok (.aload_n 0, 1) := by decide +kernel
theorem dX0_felonsGo_17 : decode cX0_felonsGo 17 = .ok (.getfield 30, 3) := by decide +kernel
theorem dX0_felonsGo_20 : decode cX0_felonsGo 20 = .ok (.iload 4, 2) := by decide +kernel
theorem dX0_felonsGo_22 : decode cX0_felonsGo 22 = .ok (.iaload, 1) := by decide +kernel
theorem dX0_felonsGo_23 : decode cX0_felonsGo 23 = .ok (.istore 5, 2) := by decide +kernel
theorem dX0_felonsGo_25 : decode cX0_felonsGo 25 = .ok (.aload_n 1, 1) := by decide +kernel
theorem dX0_felonsGo_26 : decode cX0_felonsGo 26 = .ok (.iload 5, 2) := by decide +kernel
theorem dX0_felonsGo_28 : decode cX0_felonsGo 28 = .ok (.invokevirtual 134, 3) := by decide +kernel
theorem dX0_felonsGo_31 : decode cX0_felonsGo 31 = .ok (.ifCond .ne 6, 3) := by decide +kernel
theorem dX0_felonsGo_34 : decode cX0_felonsGo 34 = .ok (.goto 169, 3) := by decide +kernel
theorem dX0_felonsGo_37 : decode cX0_felonsGo 37 = .ok (.aload_n 0, 1) := by decide +kernel
theorem dX0_felonsGo_38 : decode cX0_felonsGo 38 = .ok (.getfield 26, 3) := by decide +kernel
theorem dX0_felonsGo_41 : decode cX0_felonsGo 41 = .ok (.getfield 125, 3) := by decide +kernel
theorem dX0_felonsGo_44 : decode cX0_felonsGo 44 = .ok (.ifCond .le 20, 3) := by decide +kernel
theorem dX0_felonsGo_47 : decode cX0_felonsGo 47 = .ok (.aload_n 0, 1) := by decide +kernel
theorem dX0_felonsGo_48 : decode cX0_felonsGo 48 = .ok (.aload_n 1, 1) := by decide +kernel
theorem dX0_felonsGo_49 : decode cX0_felonsGo 49 = .ok (.iload 5, 2) := by decide +kernel
theorem dX0_felonsGo_51 : decode cX0_felonsGo 51 = .ok (.aload_n 0, 1) := by decide +kernel
theorem dX0_felonsGo_52 : decode cX0_felonsGo 52 = .ok (.aload_n 1, 1) := by decide +kernel
theorem dX0_felonsGo_53 : decode cX0_felonsGo 53 = .ok (.iload 5, 2) := by decide +kernel
theorem dX0_felonsGo_55 : decode cX0_felonsGo 55 = .ok (.invokevirtual 155, 3) := by decide +kernel
theorem dX0_felonsGo_58 : decode cX0_felonsGo 58 = .ok (.invokevirtual 158, 3) := by decide +kernel
theorem dX0_felonsGo_61 : decode cX0_felonsGo 61 = .ok (.goto 4, 3) := by decide +kernel
theorem dX0_felonsGo_64 : decode cX0_felonsGo 64 = .ok (.iconst (-1), 1) := by decide +kernel
theorem dX0_felonsGo_65 : decode cX0_felonsGo 65 = .ok (.istore 6, 2) := by decide +kernel
theorem dX0_felonsGo_67 : decode cX0_felonsGo 67 = .ok (.iload 6, 2) := by decide +kernel
theorem dX0_felonsGo_69 : decode cX0_felonsGo 69 = .ok (.invokestatic 162, 3) := by decide +kernel
theorem dX0_felonsGo_72 : decode cX0_felonsGo 72 = .ok (.ifCond .ne 38, 3) := by decide +kernel
theorem dX0_felonsGo_75 : decode cX0_felonsGo 75 = .ok (.aload_n 1, 1) := by decide +kernel
theorem dX0_felonsGo_76 : decode cX0_felonsGo 76 = .ok (.dup, 1) := by decide +kernel
theorem dX0_felonsGo_77 : decode cX0_felonsGo 77 = .ok (.getfield 165, 3) := by decide +kernel
theorem dX0_felonsGo_80 : decode cX0_felonsGo 80 = .ok (.iconst 1, 1) := by decide +kernel
theorem dX0_felonsGo_81 : decode cX0_felonsGo 81 = .ok (.iadd, 1) := by decide +kernel
theorem dX0_felonsGo_82 : decode cX0_felonsGo 82 = .ok (.putfield 165, 3) := by decide +kernel
theorem dX0_felonsGo_85 : decode cX0_felonsGo 85 = .ok (.aload_n 1, 1) := by decide +kernel
theorem dX0_felonsGo_86 : decode cX0_felonsGo 86 = .ok (.getfield 143, 3) := by decide +kernel
theorem dX0_felonsGo_89 : decode cX0_felonsGo 89 = .ok (.iload 5, 2) := by decide +kernel
theorem dX0_felonsGo_91 : decode cX0_felonsGo 91 = .ok (.aload_n 1, 1) := by decide +kernel
theorem dX0_felonsGo_92 : decode cX0_felonsGo 92 = .ok (.getfield 143, 3) := by decide +kernel
theorem dX0_felonsGo_95 : decode cX0_felonsGo 95 = .ok (.iload 5, 2) := by decide +kernel
theorem dX0_felonsGo_97 : decode cX0_felonsGo 97 = .ok (.iaload, 1) := by decide +kernel
theorem dX0_felonsGo_98 : decode cX0_felonsGo 98 = .ok (.iconst 1, 1) := by decide +kernel
theorem dX0_felonsGo_99 : decode cX0_felonsGo 99 = .ok (.iadd, 1) := by decide +kernel
theorem dX0_felonsGo_100 : decode cX0_felonsGo 100 = .ok (.sipush 999, 3) := by decide +kernel
theorem dX0_felonsGo_103 : decode cX0_felonsGo 103 = .ok (.invokestatic 168, 3) := by decide +kernel
theorem dX0_felonsGo_106 : decode cX0_felonsGo 106 = .ok (.iastore, 1) := by decide +kernel
theorem dX0_felonsGo_107 : decode cX0_felonsGo 107 = .ok (.goto 96, 3) := by decide +kernel
theorem dX0_felonsGo_110 : decode cX0_felonsGo 110 = .ok (.aload_n 1, 1) := by decide +kernel
theorem dX0_felonsGo_111 : decode cX0_felonsGo 111 = .ok (.getfield 137, 3) := by decide +kernel
theorem dX0_felonsGo_114 : decode cX0_felonsGo 114 = .ok (.iload 5, 2) := by decide +kernel
theorem dX0_felonsGo_116 : decode cX0_felonsGo 116 = .ok (.iload 6, 2) := by decide +kernel
theorem dX0_felonsGo_118 : decode cX0_felonsGo 118 = .ok (.iastore, 1) := by decide +kernel
theorem dX0_felonsGo_119 : decode cX0_felonsGo 119 = .ok (.aload_n 0, 1) := by decide +kernel
theorem dX0_felonsGo_120 : decode cX0_felonsGo 120 = .ok (.getfield 26, 3) := by decide +kernel
theorem dX0_felonsGo_123 : decode cX0_felonsGo 123 = .ok (.getfield 173, 3) := by decide +kernel
theorem dX0_felonsGo_126 : decode cX0_felonsGo 126 = .ok (.iload 6, 2) := by decide +kernel
theorem dX0_felonsGo_128 : decode cX0_felonsGo 128 = .ok (.iconst 1, 1) := by decide +kernel
theorem dX0_felonsGo_129 : decode cX0_felonsGo 129 = .ok (.bastore, 1) := by decide +kernel
theorem dX0_felonsGo_130 : decode cX0_felonsGo 130 = .ok (.aload_n 0, 1) := by decide +kernel
theorem dX0_felonsGo_131 : decode cX0_felonsGo 131 = .ok (.getfield 26, 3) := by decide +kernel
theorem dX0_felonsGo_134 : decode cX0_felonsGo 134 = .ok (.iload 6, 2) := by decide +kernel
theorem dX0_felonsGo_136 : decode cX0_felonsGo 136 = .ok (.invokevirtual 131, 3) := by decide +kernel
theorem dX0_felonsGo_139 : decode cX0_felonsGo 139 = .ok (.istore 7, 2) := by decide +kernel
theorem dX0_felonsGo_141 : decode cX0_felonsGo 141 = .ok (.iload_n 3, 1) := by decide +kernel
theorem dX0_felonsGo_142 : decode cX0_felonsGo 142 = .ok (.ifCond .eq 19, 3) := by decide +kernel
theorem dX0_felonsGo_145 : decode cX0_felonsGo 145 = .ok (.aload_n 1, 1) := by decide +kernel
theorem dX0_felonsGo_146 : decode cX0_felonsGo 146 = .ok (.getfield 42, 3) := by decide +kernel
theorem dX0_felonsGo_149 : decode cX0_felonsGo 149 = .ok (.iconst 3, 1) := by decide +kernel
theorem dX0_felonsGo_150 : decode cX0_felonsGo 150 = .ok (.irem, 1) := by decide +kernel
theorem dX0_felonsGo_151 : decode cX0_felonsGo 151 = .ok (.ifCond .ne 7, 3) := by decide +kernel
theorem dX0_felonsGo_154 : decode cX0_felonsGo 154 = .ok (.iconst 1, 1) := by decide +kernel
theorem dX0_felonsGo_155 : decode cX0_felonsGo 155 = .ok (.goto 4, 3) := by decide +kernel
theorem dX0_felonsGo_158 : decode cX0_felonsGo 158 = .ok (.iconst 0, 1) := by decide +kernel
theorem dX0_felonsGo_159 : decode cX0_felonsGo 159 = .ok (.istore 7, 2) := by decide +kernel
theorem dX0_felonsGo_161 : decode cX0_felonsGo 161 = .ok (.aload_n 1, 1) := by decide +kernel
theorem dX0_felonsGo_162 : decode cX0_felonsGo 162 = .ok (.getfield 140, 3) := by decide +kernel
theorem dX0_felonsGo_165 : decode cX0_felonsGo 165 = .ok (.iload 5, 2) := by decide +kernel
theorem dX0_felonsGo_167 : decode cX0_felonsGo 167 = .ok (.aload_n 1, 1) := by decide +kernel
theorem dX0_felonsGo_168 : decode cX0_felonsGo 168 = .ok (.getfield 140, 3) := by decide +kernel
theorem dX0_felonsGo_171 : decode cX0_felonsGo 171 = .ok (.iload 5, 2) := by decide +kernel
theorem dX0_felonsGo_173 : decode cX0_felonsGo 173 = .ok (.iaload, 1) := by decide +kernel
theorem dX0_felonsGo_174 : decode cX0_felonsGo 174 = .ok (.iload 7, 2) := by decide +kernel
theorem dX0_felonsGo_176 : decode cX0_felonsGo 176 = .ok (.isub, 1) := by decide +kernel
theorem dX0_felonsGo_177 : decode cX0_felonsGo 177 = .ok (.iconst 0, 1) := by decide +kernel
theorem dX0_felonsGo_178 : decode cX0_felonsGo 178 = .ok (.invokestatic 177, 3) := by decide +kernel
theorem dX0_felonsGo_181 : decode cX0_felonsGo 181 = .ok (.iastore, 1) := by decide +kernel
theorem dX0_felonsGo_182 : decode cX0_felonsGo 182 = .ok (.aload_n 0, 1) := by decide +kernel
theorem dX0_felonsGo_183 : decode cX0_felonsGo 183 = .ok (.getfield 9, 3) := by decide +kernel
theorem dX0_felonsGo_186 : decode cX0_felonsGo 186 = .ok (.iload 6, 2) := by decide +kernel
theorem dX0_felonsGo_188 : decode cX0_felonsGo 188 = .ok (.invokevirtual 118, 3) := by decide +kernel
theorem dX0_felonsGo_191 : decode cX0_felonsGo 191 = .ok (.iconst 3, 1) := by decide +kernel
theorem dX0_felonsGo_192 : decode cX0_felonsGo 192 = .ok (.if_icmp .ne 11, 3) := by decide +kernel
theorem dX0_felonsGo_195 : decode cX0_felonsGo 195 = .ok (.aload_n 1, 1) := by decide +kernel
theorem dX0_felonsGo_196 : decode cX0_felonsGo 196 = .ok (.getfield 180, 3) := by decide +kernel
theorem dX0_felonsGo_199 : decode cX0_felonsGo 199 = .ok (.iload 5, 2) := by decide +kernel
theorem dX0_felonsGo_201 : decode cX0_felonsGo 201 = .ok (.iconst 1, 1) := by decide +kernel
theorem dX0_felonsGo_202 : decode cX0_felonsGo 202 = .ok (.bastore, 1) := by decide +kernel
theorem dX0_felonsGo_203 : decode cX0_felonsGo 203 = .ok (.iinc 4 1, 3) := by decide +kernel
theorem dX0_felonsGo_206 : decode cX0_felonsGo 206 = .ok (.goto (-203), 3) := by decide +kernel
theorem dX0_felonsGo_209 : decode cX0_felonsGo 209 = .ok (.return_, 1) := by decide +kernel
theorem dX0_findShadow_0 : decode cX0_findShadow 0 = .ok (.aload_n 1, 1) := by decide +kernel
theorem dX0_findShadow_1 : decode cX0_findShadow 1 = .ok (.iload_n 2, 1) := by decide +kernel
theorem dX0_findShadow_2 : decode cX0_findShadow 2 = .ok (.invokevirtual 134, 3) := by decide +kernel
theorem dX0_findShadow_5 : decode cX0_findShadow 5 = .ok (.ifCond .ne 5, 3) := by decide +kernel
theorem dX0_findShadow_8 : decode cX0_findShadow 8 = .ok (.iconst (-1), 1) := by decide +kernel
theorem dX0_findShadow_9 : decode cX0_findShadow 9 = .ok (.ireturn, 1) := by decide +kernel
theorem dX0_findShadow_10 : decode cX0_findShadow 10 = .ok (.iload_n 3, 1) := by decide +kernel
theorem dX0_findShadow_11 : decode cX0_findShadow 11 = .ok (.iconst 1, 1) := by decide +kernel
theorem dX0_findShadow_12 : decode cX0_findShadow 12 = .ok (.iadd, 1) := by decide +kernel
theorem dX0_findShadow_13 : decode cX0_findShadow 13 = .ok (.istore 4, 2) := by decide +kernel
theorem dX0_findShadow_15 : decode cX0_findShadow 15 = .ok (.iconst (-1), 1) := by decide +kernel
theorem dX0_findShadow_16 : decode cX0_findShadow 16 = .ok (.istore 5, 2) := by decide +kernel
theorem dX0_findShadow_18 : decode cX0_findShadow 18 = .ok (.iconst 0, 1) := by decide +kernel
theorem dX0_findShadow_19 : decode cX0_findShadow 19 = .ok (.istore 6, 2) := by decide +kernel
theorem dX0_findShadow_21 : decode cX0_findShadow 21 = .ok (.iload 6, 2) := by decide +kernel
theorem dX0_findShadow_23 : decode cX0_findShadow 23 = .ok (.aload_n 0, 1) := by decide +kernel
theorem dX0_findShadow_24 : decode cX0_findShadow 24 = .ok (.getfield 26, 3) := by decide +kernel
theorem dX0_findShadow_27 : decode cX0_findShadow 27 = .ok (.getfield 125, 3) := by decide +kernel
theorem dX0_findShadow_30 : decode cX0_findShadow 30 = .ok (.if_icmp .ge 98, 3) := by decide +kernel
theorem dX0_findShadow_33 : decode cX0_findShadow 33 = .ok (.iload 6, 2) := by decide +kernel
theorem dX0_findShadow_35 : decode cX0_findShadow 35 = .ok (.bipush 100, 2) := by decide +kernel
theorem dX0_findShadow_37 : decode cX0_findShadow 37 = .ok (.if_icmp .ge 91, 3) := by decide +kernel
theorem dX0_findShadow_40 : decode cX0_findShadow 40 = .ok (.aload_n 0, 1) := by decide +kernel
theorem dX0_findShadow_41 : decode cX0_findShadow 41 = .ok (.getfield 26, 3) := by decide +kernel
theorem dX0_findShadow_44 : decode cX0_findShadow 44 = .ok (.getfield 183, 3) := by decide +kernel
theorem dX0_findShadow_47 : decode cX0_findShadow 47 = .ok (.iload 6, 2) := by decide +kernel
theorem dX0_findShadow_49 : decode cX0_findShadow 49 = .ok (.iaload, 1) := by decide +kernel
theorem dX0_findShadow_50 : decode cX0_findShadow 50 = .ok (.istore 7, 2) := by decide +kernel
theorem dX0_findShadow_52 : decode cX0_findShadow 52 = .ok (.iload 7, 2) := by decide +kernel
theorem dX0_findShadow_54 : decode cX0_findShadow 54 = .ok (.invokestatic 162, 3) := by decide +kernel
theorem dX0_findShadow_57 : decode cX0_findShadow 57 = .ok (.ifCond .eq 65, 3) := by decide +kernel
theorem dX0_findShadow_60 : decode cX0_findShadow 60 = .ok (.aload_n 0, 1) := by decide +kernel
theorem dX0_findShadow_61 : decode cX0_findShadow 61 = .ok (.getfield 26, 3) := by decide +kernel
theorem dX0_findShadow_64 : decode cX0_findShadow 64 = .ok (.getfield 173, 3) := by decide +kernel
theorem dX0_findShadow_67 : decode cX0_findShadow 67 = .ok (.iload 7, 2) := by decide +kernel
theorem dX0_findShadow_69 : decode cX0_findShadow 69 = .ok (.baload, 1) := by decide +kernel
theorem dX0_findShadow_70 : decode cX0_findShadow 70 = .ok (.ifCond .eq 6, 3) := by decide +kernel
theorem dX0_findShadow_73 : decode cX0_findShadow 73 = .ok (.goto 49, 3) := by decide +kernel
theorem dX0_findShadow_76 : decode cX0_findShadow 76 = .ok (.aload_n 0, 1) := by decide +kernel
theorem dX0_findShadow_77 : decode cX0_findShadow 77 = .ok (.getfield 9, 3) := by decide +kernel
theorem dX0_findShadow_80 : decode cX0_findShadow 80 = .ok (.aload_n 1, 1) := by decide +kernel
theorem dX0_findShadow_81 : decode cX0_findShadow 81 = .ok (.getfield 137, 3) := by decide +kernel
theorem dX0_findShadow_84 : decode cX0_findShadow 84 = .ok (.iload_n 2, 1) := by decide +kernel
theorem dX0_findShadow_85 : decode cX0_findShadow 85 = .ok (.iaload, 1) := by decide +kernel
theorem dX0_findShadow_86 : decode cX0_findShadow 86 = .ok (.iload 7, 2) := by decide +kernel
theorem dX0_findShadow_88 : decode cX0_findShadow 88 = .ok (.invokevirtual 186, 3) := by decide +kernel
theorem dX0_findShadow_91 : decode cX0_findShadow 91 = .ok (.istore 8, 2) := by decide +kernel
theorem dX0_findShadow_93 : decode cX0_findShadow 93 = .ok (.iload 8, 2) := by decide +kernel
theorem dX0_findShadow_95 : decode cX0_findShadow 95 = .ok (.iload 4, 2) := by decide +kernel
theorem dX0_findShadow_97 : decode cX0_findShadow 97 = .ok (.if_icmp .lt 17, 3) := by decide +kernel
theorem dX0_findShadow_100 : decode cX0_findShadow 100 = .ok (.iload 8, 2) := by decide +kernel
theorem dX0_findShadow_102 : decode cX0_findShadow 102 = .ok (.iload 4, 2) := by decide +kernel
theorem dX0_findShadow_104 : decode cX0_findShadow 104 = .ok (.if_icmp .ne 18, 3) := by decide +kernel
theorem dX0_findShadow_107 : decode cX0_findShadow 107 = .ok (.iload 7, 2) := by decide +kernel
theorem dX0_findShadow_109 : decode cX0_findShadow 109 = .ok (.iload 5, 2) := by decide +kernel
theorem dX0_findShadow_111 : decode cX0_findShadow 111 = .ok (.if_icmp .ge 11, 3) := by decide +kernel
theorem dX0_findShadow_114 : decode cX0_findShadow 114 = .ok (.iload 8, 2) := by decide +kernel
theorem dX0_findShadow_116 : decode cX0_findShadow 116 = .ok (.istore 4, 2) := by decide +kernel
theorem dX0_findShadow_118 : decode cX0_findShadow 118 = .ok (.iload 7, 2) := by decide +kernel
theorem dX0_findShadow_120 : decode cX0_findShadow 120 = .ok (.istore 5, 2) := by decide +kernel
theorem dX0_findShadow_122 : decode cX0_findShadow 122 = .ok (.iinc 6 1, 3) := by decide +kernel
theorem dX0_findShadow_125 : decode cX0_findShadow 125 = .ok (.goto (-104), 3) := by decide +kernel
theorem dX0_findShadow_128 : decode cX0_findShadow 128 = .ok (.iload 5, 2) := by decide +kernel
theorem dX0_findShadow_130 : decode cX0_findShadow 130 = .ok (.iconst (-1), 1) := by decide +kernel
theorem dX0_findShadow_131 : decode cX0_findShadow 131 = .ok (.if_icmp .eq 14, 3) := by decide +kernel
theorem dX0_findShadow_134 : decode cX0_findShadow 134 = .ok (.aload_n 1, 1) := by decide +kernel
theorem dX0_findShadow_135 : decode cX0_findShadow 135 = .ok (.dup, 1) := by decide +kernel
theorem dX0_findShadow_136 : decode cX0_findShadow 136 = .ok (.getfield 189, 3) := by decide +kernel
theorem dX0_findShadow_139 : decode cX0_findShadow 139 = .ok (.iload 4, 2) := by decide +kernel
theorem dX0_findShadow_141 : decode cX0_findShadow 141 = .ok (.iadd, 1) := by decide +kernel
theorem dX0_findShadow_142 : decode cX0_findShadow 142 = .ok (.putfield 189, 3) := by decide +kernel
theorem dX0_findShadow_145 : decode cX0_findShadow 145 = .ok (.iload 5, 2) := by decide +kernel
theorem dX0_findShadow_147 : decode cX0_findShadow 147 = .ok (.ireturn, 1) := by decide +kernel
theorem dX0_goOn_0 : decode cX0_goOn 0 = .ok (.aload_n 1, 1) := by decide +kernel
theorem dX0_goOn_1 : decode cX0_goOn 1 = .ok (.invokevirtual 36, 3) := by decide +kernel
theorem dX0_goOn_4 : decode cX0_goOn 4 = .ok (.istore 4, 2) := by decide +kernel
theorem dX0_goOn_6 : decode cX0_goOn 6 = .ok (.iconst 0, 1) := by decide +kernel
theorem dX0_goOn_7 : decode cX0_goOn 7 = .ok (.istore 5, 2) := by decide +kernel
theorem dX0_goOn_9 : decode cX0_goOn 9 = .ok (.iload 5, 2) := by decide +kernel
theorem dX0_goOn_11 : decode cX0_goOn 11 = .ok (.iload_n 2, 1) := by decide +kernel
theorem dX0_goOn_12 : decode cX0_goOn 12 = .ok (.if_icmp .ge 128, 3) := by decide +kernel
theorem dX0_goOn_15 : decode cX0_goOn 15 = .ok (.aload_n 1, 1) := by decide +kernel
theorem dX0_goOn_16 : decode cX0_goOn 16 = .ok (.getfield 42, 3) := by decide +kernel
theorem dX0_goOn_19 : decode cX0_goOn 19 = .ok (.sipush 9999, 3) := by decide +kernel
theorem dX0_goOn_22 : decode cX0_goOn 22 = .ok (.if_icmp .ge 118, 3) := by decide +kernel
theorem dX0_goOn_25 : decode cX0_goOn 25 = .ok (.aload_n 0, 1) := by decide +kernel
theorem dX0_goOn_26 : decode cX0_goOn 26 = .ok (.aload_n 1, 1) := by decide +kernel
theorem dX0_goOn_27 : decode cX0_goOn 27 = .ok (.invokevirtual 46, 3) := by decide +kernel
theorem dX0_goOn_30 : decode cX0_goOn 30 = .ok (.aload_n 0, 1) := by decide +kernel
theorem dX0_goOn_31 : decode cX0_goOn 31 = .ok (.getfield 15, 3) := by decide +kernel
theorem dX0_goOn_34 : decode cX0_goOn 34 = .ok (.aload_n 1, 1) := by decide +kernel
theorem dX0_goOn_35 : decode cX0_goOn 35 = .ok (.getfield 42, 3) := by decide +kernel
theorem dX0_goOn_38 : decode cX0_goOn 38 = .ok (.invokevirtual 50, 3) := by decide +kernel
theorem dX0_goOn_41 : decode cX0_goOn 41 = .ok (.aload_n 1, 1) := by decide +kernel
theorem dX0_goOn_42 : decode cX0_goOn 42 = .ok (.invokevirtual 56, 3) := by decide +kernel
theorem dX0_goOn_45 : decode cX0_goOn 45 = .ok (.aload_n 0, 1) := by decide +kernel
theorem dX0_goOn_46 : decode cX0_goOn 46 = .ok (.getfield 15, 3) := by decide +kernel
theorem dX0_goOn_49 : decode cX0_goOn 49 = .ok (.bipush 99, 2) := by decide +kernel
theorem dX0_goOn_51 : decode cX0_goOn 51 = .ok (.bipush 10, 2) := by decide +kernel
theorem dX0_goOn_53 : decode cX0_goOn 53 = .ok (.invokevirtual 59, 3) := by decide +kernel
theorem dX0_goOn_56 : decode cX0_goOn 56 = .ok (.if_icmp .ge 7, 3) := by decide +kernel
theorem dX0_goOn_59 : decode cX0_goOn 59 = .ok (.iconst 1, 1) := by decide +kernel
theorem dX0_goOn_60 : decode cX0_goOn 60 = .ok (.goto 4, 3) := by decide +kernel
theorem dX0_goOn_63 : decode cX0_goOn 63 = .ok (.iconst 0, 1) := by decide +kernel
theorem dX0_goOn_64 : decode cX0_goOn 64 = .ok (.istore 6, 2) := by decide +kernel
theorem dX0_goOn_66 : decode cX0_goOn 66 = .ok (.iload 6, 2) := by decide +kernel
theorem dX0_goOn_68 : decode cX0_goOn 68 = .ok (.ifCond .eq 13, 3) := by decide +kernel
theorem dX0_goOn_71 : decode cX0_goOn 71 = .ok (.aload_n 1, 1) := by decide +kernel
theorem dX0_goOn_72 : decode cX0_goOn 72 = .ok (.dup, 1) := by decide +kernel
theorem dX0_goOn_73 : decode cX0_goOn 73 = .ok (.getfield 63, 3) := by decide +kernel
theorem dX0_goOn_76 : decode cX0_goOn 76 = .ok (.iconst 1, 1) := by decide +kernel
theorem dX0_goOn_77 : decode cX0_goOn 77 = .ok (.iadd, 1) := by decide +kernel
theorem dX0_goOn_78 : decode cX0_goOn 78 = .ok (.putfield 63, 3) := by decide +kernel
theorem dX0_goOn_81 : decode cX0_goOn 81 = .ok (.aload_n 0, 1) := by decide +kernel
theorem dX0_goOn_82 : decode cX0_goOn 82 = .ok (.getfield 15, 3) := by decide +kernel
theorem dX0_goOn_85 : decode cX0_goOn 85 = .ok (.aload_n 1, 1) := by decide +kernel
theorem dX0_goOn_86 : decode cX0_goOn 86 = .ok (.getfield 42, 3) := by decide +kernel
theorem dX0_goOn_89 : decode cX0_goOn 89 = .ok (.invokevirtual 66, 3) := by decide +kernel
theorem dX0_goOn_92 : decode cX0_goOn 92 = .ok (.istore 7, 2) := by decide +kernel
theorem dX0_goOn_94 : decode cX0_goOn 94 = .ok (.aload_n 0, 1) := by decide +kernel
theorem dX0_goOn_95 : decode cX0_goOn 95 = .ok (.aload_n 1, 1) := by decide +kernel
theorem dX0_goOn_96 : decode cX0_goOn 96 = .ok (.iload 6, 2) := by decide +kernel
theorem dX0_goOn_98 : decode cX0_goOn 98 = .ok (.ifCond .ne 7, 3) := by decide +kernel
theorem dX0_goOn_101 : decode cX0_goOn 101 = .ok (.iconst 1, 1) := by decide +kernel
theorem dX0_goOn_102 : decode cX0_goOn 102 = .ok (.goto 4, 3) := by decide +kernel
theorem dX0_goOn_105 : decode cX0_goOn 105 = .ok (.iconst 0, 1) := by decide +kernel
theorem dX0_goOn_106 : decode cX0_goOn 106 = .ok (.iload 7, 2) := by decide +kernel
theorem dX0_goOn_108 : decode cX0_goOn 108 = .ok (.invokevirtual 70, 3) := by decide +kernel
theorem dX0_goOn_111 : decode cX0_goOn 111 = .ok (.aload_n 0, 1) := by decide +kernel
theorem dX0_goOn_112 : decode cX0_goOn 112 = .ok (.aload_n 1, 1) := by decide +kernel
theorem dX0_goOn_113 : decode cX0_goOn 113 = .ok (.aload_n 0, 1) := by decide +kernel
theorem dX0_goOn_114 : decode cX0_goOn 114 = .ok (.aload_n 1, 1) := by decide +kernel
theorem dX0_goOn_115 : decode cX0_goOn 115 = .ok (.iload_n 3, 1) := by decide +kernel
theorem dX0_goOn_116 : decode cX0_goOn 116 = .ok (.invokevirtual 74, 3) := by decide +kernel
theorem dX0_goOn_119 : decode cX0_goOn 119 = .ok (.iload 7, 2) := by decide +kernel
theorem dX0_goOn_121 : decode cX0_goOn 121 = .ok (.invokevirtual 78, 3) := by decide +kernel
theorem dX0_goOn_124 : decode cX0_goOn 124 = .ok (.aload_n 1, 1) := by decide +kernel
theorem dX0_goOn_125 : decode cX0_goOn 125 = .ok (.dup, 1) := by decide +kernel
theorem dX0_goOn_126 : decode cX0_goOn 126 = .ok (.getfield 42, 3) := by decide +kernel
theorem dX0_goOn_129 : decode cX0_goOn 129 = .ok (.iconst 1, 1) := by decide +kernel
theorem dX0_goOn_130 : decode cX0_goOn 130 = .ok (.iadd, 1) := by decide +kernel
theorem dX0_goOn_131 : decode cX0_goOn 131 = .ok (.putfield 42, 3) := by decide +kernel
theorem dX0_goOn_134 : decode cX0_goOn 134 = .ok (.iinc 5 1, 3) := by decide +kernel
theorem dX0_goOn_137 : decode cX0_goOn 137 = .ok (.goto (-128), 3) := by decide +kernel
theorem dX0_goOn_140 : decode cX0_goOn 140 = .ok (.iload 4, 2) := by decide +kernel
theorem dX0_goOn_142 : decode cX0_goOn 142 = .ok (.aload_n 1, 1) := by decide +kernel
theorem dX0_goOn_143 : decode cX0_goOn 143 = .ok (.invokevirtual 36, 3) := by decide +kernel
theorem dX0_goOn_146 : decode cX0_goOn 146 = .ok (.isub, 1) := by decide +kernel
theorem dX0_goOn_147 : decode cX0_goOn 147 = .ok (.ireturn, 1) := by decide +kernel
theorem dX0_judgesStep_0 : decode cX0_judgesStep 0 = .ok (.iconst 0, 1) := by decide +kernel
theorem dX0_judgesStep_1 : decode cX0_judgesStep 1 = .ok (.istore_n 2, 1) := by decide +kernel
theorem dX0_judgesStep_2 : decode cX0_judgesStep 2 = .ok (.iload_n 2, 1) := by decide +kernel
theorem dX0_judgesStep_3 : decode cX0_judgesStep 3 = .ok (.iconst 2, 1) := by decide +kernel
theorem dX0_judgesStep_4 : decode cX0_judgesStep 4 = .ok (.if_icmp .ge 81, 3) := by decide +kernel
theorem dX0_judgesStep_7 : decode cX0_judgesStep 7 = .ok (.aload_n 1, 1) := by decide +kernel
theorem dX0_judgesStep_8 : decode cX0_judgesStep 8 = .ok (.iload_n 2, 1) := by decide +kernel
theorem dX0_judgesStep_9 : decode cX0_judgesStep 9 = .ok (.invokevirtual 82, 3) := by decide +kernel
theorem dX0_judgesStep_12 : decode cX0_judgesStep 12 = .ok (.ifCond .ne 6, 3) := by decide +kernel
theorem dX0_judgesStep_15 : decode cX0_judgesStep 15 = .ok (.goto 64, 3) := by decide +kernel
theorem dX0_judgesStep_18 : decode cX0_judgesStep 18 = .ok (.aload_n 1, 1) := by decide +kernel
theorem dX0_judgesStep_19 : decode cX0_judgesStep 19 = .ok (.iload_n 2, 1) := by decide +kernel
theorem dX0_judgesStep_20 : decode cX0_judgesStep 20 = .ok (.invokevirtual 85, 3) := by decide +kernel
theorem dX0_judgesStep_23 : decode cX0_judgesStep 23 = .ok (.istore_n 3, 1) := by decide +kernel
theorem dX0_judgesStep_24 : decode cX0_judgesStep 24 = .ok (.iload_n 3, 1) := by decide +kernel
theorem dX0_judgesStep_25 : decode cX0_judgesStep 25 = .ok (.iconst 4, 1) := by decide +kernel
theorem dX0_judgesStep_26 : decode cX0_judgesStep 26 = .ok (.if_icmp .ne 6, 3) := by decide +kernel
theorem dX0_judgesStep_29 : decode cX0_judgesStep 29 = .ok (.goto 50, 3) := by decide +kernel
theorem dX0_judgesStep_32 : decode cX0_judgesStep 32 = .ok (.aload_n 1, 1) := by decide +kernel
theorem dX0_judgesStep_33 : decode cX0_judgesStep 33 = .ok (.getfield 89, 3) := by decide +kernel
theorem dX0_judgesStep_36 : decode cX0_judgesStep 36 = .ok (.iload_n 2, 1) := by decide +kernel
theorem dX0_judgesStep_37 : decode cX0_judgesStep 37 = .ok (.iaload, 1) := by decide +kernel
theorem dX0_judgesStep_38 : decode cX0_judgesStep 38 = .ok (.iconst 2, 1) := by decide +kernel
theorem dX0_judgesStep_39 : decode cX0_judgesStep 39 = .ok (.iload_n 3, 1) := by decide +kernel
theorem dX0_judgesStep_40 : decode cX0_judgesStep 40 = .ok (.imul, 1) := by decide +kernel
theorem dX0_judgesStep_41 : decode cX0_judgesStep 41 = .ok (.invokestatic 92, 3) := by decide +kernel
theorem dX0_judgesStep_44 : decode cX0_judgesStep 44 = .ok (.istore 4, 2) := by decide +kernel
theorem dX0_judgesStep_46 : decode cX0_judgesStep 46 = .ok (.aload_n 0, 1) := by decide +kernel
theorem dX0_judgesStep_47 : decode cX0_judgesStep 47 = .ok (.getfield 9, 3) := by decide +kernel
theorem dX0_judgesStep_50 : decode cX0_judgesStep 50 = .ok (.iload 4, 2) := by decide +kernel
theorem dX0_judgesStep_52 : decode cX0_judgesStep 52 = .ok (.invokevirtual 97, 3) := by decide +kernel
theorem dX0_judgesStep_55 : decode cX0_judgesStep 55 = .ok (.ifCond .eq 24, 3) := by decide +kernel
theorem dX0_judgesStep_58 : decode cX0_judgesStep 58 = .ok (.aload_n 1, 1) := by decide +kernel
theorem dX0_judgesStep_59 : decode cX0_judgesStep 59 = .ok (.getfield 89, 3) := by decide +kernel
theorem dX0_judgesStep_62 : decode cX0_judgesStep 62 = .ok (.iconst 1, 1) := by decide +kernel
theorem dX0_judgesStep_63 : decode cX0_judgesStep 63 = .ok (.iload_n 2, 1) := by decide +kernel
theorem dX0_judgesStep_64 : decode cX0_judgesStep 64 = .ok (.isub, 1) := by decide +kernel
theorem dX0_judgesStep_65 : decode cX0_judgesStep 65 = .ok (.iaload, 1) := by decide +kernel
theorem dX0_judgesStep_66 : decode cX0_judgesStep 66 = .ok (.iload 4, 2) := by decide +kernel
theorem dX0_judgesStep_68 : decode cX0_judgesStep 68 = .ok (.if_icmp .eq 11, 3) := by decide +kernel
theorem dX0_judgesStep_71 : decode cX0_judgesStep 71 = .ok (.aload_n 1, 1) := by decide +kernel
theorem dX0_judgesStep_72 : decode cX0_judgesStep 72 = .ok (.getfield 89, 3) := by decide +kernel
theorem dX0_judgesStep_75 : decode cX0_judgesStep 75 = .ok (.iload_n 2, 1) := by decide +kernel
theorem dX0_judgesStep_76 : decode cX0_judgesStep 76 = .ok (.iload 4, 2) := by decide +kernel
theorem dX0_judgesStep_78 : decode cX0_judgesStep 78 = .ok (.iastore, 1) := by decide +kernel
theorem dX0_judgesStep_79 : decode cX0_judgesStep 79 = .ok (.iinc 2 1, 3) := by decide +kernel
theorem dX0_judgesStep_82 : decode cX0_judgesStep 82 = .ok (.goto (-80), 3) := by decide +kernel
theorem dX0_judgesStep_85 : decode cX0_judgesStep 85 = .ok (.return_, 1) := by decide +kernel
theorem dX0_lineUp_0 : decode cX0_lineUp 0 = .ok (.iconst 0, 1) := by decide +kernel
theorem dX0_lineUp_1 : decode cX0_lineUp 1 = .ok (.istore_n 3, 1) := by decide +kernel
theorem dX0_lineUp_2 : decode cX0_lineUp 2 = .ok (.iconst 0, 1) := by decide +kernel
theorem dX0_lineUp_3 : decode cX0_lineUp 3 = .ok (.istore 4, 2) := by decide +kernel
theorem dX0_lineUp_5 : decode cX0_lineUp 5 = .ok (.iload 4, 2) := by decide +kernel
theorem dX0_lineUp_7 : decode cX0_lineUp 7 = .ok (.bipush 10, 2) := by decide +kernel
theorem dX0_lineUp_9 : decode cX0_lineUp 9 = .ok (.if_icmp .ge 135, 3) := by decide +kernel
theorem dX0_lineUp_12 : decode cX0_lineUp 12 = .ok (.aload_n 1, 1) := by decide +kernel
theorem dX0_lineUp_13 : decode cX0_lineUp 13 = .ok (.iload 4, 2) := by decide +kernel
theorem dX0_lineUp_15 : decode cX0_lineUp 15 = .ok (.invokevirtual 152, 3) := by decide +kernel
theorem dX0_lineUp_18 : decode cX0_lineUp 18 = .ok (.ifCond .ne 6, 3) := by decide +kernel
theorem dX0_lineUp_21 : decode cX0_lineUp 21 = .ok (.goto 117, 3) := by decide +kernel
theorem dX0_lineUp_24 : decode cX0_lineUp 24 = .ok (.aload_n 0, 1) := by decide +kernel
theorem dX0_lineUp_25 : decode cX0_lineUp 25 = .ok (.aload_n 1, 1) := by decide +kernel
theorem dX0_lineUp_26 : decode cX0_lineUp 26 = .ok (.iload 4, 2) := by decide +kernel
theorem dX0_lineUp_28 : decode cX0_lineUp 28 = .ok (.invokevirtual 150, 3) := by decide +kernel
theorem dX0_lineUp_31 : decode cX0_lineUp 31 = .ok (.iload 4, 2) := by decide +kernel
theorem dX0_lineUp_33 : decode cX0_lineUp 33 = .ok (.iload_n 2, 1) := by decide +kernel
theorem dX0_lineUp_34 : decode cX0_lineUp 34 = .ok (.if_icmp .ne 9, 3) := by decide +kernel
theorem dX0_lineUp_37 : decode cX0_lineUp 37 = .ok (.sipush 1000, 3) := by decide +kernel
theorem dX0_lineUp_40 : decode cX0_lineUp 40 = .ok (.goto 15, 3) := by decide +kernel
theorem dX0_lineUp_43 : decode cX0_lineUp 43 = .ok (.aload_n 0, 1) := by decide +kernel
theorem dX0_lineUp_44 : decode cX0_lineUp 44 = .ok (.getfield 15, 3) := by decide +kernel
theorem dX0_lineUp_47 : decode cX0_lineUp 47 = .ok (.bipush 111, 2) := by decide +kernel
theorem dX0_lineUp_49 : decode cX0_lineUp 49 = .ok (.sipush 999, 3) := by decide +kernel
theorem dX0_lineUp_52 : decode cX0_lineUp 52 = .ok (.invokevirtual 59, 3) := by decide +kernel
theorem dX0_lineUp_55 : decode cX0_lineUp 55 = .ok (.istore 5, 2) := by decide +kernel
theorem dX0_lineUp_57 : decode cX0_lineUp 57 = .ok (.iload_n 3, 1) := by decide +kernel
theorem dX0_lineUp_58 : decode cX0_lineUp 58 = .ok (.istore 6, 2) := by decide +kernel
theorem dX0_lineUp_60 : decode cX0_lineUp 60 = .ok (.iload 6, 2) := by decide +kernel
theorem dX0_lineUp_62 : decode cX0_lineUp 62 = .ok (.ifCond .le 55, 3) := by decide +kernel
theorem dX0_lineUp_65 : decode cX0_lineUp 65 = .ok (.aload_n 0, 1) := by decide +kernel
theorem dX0_lineUp_66 : decode cX0_lineUp 66 = .ok (.getfield 33, 3) := by decide +kernel
theorem dX0_lineUp_69 : decode cX0_lineUp 69 = .ok (.iload 6, 2) := by decide +kernel
theorem dX0_lineUp_71 : decode cX0_lineUp 71 = .ok (.iconst 1, 1) := by decide +kernel
theorem dX0_lineUp_72 : decode cX0_lineUp 72 = .ok (.isub, 1) := by decide +kernel
theorem dX0_lineUp_73 : decode cX0_lineUp 73 = .ok (.iaload, 1) := by decide +kernel
theorem dX0_lineUp_74 : decode cX0_lineUp 74 = .ok (.iload 5, 2) := by decide +kernel
theorem dX0_lineUp_76 : decode cX0_lineUp 76 = .ok (.if_icmp .ge 41, 3) := by decide +kernel
theorem dX0_lineUp_79 : decode cX0_lineUp 79 = .ok (.aload_n 0, 1) := by decide +kernel
theorem dX0_lineUp_80 : decode cX0_lineUp 80 = .ok (.getfield 30, 3) := by decide +kernel
theorem dX0_lineUp_83 : decode cX0_lineUp 83 = .ok (.iload 6, 2) := by decide +kernel
theorem dX0_lineUp_85 : decode cX0_lineUp 85 = .ok (.aload_n 0, 1) := by decide +kernel
theorem dX0_lineUp_86 : decode cX0_lineUp 86 = .ok (.getfield 30, 3) := by decide +kernel
theorem dX0_lineUp_89 : decode cX0_lineUp 89 = .ok (.iload 6, 2) := by decide +kernel
theorem dX0_lineUp_91 : decode cX0_lineUp 91 = .ok (.iconst 1, 1) := by decide +kernel
theorem dX0_lineUp_92 : decode cX0_lineUp 92 = .ok (.isub, 1) := by decide +kernel
theorem dX0_lineUp_93 : decode cX0_lineUp 93 = .ok (.iaload, 1) := by decide +kernel
theorem dX0_lineUp_94 : decode cX0_lineUp 94 = .ok (.iastore, 1) := by decide +kernel
theorem dX0_lineUp_95 : decode cX0_lineUp 95 = .ok (.aload_n 0, 1) := by decide +kernel
theorem dX0_lineUp_96 : decode cX0_lineUp 96 = .ok (.getfield 33, 3) := by decide +kernel
theorem dX0_lineUp_99 : decode cX0_lineUp 99 = .ok (.iload 6, 2) := by decide +kernel
theorem dX0_lineUp_101 : decode cX0_lineUp 101 = .ok (.aload_n 0, 1) := by decide +kernel
theorem dX0_lineUp_102 : decode cX0_lineUp 102 = .ok (.getfield 33, 3) := by decide +kernel
theorem dX0_lineUp_105 : decode cX0_lineUp 105 = .ok (.iload 6, 2) := by decide +kernel
theorem dX0_lineUp_107 : decode cX0_lineUp 107 = .ok (.iconst 1, 1) := by decide +kernel
theorem dX0_lineUp_108 : decode cX0_lineUp 108 = .ok (.isub, 1) := by decide +kernel
theorem dX0_lineUp_109 : decode cX0_lineUp 109 = .ok (.iaload, 1) := by decide +kernel
theorem dX0_lineUp_110 : decode cX0_lineUp 110 = .ok (.iastore, 1) := by decide +kernel
theorem dX0_lineUp_111 : decode cX0_lineUp 111 = .ok (.iinc 6 (-1), 3) := by decide +kernel
theorem dX0_lineUp_114 : decode cX0_lineUp 114 = .ok (.goto (-54), 3) := by decide +kernel
theorem dX0_lineUp_117 : decode cX0_lineUp 117 = .ok (.aload_n 0, 1) := by decide +kernel
theorem dX0_lineUp_118 : decode cX0_lineUp 118 = .ok (.getfield 30, 3) := by decide +kernel
theorem dX0_lineUp_121 : decode cX0_lineUp 121 = .ok (.iload 6, 2) := by decide +kernel
theorem dX0_lineUp_123 : decode cX0_lineUp 123 = .ok (.iload 4, 2) := by decide +kernel
theorem dX0_lineUp_125 : decode cX0_lineUp 125 = .ok (.iastore, 1) := by decide +kernel
theorem dX0_lineUp_126 : decode cX0_lineUp 126 = .ok (.aload_n 0, 1) := by decide +kernel
theorem dX0_lineUp_127 : decode cX0_lineUp 127 = .ok (.getfield 33, 3) := by decide +kernel
theorem dX0_lineUp_130 : decode cX0_lineUp 130 = .ok (.iload 6, 2) := by decide +kernel
theorem dX0_lineUp_132 : decode cX0_lineUp 132 = .ok (.iload 5, 2) := by decide +kernel
theorem dX0_lineUp_134 : decode cX0_lineUp 134 = .ok (.iastore, 1) := by decide +kernel
theorem dX0_lineUp_135 : decode cX0_lineUp 135 = .ok (.iinc 3 1, 3) := by decide +kernel
theorem dX0_lineUp_138 : decode cX0_lineUp 138 = .ok (.iinc 4 1, 3) := by decide +kernel
theorem dX0_lineUp_141 : decode cX0_lineUp 141 = .ok (.goto (-136), 3) := by decide +kernel
theorem dX0_lineUp_144 : decode cX0_lineUp 144 = .ok (.iload_n 3, 1) := by decide +kernel
theorem dX0_lineUp_145 : decode cX0_lineUp 145 = .ok (.ireturn, 1) := by decide +kernel
theorem dX0_reachOf_0 : decode cX0_reachOf 0 = .ok (.aload_n 0, 1) := by decide +kernel
theorem dX0_reachOf_1 : decode cX0_reachOf 1 = .ok (.aload_n 1, 1) := by decide +kernel
theorem dX0_reachOf_2 : decode cX0_reachOf 2 = .ok (.iload_n 2, 1) := by decide +kernel
theorem dX0_reachOf_3 : decode cX0_reachOf 3 = .ok (.invokevirtual 150, 3) := by decide +kernel
theorem dX0_reachOf_6 : decode cX0_reachOf 6 = .ok (.aload_n 0, 1) := by decide +kernel
theorem dX0_reachOf_7 : decode cX0_reachOf 7 = .ok (.getfield 15, 3) := by decide +kernel
theorem dX0_reachOf_10 : decode cX0_reachOf 10 = .ok (.bipush 118, 2) := by decide +kernel
theorem dX0_reachOf_12 : decode cX0_reachOf 12 = .ok (.iconst 3, 1) := by decide +kernel
theorem dX0_reachOf_13 : decode cX0_reachOf 13 = .ok (.invokevirtual 59, 3) := by decide +kernel
theorem dX0_reachOf_16 : decode cX0_reachOf 16 = .ok (.ireturn, 1) := by decide +kernel
theorem dX0_shadowsAt_0 : decode cX0_shadowsAt 0 = .ok (.aload_n 0, 1) := by decide +kernel
theorem dX0_shadowsAt_1 : decode cX0_shadowsAt 1 = .ok (.aload_n 1, 1) := by decide +kernel
theorem dX0_shadowsAt_2 : decode cX0_shadowsAt 2 = .ok (.invokevirtual 128, 3) := by decide +kernel
theorem dX0_shadowsAt_5 : decode cX0_shadowsAt 5 = .ok (.aload_n 0, 1) := by decide +kernel
theorem dX0_shadowsAt_6 : decode cX0_shadowsAt 6 = .ok (.getfield 26, 3) := by decide +kernel
theorem dX0_shadowsAt_9 : decode cX0_shadowsAt 9 = .ok (.iload_n 2, 1) := by decide +kernel
theorem dX0_shadowsAt_10 : decode cX0_shadowsAt 10 = .ok (.invokevirtual 131, 3) := by decide +kernel
theorem dX0_shadowsAt_13 : decode cX0_shadowsAt 13 = .ok (.ireturn, 1) := by decide +kernel
theorem dX0_spotsInLampShadows_0 : decode cX0_spotsInLampShadows 0 = .ok (.aload_n 0, 1) := by decide +kernel
theorem dX0_spotsInLampShadows_1 : decode cX0_spotsInLampShadows 1 = .ok (.aload_n 1, 1) := by decide +kernel
theorem dX0_spotsInLampShadows_2 : decode cX0_spotsInLampShadows 2 = .ok (.iconst 0, 1) := by decide +kernel
theorem dX0_spotsInLampShadows_3 : decode cX0_spotsInLampShadows 3 = .ok (.iconst 1, 1) := by decide +kernel
theorem dX0_spotsInLampShadows_4 : decode cX0_spotsInLampShadows 4 = .ok (.invokevirtual 70, 3) := by decide +kernel
theorem dX0_spotsInLampShadows_7 : decode cX0_spotsInLampShadows 7 = .ok (.aload_n 0, 1) := by decide +kernel
theorem dX0_spotsInLampShadows_8 : decode cX0_spotsInLampShadows 8 = .ok (.aload_n 1, 1) := by decide +kernel
theorem dX0_spotsInLampShadows_9 : decode cX0_spotsInLampShadows 9 = .ok (.iload_n 2, 1) := by decide +kernel
theorem dX0_spotsInLampShadows_10 : decode cX0_spotsInLampShadows 10 = .ok (.invokevirtual 111, 3) := by decide +kernel
theorem dX0_spotsInLampShadows_13 : decode cX0_spotsInLampShadows 13 = .ok (.aload_n 0, 1) := by decide +kernel
theorem dX0_spotsInLampShadows_14 : decode cX0_spotsInLampShadows 14 = .ok (.getfield 26, 3) := by decide +kernel
theorem dX0_spotsInLampShadows_17 : decode cX0_spotsInLampShadows 17 = .ok (.getfield 125, 3) := by decide +kernel
theorem dX0_spotsInLampShadows_20 : decode cX0_spotsInLampShadows 20 = .ok (.ireturn, 1) := by decide +kernel
theorem dX0_tellFelon_0 : decode cX0_tellFelon 0 = .ok (.aload_n 1, 1) := by decide +kernel
theorem dX0_tellFelon_1 : decode cX0_tellFelon 1 = .ok (.iload_n 2, 1) := by decide +kernel
theorem dX0_tellFelon_2 : decode cX0_tellFelon 2 = .ok (.invokevirtual 134, 3) := by decide +kernel
theorem dX0_tellFelon_5 : decode cX0_tellFelon 5 = .ok (.ifCond .eq 51, 3) := by decide +kernel
theorem dX0_tellFelon_8 : decode cX0_tellFelon 8 = .ok (.aload_n 0, 1) := by decide +kernel
theorem dX0_tellFelon_9 : decode cX0_tellFelon 9 = .ok (.getfield 9, 3) := by decide +kernel
theorem dX0_tellFelon_12 : decode cX0_tellFelon 12 = .ok (.aload_n 1, 1) := by decide +kernel
theorem dX0_tellFelon_13 : decode cX0_tellFelon 13 = .ok (.getfield 137, 3) := by decide +kernel
theorem dX0_tellFelon_16 : decode cX0_tellFelon 16 = .ok (.iload_n 2, 1) := by decide +kernel
theorem dX0_tellFelon_17 : decode cX0_tellFelon 17 = .ok (.iaload, 1) := by decide +kernel
theorem dX0_tellFelon_18 : decode cX0_tellFelon 18 = .ok (.invokevirtual 118, 3) := by decide +kernel
theorem dX0_tellFelon_21 : decode cX0_tellFelon 21 = .ok (.iconst 2, 1) := by decide +kernel
theorem dX0_tellFelon_22 : decode cX0_tellFelon 22 = .ok (.if_icmp .ne 7, 3) := by decide +kernel
theorem dX0_tellFelon_25 : decode cX0_tellFelon 25 = .ok (.iconst 1, 1) := by decide +kernel
theorem dX0_tellFelon_26 : decode cX0_tellFelon 26 = .ok (.goto 4, 3) := by decide +kernel
theorem dX0_tellFelon_29 : decode cX0_tellFelon 29 = .ok (.iconst 0, 1) := by decide +kernel
theorem dX0_tellFelon_30 : decode cX0_tellFelon 30 = .ok (.istore_n 3, 1) := by decide +kernel
theorem dX0_tellFelon_31 : decode cX0_tellFelon 31 = .ok (.aload_n 0, 1) := by decide +kernel
theorem dX0_tellFelon_32 : decode cX0_tellFelon 32 = .ok (.getfield 15, 3) := by decide +kernel
theorem dX0_tellFelon_35 : decode cX0_tellFelon 35 = .ok (.aload_n 1, 1) := by decide +kernel
theorem dX0_tellFelon_36 : decode cX0_tellFelon 36 = .ok (.getfield 42, 3) := by decide +kernel
theorem dX0_tellFelon_39 : decode cX0_tellFelon 39 = .ok (.iload_n 2, 1) := by decide +kernel
theorem dX0_tellFelon_40 : decode cX0_tellFelon 40 = .ok (.aload_n 1, 1) := by decide +kernel
theorem dX0_tellFelon_41 : decode cX0_tellFelon 41 = .ok (.getfield 140, 3) := by decide +kernel
theorem dX0_tellFelon_44 : decode cX0_tellFelon 44 = .ok (.iload_n 2, 1) := by decide +kernel
theorem dX0_tellFelon_45 : decode cX0_tellFelon 45 = .ok (.iaload, 1) := by decide +kernel
theorem dX0_tellFelon_46 : decode cX0_tellFelon 46 = .ok (.aload_n 1, 1) := by decide +kernel
theorem dX0_tellFelon_47 : decode cX0_tellFelon 47 = .ok (.getfield 143, 3) := by decide +kernel
theorem dX0_tellFelon_50 : decode cX0_tellFelon 50 = .ok (.iload_n 2, 1) := by decide +kernel
theorem dX0_tellFelon_51 : decode cX0_tellFelon 51 = .ok (.iaload, 1) := by decide +kernel
theorem dX0_tellFelon_52 : decode cX0_tellFelon 52 = .ok (.iload_n 3, 1) := by decide +kernel
theorem dX0_tellFelon_53 : decode cX0_tellFelon 53 = .ok (.invokevirtual 146, 3) := by decide +kernel
theorem dX0_tellFelon_56 : decode cX0_tellFelon 56 = .ok (.return_, 1) := by decide +kernel
theorem dX0_walkOn_0 : decode cX0_walkOn 0 = .ok (.aload_n 1, 1) := by decide +kernel
theorem dX0_walkOn_1 : decode cX0_walkOn 1 = .ok (.getfield 42, 3) := by decide +kernel
theorem dX0_walkOn_4 : decode cX0_walkOn 4 = .ok (.sipush 9999, 3) := by decide +kernel
theorem dX0_walkOn_7 : decode cX0_walkOn 7 = .ok (.if_icmp .lt 5, 3) := by decide +kernel
theorem dX0_walkOn_10 : decode cX0_walkOn 10 = .ok (.iconst 0, 1) := by decide +kernel
theorem dX0_walkOn_11 : decode cX0_walkOn 11 = .ok (.ireturn, 1) := by decide +kernel
theorem dX0_walkOn_12 : decode cX0_walkOn 12 = .ok (.aload_n 0, 1) := by decide +kernel
theorem dX0_walkOn_13 : decode cX0_walkOn 13 = .ok (.aload_n 1, 1) := by decide +kernel
theorem dX0_walkOn_14 : decode cX0_walkOn 14 = .ok (.invokevirtual 46, 3) := by decide +kernel
theorem dX0_walkOn_17 : decode cX0_walkOn 17 = .ok (.aload_n 0, 1) := by decide +kernel
theorem dX0_walkOn_18 : decode cX0_walkOn 18 = .ok (.aload_n 1, 1) := by decide +kernel
theorem dX0_walkOn_19 : decode cX0_walkOn 19 = .ok (.iconst 1, 1) := by decide +kernel
theorem dX0_walkOn_20 : decode cX0_walkOn 20 = .ok (.iconst 0, 1) := by decide +kernel
theorem dX0_walkOn_21 : decode cX0_walkOn 21 = .ok (.invokevirtual 70, 3) := by decide +kernel
theorem dX0_walkOn_24 : decode cX0_walkOn 24 = .ok (.aload_n 1, 1) := by decide +kernel
theorem dX0_walkOn_25 : decode cX0_walkOn 25 = .ok (.dup, 1) := by decide +kernel
theorem dX0_walkOn_26 : decode cX0_walkOn 26 = .ok (.getfield 42, 3) := by decide +kernel
theorem dX0_walkOn_29 : decode cX0_walkOn 29 = .ok (.iconst 1, 1) := by decide +kernel
theorem dX0_walkOn_30 : decode cX0_walkOn 30 = .ok (.iadd, 1) := by decide +kernel
theorem dX0_walkOn_31 : decode cX0_walkOn 31 = .ok (.putfield 42, 3) := by decide +kernel
theorem dX0_walkOn_34 : decode cX0_walkOn 34 = .ok (.iconst 1, 1) := by decide +kernel
theorem dX0_walkOn_35 : decode cX0_walkOn 35 = .ok (.ireturn, 1) := by decide +kernel
theorem dX10_bitsOfTold_0 : decode cX10_bitsOfTold 0 = .ok (.iconst 0, 1) := by decide +kernel
theorem dX10_bitsOfTold_1 : decode cX10_bitsOfTold 1 = .ok (.istore_n 1, 1) := by decide +kernel
theorem dX10_bitsOfTold_2 : decode cX10_bitsOfTold 2 = .ok (.iconst 0, 1) := by decide +kernel
theorem dX10_bitsOfTold_3 : decode cX10_bitsOfTold 3 = .ok (.istore_n 2, 1) := by decide +kernel
theorem dX10_bitsOfTold_4 : decode cX10_bitsOfTold 4 = .ok (.iload_n 2, 1) := by decide +kernel
theorem dX10_bitsOfTold_5 : decode cX10_bitsOfTold 5 = .ok (.aload_n 0, 1) := by decide +kernel
theorem dX10_bitsOfTold_6 : decode cX10_bitsOfTold 6 = .ok (.arraylength, 1) := by decide +kernel
theorem dX10_bitsOfTold_7 : decode cX10_bitsOfTold 7 = .ok (.if_icmp .ge 22, 3) := by decide +kernel
theorem dX10_bitsOfTold_10 : decode cX10_bitsOfTold 10 = .ok (.aload_n 0, 1) := by decide +kernel
theorem dX10_bitsOfTold_11 : decode cX10_bitsOfTold 11 = .ok (.iload_n 2, 1) := by decide +kernel
theorem dX10_bitsOfTold_12 : decode cX10_bitsOfTold 12 = .ok (.iaload, 1) := by decide +kernel
theorem dX10_bitsOfTold_13 : decode cX10_bitsOfTold 13 = .ok (.iconst (-1), 1) := by decide +kernel
theorem dX10_bitsOfTold_14 : decode cX10_bitsOfTold 14 = .ok (.if_icmp .eq 9, 3) := by decide +kernel
theorem dX10_bitsOfTold_17 : decode cX10_bitsOfTold 17 = .ok (.iload_n 1, 1) := by decide +kernel
theorem dX10_bitsOfTold_18 : decode cX10_bitsOfTold 18 = .ok (.iconst 1, 1) := by decide +kernel
theorem dX10_bitsOfTold_19 : decode cX10_bitsOfTold 19 = .ok (.iload_n 2, 1) := by decide +kernel
theorem dX10_bitsOfTold_20 : decode cX10_bitsOfTold 20 = .ok (.ishl, 1) := by decide +kernel
theorem dX10_bitsOfTold_21 : decode cX10_bitsOfTold 21 = .ok (.ior, 1) := by decide +kernel
theorem dX10_bitsOfTold_22 : decode cX10_bitsOfTold 22 = .ok (.istore_n 1, 1) := by decide +kernel
theorem dX10_bitsOfTold_23 : decode cX10_bitsOfTold 23 = .ok (.iinc 2 1, 3) := by decide +kernel
theorem dX10_bitsOfTold_26 : decode cX10_bitsOfTold 26 = .ok (.goto (-22), 3) := by decide +kernel
theorem dX10_bitsOfTold_29 : decode cX10_bitsOfTold 29 = .ok (.iload_n 1, 1) := by decide +kernel
theorem dX10_bitsOfTold_30 : decode cX10_bitsOfTold 30 = .ok (.ireturn, 1) := by decide +kernel
theorem dX10_holds_0 : decode cX10_holds 0 = .ok (.iconst 0, 1) := by decide +kernel
theorem dX10_holds_1 : decode cX10_holds 1 = .ok (.istore_n 2, 1) := by decide +kernel
theorem dX10_holds_2 : decode cX10_holds 2 = .ok (.iload_n 2, 1) := by decide +kernel
theorem dX10_holds_3 : decode cX10_holds 3 = .ok (.aload_n 0, 1) := by decide +kernel
theorem dX10_holds_4 : decode cX10_holds 4 = .ok (.arraylength, 1) := by decide +kernel
theorem dX10_holds_5 : decode cX10_holds 5 = .ok (.if_icmp .ge 18, 3) := by decide +kernel
theorem dX10_holds_8 : decode cX10_holds 8 = .ok (.aload_n 0, 1) := by decide +kernel
theorem dX10_holds_9 : decode cX10_holds 9 = .ok (.iload_n 2, 1) := by decide +kernel
theorem dX10_holds_10 : decode cX10_holds 10 = .ok (.iaload, 1) := by decide +kernel
theorem dX10_holds_11 : decode cX10_holds 11 = .ok (.iload_n 1, 1) := by decide +kernel
theorem dX10_holds_12 : decode cX10_holds 12 = .ok (.if_icmp .ne 5, 3) := by decide +kernel
theorem dX10_holds_15 : decode cX10_holds 15 = .ok (.iconst 1, 1) := by decide +kernel
theorem dX10_holds_16 : decode cX10_holds 16 = .ok (.ireturn, 1) := by decide +kernel
theorem dX10_holds_17 : decode cX10_holds 17 = .ok (.iinc 2 1, 3) := by decide +kernel
theorem dX10_holds_20 : decode cX10_holds 20 = .ok (.goto (-18), 3) := by decide +kernel
theorem dX10_holds_23 : decode cX10_holds 23 = .ok (.iconst 0, 1) := by decide +kernel
theorem dX10_holds_24 : decode cX10_holds 24 = .ok (.ireturn, 1) := by decide +kernel
theorem dX10_isIn_0 : decode cX10_isIn 0 = .ok (.iload_n 0, 1) := by decide +kernel
theorem dX10_isIn_1 : decode cX10_isIn 1 = .ok (.iload_n 1, 1) := by decide +kernel
theorem dX10_isIn_2 : decode cX10_isIn 2 = .ok (.if_icmp .lt 12, 3) := by decide +kernel
theorem dX10_isIn_5 : decode cX10_isIn 5 = .ok (.iload_n 0, 1) := by decide +kernel
theorem dX10_isIn_6 : decode cX10_isIn 6 = .ok (.iload_n 2, 1) := by decide +kernel
theorem dX10_isIn_7 : decode cX10_isIn 7 = .ok (.if_icmp .gt 7, 3) := by decide +kernel
theorem dX10_isIn_10 : decode cX10_isIn 10 = .ok (.iconst 1, 1) := by decide +kernel
theorem dX10_isIn_11 : decode cX10_isIn 11 = .ok (.goto 4, 3) := by decide +kernel
theorem dX10_isIn_14 : decode cX10_isIn 14 = .ok (.iconst 0, 1) := by decide +kernel
theorem dX10_isIn_15 : decode cX10_isIn 15 = .ok (.ireturn, 1) := by decide +kernel
theorem dX7_clear_0 : decode cX7_clear 0 = .ok (.iconst 0, 1) := by decide +kernel
theorem dX7_clear_1 : decode cX7_clear 1 = .ok (.istore_n 1, 1) := by decide +kernel
theorem dX7_clear_2 : decode cX7_clear 2 = .ok (.iload_n 1, 1) := by decide +kernel
theorem dX7_clear_3 : decode cX7_clear 3 = .ok (.aload_n 0, 1) := by decide +kernel
theorem dX7_clear_4 : decode cX7_clear 4 = .ok (.getfield 22, 3) := by decide +kernel
theorem dX7_clear_7 : decode cX7_clear 7 = .ok (.if_icmp .ge 43, 3) := by decide +kernel
theorem dX7_clear_10 : decode cX7_clear 10 = .ok (.iload_n 1, 1) := by decide +kernel
theorem dX7_clear_11 : decode cX7_clear 11 = .ok (.bipush 100, 2) := by decide +kernel
theorem dX7_clear_13 : decode cX7_clear 13 = .ok (.if_icmp .ge 37, 3) := by decide +kernel
theorem dX7_clear_16 : decode cX7_clear 16 = .ok (.aload_n 0, 1) := by decide +kernel
theorem dX7_clear_17 : decode cX7_clear 17 = .ok (.getfield 15, 3) := by decide +kernel
theorem dX7_clear_20 : decode cX7_clear 20 = .ok (.iload_n 1, 1) := by decide +kernel
theorem dX7_clear_21 : decode cX7_clear 21 = .ok (.iaload, 1) := by decide +kernel
theorem dX7_clear_22 : decode cX7_clear 22 = .ok (.istore_n 2, 1) := by decide +kernel
theorem dX7_clear_23 : decode cX7_clear 23 = .ok (.iload_n 2, 1) := by decide +kernel
theorem dX7_clear_24 : decode cX7_clear 24 = .ok (.invokestatic 26, 3) := by decide +kernel
theorem dX7_clear_27 : decode cX7_clear 27 = .ok (.ifCond .eq 17, 3) := by decide +kernel
theorem dX7_clear_30 : decode cX7_clear 30 = .ok (.aload_n 0, 1) := by decide +kernel
theorem dX7_clear_31 : decode cX7_clear 31 = .ok (.getfield 9, 3) := by decide +kernel
theorem dX7_clear_34 : decode cX7_clear 34 = .ok (.iload_n 2, 1) := by decide +kernel
theorem dX7_clear_35 : decode cX7_clear 35 = .ok (.iconst 0, 1) := by decide +kernel
theorem dX7_clear_36 : decode cX7_clear 36 = .ok (.iastore, 1) := by decide +kernel
theorem dX7_clear_37 : decode cX7_clear 37 = .ok (.aload_n 0, 1) := by decide +kernel
theorem dX7_clear_38 : decode cX7_clear 38 = .ok (.getfield 18, 3) := by decide +kernel
theorem dX7_clear_41 : decode cX7_clear 41 = .ok (.iload_n 2, 1) := by decide +kernel
theorem dX7_clear_42 : decode cX7_clear 42 = .ok (.iconst 0, 1) := by decide +kernel
theorem dX7_clear_43 : decode cX7_clear 43 = .ok (.bastore, 1) := by decide +kernel
theorem dX7_clear_44 : decode cX7_clear 44 = .ok (.iinc 1 1, 3) := by decide +kernel
theorem dX7_clear_47 : decode cX7_clear 47 = .ok (.goto (-45), 3) := by decide +kernel
theorem dX7_clear_50 : decode cX7_clear 50 = .ok (.aload_n 0, 1) := by decide +kernel
theorem dX7_clear_51 : decode cX7_clear 51 = .ok (.iconst 0, 1) := by decide +kernel
theorem dX7_clear_52 : decode cX7_clear 52 = .ok (.putfield 22, 3) := by decide +kernel
theorem dX7_clear_55 : decode cX7_clear 55 = .ok (.return_, 1) := by decide +kernel
theorem dX7_fall_0 : decode cX7_fall 0 = .ok (.iload_n 2, 1) := by decide +kernel
theorem dX7_fall_1 : decode cX7_fall 1 = .ok (.istore 5, 2) := by decide +kernel
theorem dX7_fall_3 : decode cX7_fall 3 = .ok (.iconst 0, 1) := by decide +kernel
theorem dX7_fall_4 : decode cX7_fall 4 = .ok (.istore 6, 2) := by decide +kernel
theorem dX7_fall_6 : decode cX7_fall 6 = .ok (.iload 6, 2) := by decide +kernel
theorem dX7_fall_8 : decode cX7_fall 8 = .ok (.iload 4, 2) := by decide +kernel
theorem dX7_fall_10 : decode cX7_fall 10 = .ok (.if_icmp .ge 87, 3) := by decide +kernel
theorem dX7_fall_13 : decode cX7_fall 13 = .ok (.iload 5, 2) := by decide +kernel
theorem dX7_fall_15 : decode cX7_fall 15 = .ok (.iload_n 3, 1) := by decide +kernel
theorem dX7_fall_16 : decode cX7_fall 16 = .ok (.invokestatic 32, 3) := by decide +kernel
theorem dX7_fall_19 : decode cX7_fall 19 = .ok (.istore 5, 2) := by decide +kernel
theorem dX7_fall_21 : decode cX7_fall 21 = .ok (.aload_n 1, 1) := by decide +kernel
theorem dX7_fall_22 : decode cX7_fall 22 = .ok (.iload 5, 2) := by decide +kernel
theorem dX7_fall_24 : decode cX7_fall 24 = .ok (.invokevirtual 36, 3) := by decide +kernel
theorem dX7_fall_27 : decode cX7_fall 27 = .ok (.iconst 1, 1) := by decide +kernel
theorem dX7_fall_28 : decode cX7_fall 28 = .ok (.if_icmp .eq 11, 3) := by decide +kernel
theorem dX7_fall_31 : decode cX7_fall 31 = .ok (.iload 5, 2) := by decide +kernel
theorem dX7_fall_33 : decode cX7_fall 33 = .ok (.invokestatic 26, 3) := by decide +kernel
theorem dX7_fall_36 : decode cX7_fall 36 = .ok (.ifCond .ne 4, 3) := by decide +kernel
theorem dX7_fall_39 : decode cX7_fall 39 = .ok (.return_, 1) := by decide +kernel
theorem dX7_fall_40 : decode cX7_fall 40 = .ok (.aload_n 0, 1) := by decide +kernel
theorem dX7_fall_41 : decode cX7_fall 41 = .ok (.getfield 9, 3) := by decide +kernel
theorem dX7_fall_44 : decode cX7_fall 44 = .ok (.iload 5, 2) := by decide +kernel
theorem dX7_fall_46 : decode cX7_fall 46 = .ok (.iaload, 1) := by decide +kernel
theorem dX7_fall_47 : decode cX7_fall 47 = .ok (.ifCond .ne 33, 3) := by decide +kernel
theorem dX7_fall_50 : decode cX7_fall 50 = .ok (.aload_n 0, 1) := by decide +kernel
theorem dX7_fall_51 : decode cX7_fall 51 = .ok (.getfield 22, 3) := by decide +kernel
theorem dX7_fall_54 : decode cX7_fall 54 = .ok (.bipush 100, 2) := by decide +kernel
theorem dX7_fall_56 : decode cX7_fall 56 = .ok (.if_icmp .ge 24, 3) := by decide +kernel
theorem dX7_fall_59 : decode cX7_fall 59 = .ok (.aload_n 0, 1) := by decide +kernel
theorem dX7_fall_60 : decode cX7_fall 60 = .ok (.getfield 15, 3) := by decide +kernel
theorem dX7_fall_63 : decode cX7_fall 63 = .ok (.aload_n 0, 1) := by decide +kernel
theorem dX7_fall_64 : decode cX7_fall 64 = .ok (.getfield 22, 3) := by decide +kernel
theorem dX7_fall_67 : decode cX7_fall 67 = .ok (.iload 5, 2) := by decide +kernel
theorem dX7_fall_69 : decode cX7_fall 69 = .ok (.iastore, 1) := by decide +kernel
theorem dX7_fall_70 : decode cX7_fall 70 = .ok (.aload_n 0, 1) := by decide +kernel
theorem dX7_fall_71 : decode cX7_fall 71 = .ok (.dup, 1) := by decide +kernel
theorem dX7_fall_72 : decode cX7_fall 72 = .ok (.getfield 22, 3) := by decide +kernel
theorem dX7_fall_75 : decode cX7_fall 75 = .ok (.iconst 1, 1) := by decide +kernel
theorem dX7_fall_76 : decode cX7_fall 76 = .ok (.iadd, 1) := by decide +kernel
theorem dX7_fall_77 : decode cX7_fall 77 = .ok (.putfield 22, 3) := by decide +kernel
theorem dX7_fall_80 : decode cX7_fall 80 = .ok (.aload_n 0, 1) := by decide +kernel
theorem dX7_fall_81 : decode cX7_fall 81 = .ok (.getfield 9, 3) := by decide +kernel
theorem dX7_fall_84 : decode cX7_fall 84 = .ok (.iload 5, 2) := by decide +kernel
theorem dX7_fall_86 : decode cX7_fall 86 = .ok (.dup2, 1) := by decide +kernel
theorem dX7_fall_87 : decode cX7_fall 87 = .ok (.iaload, 1) := by decide +kernel
theorem dX7_fall_88 : decode cX7_fall 88 = .ok (.iconst 1, 1) := by decide +kernel
theorem dX7_fall_89 : decode cX7_fall 89 = .ok (.iadd, 1) := by decide +kernel
theorem dX7_fall_90 : decode cX7_fall 90 = .ok (.iastore, 1) := by decide +kernel
theorem dX7_fall_91 : decode cX7_fall 91 = .ok (.iinc 6 1, 3) := by decide +kernel
theorem dX7_fall_94 : decode cX7_fall 94 = .ok (.goto (-88), 3) := by decide +kernel
theorem dX7_fall_97 : decode cX7_fall 97 = .ok (.return_, 1) := by decide +kernel
theorem dX7_howManyInMore_0 : decode cX7_howManyInMore 0 = .ok (.iconst 0, 1) := by decide +kernel
theorem dX7_howManyInMore_1 : decode cX7_howManyInMore 1 = .ok (.istore_n 1, 1) := by decide +kernel
theorem dX7_howManyInMore_2 : decode cX7_howManyInMore 2 = .ok (.iconst 0, 1) := by decide +kernel
theorem dX7_howManyInMore_3 : decode cX7_howManyInMore 3 = .ok (.istore_n 2, 1) := by decide +kernel
theorem dX7_howManyInMore_4 : decode cX7_howManyInMore 4 = .ok (.iload_n 2, 1) := by decide +kernel
theorem dX7_howManyInMore_5 : decode cX7_howManyInMore 5 = .ok (.aload_n 0, 1) := by decide +kernel
theorem dX7_howManyInMore_6 : decode cX7_howManyInMore 6 = .ok (.getfield 22, 3) := by decide +kernel
theorem dX7_howManyInMore_9 : decode cX7_howManyInMore 9 = .ok (.if_icmp .ge 37, 3) := by decide +kernel
theorem dX7_howManyInMore_12 : decode cX7_howManyInMore 12 = .ok (.iload_n 2, 1) := by decide +kernel
theorem dX7_howManyInMore_13 : decode cX7_howManyInMore 13 = .ok (.bipush 100, 2) := by decide +kernel
theorem dX7_howManyInMore_15 : decode cX7_howManyInMore 15 = .ok (.if_icmp .ge 31, 3) := by decide +kernel
theorem dX7_howManyInMore_18 : decode cX7_howManyInMore 18 = .ok (.iload_n 1, 1) := by decide +kernel
theorem dX7_howManyInMore_19 : decode cX7_howManyInMore 19 = .ok (.aload_n 0, 1) := by decide +kernel
theorem dX7_howManyInMore_20 : decode cX7_howManyInMore 20 = .ok (.aload_n 0, 1) := by decide +kernel
theorem dX7_howManyInMore_21 : decode cX7_howManyInMore 21 = .ok (.getfield 15, 3) := by decide +kernel
theorem dX7_howManyInMore_24 : decode cX7_howManyInMore 24 = .ok (.iload_n 2, 1) := by decide +kernel
theorem dX7_howManyInMore_25 : decode cX7_howManyInMore 25 = .ok (.iaload, 1) := by decide +kernel
theorem dX7_howManyInMore_26 : decode cX7_howManyInMore 26 = .ok (.invokevirtual 40, 3) := by decide +kernel
theorem dX7_howManyInMore_29 : decode cX7_howManyInMore 29 = .ok (.iconst 1, 1) := by decide +kernel
theorem dX7_howManyInMore_30 : decode cX7_howManyInMore 30 = .ok (.if_icmp .le 7, 3) := by decide +kernel
theorem dX7_howManyInMore_33 : decode cX7_howManyInMore 33 = .ok (.iconst 1, 1) := by decide +kernel
theorem dX7_howManyInMore_34 : decode cX7_howManyInMore 34 = .ok (.goto 4, 3) := by decide +kernel
theorem dX7_howManyInMore_37 : decode cX7_howManyInMore 37 = .ok (.iconst 0, 1) := by decide +kernel
theorem dX7_howManyInMore_38 : decode cX7_howManyInMore 38 = .ok (.iadd, 1) := by decide +kernel
theorem dX7_howManyInMore_39 : decode cX7_howManyInMore 39 = .ok (.istore_n 1, 1) := by decide +kernel
theorem dX7_howManyInMore_40 : decode cX7_howManyInMore 40 = .ok (.iinc 2 1, 3) := by decide +kernel
theorem dX7_howManyInMore_43 : decode cX7_howManyInMore 43 = .ok (.goto (-39), 3) := by decide +kernel
theorem dX7_howManyInMore_46 : decode cX7_howManyInMore 46 = .ok (.iload_n 1, 1) := by decide +kernel
theorem dX7_howManyInMore_47 : decode cX7_howManyInMore 47 = .ok (.ireturn, 1) := by decide +kernel
theorem dX7_layersAt_0 : decode cX7_layersAt 0 = .ok (.iload_n 1, 1) := by decide +kernel
theorem dX7_layersAt_1 : decode cX7_layersAt 1 = .ok (.invokestatic 26, 3) := by decide +kernel
theorem dX7_layersAt_4 : decode cX7_layersAt 4 = .ok (.ifCond .eq 12, 3) := by decide +kernel
theorem dX7_layersAt_7 : decode cX7_layersAt 7 = .ok (.aload_n 0, 1) := by decide +kernel
theorem dX7_layersAt_8 : decode cX7_layersAt 8 = .ok (.getfield 9, 3) := by decide +kernel
theorem dX7_layersAt_11 : decode cX7_layersAt 11 = .ok (.iload_n 1, 1) := by decide +kernel
theorem dX7_layersAt_12 : decode cX7_layersAt 12 = .ok (.iaload, 1) := by decide +kernel
theorem dX7_layersAt_13 : decode cX7_layersAt 13 = .ok (.goto 4, 3) := by decide +kernel
theorem dX7_layersAt_16 : decode cX7_layersAt 16 = .ok (.iconst 0, 1) := by decide +kernel
theorem dX7_layersAt_17 : decode cX7_layersAt 17 = .ok (.ireturn, 1) := by decide +kernel
