theorem cf_X10_atOnce : xCF yX10_atOnce cX10_atOnce 2 (some .int) 1 := ⟨xq 953 (by decide +kernel) rfl, xq 168 (by decide +kernel) rfl, by decide +kernel⟩
theorem cf_X10_check : xCF yX10_check cX10_check 4 (some .int) 1 := ⟨xq 1166 (by decide +kernel) rfl, xq 168 (by decide +kernel) rfl, by decide +kernel⟩
theorem cf_X10_cloudy : xCF yX10_cloudy cX10_cloudy 5 (some .int) 3 := ⟨xq 1112 (by decide +kernel) rfl, xq 168 (by decide +kernel) rfl, by decide +kernel⟩
theorem cf_X10_count : xCF yX10_count cX10_count 2 (some .int) 1 := ⟨xq 1175 (by decide +kernel) rfl, xq 168 (by decide +kernel) rfl, by decide +kernel⟩
theorem cf_X10_dark : xCF yX10_dark cX10_dark 4 (some .int) 2 := ⟨xq 1045 (by decide +kernel) rfl, xq 168 (by decide +kernel) rfl, by decide +kernel⟩
theorem cf_X10_feed : xCF yX10_feed cX10_feed 6 (some .int) 5 := ⟨xq 552 (by decide +kernel) rfl, xq 168 (by decide +kernel) rfl, by decide +kernel⟩
theorem cf_X10_felon : xCF yX10_felon cX10_felon 6 (some .boolean) 4 := ⟨xq 750 (by decide +kernel) rfl, xq 168 (by decide +kernel) rfl, by decide +kernel⟩
theorem cf_X10_felonIs : xCF yX10_felonIs cX10_felonIs 3 (some .int) 2 := ⟨xq 935 (by decide +kernel) rfl, xq 168 (by decide +kernel) rfl, by decide +kernel⟩
theorem cf_X10_fewest : xCF yX10_fewest cX10_fewest 4 (some .int) 3 := ⟨xq 984 (by decide +kernel) rfl, xq 168 (by decide +kernel) rfl, by decide +kernel⟩
theorem cf_X10_first : xCF yX10_first cX10_first 4 (some .int) 2 := ⟨xq 1036 (by decide +kernel) rfl, xq 168 (by decide +kernel) rfl, by decide +kernel⟩
theorem cf_X10_home : xCF yX10_home cX10_home 5 (some .int) 3 := ⟨xq 1017 (by decide +kernel) rfl, xq 168 (by decide +kernel) rfl, by decide +kernel⟩
theorem cf_X10_hung : xCF yX10_hung cX10_hung 6 (some .int) 1 := ⟨xq 1062 (by decide +kernel) rfl, xq 168 (by decide +kernel) rfl, by decide +kernel⟩
theorem cf_X10_judge : xCF yX10_judge cX10_judge 5 (some .boolean) 3 := ⟨xq 702 (by decide +kernel) rfl, xq 168 (by decide +kernel) rfl, by decide +kernel⟩
theorem cf_X10_keep : xCF yX10_keep cX10_keep 1 (some .int) 0 := ⟨xq 1157 (by decide +kernel) rfl, xq 168 (by decide +kernel) rfl, by decide +kernel⟩
theorem cf_X10_lamp : xCF yX10_lamp cX10_lamp 5 (some .boolean) 3 := ⟨xq 754 (by decide +kernel) rfl, xq 168 (by decide +kernel) rfl, by decide +kernel⟩
theorem cf_X10_law : xCF yX10_law cX10_law 3 (some .int) 1 := ⟨xq 632 (by decide +kernel) rfl, xq 168 (by decide +kernel) rfl, by decide +kernel⟩
theorem cf_X10_market : xCF yX10_market cX10_market 3 (some .int) 1 := ⟨xq 560 (by decide +kernel) rfl, xq 168 (by decide +kernel) rfl, by decide +kernel⟩
theorem cf_X10_minutes : xCF yX10_minutes cX10_minutes 2 (some .int) 1 := ⟨xq 758 (by decide +kernel) rfl, xq 168 (by decide +kernel) rfl, by decide +kernel⟩
theorem cf_X10_prints : xCF yX10_prints cX10_prints 4 (some .int) 2 := ⟨xq 1077 (by decide +kernel) rfl, xq 168 (by decide +kernel) rfl, by decide +kernel⟩
theorem cf_X10_seed : xCF yX10_seed cX10_seed 2 (some .boolean) 1 := ⟨xq 1152 (by decide +kernel) rfl, xq 168 (by decide +kernel) rfl, by decide +kernel⟩
theorem cf_X10_servedBy : xCF yX10_servedBy cX10_servedBy 4 (some .int) 2 := ⟨xq 1148 (by decide +kernel) rfl, xq 168 (by decide +kernel) rfl, by decide +kernel⟩
theorem cf_X10_shade : xCF yX10_shade cX10_shade 4 (some .int) 2 := ⟨xq 948 (by decide +kernel) rfl, xq 168 (by decide +kernel) rfl, by decide +kernel⟩
theorem cf_X10_together : xCF yX10_together cX10_together 5 (some .int) 2 := ⟨xq 1124 (by decide +kernel) rfl, xq 168 (by decide +kernel) rfl, by decide +kernel⟩
theorem cf_X10_tried : xCF yX10_tried cX10_tried 5 (some .int) 2 := ⟨xq 905 (by decide +kernel) rfl, xq 168 (by decide +kernel) rfl, by decide +kernel⟩
theorem cf_X10_undo : xCF yX10_undo cX10_undo 1 (some .boolean) 0 := ⟨xq 1162 (by decide +kernel) rfl, xq 168 (by decide +kernel) rfl, by decide +kernel⟩
theorem cf_X10_walk : xCF yX10_walk cX10_walk 4 (some .int) 2 := ⟨xq 714 (by decide +kernel) rfl, xq 168 (by decide +kernel) rfl, by decide +kernel⟩
theorem cf_X11_atOnce : xCF yX11_atOnce cX11_atOnce 4 (some .int) 1 := ⟨xq 1667 (by decide +kernel) rfl, xq 179 (by decide +kernel) rfl, by decide +kernel⟩
theorem cf_X11_check : xCF yX11_check cX11_check 3 (some .int) 1 := ⟨xq 1773 (by decide +kernel) rfl, xq 179 (by decide +kernel) rfl, by decide +kernel⟩
theorem cf_X11_cloudy : xCF yX11_cloudy cX11_cloudy 10 (some .int) 3 := ⟨xq 1741 (by decide +kernel) rfl, xq 179 (by decide +kernel) rfl, by decide +kernel⟩
theorem cf_X11_count : xCF yX11_count cX11_count 2 (some .int) 1 := ⟨xq 1781 (by decide +kernel) rfl, xq 179 (by decide +kernel) rfl, by decide +kernel⟩
theorem cf_X11_dark : xCF yX11_dark cX11_dark 6 (some .int) 2 := ⟨xq 1721 (by decide +kernel) rfl, xq 179 (by decide +kernel) rfl, by decide +kernel⟩
theorem cf_X11_feed : xCF yX11_feed cX11_feed 6 (some .int) 5 := ⟨xq 1373 (by decide +kernel) rfl, xq 179 (by decide +kernel) rfl, by decide +kernel⟩
theorem cf_X11_felon : xCF yX11_felon cX11_felon 5 (some .boolean) 4 := ⟨xq 1435 (by decide +kernel) rfl, xq 179 (by decide +kernel) rfl, by decide +kernel⟩
theorem cf_X11_felonIs : xCF yX11_felonIs cX11_felonIs 3 (some .int) 2 := ⟨xq 1659 (by decide +kernel) rfl, xq 179 (by decide +kernel) rfl, by decide +kernel⟩
theorem cf_X11_fewest : xCF yX11_fewest cX11_fewest 6 (some .int) 3 := ⟨xq 1682 (by decide +kernel) rfl, xq 179 (by decide +kernel) rfl, by decide +kernel⟩
theorem cf_X11_first : xCF yX11_first cX11_first 7 (some .int) 2 := ⟨xq 1713 (by decide +kernel) rfl, xq 179 (by decide +kernel) rfl, by decide +kernel⟩
theorem cf_X11_home : xCF yX11_home cX11_home 9 (some .int) 3 := ⟨xq 1694 (by decide +kernel) rfl, xq 179 (by decide +kernel) rfl, by decide +kernel⟩
theorem cf_X11_hung : xCF yX11_hung cX11_hung 7 (some .int) 1 := ⟨xq 1705 (by decide +kernel) rfl, xq 179 (by decide +kernel) rfl, by decide +kernel⟩
theorem cf_X11_judge : xCF yX11_judge cX11_judge 4 (some .boolean) 3 := ⟨xq 1428 (by decide +kernel) rfl, xq 179 (by decide +kernel) rfl, by decide +kernel⟩
theorem cf_X11_keep : xCF yX11_keep cX11_keep 1 (some .int) 0 := ⟨xq 1762 (by decide +kernel) rfl, xq 179 (by decide +kernel) rfl, by decide +kernel⟩
theorem cf_X11_lamp : xCF yX11_lamp cX11_lamp 4 (some .boolean) 3 := ⟨xq 1439 (by decide +kernel) rfl, xq 179 (by decide +kernel) rfl, by decide +kernel⟩
theorem cf_X11_law : xCF yX11_law cX11_law 4 (some .int) 1 := ⟨xq 1462 (by decide +kernel) rfl, xq 179 (by decide +kernel) rfl, by decide +kernel⟩
theorem cf_X11_market : xCF yX11_market cX11_market 5 (some .int) 1 := ⟨xq 1381 (by decide +kernel) rfl, xq 179 (by decide +kernel) rfl, by decide +kernel⟩
theorem cf_X11_minutes : xCF yX11_minutes cX11_minutes 2 (some .int) 1 := ⟨xq 1536 (by decide +kernel) rfl, xq 179 (by decide +kernel) rfl, by decide +kernel⟩
theorem cf_X11_prints : xCF yX11_prints cX11_prints 6 (some .int) 2 := ⟨xq 1729 (by decide +kernel) rfl, xq 179 (by decide +kernel) rfl, by decide +kernel⟩
theorem cf_X11_seed : xCF yX11_seed cX11_seed 2 (some .boolean) 1 := ⟨xq 1757 (by decide +kernel) rfl, xq 179 (by decide +kernel) rfl, by decide +kernel⟩
theorem cf_X11_servedBy : xCF yX11_servedBy cX11_servedBy 3 (some .int) 2 := ⟨xq 1753 (by decide +kernel) rfl, xq 179 (by decide +kernel) rfl, by decide +kernel⟩
theorem cf_X11_shade : xCF yX11_shade cX11_shade 3 (some .int) 2 := ⟨xq 1663 (by decide +kernel) rfl, xq 179 (by decide +kernel) rfl, by decide +kernel⟩
theorem cf_X11_together : xCF yX11_together cX11_together 8 (some .int) 2 := ⟨xq 1745 (by decide +kernel) rfl, xq 179 (by decide +kernel) rfl, by decide +kernel⟩
theorem cf_X11_tried : xCF yX11_tried cX11_tried 5 (some .int) 2 := ⟨xq 1645 (by decide +kernel) rfl, xq 179 (by decide +kernel) rfl, by decide +kernel⟩
theorem cf_X11_undo : xCF yX11_undo cX11_undo 1 (some .boolean) 0 := ⟨xq 1769 (by decide +kernel) rfl, xq 179 (by decide +kernel) rfl, by decide +kernel⟩
theorem cf_X11_walk : xCF yX11_walk cX11_walk 5 (some .int) 2 := ⟨xq 1443 (by decide +kernel) rfl, xq 179 (by decide +kernel) rfl, by decide +kernel⟩
theorem wq168 : Cond.initialized "ShadowCourt" ∈ xTB := xq 168 (by decide +kernel) rfl
theorem wq179 : Cond.initialized "ShadowCourtModel" ∈ xTB := xq 179 (by decide +kernel) rfl
theorem wq182 : Cond.classLink "ShadowCourtLaw" (7) "ShadowCourt" ∈ xTB := xq 182 (by decide +kernel) rfl
theorem wq183 : Cond.instantiable "ShadowCourt" (12) ∈ xTB := xq 183 (by decide +kernel) rfl
theorem wq184 : Cond.methodLink "ShadowCourtLaw" (9) yX10_init ∈ xTB := xq 184 (by decide +kernel) rfl
theorem wq185 : Cond.instanceMethod yX10_init ∈ xTB := xq 185 (by decide +kernel) rfl
theorem wq549 : Cond.methodLink "ShadowCourtLaw" (13) yX10_feed ∈ xTB := xq 549 (by decide +kernel) rfl
theorem wq550 : Cond.instanceMethod yX10_feed ∈ xTB := xq 550 (by decide +kernel) rfl
theorem wq551 : Cond.selects "ShadowCourt" yX10_feed yX10_feed ∈ xTB := xq 551 (by decide +kernel) rfl
theorem wq557 : Cond.methodLink "ShadowCourtLaw" (18) yX10_market ∈ xTB := xq 557 (by decide +kernel) rfl
theorem wq558 : Cond.instanceMethod yX10_market ∈ xTB := xq 558 (by decide +kernel) rfl
theorem wq559 : Cond.selects "ShadowCourt" yX10_market yX10_market ∈ xTB := xq 559 (by decide +kernel) rfl
theorem wq629 : Cond.methodLink "ShadowCourtLaw" (23) yX10_law ∈ xTB := xq 629 (by decide +kernel) rfl
theorem wq630 : Cond.instanceMethod yX10_law ∈ xTB := xq 630 (by decide +kernel) rfl
theorem wq631 : Cond.selects "ShadowCourt" yX10_law yX10_law ∈ xTB := xq 631 (by decide +kernel) rfl
theorem wq699 : Cond.methodLink "ShadowCourtLaw" (27) yX10_judge ∈ xTB := xq 699 (by decide +kernel) rfl
theorem wq700 : Cond.instanceMethod yX10_judge ∈ xTB := xq 700 (by decide +kernel) rfl
theorem wq701 : Cond.selects "ShadowCourt" yX10_judge yX10_judge ∈ xTB := xq 701 (by decide +kernel) rfl
theorem wq711 : Cond.methodLink "ShadowCourtLaw" (32) yX10_walk ∈ xTB := xq 711 (by decide +kernel) rfl
theorem wq712 : Cond.instanceMethod yX10_walk ∈ xTB := xq 712 (by decide +kernel) rfl
theorem wq713 : Cond.selects "ShadowCourt" yX10_walk yX10_walk ∈ xTB := xq 713 (by decide +kernel) rfl
theorem wq747 : Cond.methodLink "ShadowCourtLaw" (37) yX10_felon ∈ xTB := xq 747 (by decide +kernel) rfl
theorem wq748 : Cond.instanceMethod yX10_felon ∈ xTB := xq 748 (by decide +kernel) rfl
theorem wq749 : Cond.selects "ShadowCourt" yX10_felon yX10_felon ∈ xTB := xq 749 (by decide +kernel) rfl
theorem wq751 : Cond.methodLink "ShadowCourtLaw" (42) yX10_lamp ∈ xTB := xq 751 (by decide +kernel) rfl
theorem wq752 : Cond.instanceMethod yX10_lamp ∈ xTB := xq 752 (by decide +kernel) rfl
theorem wq753 : Cond.selects "ShadowCourt" yX10_lamp yX10_lamp ∈ xTB := xq 753 (by decide +kernel) rfl
theorem wq755 : Cond.methodLink "ShadowCourtLaw" (46) yX10_minutes ∈ xTB := xq 755 (by decide +kernel) rfl
theorem wq756 : Cond.instanceMethod yX10_minutes ∈ xTB := xq 756 (by decide +kernel) rfl
theorem wq757 : Cond.selects "ShadowCourt" yX10_minutes yX10_minutes ∈ xTB := xq 757 (by decide +kernel) rfl
theorem wq902 : Cond.methodLink "ShadowCourtLaw" (50) yX10_tried ∈ xTB := xq 902 (by decide +kernel) rfl
theorem wq903 : Cond.instanceMethod yX10_tried ∈ xTB := xq 903 (by decide +kernel) rfl
theorem wq904 : Cond.selects "ShadowCourt" yX10_tried yX10_tried ∈ xTB := xq 904 (by decide +kernel) rfl
theorem wq932 : Cond.methodLink "ShadowCourtLaw" (54) yX10_felonIs ∈ xTB := xq 932 (by decide +kernel) rfl
theorem wq933 : Cond.instanceMethod yX10_felonIs ∈ xTB := xq 933 (by decide +kernel) rfl
theorem wq934 : Cond.selects "ShadowCourt" yX10_felonIs yX10_felonIs ∈ xTB := xq 934 (by decide +kernel) rfl
theorem wq945 : Cond.methodLink "ShadowCourtLaw" (58) yX10_shade ∈ xTB := xq 945 (by decide +kernel) rfl
theorem wq946 : Cond.instanceMethod yX10_shade ∈ xTB := xq 946 (by decide +kernel) rfl
theorem wq947 : Cond.selects "ShadowCourt" yX10_shade yX10_shade ∈ xTB := xq 947 (by decide +kernel) rfl
theorem wq950 : Cond.methodLink "ShadowCourtLaw" (62) yX10_atOnce ∈ xTB := xq 950 (by decide +kernel) rfl
theorem wq951 : Cond.instanceMethod yX10_atOnce ∈ xTB := xq 951 (by decide +kernel) rfl
theorem wq952 : Cond.selects "ShadowCourt" yX10_atOnce yX10_atOnce ∈ xTB := xq 952 (by decide +kernel) rfl
theorem wq981 : Cond.methodLink "ShadowCourtLaw" (66) yX10_fewest ∈ xTB := xq 981 (by decide +kernel) rfl
theorem wq982 : Cond.instanceMethod yX10_fewest ∈ xTB := xq 982 (by decide +kernel) rfl
theorem wq983 : Cond.selects "ShadowCourt" yX10_fewest yX10_fewest ∈ xTB := xq 983 (by decide +kernel) rfl
theorem wq1014 : Cond.methodLink "ShadowCourtLaw" (71) yX10_home ∈ xTB := xq 1014 (by decide +kernel) rfl
theorem wq1015 : Cond.instanceMethod yX10_home ∈ xTB := xq 1015 (by decide +kernel) rfl
theorem wq1016 : Cond.selects "ShadowCourt" yX10_home yX10_home ∈ xTB := xq 1016 (by decide +kernel) rfl
theorem wq1033 : Cond.methodLink "ShadowCourtLaw" (75) yX10_first ∈ xTB := xq 1033 (by decide +kernel) rfl
theorem wq1034 : Cond.instanceMethod yX10_first ∈ xTB := xq 1034 (by decide +kernel) rfl
theorem wq1035 : Cond.selects "ShadowCourt" yX10_first yX10_first ∈ xTB := xq 1035 (by decide +kernel) rfl
theorem wq1042 : Cond.methodLink "ShadowCourtLaw" (79) yX10_dark ∈ xTB := xq 1042 (by decide +kernel) rfl
theorem wq1043 : Cond.instanceMethod yX10_dark ∈ xTB := xq 1043 (by decide +kernel) rfl
theorem wq1044 : Cond.selects "ShadowCourt" yX10_dark yX10_dark ∈ xTB := xq 1044 (by decide +kernel) rfl
theorem wq1059 : Cond.methodLink "ShadowCourtLaw" (83) yX10_hung ∈ xTB := xq 1059 (by decide +kernel) rfl
theorem wq1060 : Cond.instanceMethod yX10_hung ∈ xTB := xq 1060 (by decide +kernel) rfl
theorem wq1061 : Cond.selects "ShadowCourt" yX10_hung yX10_hung ∈ xTB := xq 1061 (by decide +kernel) rfl
theorem wq1074 : Cond.methodLink "ShadowCourtLaw" (87) yX10_prints ∈ xTB := xq 1074 (by decide +kernel) rfl
theorem wq1075 : Cond.instanceMethod yX10_prints ∈ xTB := xq 1075 (by decide +kernel) rfl
theorem wq1076 : Cond.selects "ShadowCourt" yX10_prints yX10_prints ∈ xTB := xq 1076 (by decide +kernel) rfl
theorem wq1109 : Cond.methodLink "ShadowCourtLaw" (91) yX10_cloudy ∈ xTB := xq 1109 (by decide +kernel) rfl
theorem wq1110 : Cond.instanceMethod yX10_cloudy ∈ xTB := xq 1110 (by decide +kernel) rfl
theorem wq1111 : Cond.selects "ShadowCourt" yX10_cloudy yX10_cloudy ∈ xTB := xq 1111 (by decide +kernel) rfl
theorem wq1121 : Cond.methodLink "ShadowCourtLaw" (95) yX10_together ∈ xTB := xq 1121 (by decide +kernel) rfl
theorem wq1122 : Cond.instanceMethod yX10_together ∈ xTB := xq 1122 (by decide +kernel) rfl
theorem wq1123 : Cond.selects "ShadowCourt" yX10_together yX10_together ∈ xTB := xq 1123 (by decide +kernel) rfl
theorem wq1145 : Cond.methodLink "ShadowCourtLaw" (99) yX10_servedBy ∈ xTB := xq 1145 (by decide +kernel) rfl
theorem wq1146 : Cond.instanceMethod yX10_servedBy ∈ xTB := xq 1146 (by decide +kernel) rfl
theorem wq1147 : Cond.selects "ShadowCourt" yX10_servedBy yX10_servedBy ∈ xTB := xq 1147 (by decide +kernel) rfl
theorem wq1149 : Cond.methodLink "ShadowCourtLaw" (103) yX10_seed ∈ xTB := xq 1149 (by decide +kernel) rfl
theorem wq1150 : Cond.instanceMethod yX10_seed ∈ xTB := xq 1150 (by decide +kernel) rfl
theorem wq1151 : Cond.selects "ShadowCourt" yX10_seed yX10_seed ∈ xTB := xq 1151 (by decide +kernel) rfl
theorem wq1154 : Cond.methodLink "ShadowCourtLaw" (108) yX10_keep ∈ xTB := xq 1154 (by decide +kernel) rfl
theorem wq1155 : Cond.instanceMethod yX10_keep ∈ xTB := xq 1155 (by decide +kernel) rfl
theorem wq1156 : Cond.selects "ShadowCourt" yX10_keep yX10_keep ∈ xTB := xq 1156 (by decide +kernel) rfl
theorem wq1159 : Cond.methodLink "ShadowCourtLaw" (113) yX10_undo ∈ xTB := xq 1159 (by decide +kernel) rfl
theorem wq1160 : Cond.instanceMethod yX10_undo ∈ xTB := xq 1160 (by decide +kernel) rfl
theorem wq1161 : Cond.selects "ShadowCourt" yX10_undo yX10_undo ∈ xTB := xq 1161 (by decide +kernel) rfl
theorem wq1163 : Cond.methodLink "ShadowCourtLaw" (118) yX10_check ∈ xTB := xq 1163 (by decide +kernel) rfl
theorem wq1164 : Cond.instanceMethod yX10_check ∈ xTB := xq 1164 (by decide +kernel) rfl
theorem wq1165 : Cond.selects "ShadowCourt" yX10_check yX10_check ∈ xTB := xq 1165 (by decide +kernel) rfl
theorem wq1172 : Cond.methodLink "ShadowCourtLaw" (122) yX10_count ∈ xTB := xq 1172 (by decide +kernel) rfl
theorem wq1173 : Cond.instanceMethod yX10_count ∈ xTB := xq 1173 (by decide +kernel) rfl
theorem wq1174 : Cond.selects "ShadowCourt" yX10_count yX10_count ∈ xTB := xq 1174 (by decide +kernel) rfl
theorem wq1179 : Cond.classLink "ShadowCourtLaw" (10) "ShadowCourtModel" ∈ xTB := xq 1179 (by decide +kernel) rfl
theorem wq1180 : Cond.instantiable "ShadowCourtModel" (61) ∈ xTB := xq 1180 (by decide +kernel) rfl
theorem wq1181 : Cond.methodLink "ShadowCourtLaw" (12) yX11_init ∈ xTB := xq 1181 (by decide +kernel) rfl
theorem wq1182 : Cond.instanceMethod yX11_init ∈ xTB := xq 1182 (by decide +kernel) rfl
theorem wq1370 : Cond.methodLink "ShadowCourtLaw" (17) yX11_feed ∈ xTB := xq 1370 (by decide +kernel) rfl
theorem wq1371 : Cond.instanceMethod yX11_feed ∈ xTB := xq 1371 (by decide +kernel) rfl
theorem wq1372 : Cond.selects "ShadowCourtModel" yX11_feed yX11_feed ∈ xTB := xq 1372 (by decide +kernel) rfl
theorem wq1378 : Cond.methodLink "ShadowCourtLaw" (22) yX11_market ∈ xTB := xq 1378 (by decide +kernel) rfl
theorem wq1379 : Cond.instanceMethod yX11_market ∈ xTB := xq 1379 (by decide +kernel) rfl
theorem wq1380 : Cond.selects "ShadowCourtModel" yX11_market yX11_market ∈ xTB := xq 1380 (by decide +kernel) rfl
theorem wq1425 : Cond.methodLink "ShadowCourtLaw" (31) yX11_judge ∈ xTB := xq 1425 (by decide +kernel) rfl
theorem wq1426 : Cond.instanceMethod yX11_judge ∈ xTB := xq 1426 (by decide +kernel) rfl
theorem wq1427 : Cond.selects "ShadowCourtModel" yX11_judge yX11_judge ∈ xTB := xq 1427 (by decide +kernel) rfl
theorem wq1432 : Cond.methodLink "ShadowCourtLaw" (41) yX11_felon ∈ xTB := xq 1432 (by decide +kernel) rfl
theorem wq1433 : Cond.instanceMethod yX11_felon ∈ xTB := xq 1433 (by decide +kernel) rfl
theorem wq1434 : Cond.selects "ShadowCourtModel" yX11_felon yX11_felon ∈ xTB := xq 1434 (by decide +kernel) rfl
theorem wq1436 : Cond.methodLink "ShadowCourtLaw" (45) yX11_lamp ∈ xTB := xq 1436 (by decide +kernel) rfl
theorem wq1437 : Cond.instanceMethod yX11_lamp ∈ xTB := xq 1437 (by decide +kernel) rfl
theorem wq1438 : Cond.selects "ShadowCourtModel" yX11_lamp yX11_lamp ∈ xTB := xq 1438 (by decide +kernel) rfl
theorem wq1440 : Cond.methodLink "ShadowCourtLaw" (36) yX11_walk ∈ xTB := xq 1440 (by decide +kernel) rfl
theorem wq1441 : Cond.instanceMethod yX11_walk ∈ xTB := xq 1441 (by decide +kernel) rfl
theorem wq1442 : Cond.selects "ShadowCourtModel" yX11_walk yX11_walk ∈ xTB := xq 1442 (by decide +kernel) rfl
theorem wq1459 : Cond.methodLink "ShadowCourtLaw" (26) yX11_law ∈ xTB := xq 1459 (by decide +kernel) rfl
theorem wq1460 : Cond.instanceMethod yX11_law ∈ xTB := xq 1460 (by decide +kernel) rfl
theorem wq1461 : Cond.selects "ShadowCourtModel" yX11_law yX11_law ∈ xTB := xq 1461 (by decide +kernel) rfl
theorem wq1533 : Cond.methodLink "ShadowCourtLaw" (49) yX11_minutes ∈ xTB := xq 1533 (by decide +kernel) rfl
theorem wq1534 : Cond.instanceMethod yX11_minutes ∈ xTB := xq 1534 (by decide +kernel) rfl
theorem wq1535 : Cond.selects "ShadowCourtModel" yX11_minutes yX11_minutes ∈ xTB := xq 1535 (by decide +kernel) rfl
theorem wq1642 : Cond.methodLink "ShadowCourtLaw" (53) yX11_tried ∈ xTB := xq 1642 (by decide +kernel) rfl
theorem wq1643 : Cond.instanceMethod yX11_tried ∈ xTB := xq 1643 (by decide +kernel) rfl
theorem wq1644 : Cond.selects "ShadowCourtModel" yX11_tried yX11_tried ∈ xTB := xq 1644 (by decide +kernel) rfl
theorem wq1656 : Cond.methodLink "ShadowCourtLaw" (57) yX11_felonIs ∈ xTB := xq 1656 (by decide +kernel) rfl
theorem wq1657 : Cond.instanceMethod yX11_felonIs ∈ xTB := xq 1657 (by decide +kernel) rfl
theorem wq1658 : Cond.selects "ShadowCourtModel" yX11_felonIs yX11_felonIs ∈ xTB := xq 1658 (by decide +kernel) rfl
theorem wq1660 : Cond.methodLink "ShadowCourtLaw" (61) yX11_shade ∈ xTB := xq 1660 (by decide +kernel) rfl
theorem wq1661 : Cond.instanceMethod yX11_shade ∈ xTB := xq 1661 (by decide +kernel) rfl
theorem wq1662 : Cond.selects "ShadowCourtModel" yX11_shade yX11_shade ∈ xTB := xq 1662 (by decide +kernel) rfl
theorem wq1664 : Cond.methodLink "ShadowCourtLaw" (65) yX11_atOnce ∈ xTB := xq 1664 (by decide +kernel) rfl
theorem wq1665 : Cond.instanceMethod yX11_atOnce ∈ xTB := xq 1665 (by decide +kernel) rfl
theorem wq1666 : Cond.selects "ShadowCourtModel" yX11_atOnce yX11_atOnce ∈ xTB := xq 1666 (by decide +kernel) rfl
theorem wq1679 : Cond.methodLink "ShadowCourtLaw" (70) yX11_fewest ∈ xTB := xq 1679 (by decide +kernel) rfl
theorem wq1680 : Cond.instanceMethod yX11_fewest ∈ xTB := xq 1680 (by decide +kernel) rfl
theorem wq1681 : Cond.selects "ShadowCourtModel" yX11_fewest yX11_fewest ∈ xTB := xq 1681 (by decide +kernel) rfl
theorem wq1691 : Cond.methodLink "ShadowCourtLaw" (74) yX11_home ∈ xTB := xq 1691 (by decide +kernel) rfl
theorem wq1692 : Cond.instanceMethod yX11_home ∈ xTB := xq 1692 (by decide +kernel) rfl
theorem wq1693 : Cond.selects "ShadowCourtModel" yX11_home yX11_home ∈ xTB := xq 1693 (by decide +kernel) rfl
theorem wq1702 : Cond.methodLink "ShadowCourtLaw" (86) yX11_hung ∈ xTB := xq 1702 (by decide +kernel) rfl
theorem wq1703 : Cond.instanceMethod yX11_hung ∈ xTB := xq 1703 (by decide +kernel) rfl
theorem wq1704 : Cond.selects "ShadowCourtModel" yX11_hung yX11_hung ∈ xTB := xq 1704 (by decide +kernel) rfl
theorem wq1710 : Cond.methodLink "ShadowCourtLaw" (78) yX11_first ∈ xTB := xq 1710 (by decide +kernel) rfl
theorem wq1711 : Cond.instanceMethod yX11_first ∈ xTB := xq 1711 (by decide +kernel) rfl
theorem wq1712 : Cond.selects "ShadowCourtModel" yX11_first yX11_first ∈ xTB := xq 1712 (by decide +kernel) rfl
theorem wq1718 : Cond.methodLink "ShadowCourtLaw" (82) yX11_dark ∈ xTB := xq 1718 (by decide +kernel) rfl
theorem wq1719 : Cond.instanceMethod yX11_dark ∈ xTB := xq 1719 (by decide +kernel) rfl
theorem wq1720 : Cond.selects "ShadowCourtModel" yX11_dark yX11_dark ∈ xTB := xq 1720 (by decide +kernel) rfl
theorem wq1726 : Cond.methodLink "ShadowCourtLaw" (90) yX11_prints ∈ xTB := xq 1726 (by decide +kernel) rfl
theorem wq1727 : Cond.instanceMethod yX11_prints ∈ xTB := xq 1727 (by decide +kernel) rfl
theorem wq1728 : Cond.selects "ShadowCourtModel" yX11_prints yX11_prints ∈ xTB := xq 1728 (by decide +kernel) rfl
theorem wq1738 : Cond.methodLink "ShadowCourtLaw" (94) yX11_cloudy ∈ xTB := xq 1738 (by decide +kernel) rfl
theorem wq1739 : Cond.instanceMethod yX11_cloudy ∈ xTB := xq 1739 (by decide +kernel) rfl
theorem wq1740 : Cond.selects "ShadowCourtModel" yX11_cloudy yX11_cloudy ∈ xTB := xq 1740 (by decide +kernel) rfl
theorem wq1742 : Cond.methodLink "ShadowCourtLaw" (98) yX11_together ∈ xTB := xq 1742 (by decide +kernel) rfl
theorem wq1743 : Cond.instanceMethod yX11_together ∈ xTB := xq 1743 (by decide +kernel) rfl
theorem wq1744 : Cond.selects "ShadowCourtModel" yX11_together yX11_together ∈ xTB := xq 1744 (by decide +kernel) rfl
theorem wq1750 : Cond.methodLink "ShadowCourtLaw" (102) yX11_servedBy ∈ xTB := xq 1750 (by decide +kernel) rfl
theorem wq1751 : Cond.instanceMethod yX11_servedBy ∈ xTB := xq 1751 (by decide +kernel) rfl
theorem wq1752 : Cond.selects "ShadowCourtModel" yX11_servedBy yX11_servedBy ∈ xTB := xq 1752 (by decide +kernel) rfl
theorem wq1754 : Cond.methodLink "ShadowCourtLaw" (107) yX11_seed ∈ xTB := xq 1754 (by decide +kernel) rfl
theorem wq1755 : Cond.instanceMethod yX11_seed ∈ xTB := xq 1755 (by decide +kernel) rfl
theorem wq1756 : Cond.selects "ShadowCourtModel" yX11_seed yX11_seed ∈ xTB := xq 1756 (by decide +kernel) rfl
theorem wq1759 : Cond.methodLink "ShadowCourtLaw" (112) yX11_keep ∈ xTB := xq 1759 (by decide +kernel) rfl
theorem wq1760 : Cond.instanceMethod yX11_keep ∈ xTB := xq 1760 (by decide +kernel) rfl
theorem wq1761 : Cond.selects "ShadowCourtModel" yX11_keep yX11_keep ∈ xTB := xq 1761 (by decide +kernel) rfl
theorem wq1766 : Cond.methodLink "ShadowCourtLaw" (117) yX11_undo ∈ xTB := xq 1766 (by decide +kernel) rfl
theorem wq1767 : Cond.instanceMethod yX11_undo ∈ xTB := xq 1767 (by decide +kernel) rfl
theorem wq1768 : Cond.selects "ShadowCourtModel" yX11_undo yX11_undo ∈ xTB := xq 1768 (by decide +kernel) rfl
theorem wq1770 : Cond.methodLink "ShadowCourtLaw" (121) yX11_check ∈ xTB := xq 1770 (by decide +kernel) rfl
theorem wq1771 : Cond.instanceMethod yX11_check ∈ xTB := xq 1771 (by decide +kernel) rfl
theorem wq1772 : Cond.selects "ShadowCourtModel" yX11_check yX11_check ∈ xTB := xq 1772 (by decide +kernel) rfl
theorem wq1778 : Cond.methodLink "ShadowCourtLaw" (125) yX11_count ∈ xTB := xq 1778 (by decide +kernel) rfl
theorem wq1779 : Cond.instanceMethod yX11_count ∈ xTB := xq 1779 (by decide +kernel) rfl
theorem wq1780 : Cond.selects "ShadowCourtModel" yX11_count yX11_count ∈ xTB := xq 1780 (by decide +kernel) rfl
theorem dL_law_0 : decode cL_law 0 = .ok (.new 7, 3) := by decide +kernel
theorem dL_law_3 : decode cL_law 3 = .ok (.dup, 1) := by decide +kernel
theorem dL_law_4 : decode cL_law 4 = .ok (.invokespecial 9, 3) := by decide +kernel
theorem dL_law_7 : decode cL_law 7 = .ok (.astore_n 1, 1) := by decide +kernel
theorem dL_law_8 : decode cL_law 8 = .ok (.new 10, 3) := by decide +kernel
theorem dL_law_11 : decode cL_law 11 = .ok (.dup, 1) := by decide +kernel
theorem dL_law_12 : decode cL_law 12 = .ok (.invokespecial 12, 3) := by decide +kernel
theorem dL_law_15 : decode cL_law 15 = .ok (.astore_n 2, 1) := by decide +kernel
theorem dL_law_16 : decode cL_law 16 = .ok (.iconst 0, 1) := by decide +kernel
theorem dL_law_17 : decode cL_law 17 = .ok (.istore_n 3, 1) := by decide +kernel
theorem dL_law_18 : decode cL_law 18 = .ok (.iload_n 3, 1) := by decide +kernel
theorem dL_law_19 : decode cL_law 19 = .ok (.aload_n 0, 1) := by decide +kernel
theorem dL_law_20 : decode cL_law 20 = .ok (.arraylength, 1) := by decide +kernel
theorem dL_law_21 : decode cL_law 21 = .ok (.bipush 6, 2) := by decide +kernel
theorem dL_law_23 : decode cL_law 23 = .ok (.isub, 1) := by decide +kernel
theorem dL_law_24 : decode cL_law 24 = .ok (.if_icmp .gt 972, 3) := by decide +kernel
theorem dL_law_27 : decode cL_law 27 = .ok (.aload_n 0, 1) := by decide +kernel
theorem dL_law_28 : decode cL_law 28 = .ok (.iload_n 3, 1) := by decide +kernel
theorem dL_law_29 : decode cL_law 29 = .ok (.iaload, 1) := by decide +kernel
theorem dL_law_30 : decode cL_law 30 = .ok (.bipush 31, 2) := by decide +kernel
theorem dL_law_32 : decode cL_law 32 = .ok (.iand, 1) := by decide +kernel
theorem dL_law_33 : decode cL_law 33 = .ok (.tableswitch 957 0 25 #[119, 182, 205, 228, 271, 304, 357, 400, 423, 456, 489, 522, 545, 588, 631, 664, 697, 720, 753, 796, 829, 862, 885, 898, 911, 934], 119) := by decide +kernel
theorem dL_law_152 : decode cL_law 152 = .ok (.aload_n 1, 1) := by decide +kernel
theorem dL_law_153 : decode cL_law 153 = .ok (.aload_n 0, 1) := by decide +kernel
theorem dL_law_154 : decode cL_law 154 = .ok (.iload_n 3, 1) := by decide +kernel
theorem dL_law_155 : decode cL_law 155 = .ok (.iconst 1, 1) := by decide +kernel
theorem dL_law_156 : decode cL_law 156 = .ok (.iadd, 1) := by decide +kernel
theorem dL_law_157 : decode cL_law 157 = .ok (.iaload, 1) := by decide +kernel
theorem dL_law_158 : decode cL_law 158 = .ok (.aload_n 0, 1) := by decide +kernel
theorem dL_law_159 : decode cL_law 159 = .ok (.iload_n 3, 1) := by decide +kernel
theorem dL_law_160 : decode cL_law 160 = .ok (.iconst 2, 1) := by decide +kernel
theorem dL_law_161 : decode cL_law 161 = .ok (.iadd, 1) := by decide +kernel
theorem dL_law_162 : decode cL_law 162 = .ok (.iaload, 1) := by decide +kernel
theorem dL_law_163 : decode cL_law 163 = .ok (.aload_n 0, 1) := by decide +kernel
theorem dL_law_164 : decode cL_law 164 = .ok (.iload_n 3, 1) := by decide +kernel
theorem dL_law_165 : decode cL_law 165 = .ok (.iconst 3, 1) := by decide +kernel
theorem dL_law_166 : decode cL_law 166 = .ok (.iadd, 1) := by decide +kernel
theorem dL_law_167 : decode cL_law 167 = .ok (.iaload, 1) := by decide +kernel
theorem dL_law_168 : decode cL_law 168 = .ok (.aload_n 0, 1) := by decide +kernel
theorem dL_law_169 : decode cL_law 169 = .ok (.iload_n 3, 1) := by decide +kernel
theorem dL_law_170 : decode cL_law 170 = .ok (.iconst 4, 1) := by decide +kernel
theorem dL_law_171 : decode cL_law 171 = .ok (.iadd, 1) := by decide +kernel
theorem dL_law_172 : decode cL_law 172 = .ok (.iaload, 1) := by decide +kernel
theorem dL_law_173 : decode cL_law 173 = .ok (.aload_n 0, 1) := by decide +kernel
theorem dL_law_174 : decode cL_law 174 = .ok (.iload_n 3, 1) := by decide +kernel
theorem dL_law_175 : decode cL_law 175 = .ok (.iconst 5, 1) := by decide +kernel
theorem dL_law_176 : decode cL_law 176 = .ok (.iadd, 1) := by decide +kernel
theorem dL_law_177 : decode cL_law 177 = .ok (.iaload, 1) := by decide +kernel
theorem dL_law_178 : decode cL_law 178 = .ok (.invokevirtual 13, 3) := by decide +kernel
theorem dL_law_181 : decode cL_law 181 = .ok (.pop, 1) := by decide +kernel
theorem dL_law_182 : decode cL_law 182 = .ok (.aload_n 2, 1) := by decide +kernel
theorem dL_law_183 : decode cL_law 183 = .ok (.aload_n 0, 1) := by decide +kernel
theorem dL_law_184 : decode cL_law 184 = .ok (.iload_n 3, 1) := by decide +kernel
theorem dL_law_185 : decode cL_law 185 = .ok (.iconst 1, 1) := by decide +kernel
theorem dL_law_186 : decode cL_law 186 = .ok (.iadd, 1) := by decide +kernel
theorem dL_law_187 : decode cL_law 187 = .ok (.iaload, 1) := by decide +kernel
theorem dL_law_188 : decode cL_law 188 = .ok (.aload_n 0, 1) := by decide +kernel
theorem dL_law_189 : decode cL_law 189 = .ok (.iload_n 3, 1) := by decide +kernel
theorem dL_law_190 : decode cL_law 190 = .ok (.iconst 2, 1) := by decide +kernel
theorem dL_law_191 : decode cL_law 191 = .ok (.iadd, 1) := by decide +kernel
theorem dL_law_192 : decode cL_law 192 = .ok (.iaload, 1) := by decide +kernel
theorem dL_law_193 : decode cL_law 193 = .ok (.aload_n 0, 1) := by decide +kernel
theorem dL_law_194 : decode cL_law 194 = .ok (.iload_n 3, 1) := by decide +kernel
theorem dL_law_195 : decode cL_law 195 = .ok (.iconst 3, 1) := by decide +kernel
theorem dL_law_196 : decode cL_law 196 = .ok (.iadd, 1) := by decide +kernel
theorem dL_law_197 : decode cL_law 197 = .ok (.iaload, 1) := by decide +kernel
theorem dL_law_198 : decode cL_law 198 = .ok (.aload_n 0, 1) := by decide +kernel
theorem dL_law_199 : decode cL_law 199 = .ok (.iload_n 3, 1) := by decide +kernel
theorem dL_law_200 : decode cL_law 200 = .ok (.iconst 4, 1) := by decide +kernel
theorem dL_law_201 : decode cL_law 201 = .ok (.iadd, 1) := by decide +kernel
theorem dL_law_202 : decode cL_law 202 = .ok (.iaload, 1) := by decide +kernel
theorem dL_law_203 : decode cL_law 203 = .ok (.aload_n 0, 1) := by decide +kernel
theorem dL_law_204 : decode cL_law 204 = .ok (.iload_n 3, 1) := by decide +kernel
theorem dL_law_205 : decode cL_law 205 = .ok (.iconst 5, 1) := by decide +kernel
theorem dL_law_206 : decode cL_law 206 = .ok (.iadd, 1) := by decide +kernel
theorem dL_law_207 : decode cL_law 207 = .ok (.iaload, 1) := by decide +kernel
theorem dL_law_208 : decode cL_law 208 = .ok (.invokevirtual 17, 3) := by decide +kernel
theorem dL_law_211 : decode cL_law 211 = .ok (.pop, 1) := by decide +kernel
theorem dL_law_212 : decode cL_law 212 = .ok (.goto 778, 3) := by decide +kernel
theorem dL_law_215 : decode cL_law 215 = .ok (.aload_n 1, 1) := by decide +kernel
theorem dL_law_216 : decode cL_law 216 = .ok (.aload_n 0, 1) := by decide +kernel
theorem dL_law_217 : decode cL_law 217 = .ok (.iload_n 3, 1) := by decide +kernel
theorem dL_law_218 : decode cL_law 218 = .ok (.iconst 1, 1) := by decide +kernel
theorem dL_law_219 : decode cL_law 219 = .ok (.iadd, 1) := by decide +kernel
theorem dL_law_220 : decode cL_law 220 = .ok (.iaload, 1) := by decide +kernel
theorem dL_law_221 : decode cL_law 221 = .ok (.invokevirtual 18, 3) := by decide +kernel
theorem dL_law_224 : decode cL_law 224 = .ok (.pop, 1) := by decide +kernel
theorem dL_law_225 : decode cL_law 225 = .ok (.aload_n 2, 1) := by decide +kernel
theorem dL_law_226 : decode cL_law 226 = .ok (.aload_n 0, 1) := by decide +kernel
theorem dL_law_227 : decode cL_law 227 = .ok (.iload_n 3, 1) := by decide +kernel
theorem dL_law_228 : decode cL_law 228 = .ok (.iconst 1, 1) := by decide +kernel
theorem dL_law_229 : decode cL_law 229 = .ok (.iadd, 1) := by decide +kernel
theorem dL_law_230 : decode cL_law 230 = .ok (.iaload, 1) := by decide +kernel
theorem dL_law_231 : decode cL_law 231 = .ok (.invokevirtual 22, 3) := by decide +kernel
theorem dL_law_234 : decode cL_law 234 = .ok (.pop, 1) := by decide +kernel
theorem dL_law_235 : decode cL_law 235 = .ok (.goto 755, 3) := by decide +kernel
theorem dL_law_238 : decode cL_law 238 = .ok (.aload_n 1, 1) := by decide +kernel
theorem dL_law_239 : decode cL_law 239 = .ok (.aload_n 0, 1) := by decide +kernel
theorem dL_law_240 : decode cL_law 240 = .ok (.iload_n 3, 1) := by decide +kernel
theorem dL_law_241 : decode cL_law 241 = .ok (.iconst 1, 1) := by decide +kernel
theorem dL_law_242 : decode cL_law 242 = .ok (.iadd, 1) := by decide +kernel
theorem dL_law_243 : decode cL_law 243 = .ok (.iaload, 1) := by decide +kernel
theorem dL_law_244 : decode cL_law 244 = .ok (.invokevirtual 23, 3) := by decide +kernel
theorem dL_law_247 : decode cL_law 247 = .ok (.pop, 1) := by decide +kernel
theorem dL_law_248 : decode cL_law 248 = .ok (.aload_n 2, 1) := by decide +kernel
theorem dL_law_249 : decode cL_law 249 = .ok (.aload_n 0, 1) := by decide +kernel
theorem dL_law_250 : decode cL_law 250 = .ok (.iload_n 3, 1) := by decide +kernel
theorem dL_law_251 : decode cL_law 251 = .ok (.iconst 1, 1) := by decide +kernel
theorem dL_law_252 : decode cL_law 252 = .ok (.iadd, 1) := by decide +kernel
theorem dL_law_253 : decode cL_law 253 = .ok (.iaload, 1) := by decide +kernel
theorem dL_law_254 : decode cL_law 254 = .ok (.invokevirtual 26, 3) := by decide +kernel
theorem dL_law_257 : decode cL_law 257 = .ok (.pop, 1) := by decide +kernel
theorem dL_law_258 : decode cL_law 258 = .ok (.goto 732, 3) := by decide +kernel
theorem dL_law_261 : decode cL_law 261 = .ok (.aload_n 1, 1) := by decide +kernel
theorem dL_law_262 : decode cL_law 262 = .ok (.aload_n 0, 1) := by decide +kernel
theorem dL_law_263 : decode cL_law 263 = .ok (.iload_n 3, 1) := by decide +kernel
theorem dL_law_264 : decode cL_law 264 = .ok (.iconst 1, 1) := by decide +kernel
theorem dL_law_265 : decode cL_law 265 = .ok (.iadd, 1) := by decide +kernel
theorem dL_law_266 : decode cL_law 266 = .ok (.iaload, 1) := by decide +kernel
theorem dL_law_267 : decode cL_law 267 = .ok (.aload_n 0, 1) := by decide +kernel
theorem dL_law_268 : decode cL_law 268 = .ok (.iload_n 3, 1) := by decide +kernel
theorem dL_law_269 : decode cL_law 269 = .ok (.iconst 2, 1) := by decide +kernel
theorem dL_law_270 : decode cL_law 270 = .ok (.iadd, 1) := by decide +kernel
theorem dL_law_271 : decode cL_law 271 = .ok (.iaload, 1) := by decide +kernel
theorem dL_law_272 : decode cL_law 272 = .ok (.aload_n 0, 1) := by decide +kernel
theorem dL_law_273 : decode cL_law 273 = .ok (.iload_n 3, 1) := by decide +kernel
theorem dL_law_274 : decode cL_law 274 = .ok (.iconst 3, 1) := by decide +kernel
theorem dL_law_275 : decode cL_law 275 = .ok (.iadd, 1) := by decide +kernel
theorem dL_law_276 : decode cL_law 276 = .ok (.iaload, 1) := by decide +kernel
theorem dL_law_277 : decode cL_law 277 = .ok (.invokevirtual 27, 3) := by decide +kernel
theorem dL_law_280 : decode cL_law 280 = .ok (.pop, 1) := by decide +kernel
theorem dL_law_281 : decode cL_law 281 = .ok (.aload_n 2, 1) := by decide +kernel
theorem dL_law_282 : decode cL_law 282 = .ok (.aload_n 0, 1) := by decide +kernel
theorem dL_law_283 : decode cL_law 283 = .ok (.iload_n 3, 1) := by decide +kernel
theorem dL_law_284 : decode cL_law 284 = .ok (.iconst 1, 1) := by decide +kernel
theorem dL_law_285 : decode cL_law 285 = .ok (.iadd, 1) := by decide +kernel
theorem dL_law_286 : decode cL_law 286 = .ok (.iaload, 1) := by decide +kernel
theorem dL_law_287 : decode cL_law 287 = .ok (.aload_n 0, 1) := by decide +kernel
theorem dL_law_288 : decode cL_law 288 = .ok (.iload_n 3, 1) := by decide +kernel
theorem dL_law_289 : decode cL_law 289 = .ok (.iconst 2, 1) := by decide +kernel
theorem dL_law_290 : decode cL_law 290 = .ok (.iadd, 1) := by decide +kernel
theorem dL_law_291 : decode cL_law 291 = .ok (.iaload, 1) := by decide +kernel
theorem dL_law_292 : decode cL_law 292 = .ok (.aload_n 0, 1) := by decide +kernel
theorem dL_law_293 : decode cL_law 293 = .ok (.iload_n 3, 1) := by decide +kernel
theorem dL_law_294 : decode cL_law 294 = .ok (.iconst 3, 1) := by decide +kernel
theorem dL_law_295 : decode cL_law 295 = .ok (.iadd, 1) := by decide +kernel
theorem dL_law_296 : decode cL_law 296 = .ok (.iaload, 1) := by decide +kernel
theorem dL_law_297 : decode cL_law 297 = .ok (.invokevirtual 31, 3) := by decide +kernel
theorem dL_law_300 : decode cL_law 300 = .ok (.pop, 1) := by decide +kernel
theorem dL_law_301 : decode cL_law 301 = .ok (.goto 689, 3) := by decide +kernel
theorem dL_law_304 : decode cL_law 304 = .ok (.aload_n 1, 1) := by decide +kernel
theorem dL_law_305 : decode cL_law 305 = .ok (.aload_n 0, 1) := by decide +kernel
theorem dL_law_306 : decode cL_law 306 = .ok (.iload_n 3, 1) := by decide +kernel
theorem dL_law_307 : decode cL_law 307 = .ok (.iconst 1, 1) := by decide +kernel
theorem dL_law_308 : decode cL_law 308 = .ok (.iadd, 1) := by decide +kernel
theorem dL_law_309 : decode cL_law 309 = .ok (.iaload, 1) := by decide +kernel
theorem dL_law_310 : decode cL_law 310 = .ok (.aload_n 0, 1) := by decide +kernel
theorem dL_law_311 : decode cL_law 311 = .ok (.iload_n 3, 1) := by decide +kernel
theorem dL_law_312 : decode cL_law 312 = .ok (.iconst 2, 1) := by decide +kernel
theorem dL_law_313 : decode cL_law 313 = .ok (.iadd, 1) := by decide +kernel
theorem dL_law_314 : decode cL_law 314 = .ok (.iaload, 1) := by decide +kernel
theorem dL_law_315 : decode cL_law 315 = .ok (.invokevirtual 32, 3) := by decide +kernel
theorem dL_law_318 : decode cL_law 318 = .ok (.pop, 1) := by decide +kernel
theorem dL_law_319 : decode cL_law 319 = .ok (.aload_n 2, 1) := by decide +kernel
theorem dL_law_320 : decode cL_law 320 = .ok (.aload_n 0, 1) := by decide +kernel
theorem dL_law_321 : decode cL_law 321 = .ok (.iload_n 3, 1) := by decide +kernel
theorem dL_law_322 : decode cL_law 322 = .ok (.iconst 1, 1) := by decide +kernel
theorem dL_law_323 : decode cL_law 323 = .ok (.iadd, 1) := by decide +kernel
theorem dL_law_324 : decode cL_law 324 = .ok (.iaload, 1) := by decide +kernel
theorem dL_law_325 : decode cL_law 325 = .ok (.aload_n 0, 1) := by decide +kernel
theorem dL_law_326 : decode cL_law 326 = .ok (.iload_n 3, 1) := by decide +kernel
theorem dL_law_327 : decode cL_law 327 = .ok (.iconst 2, 1) := by decide +kernel
theorem dL_law_328 : decode cL_law 328 = .ok (.iadd, 1) := by decide +kernel
theorem dL_law_329 : decode cL_law 329 = .ok (.iaload, 1) := by decide +kernel
theorem dL_law_330 : decode cL_law 330 = .ok (.invokevirtual 36, 3) := by decide +kernel
theorem dL_law_333 : decode cL_law 333 = .ok (.pop, 1) := by decide +kernel
theorem dL_law_334 : decode cL_law 334 = .ok (.goto 656, 3) := by decide +kernel
theorem dL_law_337 : decode cL_law 337 = .ok (.aload_n 1, 1) := by decide +kernel
theorem dL_law_338 : decode cL_law 338 = .ok (.aload_n 0, 1) := by decide +kernel
theorem dL_law_339 : decode cL_law 339 = .ok (.iload_n 3, 1) := by decide +kernel
theorem dL_law_340 : decode cL_law 340 = .ok (.iconst 1, 1) := by decide +kernel
theorem dL_law_341 : decode cL_law 341 = .ok (.iadd, 1) := by decide +kernel
theorem dL_law_342 : decode cL_law 342 = .ok (.iaload, 1) := by decide +kernel
theorem dL_law_343 : decode cL_law 343 = .ok (.aload_n 0, 1) := by decide +kernel
theorem dL_law_344 : decode cL_law 344 = .ok (.iload_n 3, 1) := by decide +kernel
theorem dL_law_345 : decode cL_law 345 = .ok (.iconst 2, 1) := by decide +kernel
theorem dL_law_346 : decode cL_law 346 = .ok (.iadd, 1) := by decide +kernel
theorem dL_law_347 : decode cL_law 347 = .ok (.iaload, 1) := by decide +kernel
theorem dL_law_348 : decode cL_law 348 = .ok (.aload_n 0, 1) := by decide +kernel
theorem dL_law_349 : decode cL_law 349 = .ok (.iload_n 3, 1) := by decide +kernel
theorem dL_law_350 : decode cL_law 350 = .ok (.iconst 3, 1) := by decide +kernel
theorem dL_law_351 : decode cL_law 351 = .ok (.iadd, 1) := by decide +kernel
theorem dL_law_352 : decode cL_law 352 = .ok (.iaload, 1) := by decide +kernel
theorem dL_law_353 : decode cL_law 353 = .ok (.aload_n 0, 1) := by decide +kernel
theorem dL_law_354 : decode cL_law 354 = .ok (.iload_n 3, 1) := by decide +kernel
theorem dL_law_355 : decode cL_law 355 = .ok (.iconst 4, 1) := by decide +kernel
theorem dL_law_356 : decode cL_law 356 = .ok (.iadd, 1) := by decide +kernel
theorem dL_law_357 : decode cL_law 357 = .ok (.iaload, 1) := by decide +kernel
theorem dL_law_358 : decode cL_law 358 = .ok (.invokevirtual 37, 3) := by decide +kernel
theorem dL_law_361 : decode cL_law 361 = .ok (.pop, 1) := by decide +kernel
theorem dL_law_362 : decode cL_law 362 = .ok (.aload_n 2, 1) := by decide +kernel
theorem dL_law_363 : decode cL_law 363 = .ok (.aload_n 0, 1) := by decide +kernel
theorem dL_law_364 : decode cL_law 364 = .ok (.iload_n 3, 1) := by decide +kernel
theorem dL_law_365 : decode cL_law 365 = .ok (.iconst 1, 1) := by decide +kernel
theorem dL_law_366 : decode cL_law 366 = .ok (.iadd, 1) := by decide +kernel
theorem dL_law_367 : decode cL_law 367 = .ok (.iaload, 1) := by decide +kernel
theorem dL_law_368 : decode cL_law 368 = .ok (.aload_n 0, 1) := by decide +kernel
theorem dL_law_369 : decode cL_law 369 = .ok (.iload_n 3, 1) := by decide +kernel
theorem dL_law_370 : decode cL_law 370 = .ok (.iconst 2, 1) := by decide +kernel
theorem dL_law_371 : decode cL_law 371 = .ok (.iadd, 1) := by decide +kernel
theorem dL_law_372 : decode cL_law 372 = .ok (.iaload, 1) := by decide +kernel
theorem dL_law_373 : decode cL_law 373 = .ok (.aload_n 0, 1) := by decide +kernel
theorem dL_law_374 : decode cL_law 374 = .ok (.iload_n 3, 1) := by decide +kernel
theorem dL_law_375 : decode cL_law 375 = .ok (.iconst 3, 1) := by decide +kernel
theorem dL_law_376 : decode cL_law 376 = .ok (.iadd, 1) := by decide +kernel
theorem dL_law_377 : decode cL_law 377 = .ok (.iaload, 1) := by decide +kernel
theorem dL_law_378 : decode cL_law 378 = .ok (.aload_n 0, 1) := by decide +kernel
theorem dL_law_379 : decode cL_law 379 = .ok (.iload_n 3, 1) := by decide +kernel
theorem dL_law_380 : decode cL_law 380 = .ok (.iconst 4, 1) := by decide +kernel
theorem dL_law_381 : decode cL_law 381 = .ok (.iadd, 1) := by decide +kernel
theorem dL_law_382 : decode cL_law 382 = .ok (.iaload, 1) := by decide +kernel
theorem dL_law_383 : decode cL_law 383 = .ok (.invokevirtual 41, 3) := by decide +kernel
theorem dL_law_386 : decode cL_law 386 = .ok (.pop, 1) := by decide +kernel
theorem dL_law_387 : decode cL_law 387 = .ok (.goto 603, 3) := by decide +kernel
theorem dL_law_390 : decode cL_law 390 = .ok (.aload_n 1, 1) := by decide +kernel
theorem dL_law_391 : decode cL_law 391 = .ok (.aload_n 0, 1) := by decide +kernel
theorem dL_law_392 : decode cL_law 392 = .ok (.iload_n 3, 1) := by decide +kernel
theorem dL_law_393 : decode cL_law 393 = .ok (.iconst 1, 1) := by decide +kernel
theorem dL_law_394 : decode cL_law 394 = .ok (.iadd, 1) := by decide +kernel
theorem dL_law_395 : decode cL_law 395 = .ok (.iaload, 1) := by decide +kernel
theorem dL_law_396 : decode cL_law 396 = .ok (.aload_n 0, 1) := by decide +kernel
theorem dL_law_397 : decode cL_law 397 = .ok (.iload_n 3, 1) := by decide +kernel
theorem dL_law_398 : decode cL_law 398 = .ok (.iconst 2, 1) := by decide +kernel
theorem dL_law_399 : decode cL_law 399 = .ok (.iadd, 1) := by decide +kernel
theorem dL_law_400 : decode cL_law 400 = .ok (.iaload, 1) := by decide +kernel
theorem dL_law_401 : decode cL_law 401 = .ok (.aload_n 0, 1) := by decide +kernel
theorem dL_law_402 : decode cL_law 402 = .ok (.iload_n 3, 1) := by decide +kernel
theorem dL_law_403 : decode cL_law 403 = .ok (.iconst 3, 1) := by decide +kernel
theorem dL_law_404 : decode cL_law 404 = .ok (.iadd, 1) := by decide +kernel
theorem dL_law_405 : decode cL_law 405 = .ok (.iaload, 1) := by decide +kernel
theorem dL_law_406 : decode cL_law 406 = .ok (.invokevirtual 42, 3) := by decide +kernel
theorem dL_law_409 : decode cL_law 409 = .ok (.pop, 1) := by decide +kernel
theorem dL_law_410 : decode cL_law 410 = .ok (.aload_n 2, 1) := by decide +kernel
theorem dL_law_411 : decode cL_law 411 = .ok (.aload_n 0, 1) := by decide +kernel
theorem dL_law_412 : decode cL_law 412 = .ok (.iload_n 3, 1) := by decide +kernel
theorem dL_law_413 : decode cL_law 413 = .ok (.iconst 1, 1) := by decide +kernel
theorem dL_law_414 : decode cL_law 414 = .ok (.iadd, 1) := by decide +kernel
theorem dL_law_415 : decode cL_law 415 = .ok (.iaload, 1) := by decide +kernel
theorem dL_law_416 : decode cL_law 416 = .ok (.aload_n 0, 1) := by decide +kernel
theorem dL_law_417 : decode cL_law 417 = .ok (.iload_n 3, 1) := by decide +kernel
theorem dL_law_418 : decode cL_law 418 = .ok (.iconst 2, 1) := by decide +kernel
theorem dL_law_419 : decode cL_law 419 = .ok (.iadd, 1) := by decide +kernel
theorem dL_law_420 : decode cL_law 420 = .ok (.iaload, 1) := by decide +kernel
theorem dL_law_421 : decode cL_law 421 = .ok (.aload_n 0, 1) := by decide +kernel
theorem dL_law_422 : decode cL_law 422 = .ok (.iload_n 3, 1) := by decide +kernel
theorem dL_law_423 : decode cL_law 423 = .ok (.iconst 3, 1) := by decide +kernel
theorem dL_law_424 : decode cL_law 424 = .ok (.iadd, 1) := by decide +kernel
theorem dL_law_425 : decode cL_law 425 = .ok (.iaload, 1) := by decide +kernel
theorem dL_law_426 : decode cL_law 426 = .ok (.invokevirtual 45, 3) := by decide +kernel
theorem dL_law_429 : decode cL_law 429 = .ok (.pop, 1) := by decide +kernel
theorem dL_law_430 : decode cL_law 430 = .ok (.goto 560, 3) := by decide +kernel
theorem dL_law_433 : decode cL_law 433 = .ok (.aload_n 1, 1) := by decide +kernel
theorem dL_law_434 : decode cL_law 434 = .ok (.aload_n 0, 1) := by decide +kernel
theorem dL_law_435 : decode cL_law 435 = .ok (.iload_n 3, 1) := by decide +kernel
theorem dL_law_436 : decode cL_law 436 = .ok (.iconst 1, 1) := by decide +kernel
theorem dL_law_437 : decode cL_law 437 = .ok (.iadd, 1) := by decide +kernel
theorem dL_law_438 : decode cL_law 438 = .ok (.iaload, 1) := by decide +kernel
theorem dL_law_439 : decode cL_law 439 = .ok (.invokevirtual 46, 3) := by decide +kernel
theorem dL_law_442 : decode cL_law 442 = .ok (.pop, 1) := by decide +kernel
theorem dL_law_443 : decode cL_law 443 = .ok (.aload_n 2, 1) := by decide +kernel
theorem dL_law_444 : decode cL_law 444 = .ok (.aload_n 0, 1) := by decide +kernel
theorem dL_law_445 : decode cL_law 445 = .ok (.iload_n 3, 1) := by decide +kernel
theorem dL_law_446 : decode cL_law 446 = .ok (.iconst 1, 1) := by decide +kernel
theorem dL_law_447 : decode cL_law 447 = .ok (.iadd, 1) := by decide +kernel
theorem dL_law_448 : decode cL_law 448 = .ok (.iaload, 1) := by decide +kernel
theorem dL_law_449 : decode cL_law 449 = .ok (.invokevirtual 49, 3) := by decide +kernel
theorem dL_law_452 : decode cL_law 452 = .ok (.pop, 1) := by decide +kernel
theorem dL_law_453 : decode cL_law 453 = .ok (.goto 537, 3) := by decide +kernel
theorem dL_law_456 : decode cL_law 456 = .ok (.aload_n 1, 1) := by decide +kernel
theorem dL_law_457 : decode cL_law 457 = .ok (.aload_n 0, 1) := by decide +kernel
theorem dL_law_458 : decode cL_law 458 = .ok (.iload_n 3, 1) := by decide +kernel
theorem dL_law_459 : decode cL_law 459 = .ok (.iconst 1, 1) := by decide +kernel
theorem dL_law_460 : decode cL_law 460 = .ok (.iadd, 1) := by decide +kernel
theorem dL_law_461 : decode cL_law 461 = .ok (.iaload, 1) := by decide +kernel
theorem dL_law_462 : decode cL_law 462 = .ok (.aload_n 0, 1) := by decide +kernel
theorem dL_law_463 : decode cL_law 463 = .ok (.iload_n 3, 1) := by decide +kernel
theorem dL_law_464 : decode cL_law 464 = .ok (.iconst 2, 1) := by decide +kernel
theorem dL_law_465 : decode cL_law 465 = .ok (.iadd, 1) := by decide +kernel
theorem dL_law_466 : decode cL_law 466 = .ok (.iaload, 1) := by decide +kernel
theorem dL_law_467 : decode cL_law 467 = .ok (.invokevirtual 50, 3) := by decide +kernel
theorem dL_law_470 : decode cL_law 470 = .ok (.pop, 1) := by decide +kernel
theorem dL_law_471 : decode cL_law 471 = .ok (.aload_n 2, 1) := by decide +kernel
theorem dL_law_472 : decode cL_law 472 = .ok (.aload_n 0, 1) := by decide +kernel
theorem dL_law_473 : decode cL_law 473 = .ok (.iload_n 3, 1) := by decide +kernel
theorem dL_law_474 : decode cL_law 474 = .ok (.iconst 1, 1) := by decide +kernel
theorem dL_law_475 : decode cL_law 475 = .ok (.iadd, 1) := by decide +kernel
theorem dL_law_476 : decode cL_law 476 = .ok (.iaload, 1) := by decide +kernel
theorem dL_law_477 : decode cL_law 477 = .ok (.aload_n 0, 1) := by decide +kernel
theorem dL_law_478 : decode cL_law 478 = .ok (.iload_n 3, 1) := by decide +kernel
theorem dL_law_479 : decode cL_law 479 = .ok (.iconst 2, 1) := by decide +kernel
theorem dL_law_480 : decode cL_law 480 = .ok (.iadd, 1) := by decide +kernel
theorem dL_law_481 : decode cL_law 481 = .ok (.iaload, 1) := by decide +kernel
theorem dL_law_482 : decode cL_law 482 = .ok (.invokevirtual 53, 3) := by decide +kernel
theorem dL_law_485 : decode cL_law 485 = .ok (.pop, 1) := by decide +kernel
theorem dL_law_486 : decode cL_law 486 = .ok (.goto 504, 3) := by decide +kernel
theorem dL_law_489 : decode cL_law 489 = .ok (.aload_n 1, 1) := by decide +kernel
theorem dL_law_490 : decode cL_law 490 = .ok (.aload_n 0, 1) := by decide +kernel
theorem dL_law_491 : decode cL_law 491 = .ok (.iload_n 3, 1) := by decide +kernel
theorem dL_law_492 : decode cL_law 492 = .ok (.iconst 1, 1) := by decide +kernel
theorem dL_law_493 : decode cL_law 493 = .ok (.iadd, 1) := by decide +kernel
theorem dL_law_494 : decode cL_law 494 = .ok (.iaload, 1) := by decide +kernel
theorem dL_law_495 : decode cL_law 495 = .ok (.aload_n 0, 1) := by decide +kernel
theorem dL_law_496 : decode cL_law 496 = .ok (.iload_n 3, 1) := by decide +kernel
theorem dL_law_497 : decode cL_law 497 = .ok (.iconst 2, 1) := by decide +kernel
theorem dL_law_498 : decode cL_law 498 = .ok (.iadd, 1) := by decide +kernel
theorem dL_law_499 : decode cL_law 499 = .ok (.iaload, 1) := by decide +kernel
theorem dL_law_500 : decode cL_law 500 = .ok (.invokevirtual 54, 3) := by decide +kernel
theorem dL_law_503 : decode cL_law 503 = .ok (.pop, 1) := by decide +kernel
theorem dL_law_504 : decode cL_law 504 = .ok (.aload_n 2, 1) := by decide +kernel
theorem dL_law_505 : decode cL_law 505 = .ok (.aload_n 0, 1) := by decide +kernel
theorem dL_law_506 : decode cL_law 506 = .ok (.iload_n 3, 1) := by decide +kernel
theorem dL_law_507 : decode cL_law 507 = .ok (.iconst 1, 1) := by decide +kernel
theorem dL_law_508 : decode cL_law 508 = .ok (.iadd, 1) := by decide +kernel
theorem dL_law_509 : decode cL_law 509 = .ok (.iaload, 1) := by decide +kernel
theorem dL_law_510 : decode cL_law 510 = .ok (.aload_n 0, 1) := by decide +kernel
theorem dL_law_511 : decode cL_law 511 = .ok (.iload_n 3, 1) := by decide +kernel
theorem dL_law_512 : decode cL_law 512 = .ok (.iconst 2, 1) := by decide +kernel
theorem dL_law_513 : decode cL_law 513 = .ok (.iadd, 1) := by decide +kernel
theorem dL_law_514 : decode cL_law 514 = .ok (.iaload, 1) := by decide +kernel
theorem dL_law_515 : decode cL_law 515 = .ok (.invokevirtual 57, 3) := by decide +kernel
theorem dL_law_518 : decode cL_law 518 = .ok (.pop, 1) := by decide +kernel
theorem dL_law_519 : decode cL_law 519 = .ok (.goto 471, 3) := by decide +kernel
theorem dL_law_522 : decode cL_law 522 = .ok (.aload_n 1, 1) := by decide +kernel
theorem dL_law_523 : decode cL_law 523 = .ok (.aload_n 0, 1) := by decide +kernel
theorem dL_law_524 : decode cL_law 524 = .ok (.iload_n 3, 1) := by decide +kernel
theorem dL_law_525 : decode cL_law 525 = .ok (.iconst 1, 1) := by decide +kernel
theorem dL_law_526 : decode cL_law 526 = .ok (.iadd, 1) := by decide +kernel
theorem dL_law_527 : decode cL_law 527 = .ok (.iaload, 1) := by decide +kernel
theorem dL_law_528 : decode cL_law 528 = .ok (.aload_n 0, 1) := by decide +kernel
theorem dL_law_529 : decode cL_law 529 = .ok (.iload_n 3, 1) := by decide +kernel
theorem dL_law_530 : decode cL_law 530 = .ok (.iconst 2, 1) := by decide +kernel
theorem dL_law_531 : decode cL_law 531 = .ok (.iadd, 1) := by decide +kernel
theorem dL_law_532 : decode cL_law 532 = .ok (.iaload, 1) := by decide +kernel
theorem dL_law_533 : decode cL_law 533 = .ok (.invokevirtual 58, 3) := by decide +kernel
theorem dL_law_536 : decode cL_law 536 = .ok (.pop, 1) := by decide +kernel
theorem dL_law_537 : decode cL_law 537 = .ok (.aload_n 2, 1) := by decide +kernel
theorem dL_law_538 : decode cL_law 538 = .ok (.aload_n 0, 1) := by decide +kernel
theorem dL_law_539 : decode cL_law 539 = .ok (.iload_n 3, 1) := by decide +kernel
theorem dL_law_540 : decode cL_law 540 = .ok (.iconst 1, 1) := by decide +kernel
theorem dL_law_541 : decode cL_law 541 = .ok (.iadd, 1) := by decide +kernel
theorem dL_law_542 : decode cL_law 542 = .ok (.iaload, 1) := by decide +kernel
theorem dL_law_543 : decode cL_law 543 = .ok (.aload_n 0, 1) := by decide +kernel
theorem dL_law_544 : decode cL_law 544 = .ok (.iload_n 3, 1) := by decide +kernel
theorem dL_law_545 : decode cL_law 545 = .ok (.iconst 2, 1) := by decide +kernel
theorem dL_law_546 : decode cL_law 546 = .ok (.iadd, 1) := by decide +kernel
theorem dL_law_547 : decode cL_law 547 = .ok (.iaload, 1) := by decide +kernel
theorem dL_law_548 : decode cL_law 548 = .ok (.invokevirtual 61, 3) := by decide +kernel
theorem dL_law_551 : decode cL_law 551 = .ok (.pop, 1) := by decide +kernel
theorem dL_law_552 : decode cL_law 552 = .ok (.goto 438, 3) := by decide +kernel
theorem dL_law_555 : decode cL_law 555 = .ok (.aload_n 1, 1) := by decide +kernel
theorem dL_law_556 : decode cL_law 556 = .ok (.aload_n 0, 1) := by decide +kernel
theorem dL_law_557 : decode cL_law 557 = .ok (.iload_n 3, 1) := by decide +kernel
theorem dL_law_558 : decode cL_law 558 = .ok (.iconst 1, 1) := by decide +kernel
theorem dL_law_559 : decode cL_law 559 = .ok (.iadd, 1) := by decide +kernel
theorem dL_law_560 : decode cL_law 560 = .ok (.iaload, 1) := by decide +kernel
theorem dL_law_561 : decode cL_law 561 = .ok (.invokevirtual 62, 3) := by decide +kernel
theorem dL_law_564 : decode cL_law 564 = .ok (.aload_n 2, 1) := by decide +kernel
theorem dL_law_565 : decode cL_law 565 = .ok (.aload_n 0, 1) := by decide +kernel
theorem dL_law_566 : decode cL_law 566 = .ok (.iload_n 3, 1) := by decide +kernel
theorem dL_law_567 : decode cL_law 567 = .ok (.iconst 1, 1) := by decide +kernel
theorem dL_law_568 : decode cL_law 568 = .ok (.iadd, 1) := by decide +kernel
theorem dL_law_569 : decode cL_law 569 = .ok (.iaload, 1) := by decide +kernel
theorem dL_law_570 : decode cL_law 570 = .ok (.invokevirtual 65, 3) := by decide +kernel
theorem dL_law_573 : decode cL_law 573 = .ok (.if_icmp .eq 417, 3) := by decide +kernel
theorem dL_law_576 : decode cL_law 576 = .ok (.iconst 0, 1) := by decide +kernel
theorem dL_law_577 : decode cL_law 577 = .ok (.ireturn, 1) := by decide +kernel
theorem dL_law_578 : decode cL_law 578 = .ok (.aload_n 1, 1) := by decide +kernel
theorem dL_law_579 : decode cL_law 579 = .ok (.aload_n 0, 1) := by decide +kernel
theorem dL_law_580 : decode cL_law 580 = .ok (.iload_n 3, 1) := by decide +kernel
theorem dL_law_581 : decode cL_law 581 = .ok (.iconst 1, 1) := by decide +kernel
theorem dL_law_582 : decode cL_law 582 = .ok (.iadd, 1) := by decide +kernel
theorem dL_law_583 : decode cL_law 583 = .ok (.iaload, 1) := by decide +kernel
theorem dL_law_584 : decode cL_law 584 = .ok (.aload_n 0, 1) := by decide +kernel
theorem dL_law_585 : decode cL_law 585 = .ok (.iload_n 3, 1) := by decide +kernel
theorem dL_law_586 : decode cL_law 586 = .ok (.iconst 2, 1) := by decide +kernel
theorem dL_law_587 : decode cL_law 587 = .ok (.iadd, 1) := by decide +kernel
theorem dL_law_588 : decode cL_law 588 = .ok (.iaload, 1) := by decide +kernel
theorem dL_law_589 : decode cL_law 589 = .ok (.aload_n 0, 1) := by decide +kernel
theorem dL_law_590 : decode cL_law 590 = .ok (.iload_n 3, 1) := by decide +kernel
theorem dL_law_591 : decode cL_law 591 = .ok (.iconst 3, 1) := by decide +kernel
theorem dL_law_592 : decode cL_law 592 = .ok (.iadd, 1) := by decide +kernel
theorem dL_law_593 : decode cL_law 593 = .ok (.iaload, 1) := by decide +kernel
theorem dL_law_594 : decode cL_law 594 = .ok (.invokevirtual 66, 3) := by decide +kernel
theorem dL_law_597 : decode cL_law 597 = .ok (.pop, 1) := by decide +kernel
theorem dL_law_598 : decode cL_law 598 = .ok (.aload_n 2, 1) := by decide +kernel
theorem dL_law_599 : decode cL_law 599 = .ok (.aload_n 0, 1) := by decide +kernel
theorem dL_law_600 : decode cL_law 600 = .ok (.iload_n 3, 1) := by decide +kernel
theorem dL_law_601 : decode cL_law 601 = .ok (.iconst 1, 1) := by decide +kernel
theorem dL_law_602 : decode cL_law 602 = .ok (.iadd, 1) := by decide +kernel
theorem dL_law_603 : decode cL_law 603 = .ok (.iaload, 1) := by decide +kernel
theorem dL_law_604 : decode cL_law 604 = .ok (.aload_n 0, 1) := by decide +kernel
theorem dL_law_605 : decode cL_law 605 = .ok (.iload_n 3, 1) := by decide +kernel
theorem dL_law_606 : decode cL_law 606 = .ok (.iconst 2, 1) := by decide +kernel
theorem dL_law_607 : decode cL_law 607 = .ok (.iadd, 1) := by decide +kernel
theorem dL_law_608 : decode cL_law 608 = .ok (.iaload, 1) := by decide +kernel
theorem dL_law_609 : decode cL_law 609 = .ok (.aload_n 0, 1) := by decide +kernel
theorem dL_law_610 : decode cL_law 610 = .ok (.iload_n 3, 1) := by decide +kernel
theorem dL_law_611 : decode cL_law 611 = .ok (.iconst 3, 1) := by decide +kernel
theorem dL_law_612 : decode cL_law 612 = .ok (.iadd, 1) := by decide +kernel
theorem dL_law_613 : decode cL_law 613 = .ok (.iaload, 1) := by decide +kernel
theorem dL_law_614 : decode cL_law 614 = .ok (.invokevirtual 70, 3) := by decide +kernel
theorem dL_law_617 : decode cL_law 617 = .ok (.pop, 1) := by decide +kernel
theorem dL_law_618 : decode cL_law 618 = .ok (.goto 372, 3) := by decide +kernel
theorem dL_law_621 : decode cL_law 621 = .ok (.aload_n 1, 1) := by decide +kernel
theorem dL_law_622 : decode cL_law 622 = .ok (.aload_n 0, 1) := by decide +kernel
theorem dL_law_623 : decode cL_law 623 = .ok (.iload_n 3, 1) := by decide +kernel
theorem dL_law_624 : decode cL_law 624 = .ok (.iconst 1, 1) := by decide +kernel
theorem dL_law_625 : decode cL_law 625 = .ok (.iadd, 1) := by decide +kernel
theorem dL_law_626 : decode cL_law 626 = .ok (.iaload, 1) := by decide +kernel
theorem dL_law_627 : decode cL_law 627 = .ok (.aload_n 0, 1) := by decide +kernel
theorem dL_law_628 : decode cL_law 628 = .ok (.iload_n 3, 1) := by decide +kernel
theorem dL_law_629 : decode cL_law 629 = .ok (.iconst 2, 1) := by decide +kernel
theorem dL_law_630 : decode cL_law 630 = .ok (.iadd, 1) := by decide +kernel
theorem dL_law_631 : decode cL_law 631 = .ok (.iaload, 1) := by decide +kernel
theorem dL_law_632 : decode cL_law 632 = .ok (.aload_n 0, 1) := by decide +kernel
theorem dL_law_633 : decode cL_law 633 = .ok (.iload_n 3, 1) := by decide +kernel
theorem dL_law_634 : decode cL_law 634 = .ok (.iconst 3, 1) := by decide +kernel
theorem dL_law_635 : decode cL_law 635 = .ok (.iadd, 1) := by decide +kernel
theorem dL_law_636 : decode cL_law 636 = .ok (.iaload, 1) := by decide +kernel
theorem dL_law_637 : decode cL_law 637 = .ok (.invokevirtual 71, 3) := by decide +kernel
theorem dL_law_640 : decode cL_law 640 = .ok (.pop, 1) := by decide +kernel
theorem dL_law_641 : decode cL_law 641 = .ok (.aload_n 2, 1) := by decide +kernel
theorem dL_law_642 : decode cL_law 642 = .ok (.aload_n 0, 1) := by decide +kernel
theorem dL_law_643 : decode cL_law 643 = .ok (.iload_n 3, 1) := by decide +kernel
theorem dL_law_644 : decode cL_law 644 = .ok (.iconst 1, 1) := by decide +kernel
theorem dL_law_645 : decode cL_law 645 = .ok (.iadd, 1) := by decide +kernel
theorem dL_law_646 : decode cL_law 646 = .ok (.iaload, 1) := by decide +kernel
theorem dL_law_647 : decode cL_law 647 = .ok (.aload_n 0, 1) := by decide +kernel
theorem dL_law_648 : decode cL_law 648 = .ok (.iload_n 3, 1) := by decide +kernel
theorem dL_law_649 : decode cL_law 649 = .ok (.iconst 2, 1) := by decide +kernel
theorem dL_law_650 : decode cL_law 650 = .ok (.iadd, 1) := by decide +kernel
theorem dL_law_651 : decode cL_law 651 = .ok (.iaload, 1) := by decide +kernel
theorem dL_law_652 : decode cL_law 652 = .ok (.aload_n 0, 1) := by decide +kernel
theorem dL_law_653 : decode cL_law 653 = .ok (.iload_n 3, 1) := by decide +kernel
theorem dL_law_654 : decode cL_law 654 = .ok (.iconst 3, 1) := by decide +kernel
theorem dL_law_655 : decode cL_law 655 = .ok (.iadd, 1) := by decide +kernel
theorem dL_law_656 : decode cL_law 656 = .ok (.iaload, 1) := by decide +kernel
theorem dL_law_657 : decode cL_law 657 = .ok (.invokevirtual 74, 3) := by decide +kernel
theorem dL_law_660 : decode cL_law 660 = .ok (.pop, 1) := by decide +kernel
theorem dL_law_661 : decode cL_law 661 = .ok (.goto 329, 3) := by decide +kernel
theorem dL_law_664 : decode cL_law 664 = .ok (.aload_n 1, 1) := by decide +kernel
theorem dL_law_665 : decode cL_law 665 = .ok (.aload_n 0, 1) := by decide +kernel
theorem dL_law_666 : decode cL_law 666 = .ok (.iload_n 3, 1) := by decide +kernel
theorem dL_law_667 : decode cL_law 667 = .ok (.iconst 1, 1) := by decide +kernel
theorem dL_law_668 : decode cL_law 668 = .ok (.iadd, 1) := by decide +kernel
theorem dL_law_669 : decode cL_law 669 = .ok (.iaload, 1) := by decide +kernel
theorem dL_law_670 : decode cL_law 670 = .ok (.aload_n 0, 1) := by decide +kernel
theorem dL_law_671 : decode cL_law 671 = .ok (.iload_n 3, 1) := by decide +kernel
theorem dL_law_672 : decode cL_law 672 = .ok (.iconst 2, 1) := by decide +kernel
theorem dL_law_673 : decode cL_law 673 = .ok (.iadd, 1) := by decide +kernel
theorem dL_law_674 : decode cL_law 674 = .ok (.iaload, 1) := by decide +kernel
theorem dL_law_675 : decode cL_law 675 = .ok (.invokevirtual 75, 3) := by decide +kernel
theorem dL_law_678 : decode cL_law 678 = .ok (.pop, 1) := by decide +kernel
theorem dL_law_679 : decode cL_law 679 = .ok (.aload_n 2, 1) := by decide +kernel
theorem dL_law_680 : decode cL_law 680 = .ok (.aload_n 0, 1) := by decide +kernel
theorem dL_law_681 : decode cL_law 681 = .ok (.iload_n 3, 1) := by decide +kernel
theorem dL_law_682 : decode cL_law 682 = .ok (.iconst 1, 1) := by decide +kernel
theorem dL_law_683 : decode cL_law 683 = .ok (.iadd, 1) := by decide +kernel
theorem dL_law_684 : decode cL_law 684 = .ok (.iaload, 1) := by decide +kernel
theorem dL_law_685 : decode cL_law 685 = .ok (.aload_n 0, 1) := by decide +kernel
theorem dL_law_686 : decode cL_law 686 = .ok (.iload_n 3, 1) := by decide +kernel
theorem dL_law_687 : decode cL_law 687 = .ok (.iconst 2, 1) := by decide +kernel
theorem dL_law_688 : decode cL_law 688 = .ok (.iadd, 1) := by decide +kernel
theorem dL_law_689 : decode cL_law 689 = .ok (.iaload, 1) := by decide +kernel
theorem dL_law_690 : decode cL_law 690 = .ok (.invokevirtual 78, 3) := by decide +kernel
theorem dL_law_693 : decode cL_law 693 = .ok (.pop, 1) := by decide +kernel
theorem dL_law_694 : decode cL_law 694 = .ok (.goto 296, 3) := by decide +kernel
theorem dL_law_697 : decode cL_law 697 = .ok (.aload_n 1, 1) := by decide +kernel
theorem dL_law_698 : decode cL_law 698 = .ok (.aload_n 0, 1) := by decide +kernel
theorem dL_law_699 : decode cL_law 699 = .ok (.iload_n 3, 1) := by decide +kernel
theorem dL_law_700 : decode cL_law 700 = .ok (.iconst 1, 1) := by decide +kernel
theorem dL_law_701 : decode cL_law 701 = .ok (.iadd, 1) := by decide +kernel
theorem dL_law_702 : decode cL_law 702 = .ok (.iaload, 1) := by decide +kernel
theorem dL_law_703 : decode cL_law 703 = .ok (.aload_n 0, 1) := by decide +kernel
theorem dL_law_704 : decode cL_law 704 = .ok (.iload_n 3, 1) := by decide +kernel
theorem dL_law_705 : decode cL_law 705 = .ok (.iconst 2, 1) := by decide +kernel
theorem dL_law_706 : decode cL_law 706 = .ok (.iadd, 1) := by decide +kernel
theorem dL_law_707 : decode cL_law 707 = .ok (.iaload, 1) := by decide +kernel
theorem dL_law_708 : decode cL_law 708 = .ok (.invokevirtual 79, 3) := by decide +kernel
theorem dL_law_711 : decode cL_law 711 = .ok (.pop, 1) := by decide +kernel
theorem dL_law_712 : decode cL_law 712 = .ok (.aload_n 2, 1) := by decide +kernel
theorem dL_law_713 : decode cL_law 713 = .ok (.aload_n 0, 1) := by decide +kernel
theorem dL_law_714 : decode cL_law 714 = .ok (.iload_n 3, 1) := by decide +kernel
theorem dL_law_715 : decode cL_law 715 = .ok (.iconst 1, 1) := by decide +kernel
theorem dL_law_716 : decode cL_law 716 = .ok (.iadd, 1) := by decide +kernel
theorem dL_law_717 : decode cL_law 717 = .ok (.iaload, 1) := by decide +kernel
theorem dL_law_718 : decode cL_law 718 = .ok (.aload_n 0, 1) := by decide +kernel
theorem dL_law_719 : decode cL_law 719 = .ok (.iload_n 3, 1) := by decide +kernel
theorem dL_law_720 : decode cL_law 720 = .ok (.iconst 2, 1) := by decide +kernel
theorem dL_law_721 : decode cL_law 721 = .ok (.iadd, 1) := by decide +kernel
theorem dL_law_722 : decode cL_law 722 = .ok (.iaload, 1) := by decide +kernel
theorem dL_law_723 : decode cL_law 723 = .ok (.invokevirtual 82, 3) := by decide +kernel
theorem dL_law_726 : decode cL_law 726 = .ok (.pop, 1) := by decide +kernel
theorem dL_law_727 : decode cL_law 727 = .ok (.goto 263, 3) := by decide +kernel
theorem dL_law_730 : decode cL_law 730 = .ok (.aload_n 1, 1) := by decide +kernel
theorem dL_law_731 : decode cL_law 731 = .ok (.aload_n 0, 1) := by decide +kernel
theorem dL_law_732 : decode cL_law 732 = .ok (.iload_n 3, 1) := by decide +kernel
theorem dL_law_733 : decode cL_law 733 = .ok (.iconst 1, 1) := by decide +kernel
theorem dL_law_734 : decode cL_law 734 = .ok (.iadd, 1) := by decide +kernel
theorem dL_law_735 : decode cL_law 735 = .ok (.iaload, 1) := by decide +kernel
theorem dL_law_736 : decode cL_law 736 = .ok (.invokevirtual 83, 3) := by decide +kernel
theorem dL_law_739 : decode cL_law 739 = .ok (.pop, 1) := by decide +kernel
theorem dL_law_740 : decode cL_law 740 = .ok (.aload_n 2, 1) := by decide +kernel
theorem dL_law_741 : decode cL_law 741 = .ok (.aload_n 0, 1) := by decide +kernel
theorem dL_law_742 : decode cL_law 742 = .ok (.iload_n 3, 1) := by decide +kernel
theorem dL_law_743 : decode cL_law 743 = .ok (.iconst 1, 1) := by decide +kernel
theorem dL_law_744 : decode cL_law 744 = .ok (.iadd, 1) := by decide +kernel
theorem dL_law_745 : decode cL_law 745 = .ok (.iaload, 1) := by decide +kernel
theorem dL_law_746 : decode cL_law 746 = .ok (.invokevirtual 86, 3) := by decide +kernel
theorem dL_law_749 : decode cL_law 749 = .ok (.pop, 1) := by decide +kernel
theorem dL_law_750 : decode cL_law 750 = .ok (.goto 240, 3) := by decide +kernel
theorem dL_law_753 : decode cL_law 753 = .ok (.aload_n 1, 1) := by decide +kernel
theorem dL_law_754 : decode cL_law 754 = .ok (.aload_n 0, 1) := by decide +kernel
theorem dL_law_755 : decode cL_law 755 = .ok (.iload_n 3, 1) := by decide +kernel
theorem dL_law_756 : decode cL_law 756 = .ok (.iconst 1, 1) := by decide +kernel
theorem dL_law_757 : decode cL_law 757 = .ok (.iadd, 1) := by decide +kernel
theorem dL_law_758 : decode cL_law 758 = .ok (.iaload, 1) := by decide +kernel
theorem dL_law_759 : decode cL_law 759 = .ok (.aload_n 0, 1) := by decide +kernel
theorem dL_law_760 : decode cL_law 760 = .ok (.iload_n 3, 1) := by decide +kernel
theorem dL_law_761 : decode cL_law 761 = .ok (.iconst 2, 1) := by decide +kernel
theorem dL_law_762 : decode cL_law 762 = .ok (.iadd, 1) := by decide +kernel
theorem dL_law_763 : decode cL_law 763 = .ok (.iaload, 1) := by decide +kernel
theorem dL_law_764 : decode cL_law 764 = .ok (.invokevirtual 87, 3) := by decide +kernel
theorem dL_law_767 : decode cL_law 767 = .ok (.pop, 1) := by decide +kernel
theorem dL_law_768 : decode cL_law 768 = .ok (.aload_n 2, 1) := by decide +kernel
theorem dL_law_769 : decode cL_law 769 = .ok (.aload_n 0, 1) := by decide +kernel
theorem dL_law_770 : decode cL_law 770 = .ok (.iload_n 3, 1) := by decide +kernel
theorem dL_law_771 : decode cL_law 771 = .ok (.iconst 1, 1) := by decide +kernel
theorem dL_law_772 : decode cL_law 772 = .ok (.iadd, 1) := by decide +kernel
theorem dL_law_773 : decode cL_law 773 = .ok (.iaload, 1) := by decide +kernel
theorem dL_law_774 : decode cL_law 774 = .ok (.aload_n 0, 1) := by decide +kernel
theorem dL_law_775 : decode cL_law 775 = .ok (.iload_n 3, 1) := by decide +kernel
theorem dL_law_776 : decode cL_law 776 = .ok (.iconst 2, 1) := by decide +kernel
theorem dL_law_777 : decode cL_law 777 = .ok (.iadd, 1) := by decide +kernel
theorem dL_law_778 : decode cL_law 778 = .ok (.iaload, 1) := by decide +kernel
theorem dL_law_779 : decode cL_law 779 = .ok (.invokevirtual 90, 3) := by decide +kernel
theorem dL_law_782 : decode cL_law 782 = .ok (.pop, 1) := by decide +kernel
theorem dL_law_783 : decode cL_law 783 = .ok (.goto 207, 3) := by decide +kernel
theorem dL_law_786 : decode cL_law 786 = .ok (.aload_n 1, 1) := by decide +kernel
theorem dL_law_787 : decode cL_law 787 = .ok (.aload_n 0, 1) := by decide +kernel
theorem dL_law_788 : decode cL_law 788 = .ok (.iload_n 3, 1) := by decide +kernel
theorem dL_law_789 : decode cL_law 789 = .ok (.iconst 1, 1) := by decide +kernel
theorem dL_law_790 : decode cL_law 790 = .ok (.iadd, 1) := by decide +kernel
theorem dL_law_791 : decode cL_law 791 = .ok (.iaload, 1) := by decide +kernel
theorem dL_law_792 : decode cL_law 792 = .ok (.aload_n 0, 1) := by decide +kernel
theorem dL_law_793 : decode cL_law 793 = .ok (.iload_n 3, 1) := by decide +kernel
theorem dL_law_794 : decode cL_law 794 = .ok (.iconst 2, 1) := by decide +kernel
theorem dL_law_795 : decode cL_law 795 = .ok (.iadd, 1) := by decide +kernel
theorem dL_law_796 : decode cL_law 796 = .ok (.iaload, 1) := by decide +kernel
theorem dL_law_797 : decode cL_law 797 = .ok (.aload_n 0, 1) := by decide +kernel
theorem dL_law_798 : decode cL_law 798 = .ok (.iload_n 3, 1) := by decide +kernel
theorem dL_law_799 : decode cL_law 799 = .ok (.iconst 3, 1) := by decide +kernel
theorem dL_law_800 : decode cL_law 800 = .ok (.iadd, 1) := by decide +kernel
theorem dL_law_801 : decode cL_law 801 = .ok (.iaload, 1) := by decide +kernel
theorem dL_law_802 : decode cL_law 802 = .ok (.invokevirtual 91, 3) := by decide +kernel
theorem dL_law_805 : decode cL_law 805 = .ok (.pop, 1) := by decide +kernel
theorem dL_law_806 : decode cL_law 806 = .ok (.aload_n 2, 1) := by decide +kernel
theorem dL_law_807 : decode cL_law 807 = .ok (.aload_n 0, 1) := by decide +kernel
theorem dL_law_808 : decode cL_law 808 = .ok (.iload_n 3, 1) := by decide +kernel
theorem dL_law_809 : decode cL_law 809 = .ok (.iconst 1, 1) := by decide +kernel
theorem dL_law_810 : decode cL_law 810 = .ok (.iadd, 1) := by decide +kernel
theorem dL_law_811 : decode cL_law 811 = .ok (.iaload, 1) := by decide +kernel
theorem dL_law_812 : decode cL_law 812 = .ok (.aload_n 0, 1) := by decide +kernel
theorem dL_law_813 : decode cL_law 813 = .ok (.iload_n 3, 1) := by decide +kernel
theorem dL_law_814 : decode cL_law 814 = .ok (.iconst 2, 1) := by decide +kernel
theorem dL_law_815 : decode cL_law 815 = .ok (.iadd, 1) := by decide +kernel
theorem dL_law_816 : decode cL_law 816 = .ok (.iaload, 1) := by decide +kernel
theorem dL_law_817 : decode cL_law 817 = .ok (.aload_n 0, 1) := by decide +kernel
theorem dL_law_818 : decode cL_law 818 = .ok (.iload_n 3, 1) := by decide +kernel
theorem dL_law_819 : decode cL_law 819 = .ok (.iconst 3, 1) := by decide +kernel
theorem dL_law_820 : decode cL_law 820 = .ok (.iadd, 1) := by decide +kernel
theorem dL_law_821 : decode cL_law 821 = .ok (.iaload, 1) := by decide +kernel
theorem dL_law_822 : decode cL_law 822 = .ok (.invokevirtual 94, 3) := by decide +kernel
theorem dL_law_825 : decode cL_law 825 = .ok (.pop, 1) := by decide +kernel
theorem dL_law_826 : decode cL_law 826 = .ok (.goto 164, 3) := by decide +kernel
theorem dL_law_829 : decode cL_law 829 = .ok (.aload_n 1, 1) := by decide +kernel
theorem dL_law_830 : decode cL_law 830 = .ok (.aload_n 0, 1) := by decide +kernel
theorem dL_law_831 : decode cL_law 831 = .ok (.iload_n 3, 1) := by decide +kernel
theorem dL_law_832 : decode cL_law 832 = .ok (.iconst 1, 1) := by decide +kernel
theorem dL_law_833 : decode cL_law 833 = .ok (.iadd, 1) := by decide +kernel
theorem dL_law_834 : decode cL_law 834 = .ok (.iaload, 1) := by decide +kernel
theorem dL_law_835 : decode cL_law 835 = .ok (.aload_n 0, 1) := by decide +kernel
theorem dL_law_836 : decode cL_law 836 = .ok (.iload_n 3, 1) := by decide +kernel
theorem dL_law_837 : decode cL_law 837 = .ok (.iconst 2, 1) := by decide +kernel
theorem dL_law_838 : decode cL_law 838 = .ok (.iadd, 1) := by decide +kernel
theorem dL_law_839 : decode cL_law 839 = .ok (.iaload, 1) := by decide +kernel
theorem dL_law_840 : decode cL_law 840 = .ok (.invokevirtual 95, 3) := by decide +kernel
theorem dL_law_843 : decode cL_law 843 = .ok (.pop, 1) := by decide +kernel
theorem dL_law_844 : decode cL_law 844 = .ok (.aload_n 2, 1) := by decide +kernel
theorem dL_law_845 : decode cL_law 845 = .ok (.aload_n 0, 1) := by decide +kernel
theorem dL_law_846 : decode cL_law 846 = .ok (.iload_n 3, 1) := by decide +kernel
theorem dL_law_847 : decode cL_law 847 = .ok (.iconst 1, 1) := by decide +kernel
theorem dL_law_848 : decode cL_law 848 = .ok (.iadd, 1) := by decide +kernel
theorem dL_law_849 : decode cL_law 849 = .ok (.iaload, 1) := by decide +kernel
theorem dL_law_850 : decode cL_law 850 = .ok (.aload_n 0, 1) := by decide +kernel
theorem dL_law_851 : decode cL_law 851 = .ok (.iload_n 3, 1) := by decide +kernel
theorem dL_law_852 : decode cL_law 852 = .ok (.iconst 2, 1) := by decide +kernel
theorem dL_law_853 : decode cL_law 853 = .ok (.iadd, 1) := by decide +kernel
theorem dL_law_854 : decode cL_law 854 = .ok (.iaload, 1) := by decide +kernel
theorem dL_law_855 : decode cL_law 855 = .ok (.invokevirtual 98, 3) := by decide +kernel
theorem dL_law_858 : decode cL_law 858 = .ok (.pop, 1) := by decide +kernel
theorem dL_law_859 : decode cL_law 859 = .ok (.goto 131, 3) := by decide +kernel
theorem dL_law_862 : decode cL_law 862 = .ok (.aload_n 1, 1) := by decide +kernel
theorem dL_law_863 : decode cL_law 863 = .ok (.aload_n 0, 1) := by decide +kernel
theorem dL_law_864 : decode cL_law 864 = .ok (.iload_n 3, 1) := by decide +kernel
theorem dL_law_865 : decode cL_law 865 = .ok (.iconst 1, 1) := by decide +kernel
theorem dL_law_866 : decode cL_law 866 = .ok (.iadd, 1) := by decide +kernel
theorem dL_law_867 : decode cL_law 867 = .ok (.iaload, 1) := by decide +kernel
theorem dL_law_868 : decode cL_law 868 = .ok (.aload_n 0, 1) := by decide +kernel
theorem dL_law_869 : decode cL_law 869 = .ok (.iload_n 3, 1) := by decide +kernel
theorem dL_law_870 : decode cL_law 870 = .ok (.iconst 2, 1) := by decide +kernel
theorem dL_law_871 : decode cL_law 871 = .ok (.iadd, 1) := by decide +kernel
theorem dL_law_872 : decode cL_law 872 = .ok (.iaload, 1) := by decide +kernel
theorem dL_law_873 : decode cL_law 873 = .ok (.invokevirtual 99, 3) := by decide +kernel
theorem dL_law_876 : decode cL_law 876 = .ok (.pop, 1) := by decide +kernel
theorem dL_law_877 : decode cL_law 877 = .ok (.aload_n 2, 1) := by decide +kernel
theorem dL_law_878 : decode cL_law 878 = .ok (.aload_n 0, 1) := by decide +kernel
theorem dL_law_879 : decode cL_law 879 = .ok (.iload_n 3, 1) := by decide +kernel
theorem dL_law_880 : decode cL_law 880 = .ok (.iconst 1, 1) := by decide +kernel
theorem dL_law_881 : decode cL_law 881 = .ok (.iadd, 1) := by decide +kernel
theorem dL_law_882 : decode cL_law 882 = .ok (.iaload, 1) := by decide +kernel
theorem dL_law_883 : decode cL_law 883 = .ok (.aload_n 0, 1) := by decide +kernel
theorem dL_law_884 : decode cL_law 884 = .ok (.iload_n 3, 1) := by decide +kernel
theorem dL_law_885 : decode cL_law 885 = .ok (.iconst 2, 1) := by decide +kernel
theorem dL_law_886 : decode cL_law 886 = .ok (.iadd, 1) := by decide +kernel
theorem dL_law_887 : decode cL_law 887 = .ok (.iaload, 1) := by decide +kernel
theorem dL_law_888 : decode cL_law 888 = .ok (.invokevirtual 102, 3) := by decide +kernel
theorem dL_law_891 : decode cL_law 891 = .ok (.pop, 1) := by decide +kernel
theorem dL_law_892 : decode cL_law 892 = .ok (.goto 98, 3) := by decide +kernel
theorem dL_law_895 : decode cL_law 895 = .ok (.aload_n 1, 1) := by decide +kernel
theorem dL_law_896 : decode cL_law 896 = .ok (.aload_n 0, 1) := by decide +kernel
theorem dL_law_897 : decode cL_law 897 = .ok (.iload_n 3, 1) := by decide +kernel
theorem dL_law_898 : decode cL_law 898 = .ok (.iconst 1, 1) := by decide +kernel
theorem dL_law_899 : decode cL_law 899 = .ok (.iadd, 1) := by decide +kernel
theorem dL_law_900 : decode cL_law 900 = .ok (.iaload, 1) := by decide +kernel
theorem dL_law_901 : decode cL_law 901 = .ok (.invokevirtual 103, 3) := by decide +kernel
theorem dL_law_904 : decode cL_law 904 = .ok (.pop, 1) := by decide +kernel
theorem dL_law_905 : decode cL_law 905 = .ok (.aload_n 2, 1) := by decide +kernel
theorem dL_law_906 : decode cL_law 906 = .ok (.aload_n 0, 1) := by decide +kernel
theorem dL_law_907 : decode cL_law 907 = .ok (.iload_n 3, 1) := by decide +kernel
theorem dL_law_908 : decode cL_law 908 = .ok (.iconst 1, 1) := by decide +kernel
theorem dL_law_909 : decode cL_law 909 = .ok (.iadd, 1) := by decide +kernel
theorem dL_law_910 : decode cL_law 910 = .ok (.iaload, 1) := by decide +kernel
theorem dL_law_911 : decode cL_law 911 = .ok (.invokevirtual 107, 3) := by decide +kernel
theorem dL_law_914 : decode cL_law 914 = .ok (.pop, 1) := by decide +kernel
theorem dL_law_915 : decode cL_law 915 = .ok (.goto 75, 3) := by decide +kernel
theorem dL_law_918 : decode cL_law 918 = .ok (.aload_n 1, 1) := by decide +kernel
theorem dL_law_919 : decode cL_law 919 = .ok (.invokevirtual 108, 3) := by decide +kernel
theorem dL_law_922 : decode cL_law 922 = .ok (.pop, 1) := by decide +kernel
theorem dL_law_923 : decode cL_law 923 = .ok (.aload_n 2, 1) := by decide +kernel
theorem dL_law_924 : decode cL_law 924 = .ok (.invokevirtual 112, 3) := by decide +kernel
theorem dL_law_927 : decode cL_law 927 = .ok (.pop, 1) := by decide +kernel
theorem dL_law_928 : decode cL_law 928 = .ok (.goto 62, 3) := by decide +kernel
theorem dL_law_931 : decode cL_law 931 = .ok (.aload_n 1, 1) := by decide +kernel
theorem dL_law_932 : decode cL_law 932 = .ok (.invokevirtual 113, 3) := by decide +kernel
theorem dL_law_935 : decode cL_law 935 = .ok (.pop, 1) := by decide +kernel
theorem dL_law_936 : decode cL_law 936 = .ok (.aload_n 2, 1) := by decide +kernel
theorem dL_law_937 : decode cL_law 937 = .ok (.invokevirtual 117, 3) := by decide +kernel
theorem dL_law_940 : decode cL_law 940 = .ok (.pop, 1) := by decide +kernel
theorem dL_law_941 : decode cL_law 941 = .ok (.goto 49, 3) := by decide +kernel
theorem dL_law_944 : decode cL_law 944 = .ok (.aload_n 1, 1) := by decide +kernel
theorem dL_law_945 : decode cL_law 945 = .ok (.aload_n 0, 1) := by decide +kernel
theorem dL_law_946 : decode cL_law 946 = .ok (.iload_n 3, 1) := by decide +kernel
theorem dL_law_947 : decode cL_law 947 = .ok (.iconst 1, 1) := by decide +kernel
theorem dL_law_948 : decode cL_law 948 = .ok (.iadd, 1) := by decide +kernel
theorem dL_law_949 : decode cL_law 949 = .ok (.iaload, 1) := by decide +kernel
theorem dL_law_950 : decode cL_law 950 = .ok (.invokevirtual 118, 3) := by decide +kernel
theorem dL_law_953 : decode cL_law 953 = .ok (.pop, 1) := by decide +kernel
theorem dL_law_954 : decode cL_law 954 = .ok (.aload_n 2, 1) := by decide +kernel
theorem dL_law_955 : decode cL_law 955 = .ok (.aload_n 0, 1) := by decide +kernel
theorem dL_law_956 : decode cL_law 956 = .ok (.iload_n 3, 1) := by decide +kernel
theorem dL_law_957 : decode cL_law 957 = .ok (.iconst 1, 1) := by decide +kernel
theorem dL_law_958 : decode cL_law 958 = .ok (.iadd, 1) := by decide +kernel
theorem dL_law_959 : decode cL_law 959 = .ok (.iaload, 1) := by decide +kernel
theorem dL_law_960 : decode cL_law 960 = .ok (.invokevirtual 121, 3) := by decide +kernel
theorem dL_law_963 : decode cL_law 963 = .ok (.pop, 1) := by decide +kernel
theorem dL_law_964 : decode cL_law 964 = .ok (.goto 26, 3) := by decide +kernel
theorem dL_law_967 : decode cL_law 967 = .ok (.aload_n 1, 1) := by decide +kernel
theorem dL_law_968 : decode cL_law 968 = .ok (.aload_n 0, 1) := by decide +kernel
theorem dL_law_969 : decode cL_law 969 = .ok (.iload_n 3, 1) := by decide +kernel
theorem dL_law_970 : decode cL_law 970 = .ok (.iconst 1, 1) := by decide +kernel
theorem dL_law_971 : decode cL_law 971 = .ok (.iadd, 1) := by decide +kernel
theorem dL_law_972 : decode cL_law 972 = .ok (.iaload, 1) := by decide +kernel
theorem dL_law_973 : decode cL_law 973 = .ok (.invokevirtual 122, 3) := by decide +kernel
theorem dL_law_976 : decode cL_law 976 = .ok (.pop, 1) := by decide +kernel
theorem dL_law_977 : decode cL_law 977 = .ok (.aload_n 2, 1) := by decide +kernel
theorem dL_law_978 : decode cL_law 978 = .ok (.aload_n 0, 1) := by decide +kernel
theorem dL_law_979 : decode cL_law 979 = .ok (.iload_n 3, 1) := by decide +kernel
theorem dL_law_980 : decode cL_law 980 = .ok (.iconst 1, 1) := by decide +kernel
theorem dL_law_981 : decode cL_law 981 = .ok (.iadd, 1) := by decide +kernel
theorem dL_law_982 : decode cL_law 982 = .ok (.iaload, 1) := by decide +kernel
theorem dL_law_983 : decode cL_law 983 = .ok (.invokevirtual 125, 3) := by decide +kernel
theorem dL_law_986 : decode cL_law 986 = .ok (.pop, 1) := by decide +kernel
theorem dL_law_987 : decode cL_law 987 = .ok (.goto 3, 3) := by decide +kernel
theorem dL_law_990 : decode cL_law 990 = .ok (.iinc 3 6, 3) := by decide +kernel
theorem dL_law_993 : decode cL_law 993 = .ok (.goto (-975), 3) := by decide +kernel
theorem dL_law_996 : decode cL_law 996 = .ok (.iconst 1, 1) := by decide +kernel
theorem dL_law_997 : decode cL_law 997 = .ok (.ireturn, 1) := by decide +kernel
/-! ===== the law ===== -/
def lR (σ : xS) : Prop := (σ 1 1 = σ 268 8 ∧ σ 2 = xm8 (σ 276) ∧ xb8 (σ 276)) ∧ ((σ 5 = σ 288 ∧ zk3 (σ 5)) ∧ (∀ j : Int, 0 ≤ j → j < 100 → σ 4 j = σ 272 j ∧ 0 ≤ σ 4 j ∧ σ 4 j ≤ 3) ∧ σ 0 11 = σ 268 58) ∧ zR9 σ
theorem lR_B {σ : xS} (h : lR σ) : (σ 5 = σ 288 ∧ zk3 (σ 5)) ∧ (∀ j : Int, 0 ≤ j → j < 100 → σ 4 j = σ 272 j ∧ 0 ≤ σ 4 j ∧ σ 4 j ≤ 3) ∧ σ 0 11 = σ 268 58 := h.2.1
theorem lR_L {σ : xS} (h : lR σ) : zLx σ := h.2.2.1
theorem lR_M {σ : xS} (h : lR σ) : zLm σ := h.2.2.2.1
theorem lR_D {σ : xS} (h : lR σ) : zDd σ 136 269 ∧ zWk σ 136 274 275 ∧ zB8 σ 275 := h.2.2.2.2.1
theorem lR_K {σ : xS} (h : lR σ) : zB8 σ 309 ∧ zKp σ := h.2.2.2.2.2.1
theorem lR_S {σ : xS} (h : lR σ) : IS σ := h.2.2.2.2.2.2.1
theorem lR_I {σ : xS} (h : lR σ) : IQ σ := h.2.2.2.2.2.2.2.1
theorem lR_G {σ : xS} (h : lR σ) : zSg σ := h.2.2.2.2.2.2.2.2.1
theorem lR_48 {σ : xS} (h : lR σ) : σ 268 48 = -1 := h.2.2.2.2.2.2.2.2.2
theorem zI_L : zLx xI := by
  have h17 : xI 268 17 = 0 := by decide +kernel
  have h6 : xI 109 6 = 0 := by decide +kernel
  have h2 : xI 109 2 = 0 := by decide +kernel
  have q : zQs xI = (xI 283, xI 284, xI 285, xI 286, xI 287, 0) := by
    unfold zQs
    rw [h17]
  unfold zLx
  rw [q]
  exact ⟨⟨⟨Int.le_refl _, by decide⟩, fun i i1 i2 => absurd (show i < 0 from i2) (by omega)⟩, h6, 0, h2, zKR_0 rfl⟩
theorem zI_M : zLm xI := fun i i1 i2 => by
  rcases (by omega : i = 0 ∨ i = 1 ∨ i = 2 ∨ i = 3) with rfl | rfl | rfl | rfl <;> exact ⟨by decide +kernel, Or.inl (by decide +kernel)⟩
theorem zI_Y0 : ∀ i : Fin 49, zYc xI 136 ((i.val : Nat) : Int) = zYN (xI 269) 0 0 0 ((i.val : Nat) : Int) := by decide +kernel
theorem zI_Y : zYe (zYc xI 136) (zYN (xI 269) 0 0 0) := fun i h1 h2 h3 => by
  by_cases c : 0 ≤ i ∧ i < 49
  · have z := zI_Y0 ⟨i.toNat, by omega⟩
    have e : ((i.toNat : Nat) : Int) = i := by omega
    have z : zYc xI 136 ((i.toNat : Nat) : Int) = zYN (xI 269) 0 0 0 ((i.toNat : Nat) : Int) := z
    rw [e] at z
    exact z
  · unfold zYc zYN
    by_cases b : i < 0
    · rw [if_pos b, if_pos b]
    · simp only [if_neg b, if_neg (show ¬ i < 2 from by omega), if_neg (show ¬ i < 4 from by omega), if_neg (show ¬ i < 14 from by omega), if_neg (show ¬ i < 24 from by omega), if_neg (show ¬ i < 34 from by omega), if_neg (show ¬ i < 44 from by omega), if_neg (show ¬ i < 49 from by omega), if_neg (show ¬ i = 44 from by omega), if_neg (show ¬ i = 45 from by omega), if_neg (show ¬ i = 46 from by omega), if_neg (show ¬ i = 47 from by omega), if_neg (show ¬ i = 48 from by omega)]
theorem zI_q0 : ∀ i : Fin 10, (zYN (xI 269) 0 0 0 (4 + ((i.val : Nat) : Int)) = -1 ∧ zYN (xI 269) 0 0 0 (14 + ((i.val : Nat) : Int)) = 0) ∧ (zYN (xI 269) 0 0 0 (24 + ((i.val : Nat) : Int)) = 0 ∧ zYN (xI 269) 0 0 0 (34 + ((i.val : Nat) : Int)) = 0) := by decide +kernel
theorem zI_q : zYq (zYN (xI 269) 0 0 0) := fun f f1 f2 => by
  have z := zI_q0 ⟨f.toNat, by omega⟩
  have e : ((f.toNat : Nat) : Int) = f := by omega
  have z : (zYN (xI 269) 0 0 0 (4 + ((f.toNat : Nat) : Int)) = -1 ∧ zYN (xI 269) 0 0 0 (14 + ((f.toNat : Nat) : Int)) = 0) ∧ (zYN (xI 269) 0 0 0 (24 + ((f.toNat : Nat) : Int)) = 0 ∧ zYN (xI 269) 0 0 0 (34 + ((f.toNat : Nat) : Int)) = 0) := z
  rw [e] at z
  omega
theorem zI_D : zDd xI 136 269 := ⟨zI_Y, zI_q, ⟨Or.inl (by decide +kernel), Or.inl (by decide +kernel), Or.inr (by decide +kernel)⟩, ⟨by decide +kernel, by decide +kernel⟩, ⟨by decide +kernel, by decide +kernel⟩, ⟨by decide +kernel, by decide +kernel⟩⟩
theorem zI_W : zWk xI 136 274 275 := fun j j1 j2 => by
  rcases (by omega : j = 0 ∨ j = 1) with rfl | rfl
  · exact ⟨by unfold zRo; decide +kernel, by decide +kernel, fun i i1 i2 => absurd i2 (by show ¬ i < 0; omega)⟩
  · exact ⟨by unfold zRo; decide +kernel, by decide +kernel, fun i i1 i2 => absurd i2 (by show ¬ i < 0; omega)⟩
theorem zI_G : zSg xI := fun k hk => by
  rcases (by omega : k = 0 ∨ k = 1 ∨ k = 2 ∨ k = 3 ∨ k = 4) with rfl | rfl | rfl | rfl | rfl <;> exact ⟨by decide +kernel, by decide +kernel⟩
theorem zI_9 : zR9 xI := ⟨zI_L, zI_M, ⟨zI_D, zI_W, fun q _ _ => by show (0 : Int) ≤ 0 ∧ (0 : Int) ≤ 8; decide⟩, ⟨fun q _ _ => by show (0 : Int) ≤ 0 ∧ (0 : Int) ≤ 8; decide, fun h => absurd (by decide +kernel) h⟩, IS_0 (by decide +kernel) (fun t _ _ => rfl) (fun t _ _ => rfl), fun a _ _ a3 => absurd (show xI 107 a = 0 from rfl) a3, zI_G, by decide +kernel⟩

def lJ (σ : xS) (n : Nat) : Prop := IC σ ∧ IMn σ ∧ IMk σ ∧ IMo σ ∧ (σ 0 11 = 0 ∨ σ 0 11 = 1) ∧ (0 ≤ σ 999996 0 ∧ σ 999996 0 ≤ (n : Int)) ∧ lR σ
theorem lI_d {d : Nat} (hd : xDay d) : okD xI d := by
  have h9 : d = 136 ∨ d = 146 ∨ d = 158 ∨ d = 168 ∨ d = 178 ∨ d = 188 ∨ d = 198 ∨ d = 208 := by unfold xDay at hd; omega
  rcases h9 with rfl | rfl | rfl | rfl | rfl | rfl | rfl | rfl <;> (refine ⟨fun j h1 h2 => ?_, fun j h1 h2 => Int.le_refl 0, ⟨by decide +kernel, by decide +kernel⟩, ⟨by decide +kernel, by decide +kernel⟩, fun j h1 h2 => Or.inl rfl⟩; rcases (by omega : j = 0 ∨ j = 1) with rfl | rfl <;> exact Or.inl (by decide +kernel))
theorem lI_C : IC xI := by
  refine ⟨⟨⟨by decide +kernel, by decide +kernel⟩, fun j h1 h2 => ?_⟩, ⟨⟨by decide +kernel, by decide +kernel⟩, ⟨by decide +kernel, by decide +kernel⟩⟩, ⟨⟨by decide +kernel, by decide +kernel⟩, ⟨by decide +kernel, by decide +kernel⟩⟩, ⟨by decide +kernel, by decide +kernel⟩, ⟨by decide +kernel, by decide +kernel⟩, fun d hd => lI_d hd⟩
  show (0 : Int) ≤ 0 ∧ (0 : Int) ≤ 255
  decide
theorem lI_n0 (k : Nat) (h : ∀ j : Int, xI k j = 0) : okN xI k := by
  refine ⟨fun j h1 h2 => ?_, fun j h1 h2 => ?_, fun j h1 h2 => ?_, ?_, ?_⟩ <;> rw [h] <;> decide
theorem lI_n269 : okN xI 269 := by
  have h : ∀ j : Int, j ≠ 38 → xI 269 j = 0 := fun j hj => by
    show (if j = 38 then (1 : Int) else 0) = 0
    rw [if_neg hj]
  refine ⟨fun j h1 h2 => ?_, fun j h1 h2 => ?_, fun j h1 h2 => ?_, ?_, ⟨by decide +kernel, by decide +kernel⟩⟩ <;> rw [h _ (by omega)] <;> decide
theorem lI_n : IMn xI := by
  refine ⟨⟨by decide +kernel, by decide +kernel⟩, lI_n269, lI_n0 270 (fun j => rfl), lI_n0 271 (fun j => rfl), fun j h1 h2 => ?_, fun j h1 h2 => ?_, fun j h1 h2 => ?_⟩
  · show (-1 : Int) ≤ -1 ∧ (-1 : Int) ≤ 99
    decide
  · show (0 : Int) ≤ 0 ∧ (0 : Int) ≤ 60
    decide
  · show (0 : Int) ≤ 0 ∧ (0 : Int) ≤ 60
    decide
theorem lI_k : IMk xI := by
  have h : xI 268 17 = 0 := by decide +kernel
  unfold IMk
  rw [h]
  exact ⟨by decide, fun q h1 h2 => by omega⟩
theorem lI_o : IMo xI := by
  refine ⟨fun j h1 h2 => ?_, fun j h1 h2 => ?_⟩
  · show (0 : Int) ≤ 0 ∧ (0 : Int) ≤ 9
    decide
  · show (0 : Int) ≤ 0 ∧ (0 : Int) ≤ 7
    decide
theorem lJ_I : lJ xI 0 := ⟨lI_C, lI_n, lI_k, lI_o, Or.inl (by decide +kernel), ⟨by decide +kernel, by decide +kernel⟩, ⟨⟨by decide +kernel, funext fun j => by show (0 : Int) = 0 % 256; rfl, fun j => by show (-128 : Int) ≤ 0 ∧ (0 : Int) ≤ 127; decide⟩, ⟨⟨rfl, fun j => by show (0 : Int) ≤ 0 ∧ (0 : Int) ≤ 3; decide⟩, fun j _ _ => by show (0 : Int) = 0 ∧ (0 : Int) ≤ 0 ∧ (0 : Int) ≤ 3; decide, by decide +kernel⟩, zI_9⟩⟩
theorem x_and31 (x : Int32) : ∃ a : Int, (0 ≤ a ∧ a < 32) ∧ x &&& xJ 31 = xJ a := by
  refine ⟨((x.toBitVec.toNat % 32 : Nat) : Int), by omega, ?_⟩
  rw [xJ_nat]
  refine Int32.toBitVec_inj.mp (BitVec.eq_of_toNat_eq ?_)
  rw [Int32.toBitVec_and, BitVec.toNat_and]
  have h1 : (xJ 31).toBitVec.toNat = 2 ^ 5 - 1 := by decide
  have h2 : (nI (x.toBitVec.toNat % 32)).toBitVec = BitVec.ofNat 32 (x.toBitVec.toNat % 32) := rfl
  rw [h1, h2, Nat.and_two_pow_sub_one_eq_mod, BitVec.toNat_ofNat]
  omega
section LW
variable {p : Program} {l : Launch} {e : Env} {R : Room} {s : State} {m : MethodId} {args : Array Value} {below : List Frame} {meth : Method} {c : Code} {H : Heap} {locs : List Loc} {cells slots : Nat} {Q : State → Prop}
variable {cc : ByteArray} {pc : Nat} {ls : Array Slot} {rest : List Value} {D : va_G} {g : xG} {T : Nat × Nat × Nat} {b h0 L : Nat} {xs : Nat → Int32} {σ : xS}
theorem l_sld {i v : Int} (hx : p.tables.exec = Jvm.exec) (hb : c.code = cc) (hX : va_X b L xs s s.heap) (hbl : b < s.heap.size) (eh : h0 = s.heap.size) (hW : xW D g h0 s H locs σ) (hi : 0 ≤ i ∧ i < (L : Int)) (hL : L ≤ 3072) (hv : xs i.toNat = xJ v) (hdg : decode cc pc = .ok (.iaload, 1))
    (kk : W p l e R s m args below meth c H locs cells slots Q (F0 m (pc + 1) ls (.int (xJ v) :: rest))) : W p l e R s m args below meth c H locs cells slots Q (F0 m pc ls (.int (xJ i) :: .ref b :: rest)) := by
  have hR : xR i := by omega
  refine va_sld hx hb hX hbl (A := xA h0) (fun h => by have : h0 ≤ b := h; omega) hW.2.2 (xJ_in hR hi.1 (by omega)) hdg ?_
  rw [xJ_cl hR, hv]
  exact kk
theorem l_slen (hx : p.tables.exec = Jvm.exec) (hb : c.code = cc) (hX : va_X b L xs s s.heap) (hbl : b < s.heap.size) (eh : h0 = s.heap.size) (hW : xW D g h0 s H locs σ) (hdg : decode cc pc = .ok (.arraylength, 1))
    (kk : W p l e R s m args below meth c H locs cells slots Q (F0 m (pc + 1) ls (.int (xJ (L : Int)) :: rest))) : W p l e R s m args below meth c H locs cells slots Q (F0 m pc ls (.ref b :: rest)) := by
  refine va_slen hx hb hX hbl (A := xA h0) (fun h => by have : h0 ≤ b := h; omega) hW.2.2 hdg ?_
  rw [xJ_nat] at kk
  exact kk
end LW
