theorem cls_X11 : xCls RX11 TX11 61 11 tyX11 := ⟨xin [1246, 1248, 1250, 1252, 1254, 1256, 1258, 1260, 1262, 1264, 1266, 1268, 1270, 1272, 1274, 1276, 1278, 1280, 1282, 1284, 1286, 1288, 1290, 1292, 1294, 1296, 1298, 1300, 1302, 1304, 1306, 1308, 1310, 1312, 1314, 1316, 1318, 1320, 1322, 1324, 1326, 1328, 1330, 1332, 1334, 1336, 1338, 1340, 1342, 1344, 1346, 1348, 1350, 1352, 1354, 1356, 1358, 1360, 1362, 1364, 1366] (by decide +kernel) (by decide +kernel), rfl, tyX11_ok, nmX11⟩
theorem st_X11_8 (h0 : Nat) (σ : xS) (k : Nat) (a : Int) : xobj h0 (xU σ k 8 a) k 11 = (xobj h0 σ k 11).set 8 (.int (xJ a)) := by simp [xobj, xU]
theorem ln_X11_8 (h0 : Nat) (σ : xS) (k : Nat) : 8 < (xobj h0 σ k 11).length := by simp [xobj]
theorem st_X11_41 (h0 : Nat) (σ : xS) (k : Nat) (a : Int) : xobj h0 (xU σ k 41 a) k 11 = (xobj h0 σ k 11).set 41 (.int (xJ a)) := by simp [xobj, xU]
theorem ln_X11_41 (h0 : Nat) (σ : xS) (k : Nat) : 41 < (xobj h0 σ k 11).length := by simp [xobj]
theorem st_X11_42 (h0 : Nat) (σ : xS) (k : Nat) (a : Int) : xobj h0 (xU σ k 42 a) k 11 = (xobj h0 σ k 11).set 42 (.int (xJ a)) := by simp [xobj, xU]
theorem ln_X11_42 (h0 : Nat) (σ : xS) (k : Nat) : 42 < (xobj h0 σ k 11).length := by simp [xobj]
theorem st_X11_43 (h0 : Nat) (σ : xS) (k : Nat) (a : Int) : xobj h0 (xU σ k 43 a) k 11 = (xobj h0 σ k 11).set 43 (.int (xJ a)) := by simp [xobj, xU]
theorem ln_X11_43 (h0 : Nat) (σ : xS) (k : Nat) : 43 < (xobj h0 σ k 11).length := by simp [xobj]
theorem st_X11_44 (h0 : Nat) (σ : xS) (k : Nat) (a : Int) : xobj h0 (xU σ k 44 a) k 11 = (xobj h0 σ k 11).set 44 (.int (xJ a)) := by simp [xobj, xU]
theorem ln_X11_44 (h0 : Nat) (σ : xS) (k : Nat) : 44 < (xobj h0 σ k 11).length := by simp [xobj]
theorem cf_X11_beside : xCF yX11_beside cX11_beside 4 (some .int) 2 := ⟨xq 1555 (by decide +kernel) rfl, xq 179 (by decide +kernel) rfl, by decide +kernel⟩
theorem cf_X11_falls : xCF yX11_falls cX11_falls 6 none 3 := ⟨xq 1601 (by decide +kernel) rfl, xq 179 (by decide +kernel) rfl, by decide +kernel⟩
theorem cf_X11_fallsBehind : xCF yX11_fallsBehind cX11_fallsBehind 7 none 2 := ⟨xq 1613 (by decide +kernel) rfl, xq 179 (by decide +kernel) rfl, by decide +kernel⟩
theorem cf_X11_has : xCF yX11_has cX11_has 2 (some .boolean) 2 := ⟨xq 1416 (by decide +kernel) rfl, xq 179 (by decide +kernel) rfl, by decide +kernel⟩
theorem cf_X11_in : xCF yX11_in cX11_in 3 (some .boolean) 3 := ⟨xq 1384 (by decide +kernel) rfl, xq 179 (by decide +kernel) rfl, by decide +kernel⟩
theorem cf_X11_isFelon : xCF yX11_isFelon cX11_isFelon 2 (some .boolean) 1 := ⟨xq 1424 (by decide +kernel) rfl, xq 179 (by decide +kernel) rfl, by decide +kernel⟩
theorem cf_X11_isFive : xCF yX11_isFive cX11_isFive 2 (some .boolean) 2 := ⟨xq 1413 (by decide +kernel) rfl, xq 179 (by decide +kernel) rfl, by decide +kernel⟩
theorem cf_X11_isGround : xCF yX11_isGround cX11_isGround 2 (some .boolean) 1 := ⟨xq 1420 (by decide +kernel) rfl, xq 179 (by decide +kernel) rfl, by decide +kernel⟩
theorem cf_X11_isJudge : xCF yX11_isJudge cX11_isJudge 2 (some .boolean) 1 := ⟨xq 1410 (by decide +kernel) rfl, xq 179 (by decide +kernel) rfl, by decide +kernel⟩
theorem cf_X11_isOn : xCF yX11_isOn cX11_isOn 2 (some .boolean) 2 := ⟨xq 1431 (by decide +kernel) rfl, xq 179 (by decide +kernel) rfl, by decide +kernel⟩
theorem cf_X11_steps : xCF yX11_steps cX11_steps 4 none 2 := ⟨xq 1552 (by decide +kernel) rfl, xq 179 (by decide +kernel) rfl, by decide +kernel⟩
theorem cf_X11_types : xCF yX11_types cX11_types 3 none 1 := ⟨xq 1377 (by decide +kernel) rfl, xq 179 (by decide +kernel) rfl, by decide +kernel⟩
theorem cf_X11_wayX : xCF yX11_wayX cX11_wayX 1 (some .int) 1 := ⟨xq 1558 (by decide +kernel) rfl, xq 179 (by decide +kernel) rfl, by decide +kernel⟩
theorem cf_X11_wayY : xCF yX11_wayY cX11_wayY 1 (some .int) 1 := ⟨xq 1561 (by decide +kernel) rfl, xq 179 (by decide +kernel) rfl, by decide +kernel⟩
theorem wq104 : Cond.selects yX11_types.cls yX11_types yX11_types ∈ xTB := xq 104 (by decide +kernel) rfl
theorem wq109 : Cond.selects yX11_isJudge.cls yX11_isJudge yX11_isJudge ∈ xTB := xq 109 (by decide +kernel) rfl
theorem wq110 : Cond.selects yX11_isGround.cls yX11_isGround yX11_isGround ∈ xTB := xq 110 (by decide +kernel) rfl
theorem wq111 : Cond.selects yX11_isFelon.cls yX11_isFelon yX11_isFelon ∈ xTB := xq 111 (by decide +kernel) rfl
theorem wq133 : Cond.selects yX11_steps.cls yX11_steps yX11_steps ∈ xTB := xq 133 (by decide +kernel) rfl
theorem wq142 : Cond.selects yX11_falls.cls yX11_falls yX11_falls ∈ xTB := xq 142 (by decide +kernel) rfl
theorem wq145 : Cond.selects yX11_fallsBehind.cls yX11_fallsBehind yX11_fallsBehind ∈ xTB := xq 145 (by decide +kernel) rfl
theorem wq1185 : Cond.fieldLink "ShadowCourtModel" (7) "ShadowCourtModel" "now" "[I" ∈ xTB := xq 1185 (by decide +kernel) rfl
theorem wq1188 : Cond.fieldLink "ShadowCourtModel" (19) "ShadowCourtModel" "kindOf" "[I" ∈ xTB := xq 1188 (by decide +kernel) rfl
theorem wq1189 : Cond.fieldLink "ShadowCourtModel" (22) "ShadowCourtModel" "lampAt" "[I" ∈ xTB := xq 1189 (by decide +kernel) rfl
theorem wq1190 : Cond.fieldLink "ShadowCourtModel" (25) "ShadowCourtModel" "walkMany" "[I" ∈ xTB := xq 1190 (by decide +kernel) rfl
theorem wq1191 : Cond.fieldLink "ShadowCourtModel" (28) "ShadowCourtModel" "walkStep" "[B" ∈ xTB := xq 1191 (by decide +kernel) rfl
theorem wq1192 : Cond.fieldLink "ShadowCourtModel" (32) "ShadowCourtModel" "tape" "[B" ∈ xTB := xq 1192 (by decide +kernel) rfl
theorem wq1193 : Cond.fieldLink "ShadowCourtModel" (164) "ShadowCourtModel" "taped" "I" ∈ xTB := xq 1193 (by decide +kernel) rfl
theorem wq1224 : Cond.fieldLink "ShadowCourtModel" (86) "ShadowCourtModel" "facts" "[I" ∈ xTB := xq 1224 (by decide +kernel) rfl
theorem wq1225 : Cond.fieldLink "ShadowCourtModel" (89) "ShadowCourtModel" "shades" "[I" ∈ xTB := xq 1225 (by decide +kernel) rfl
theorem wq1226 : Cond.fieldLink "ShadowCourtModel" (371) "ShadowCourtModel" "servedNow" "I" ∈ xTB := xq 1226 (by decide +kernel) rfl
theorem wq1227 : Cond.fieldLink "ShadowCourtModel" (365) "ShadowCourtModel" "awayNow" "I" ∈ xTB := xq 1227 (by decide +kernel) rfl
theorem wq1228 : Cond.fieldLink "ShadowCourtModel" (378) "ShadowCourtModel" "cloudyNow" "I" ∈ xTB := xq 1228 (by decide +kernel) rfl
theorem wq1229 : Cond.fieldLink "ShadowCourtModel" (368) "ShadowCourtModel" "stepsNow" "I" ∈ xTB := xq 1229 (by decide +kernel) rfl
theorem wq1230 : Cond.fieldLink "ShadowCourtModel" (92) "ShadowCourtModel" "costTo" "[I" ∈ xTB := xq 1230 (by decide +kernel) rfl
theorem wq1374 : Cond.methodLink "ShadowCourtModel" (167) yX11_types ∈ xTB := xq 1374 (by decide +kernel) rfl
theorem wq1376 : Cond.instanceMethod yX11_types ∈ xTB := xq 1376 (by decide +kernel) rfl
theorem wq1382 : Cond.methodLink "ShadowCourtModel" (150) yX11_in ∈ xTB := xq 1382 (by decide +kernel) rfl
theorem wq1383 : Cond.static yX11_in ∈ xTB := xq 1383 (by decide +kernel) rfl
theorem wq1407 : Cond.methodLink "ShadowCourtModel" (260) yX11_isJudge ∈ xTB := xq 1407 (by decide +kernel) rfl
theorem wq1409 : Cond.instanceMethod yX11_isJudge ∈ xTB := xq 1409 (by decide +kernel) rfl
theorem wq1411 : Cond.methodLink "ShadowCourtModel" (139) yX11_isFive ∈ xTB := xq 1411 (by decide +kernel) rfl
theorem wq1412 : Cond.static yX11_isFive ∈ xTB := xq 1412 (by decide +kernel) rfl
theorem wq1414 : Cond.methodLink "ShadowCourtModel" (143) yX11_has ∈ xTB := xq 1414 (by decide +kernel) rfl
theorem wq1415 : Cond.static yX11_has ∈ xTB := xq 1415 (by decide +kernel) rfl
theorem wq1417 : Cond.methodLink "ShadowCourtModel" (263) yX11_isGround ∈ xTB := xq 1417 (by decide +kernel) rfl
theorem wq1419 : Cond.instanceMethod yX11_isGround ∈ xTB := xq 1419 (by decide +kernel) rfl
theorem wq1421 : Cond.methodLink "ShadowCourtModel" (146) yX11_isFelon ∈ xTB := xq 1421 (by decide +kernel) rfl
theorem wq1423 : Cond.instanceMethod yX11_isFelon ∈ xTB := xq 1423 (by decide +kernel) rfl
theorem wq1429 : Cond.methodLink "ShadowCourtModel" (161) yX11_isOn ∈ xTB := xq 1429 (by decide +kernel) rfl
theorem wq1430 : Cond.static yX11_isOn ∈ xTB := xq 1430 (by decide +kernel) rfl
theorem wq1549 : Cond.methodLink "ShadowCourtModel" (345) yX11_steps ∈ xTB := xq 1549 (by decide +kernel) rfl
theorem wq1551 : Cond.instanceMethod yX11_steps ∈ xTB := xq 1551 (by decide +kernel) rfl
theorem wq1553 : Cond.methodLink "ShadowCourtModel" (323) yX11_beside ∈ xTB := xq 1553 (by decide +kernel) rfl
theorem wq1554 : Cond.static yX11_beside ∈ xTB := xq 1554 (by decide +kernel) rfl
theorem wq1556 : Cond.methodLink "ShadowCourtModel" (154) yX11_wayX ∈ xTB := xq 1556 (by decide +kernel) rfl
theorem wq1557 : Cond.static yX11_wayX ∈ xTB := xq 1557 (by decide +kernel) rfl
theorem wq1559 : Cond.methodLink "ShadowCourtModel" (158) yX11_wayY ∈ xTB := xq 1559 (by decide +kernel) rfl
theorem wq1560 : Cond.static yX11_wayY ∈ xTB := xq 1560 (by decide +kernel) rfl
theorem wq1570 : Cond.constant "ShadowCourtModel" (374) (65536) ∈ xTB := xq 1570 (by decide +kernel) rfl
theorem wq1598 : Cond.methodLink "ShadowCourtModel" (326) yX11_falls ∈ xTB := xq 1598 (by decide +kernel) rfl
theorem wq1600 : Cond.instanceMethod yX11_falls ∈ xTB := xq 1600 (by decide +kernel) rfl
theorem wq1610 : Cond.methodLink "ShadowCourtModel" (330) yX11_fallsBehind ∈ xTB := xq 1610 (by decide +kernel) rfl
theorem wq1612 : Cond.instanceMethod yX11_fallsBehind ∈ xTB := xq 1612 (by decide +kernel) rfl
theorem wq1622 : Cond.constant "ShadowCourtModel" (348) (1000000000) ∈ xTB := xq 1622 (by decide +kernel) rfl
theorem dX11_bares_0 : decode cX11_bares 0 = .ok (.iconst 0, 1) := by decide +kernel
theorem dX11_bares_1 : decode cX11_bares 1 = .ok (.istore_n 1, 1) := by decide +kernel
theorem dX11_bares_2 : decode cX11_bares 2 = .ok (.iload_n 1, 1) := by decide +kernel
theorem dX11_bares_3 : decode cX11_bares 3 = .ok (.bipush 100, 2) := by decide +kernel
theorem dX11_bares_5 : decode cX11_bares 5 = .ok (.if_icmp .ge 16, 3) := by decide +kernel
theorem dX11_bares_8 : decode cX11_bares 8 = .ok (.aload_n 0, 1) := by decide +kernel
theorem dX11_bares_9 : decode cX11_bares 9 = .ok (.getfield 89, 3) := by decide +kernel
theorem dX11_bares_12 : decode cX11_bares 12 = .ok (.iload_n 1, 1) := by decide +kernel
theorem dX11_bares_13 : decode cX11_bares 13 = .ok (.iconst 0, 1) := by decide +kernel
theorem dX11_bares_14 : decode cX11_bares 14 = .ok (.iastore, 1) := by decide +kernel
theorem dX11_bares_15 : decode cX11_bares 15 = .ok (.iinc 1 1, 3) := by decide +kernel
theorem dX11_bares_18 : decode cX11_bares 18 = .ok (.goto (-16), 3) := by decide +kernel
theorem dX11_bares_21 : decode cX11_bares 21 = .ok (.return_, 1) := by decide +kernel
theorem dX11_begins_0 : decode cX11_begins 0 = .ok (.aload_n 0, 1) := by decide +kernel
theorem dX11_begins_1 : decode cX11_begins 1 = .ok (.iconst 0, 1) := by decide +kernel
theorem dX11_begins_2 : decode cX11_begins 2 = .ok (.putfield 371, 3) := by decide +kernel
theorem dX11_begins_5 : decode cX11_begins 5 = .ok (.aload_n 0, 1) := by decide +kernel
theorem dX11_begins_6 : decode cX11_begins 6 = .ok (.iconst 0, 1) := by decide +kernel
theorem dX11_begins_7 : decode cX11_begins 7 = .ok (.putfield 365, 3) := by decide +kernel
theorem dX11_begins_10 : decode cX11_begins 10 = .ok (.aload_n 0, 1) := by decide +kernel
theorem dX11_begins_11 : decode cX11_begins 11 = .ok (.iconst 0, 1) := by decide +kernel
theorem dX11_begins_12 : decode cX11_begins 12 = .ok (.putfield 378, 3) := by decide +kernel
theorem dX11_begins_15 : decode cX11_begins 15 = .ok (.aload_n 0, 1) := by decide +kernel
theorem dX11_begins_16 : decode cX11_begins 16 = .ok (.iconst 0, 1) := by decide +kernel
theorem dX11_begins_17 : decode cX11_begins 17 = .ok (.putfield 368, 3) := by decide +kernel
theorem dX11_begins_20 : decode cX11_begins 20 = .ok (.return_, 1) := by decide +kernel
theorem dX11_beside_0 : decode cX11_beside 0 = .ok (.iload_n 0, 1) := by decide +kernel
theorem dX11_beside_1 : decode cX11_beside 1 = .ok (.bipush 10, 2) := by decide +kernel
theorem dX11_beside_3 : decode cX11_beside 3 = .ok (.irem, 1) := by decide +kernel
theorem dX11_beside_4 : decode cX11_beside 4 = .ok (.iload_n 1, 1) := by decide +kernel
theorem dX11_beside_5 : decode cX11_beside 5 = .ok (.invokestatic 154, 3) := by decide +kernel
theorem dX11_beside_8 : decode cX11_beside 8 = .ok (.iadd, 1) := by decide +kernel
theorem dX11_beside_9 : decode cX11_beside 9 = .ok (.istore_n 2, 1) := by decide +kernel
theorem dX11_beside_10 : decode cX11_beside 10 = .ok (.iload_n 0, 1) := by decide +kernel
theorem dX11_beside_11 : decode cX11_beside 11 = .ok (.bipush 10, 2) := by decide +kernel
theorem dX11_beside_13 : decode cX11_beside 13 = .ok (.idiv, 1) := by decide +kernel
theorem dX11_beside_14 : decode cX11_beside 14 = .ok (.iload_n 1, 1) := by decide +kernel
theorem dX11_beside_15 : decode cX11_beside 15 = .ok (.invokestatic 158, 3) := by decide +kernel
theorem dX11_beside_18 : decode cX11_beside 18 = .ok (.iadd, 1) := by decide +kernel
theorem dX11_beside_19 : decode cX11_beside 19 = .ok (.istore_n 3, 1) := by decide +kernel
theorem dX11_beside_20 : decode cX11_beside 20 = .ok (.iload_n 2, 1) := by decide +kernel
theorem dX11_beside_21 : decode cX11_beside 21 = .ok (.iload_n 3, 1) := by decide +kernel
theorem dX11_beside_22 : decode cX11_beside 22 = .ok (.invokestatic 161, 3) := by decide +kernel
theorem dX11_beside_25 : decode cX11_beside 25 = .ok (.ifCond .eq 12, 3) := by decide +kernel
theorem dX11_beside_28 : decode cX11_beside 28 = .ok (.bipush 10, 2) := by decide +kernel
theorem dX11_beside_30 : decode cX11_beside 30 = .ok (.iload_n 3, 1) := by decide +kernel
theorem dX11_beside_31 : decode cX11_beside 31 = .ok (.imul, 1) := by decide +kernel
theorem dX11_beside_32 : decode cX11_beside 32 = .ok (.iload_n 2, 1) := by decide +kernel
theorem dX11_beside_33 : decode cX11_beside 33 = .ok (.iadd, 1) := by decide +kernel
theorem dX11_beside_34 : decode cX11_beside 34 = .ok (.goto 4, 3) := by decide +kernel
theorem dX11_beside_37 : decode cX11_beside 37 = .ok (.iconst (-1), 1) := by decide +kernel
theorem dX11_beside_38 : decode cX11_beside 38 = .ok (.ireturn, 1) := by decide +kernel
theorem dX11_bits_0 : decode cX11_bits 0 = .ok (.iconst 0, 1) := by decide +kernel
theorem dX11_bits_1 : decode cX11_bits 1 = .ok (.istore_n 1, 1) := by decide +kernel
theorem dX11_bits_2 : decode cX11_bits 2 = .ok (.iconst 0, 1) := by decide +kernel
theorem dX11_bits_3 : decode cX11_bits 3 = .ok (.istore_n 2, 1) := by decide +kernel
theorem dX11_bits_4 : decode cX11_bits 4 = .ok (.iload_n 2, 1) := by decide +kernel
theorem dX11_bits_5 : decode cX11_bits 5 = .ok (.bipush 10, 2) := by decide +kernel
theorem dX11_bits_7 : decode cX11_bits 7 = .ok (.if_icmp .ge 17, 3) := by decide +kernel
theorem dX11_bits_10 : decode cX11_bits 10 = .ok (.iload_n 1, 1) := by decide +kernel
theorem dX11_bits_11 : decode cX11_bits 11 = .ok (.iload_n 0, 1) := by decide +kernel
theorem dX11_bits_12 : decode cX11_bits 12 = .ok (.iload_n 2, 1) := by decide +kernel
theorem dX11_bits_13 : decode cX11_bits 13 = .ok (.ishr, 1) := by decide +kernel
theorem dX11_bits_14 : decode cX11_bits 14 = .ok (.iconst 1, 1) := by decide +kernel
theorem dX11_bits_15 : decode cX11_bits 15 = .ok (.iand, 1) := by decide +kernel
theorem dX11_bits_16 : decode cX11_bits 16 = .ok (.iadd, 1) := by decide +kernel
theorem dX11_bits_17 : decode cX11_bits 17 = .ok (.istore_n 1, 1) := by decide +kernel
theorem dX11_bits_18 : decode cX11_bits 18 = .ok (.iinc 2 1, 3) := by decide +kernel
theorem dX11_bits_21 : decode cX11_bits 21 = .ok (.goto (-17), 3) := by decide +kernel
theorem dX11_bits_24 : decode cX11_bits 24 = .ok (.iload_n 1, 1) := by decide +kernel
theorem dX11_bits_25 : decode cX11_bits 25 = .ok (.ireturn, 1) := by decide +kernel
theorem dX11_copies_0 : decode cX11_copies 0 = .ok (.iconst 0, 1) := by decide +kernel
theorem dX11_copies_1 : decode cX11_copies 1 = .ok (.istore_n 2, 1) := by decide +kernel
theorem dX11_copies_2 : decode cX11_copies 2 = .ok (.iload_n 2, 1) := by decide +kernel
theorem dX11_copies_3 : decode cX11_copies 3 = .ok (.bipush 39, 2) := by decide +kernel
theorem dX11_copies_5 : decode cX11_copies 5 = .ok (.if_icmp .ge 15, 3) := by decide +kernel
theorem dX11_copies_8 : decode cX11_copies 8 = .ok (.aload_n 1, 1) := by decide +kernel
theorem dX11_copies_9 : decode cX11_copies 9 = .ok (.iload_n 2, 1) := by decide +kernel
theorem dX11_copies_10 : decode cX11_copies 10 = .ok (.aload_n 0, 1) := by decide +kernel
theorem dX11_copies_11 : decode cX11_copies 11 = .ok (.iload_n 2, 1) := by decide +kernel
theorem dX11_copies_12 : decode cX11_copies 12 = .ok (.iaload, 1) := by decide +kernel
theorem dX11_copies_13 : decode cX11_copies 13 = .ok (.iastore, 1) := by decide +kernel
theorem dX11_copies_14 : decode cX11_copies 14 = .ok (.iinc 2 1, 3) := by decide +kernel
theorem dX11_copies_17 : decode cX11_copies 17 = .ok (.goto (-15), 3) := by decide +kernel
theorem dX11_copies_20 : decode cX11_copies 20 = .ok (.return_, 1) := by decide +kernel
theorem dX11_copiesWalks_0 : decode cX11_copiesWalks 0 = .ok (.iconst 0, 1) := by decide +kernel
theorem dX11_copiesWalks_1 : decode cX11_copiesWalks 1 = .ok (.istore 4, 2) := by decide +kernel
theorem dX11_copiesWalks_3 : decode cX11_copiesWalks 3 = .ok (.iload 4, 2) := by decide +kernel
theorem dX11_copiesWalks_5 : decode cX11_copiesWalks 5 = .ok (.iconst 2, 1) := by decide +kernel
theorem dX11_copiesWalks_6 : decode cX11_copiesWalks 6 = .ok (.if_icmp .ge 17, 3) := by decide +kernel
theorem dX11_copiesWalks_9 : decode cX11_copiesWalks 9 = .ok (.aload_n 2, 1) := by decide +kernel
theorem dX11_copiesWalks_10 : decode cX11_copiesWalks 10 = .ok (.iload 4, 2) := by decide +kernel
theorem dX11_copiesWalks_12 : decode cX11_copiesWalks 12 = .ok (.aload_n 0, 1) := by decide +kernel
theorem dX11_copiesWalks_13 : decode cX11_copiesWalks 13 = .ok (.iload 4, 2) := by decide +kernel
theorem dX11_copiesWalks_15 : decode cX11_copiesWalks 15 = .ok (.iaload, 1) := by decide +kernel
theorem dX11_copiesWalks_16 : decode cX11_copiesWalks 16 = .ok (.iastore, 1) := by decide +kernel
theorem dX11_copiesWalks_17 : decode cX11_copiesWalks 17 = .ok (.iinc 4 1, 3) := by decide +kernel
theorem dX11_copiesWalks_20 : decode cX11_copiesWalks 20 = .ok (.goto (-17), 3) := by decide +kernel
theorem dX11_copiesWalks_23 : decode cX11_copiesWalks 23 = .ok (.iconst 0, 1) := by decide +kernel
theorem dX11_copiesWalks_24 : decode cX11_copiesWalks 24 = .ok (.istore 4, 2) := by decide +kernel
theorem dX11_copiesWalks_26 : decode cX11_copiesWalks 26 = .ok (.iload 4, 2) := by decide +kernel
theorem dX11_copiesWalks_28 : decode cX11_copiesWalks 28 = .ok (.bipush 120, 2) := by decide +kernel
theorem dX11_copiesWalks_30 : decode cX11_copiesWalks 30 = .ok (.if_icmp .ge 17, 3) := by decide +kernel
theorem dX11_copiesWalks_33 : decode cX11_copiesWalks 33 = .ok (.aload_n 3, 1) := by decide +kernel
theorem dX11_copiesWalks_34 : decode cX11_copiesWalks 34 = .ok (.iload 4, 2) := by decide +kernel
theorem dX11_copiesWalks_36 : decode cX11_copiesWalks 36 = .ok (.aload_n 1, 1) := by decide +kernel
theorem dX11_copiesWalks_37 : decode cX11_copiesWalks 37 = .ok (.iload 4, 2) := by decide +kernel
theorem dX11_copiesWalks_39 : decode cX11_copiesWalks 39 = .ok (.baload, 1) := by decide +kernel
theorem dX11_copiesWalks_40 : decode cX11_copiesWalks 40 = .ok (.bastore, 1) := by decide +kernel
theorem dX11_copiesWalks_41 : decode cX11_copiesWalks 41 = .ok (.iinc 4 1, 3) := by decide +kernel
theorem dX11_copiesWalks_44 : decode cX11_copiesWalks 44 = .ok (.goto (-18), 3) := by decide +kernel
theorem dX11_copiesWalks_47 : decode cX11_copiesWalks 47 = .ok (.return_, 1) := by decide +kernel
theorem dX11_draws_0 : decode cX11_draws 0 = .ok (.aload_n 0, 1) := by decide +kernel
theorem dX11_draws_1 : decode cX11_draws 1 = .ok (.getfield 7, 3) := by decide +kernel
theorem dX11_draws_4 : decode cX11_draws 4 = .ok (.bipush 38, 2) := by decide +kernel
theorem dX11_draws_6 : decode cX11_draws 6 = .ok (.sipush 25173, 3) := by decide +kernel
theorem dX11_draws_9 : decode cX11_draws 9 = .ok (.aload_n 0, 1) := by decide +kernel
theorem dX11_draws_10 : decode cX11_draws 10 = .ok (.getfield 7, 3) := by decide +kernel
theorem dX11_draws_13 : decode cX11_draws 13 = .ok (.bipush 38, 2) := by decide +kernel
theorem dX11_draws_15 : decode cX11_draws 15 = .ok (.iaload, 1) := by decide +kernel
theorem dX11_draws_16 : decode cX11_draws 16 = .ok (.imul, 1) := by decide +kernel
theorem dX11_draws_17 : decode cX11_draws 17 = .ok (.sipush 13849, 3) := by decide +kernel
theorem dX11_draws_20 : decode cX11_draws 20 = .ok (.iadd, 1) := by decide +kernel
theorem dX11_draws_21 : decode cX11_draws 21 = .ok (.ldc_w 374, 3) := by decide +kernel
theorem dX11_draws_24 : decode cX11_draws 24 = .ok (.irem, 1) := by decide +kernel
theorem dX11_draws_25 : decode cX11_draws 25 = .ok (.iastore, 1) := by decide +kernel
theorem dX11_draws_26 : decode cX11_draws 26 = .ok (.aload_n 0, 1) := by decide +kernel
theorem dX11_draws_27 : decode cX11_draws 27 = .ok (.getfield 7, 3) := by decide +kernel
theorem dX11_draws_30 : decode cX11_draws 30 = .ok (.bipush 38, 2) := by decide +kernel
theorem dX11_draws_32 : decode cX11_draws 32 = .ok (.iaload, 1) := by decide +kernel
theorem dX11_draws_33 : decode cX11_draws 33 = .ok (.bipush 10, 2) := by decide +kernel
theorem dX11_draws_35 : decode cX11_draws 35 = .ok (.irem, 1) := by decide +kernel
theorem dX11_draws_36 : decode cX11_draws 36 = .ok (.ireturn, 1) := by decide +kernel
theorem dX11_falls_0 : decode cX11_falls 0 = .ok (.iload_n 1, 1) := by decide +kernel
theorem dX11_falls_1 : decode cX11_falls 1 = .ok (.iload_n 2, 1) := by decide +kernel
theorem dX11_falls_2 : decode cX11_falls 2 = .ok (.invokestatic 323, 3) := by decide +kernel
theorem dX11_falls_5 : decode cX11_falls 5 = .ok (.istore 4, 2) := by decide +kernel
theorem dX11_falls_7 : decode cX11_falls 7 = .ok (.iconst 0, 1) := by decide +kernel
theorem dX11_falls_8 : decode cX11_falls 8 = .ok (.istore 5, 2) := by decide +kernel
theorem dX11_falls_10 : decode cX11_falls 10 = .ok (.iload 5, 2) := by decide +kernel
theorem dX11_falls_12 : decode cX11_falls 12 = .ok (.iload_n 3, 1) := by decide +kernel
theorem dX11_falls_13 : decode cX11_falls 13 = .ok (.if_icmp .ge 50, 3) := by decide +kernel
theorem dX11_falls_16 : decode cX11_falls 16 = .ok (.iload 4, 2) := by decide +kernel
theorem dX11_falls_18 : decode cX11_falls 18 = .ok (.iconst (-1), 1) := by decide +kernel
theorem dX11_falls_19 : decode cX11_falls 19 = .ok (.if_icmp .eq 44, 3) := by decide +kernel
theorem dX11_falls_22 : decode cX11_falls 22 = .ok (.aload_n 0, 1) := by decide +kernel
theorem dX11_falls_23 : decode cX11_falls 23 = .ok (.getfield 19, 3) := by decide +kernel
theorem dX11_falls_26 : decode cX11_falls 26 = .ok (.iload 4, 2) := by decide +kernel
theorem dX11_falls_28 : decode cX11_falls 28 = .ok (.iaload, 1) := by decide +kernel
theorem dX11_falls_29 : decode cX11_falls 29 = .ok (.iconst 1, 1) := by decide +kernel
theorem dX11_falls_30 : decode cX11_falls 30 = .ok (.if_icmp .eq 33, 3) := by decide +kernel
theorem dX11_falls_33 : decode cX11_falls 33 = .ok (.aload_n 0, 1) := by decide +kernel
theorem dX11_falls_34 : decode cX11_falls 34 = .ok (.getfield 89, 3) := by decide +kernel
theorem dX11_falls_37 : decode cX11_falls 37 = .ok (.iload 4, 2) := by decide +kernel
theorem dX11_falls_39 : decode cX11_falls 39 = .ok (.aload_n 0, 1) := by decide +kernel
theorem dX11_falls_40 : decode cX11_falls 40 = .ok (.getfield 89, 3) := by decide +kernel
theorem dX11_falls_43 : decode cX11_falls 43 = .ok (.iload 4, 2) := by decide +kernel
theorem dX11_falls_45 : decode cX11_falls 45 = .ok (.iaload, 1) := by decide +kernel
theorem dX11_falls_46 : decode cX11_falls 46 = .ok (.iconst 1, 1) := by decide +kernel
theorem dX11_falls_47 : decode cX11_falls 47 = .ok (.iadd, 1) := by decide +kernel
theorem dX11_falls_48 : decode cX11_falls 48 = .ok (.iastore, 1) := by decide +kernel
theorem dX11_falls_49 : decode cX11_falls 49 = .ok (.iload 4, 2) := by decide +kernel
theorem dX11_falls_51 : decode cX11_falls 51 = .ok (.iload_n 2, 1) := by decide +kernel
theorem dX11_falls_52 : decode cX11_falls 52 = .ok (.invokestatic 323, 3) := by decide +kernel
theorem dX11_falls_55 : decode cX11_falls 55 = .ok (.istore 4, 2) := by decide +kernel
theorem dX11_falls_57 : decode cX11_falls 57 = .ok (.iinc 5 1, 3) := by decide +kernel
theorem dX11_falls_60 : decode cX11_falls 60 = .ok (.goto (-50), 3) := by decide +kernel
theorem dX11_falls_63 : decode cX11_falls 63 = .ok (.return_, 1) := by decide +kernel
theorem dX11_fallsBehind_0 : decode cX11_fallsBehind 0 = .ok (.aload_n 0, 1) := by decide +kernel
theorem dX11_fallsBehind_1 : decode cX11_fallsBehind 1 = .ok (.getfield 7, 3) := by decide +kernel
theorem dX11_fallsBehind_4 : decode cX11_fallsBehind 4 = .ok (.iconst 0, 1) := by decide +kernel
theorem dX11_fallsBehind_5 : decode cX11_fallsBehind 5 = .ok (.iload_n 2, 1) := by decide +kernel
theorem dX11_fallsBehind_6 : decode cX11_fallsBehind 6 = .ok (.iadd, 1) := by decide +kernel
theorem dX11_fallsBehind_7 : decode cX11_fallsBehind 7 = .ok (.iaload, 1) := by decide +kernel
theorem dX11_fallsBehind_8 : decode cX11_fallsBehind 8 = .ok (.istore_n 3, 1) := by decide +kernel
theorem dX11_fallsBehind_9 : decode cX11_fallsBehind 9 = .ok (.iconst 0, 1) := by decide +kernel
theorem dX11_fallsBehind_10 : decode cX11_fallsBehind 10 = .ok (.istore 4, 2) := by decide +kernel
theorem dX11_fallsBehind_12 : decode cX11_fallsBehind 12 = .ok (.iload 4, 2) := by decide +kernel
theorem dX11_fallsBehind_14 : decode cX11_fallsBehind 14 = .ok (.bipush 8, 2) := by decide +kernel
theorem dX11_fallsBehind_16 : decode cX11_fallsBehind 16 = .ok (.if_icmp .ge 86, 3) := by decide +kernel
theorem dX11_fallsBehind_19 : decode cX11_fallsBehind 19 = .ok (.iload_n 1, 1) := by decide +kernel
theorem dX11_fallsBehind_20 : decode cX11_fallsBehind 20 = .ok (.iload 4, 2) := by decide +kernel
theorem dX11_fallsBehind_22 : decode cX11_fallsBehind 22 = .ok (.invokestatic 323, 3) := by decide +kernel
theorem dX11_fallsBehind_25 : decode cX11_fallsBehind 25 = .ok (.istore 5, 2) := by decide +kernel
theorem dX11_fallsBehind_27 : decode cX11_fallsBehind 27 = .ok (.iconst 1, 1) := by decide +kernel
theorem dX11_fallsBehind_28 : decode cX11_fallsBehind 28 = .ok (.istore 6, 2) := by decide +kernel
theorem dX11_fallsBehind_30 : decode cX11_fallsBehind 30 = .ok (.iload 6, 2) := by decide +kernel
theorem dX11_fallsBehind_32 : decode cX11_fallsBehind 32 = .ok (.iconst 4, 1) := by decide +kernel
theorem dX11_fallsBehind_33 : decode cX11_fallsBehind 33 = .ok (.if_icmp .ge 44, 3) := by decide +kernel
theorem dX11_fallsBehind_36 : decode cX11_fallsBehind 36 = .ok (.iload 5, 2) := by decide +kernel
theorem dX11_fallsBehind_38 : decode cX11_fallsBehind 38 = .ok (.iconst (-1), 1) := by decide +kernel
theorem dX11_fallsBehind_39 : decode cX11_fallsBehind 39 = .ok (.if_icmp .eq 38, 3) := by decide +kernel
theorem dX11_fallsBehind_42 : decode cX11_fallsBehind 42 = .ok (.iload 5, 2) := by decide +kernel
theorem dX11_fallsBehind_44 : decode cX11_fallsBehind 44 = .ok (.iload_n 3, 1) := by decide +kernel
theorem dX11_fallsBehind_45 : decode cX11_fallsBehind 45 = .ok (.if_icmp .eq 32, 3) := by decide +kernel
theorem dX11_fallsBehind_48 : decode cX11_fallsBehind 48 = .ok (.aload_n 0, 1) := by decide +kernel
theorem dX11_fallsBehind_49 : decode cX11_fallsBehind 49 = .ok (.getfield 19, 3) := by decide +kernel
theorem dX11_fallsBehind_52 : decode cX11_fallsBehind 52 = .ok (.iload 5, 2) := by decide +kernel
theorem dX11_fallsBehind_54 : decode cX11_fallsBehind 54 = .ok (.iaload, 1) := by decide +kernel
theorem dX11_fallsBehind_55 : decode cX11_fallsBehind 55 = .ok (.iconst 1, 1) := by decide +kernel
theorem dX11_fallsBehind_56 : decode cX11_fallsBehind 56 = .ok (.if_icmp .eq 21, 3) := by decide +kernel
theorem dX11_fallsBehind_59 : decode cX11_fallsBehind 59 = .ok (.iload 5, 2) := by decide +kernel
theorem dX11_fallsBehind_61 : decode cX11_fallsBehind 61 = .ok (.iload 4, 2) := by decide +kernel
theorem dX11_fallsBehind_63 : decode cX11_fallsBehind 63 = .ok (.invokestatic 323, 3) := by decide +kernel
theorem dX11_fallsBehind_66 : decode cX11_fallsBehind 66 = .ok (.istore 5, 2) := by decide +kernel
theorem dX11_fallsBehind_68 : decode cX11_fallsBehind 68 = .ok (.iload 6, 2) := by decide +kernel
theorem dX11_fallsBehind_70 : decode cX11_fallsBehind 70 = .ok (.iconst 1, 1) := by decide +kernel
theorem dX11_fallsBehind_71 : decode cX11_fallsBehind 71 = .ok (.iadd, 1) := by decide +kernel
theorem dX11_fallsBehind_72 : decode cX11_fallsBehind 72 = .ok (.istore 6, 2) := by decide +kernel
theorem dX11_fallsBehind_74 : decode cX11_fallsBehind 74 = .ok (.goto (-44), 3) := by decide +kernel
theorem dX11_fallsBehind_77 : decode cX11_fallsBehind 77 = .ok (.iload 5, 2) := by decide +kernel
theorem dX11_fallsBehind_79 : decode cX11_fallsBehind 79 = .ok (.iload_n 3, 1) := by decide +kernel
theorem dX11_fallsBehind_80 : decode cX11_fallsBehind 80 = .ok (.if_icmp .ne 16, 3) := by decide +kernel
theorem dX11_fallsBehind_83 : decode cX11_fallsBehind 83 = .ok (.iload_n 1, 1) := by decide +kernel
theorem dX11_fallsBehind_84 : decode cX11_fallsBehind 84 = .ok (.iload_n 3, 1) := by decide +kernel
theorem dX11_fallsBehind_85 : decode cX11_fallsBehind 85 = .ok (.if_icmp .eq 11, 3) := by decide +kernel
theorem dX11_fallsBehind_88 : decode cX11_fallsBehind 88 = .ok (.aload_n 0, 1) := by decide +kernel
theorem dX11_fallsBehind_89 : decode cX11_fallsBehind 89 = .ok (.iload_n 3, 1) := by decide +kernel
theorem dX11_fallsBehind_90 : decode cX11_fallsBehind 90 = .ok (.iload 4, 2) := by decide +kernel
theorem dX11_fallsBehind_92 : decode cX11_fallsBehind 92 = .ok (.iconst 2, 1) := by decide +kernel
theorem dX11_fallsBehind_93 : decode cX11_fallsBehind 93 = .ok (.invokevirtual 326, 3) := by decide +kernel
theorem dX11_fallsBehind_96 : decode cX11_fallsBehind 96 = .ok (.iinc 4 1, 3) := by decide +kernel
theorem dX11_fallsBehind_99 : decode cX11_fallsBehind 99 = .ok (.goto (-87), 3) := by decide +kernel
theorem dX11_fallsBehind_102 : decode cX11_fallsBehind 102 = .ok (.return_, 1) := by decide +kernel
theorem dX11_fallsByLamps_0 : decode cX11_fallsByLamps 0 = .ok (.iconst 0, 1) := by decide +kernel
theorem dX11_fallsByLamps_1 : decode cX11_fallsByLamps 1 = .ok (.istore_n 1, 1) := by decide +kernel
theorem dX11_fallsByLamps_2 : decode cX11_fallsByLamps 2 = .ok (.iload_n 1, 1) := by decide +kernel
theorem dX11_fallsByLamps_3 : decode cX11_fallsByLamps 3 = .ok (.iconst 4, 1) := by decide +kernel
theorem dX11_fallsByLamps_4 : decode cX11_fallsByLamps 4 = .ok (.if_icmp .ge 51, 3) := by decide +kernel
theorem dX11_fallsByLamps_7 : decode cX11_fallsByLamps 7 = .ok (.iconst 0, 1) := by decide +kernel
theorem dX11_fallsByLamps_8 : decode cX11_fallsByLamps 8 = .ok (.istore_n 2, 1) := by decide +kernel
theorem dX11_fallsByLamps_9 : decode cX11_fallsByLamps 9 = .ok (.iload_n 2, 1) := by decide +kernel
theorem dX11_fallsByLamps_10 : decode cX11_fallsByLamps 10 = .ok (.iconst 2, 1) := by decide +kernel
theorem dX11_fallsByLamps_11 : decode cX11_fallsByLamps 11 = .ok (.if_icmp .ge 38, 3) := by decide +kernel
theorem dX11_fallsByLamps_14 : decode cX11_fallsByLamps 14 = .ok (.aload_n 0, 1) := by decide +kernel
theorem dX11_fallsByLamps_15 : decode cX11_fallsByLamps 15 = .ok (.getfield 22, 3) := by decide +kernel
theorem dX11_fallsByLamps_18 : decode cX11_fallsByLamps 18 = .ok (.iload_n 1, 1) := by decide +kernel
theorem dX11_fallsByLamps_19 : decode cX11_fallsByLamps 19 = .ok (.iaload, 1) := by decide +kernel
theorem dX11_fallsByLamps_20 : decode cX11_fallsByLamps 20 = .ok (.iconst (-1), 1) := by decide +kernel
theorem dX11_fallsByLamps_21 : decode cX11_fallsByLamps 21 = .ok (.if_icmp .eq 22, 3) := by decide +kernel
theorem dX11_fallsByLamps_24 : decode cX11_fallsByLamps 24 = .ok (.aload_n 0, 1) := by decide +kernel
theorem dX11_fallsByLamps_25 : decode cX11_fallsByLamps 25 = .ok (.iload_n 2, 1) := by decide +kernel
theorem dX11_fallsByLamps_26 : decode cX11_fallsByLamps 26 = .ok (.invokevirtual 260, 3) := by decide +kernel
theorem dX11_fallsByLamps_29 : decode cX11_fallsByLamps 29 = .ok (.ifCond .eq 14, 3) := by decide +kernel
theorem dX11_fallsByLamps_32 : decode cX11_fallsByLamps 32 = .ok (.aload_n 0, 1) := by decide +kernel
theorem dX11_fallsByLamps_33 : decode cX11_fallsByLamps 33 = .ok (.aload_n 0, 1) := by decide +kernel
theorem dX11_fallsByLamps_34 : decode cX11_fallsByLamps 34 = .ok (.getfield 22, 3) := by decide +kernel
theorem dX11_fallsByLamps_37 : decode cX11_fallsByLamps 37 = .ok (.iload_n 1, 1) := by decide +kernel
theorem dX11_fallsByLamps_38 : decode cX11_fallsByLamps 38 = .ok (.iaload, 1) := by decide +kernel
theorem dX11_fallsByLamps_39 : decode cX11_fallsByLamps 39 = .ok (.iload_n 2, 1) := by decide +kernel
theorem dX11_fallsByLamps_40 : decode cX11_fallsByLamps 40 = .ok (.invokevirtual 330, 3) := by decide +kernel
theorem dX11_fallsByLamps_43 : decode cX11_fallsByLamps 43 = .ok (.iinc 2 1, 3) := by decide +kernel
theorem dX11_fallsByLamps_46 : decode cX11_fallsByLamps 46 = .ok (.goto (-37), 3) := by decide +kernel
theorem dX11_fallsByLamps_49 : decode cX11_fallsByLamps 49 = .ok (.iinc 1 1, 3) := by decide +kernel
theorem dX11_fallsByLamps_52 : decode cX11_fallsByLamps 52 = .ok (.goto (-50), 3) := by decide +kernel
theorem dX11_fallsByLamps_55 : decode cX11_fallsByLamps 55 = .ok (.return_, 1) := by decide +kernel
theorem dX11_feed_0 : decode cX11_feed 0 = .ok (.aload_n 0, 1) := by decide +kernel
theorem dX11_feed_1 : decode cX11_feed 1 = .ok (.getfield 164, 3) := by decide +kernel
theorem dX11_feed_4 : decode cX11_feed 4 = .ok (.bipush 20, 2) := by decide +kernel
theorem dX11_feed_6 : decode cX11_feed 6 = .ok (.iadd, 1) := by decide +kernel
theorem dX11_feed_7 : decode cX11_feed 7 = .ok (.sipush 260, 3) := by decide +kernel
theorem dX11_feed_10 : decode cX11_feed 10 = .ok (.if_icmp .le 5, 3) := by decide +kernel
theorem dX11_feed_13 : decode cX11_feed 13 = .ok (.iconst (-1), 1) := by decide +kernel
theorem dX11_feed_14 : decode cX11_feed 14 = .ok (.ireturn, 1) := by decide +kernel
theorem dX11_feed_15 : decode cX11_feed 15 = .ok (.aload_n 0, 1) := by decide +kernel
theorem dX11_feed_16 : decode cX11_feed 16 = .ok (.iload_n 1, 1) := by decide +kernel
theorem dX11_feed_17 : decode cX11_feed 17 = .ok (.invokevirtual 167, 3) := by decide +kernel
theorem dX11_feed_20 : decode cX11_feed 20 = .ok (.aload_n 0, 1) := by decide +kernel
theorem dX11_feed_21 : decode cX11_feed 21 = .ok (.iload_n 2, 1) := by decide +kernel
theorem dX11_feed_22 : decode cX11_feed 22 = .ok (.invokevirtual 167, 3) := by decide +kernel
theorem dX11_feed_25 : decode cX11_feed 25 = .ok (.aload_n 0, 1) := by decide +kernel
theorem dX11_feed_26 : decode cX11_feed 26 = .ok (.iload_n 3, 1) := by decide +kernel
theorem dX11_feed_27 : decode cX11_feed 27 = .ok (.invokevirtual 167, 3) := by decide +kernel
theorem dX11_feed_30 : decode cX11_feed 30 = .ok (.aload_n 0, 1) := by decide +kernel
theorem dX11_feed_31 : decode cX11_feed 31 = .ok (.iload 4, 2) := by decide +kernel
theorem dX11_feed_33 : decode cX11_feed 33 = .ok (.invokevirtual 167, 3) := by decide +kernel
theorem dX11_feed_36 : decode cX11_feed 36 = .ok (.aload_n 0, 1) := by decide +kernel
theorem dX11_feed_37 : decode cX11_feed 37 = .ok (.iload 5, 2) := by decide +kernel
theorem dX11_feed_39 : decode cX11_feed 39 = .ok (.invokevirtual 167, 3) := by decide +kernel
theorem dX11_feed_42 : decode cX11_feed 42 = .ok (.aload_n 0, 1) := by decide +kernel
theorem dX11_feed_43 : decode cX11_feed 43 = .ok (.getfield 164, 3) := by decide +kernel
theorem dX11_feed_46 : decode cX11_feed 46 = .ok (.ireturn, 1) := by decide +kernel
theorem dX11_feels_0 : decode cX11_feels 0 = .ok (.iconst 0, 1) := by decide +kernel
theorem dX11_feels_1 : decode cX11_feels 1 = .ok (.istore_n 2, 1) := by decide +kernel
theorem dX11_feels_2 : decode cX11_feels 2 = .ok (.iload_n 2, 1) := by decide +kernel
theorem dX11_feels_3 : decode cX11_feels 3 = .ok (.bipush 7, 2) := by decide +kernel
theorem dX11_feels_5 : decode cX11_feels 5 = .ok (.if_icmp .ge 16, 3) := by decide +kernel
theorem dX11_feels_8 : decode cX11_feels 8 = .ok (.aload_n 0, 1) := by decide +kernel
theorem dX11_feels_9 : decode cX11_feels 9 = .ok (.getfield 86, 3) := by decide +kernel
theorem dX11_feels_12 : decode cX11_feels 12 = .ok (.iload_n 2, 1) := by decide +kernel
theorem dX11_feels_13 : decode cX11_feels 13 = .ok (.iconst 0, 1) := by decide +kernel
theorem dX11_feels_14 : decode cX11_feels 14 = .ok (.iastore, 1) := by decide +kernel
theorem dX11_feels_15 : decode cX11_feels 15 = .ok (.iinc 2 1, 3) := by decide +kernel
theorem dX11_feels_18 : decode cX11_feels 18 = .ok (.goto (-16), 3) := by decide +kernel
theorem dX11_feels_21 : decode cX11_feels 21 = .ok (.aload_n 0, 1) := by decide +kernel
theorem dX11_feels_22 : decode cX11_feels 22 = .ok (.getfield 86, 3) := by decide +kernel
theorem dX11_feels_25 : decode cX11_feels 25 = .ok (.iconst 0, 1) := by decide +kernel
theorem dX11_feels_26 : decode cX11_feels 26 = .ok (.iload_n 1, 1) := by decide +kernel
theorem dX11_feels_27 : decode cX11_feels 27 = .ok (.iastore, 1) := by decide +kernel
theorem dX11_feels_28 : decode cX11_feels 28 = .ok (.aload_n 0, 1) := by decide +kernel
theorem dX11_feels_29 : decode cX11_feels 29 = .ok (.getfield 86, 3) := by decide +kernel
theorem dX11_feels_32 : decode cX11_feels 32 = .ok (.iconst 1, 1) := by decide +kernel
theorem dX11_feels_33 : decode cX11_feels 33 = .ok (.iload_n 1, 1) := by decide +kernel
theorem dX11_feels_34 : decode cX11_feels 34 = .ok (.bipush 60, 2) := by decide +kernel
theorem dX11_feels_36 : decode cX11_feels 36 = .ok (.idiv, 1) := by decide +kernel
theorem dX11_feels_37 : decode cX11_feels 37 = .ok (.bipush 24, 2) := by decide +kernel
theorem dX11_feels_39 : decode cX11_feels 39 = .ok (.irem, 1) := by decide +kernel
theorem dX11_feels_40 : decode cX11_feels 40 = .ok (.iastore, 1) := by decide +kernel
theorem dX11_feels_41 : decode cX11_feels 41 = .ok (.return_, 1) := by decide +kernel
theorem dX11_freeMany_0 : decode cX11_freeMany 0 = .ok (.iconst 0, 1) := by decide +kernel
theorem dX11_freeMany_1 : decode cX11_freeMany 1 = .ok (.istore_n 1, 1) := by decide +kernel
theorem dX11_freeMany_2 : decode cX11_freeMany 2 = .ok (.iconst 0, 1) := by decide +kernel
theorem dX11_freeMany_3 : decode cX11_freeMany 3 = .ok (.istore_n 2, 1) := by decide +kernel
theorem dX11_freeMany_4 : decode cX11_freeMany 4 = .ok (.iload_n 2, 1) := by decide +kernel
theorem dX11_freeMany_5 : decode cX11_freeMany 5 = .ok (.bipush 10, 2) := by decide +kernel
theorem dX11_freeMany_7 : decode cX11_freeMany 7 = .ok (.if_icmp .ge 37, 3) := by decide +kernel
theorem dX11_freeMany_10 : decode cX11_freeMany 10 = .ok (.iload_n 1, 1) := by decide +kernel
theorem dX11_freeMany_11 : decode cX11_freeMany 11 = .ok (.aload_n 0, 1) := by decide +kernel
theorem dX11_freeMany_12 : decode cX11_freeMany 12 = .ok (.iload_n 2, 1) := by decide +kernel
theorem dX11_freeMany_13 : decode cX11_freeMany 13 = .ok (.invokevirtual 146, 3) := by decide +kernel
theorem dX11_freeMany_16 : decode cX11_freeMany 16 = .ok (.ifCond .eq 19, 3) := by decide +kernel
theorem dX11_freeMany_19 : decode cX11_freeMany 19 = .ok (.aload_n 0, 1) := by decide +kernel
theorem dX11_freeMany_20 : decode cX11_freeMany 20 = .ok (.getfield 7, 3) := by decide +kernel
theorem dX11_freeMany_23 : decode cX11_freeMany 23 = .ok (.bipush 14, 2) := by decide +kernel
theorem dX11_freeMany_25 : decode cX11_freeMany 25 = .ok (.iload_n 2, 1) := by decide +kernel
theorem dX11_freeMany_26 : decode cX11_freeMany 26 = .ok (.iadd, 1) := by decide +kernel
theorem dX11_freeMany_27 : decode cX11_freeMany 27 = .ok (.iaload, 1) := by decide +kernel
theorem dX11_freeMany_28 : decode cX11_freeMany 28 = .ok (.ifCond .ne 7, 3) := by decide +kernel
theorem dX11_freeMany_31 : decode cX11_freeMany 31 = .ok (.iconst 1, 1) := by decide +kernel
theorem dX11_freeMany_32 : decode cX11_freeMany 32 = .ok (.goto 4, 3) := by decide +kernel
theorem dX11_freeMany_35 : decode cX11_freeMany 35 = .ok (.iconst 0, 1) := by decide +kernel
theorem dX11_freeMany_36 : decode cX11_freeMany 36 = .ok (.iadd, 1) := by decide +kernel
theorem dX11_freeMany_37 : decode cX11_freeMany 37 = .ok (.istore_n 1, 1) := by decide +kernel
theorem dX11_freeMany_38 : decode cX11_freeMany 38 = .ok (.iinc 2 1, 3) := by decide +kernel
theorem dX11_freeMany_41 : decode cX11_freeMany 41 = .ok (.goto (-37), 3) := by decide +kernel
theorem dX11_freeMany_44 : decode cX11_freeMany 44 = .ok (.iload_n 1, 1) := by decide +kernel
theorem dX11_freeMany_45 : decode cX11_freeMany 45 = .ok (.ireturn, 1) := by decide +kernel
theorem dX11_has_0 : decode cX11_has 0 = .ok (.iload_n 0, 1) := by decide +kernel
theorem dX11_has_1 : decode cX11_has 1 = .ok (.iload_n 1, 1) := by decide +kernel
theorem dX11_has_2 : decode cX11_has 2 = .ok (.ishr, 1) := by decide +kernel
theorem dX11_has_3 : decode cX11_has 3 = .ok (.iconst 1, 1) := by decide +kernel
theorem dX11_has_4 : decode cX11_has 4 = .ok (.iand, 1) := by decide +kernel
theorem dX11_has_5 : decode cX11_has 5 = .ok (.iconst 1, 1) := by decide +kernel
theorem dX11_has_6 : decode cX11_has 6 = .ok (.if_icmp .ne 7, 3) := by decide +kernel
theorem dX11_has_9 : decode cX11_has 9 = .ok (.iconst 1, 1) := by decide +kernel
theorem dX11_has_10 : decode cX11_has 10 = .ok (.goto 4, 3) := by decide +kernel
theorem dX11_has_13 : decode cX11_has 13 = .ok (.iconst 0, 1) := by decide +kernel
theorem dX11_has_14 : decode cX11_has 14 = .ok (.ireturn, 1) := by decide +kernel
theorem dX11_in_0 : decode cX11_in 0 = .ok (.iload_n 0, 1) := by decide +kernel
theorem dX11_in_1 : decode cX11_in 1 = .ok (.iload_n 1, 1) := by decide +kernel
theorem dX11_in_2 : decode cX11_in 2 = .ok (.if_icmp .lt 12, 3) := by decide +kernel
theorem dX11_in_5 : decode cX11_in 5 = .ok (.iload_n 0, 1) := by decide +kernel
theorem dX11_in_6 : decode cX11_in 6 = .ok (.iload_n 2, 1) := by decide +kernel
theorem dX11_in_7 : decode cX11_in 7 = .ok (.if_icmp .gt 7, 3) := by decide +kernel
theorem dX11_in_10 : decode cX11_in 10 = .ok (.iconst 1, 1) := by decide +kernel
theorem dX11_in_11 : decode cX11_in 11 = .ok (.goto 4, 3) := by decide +kernel
theorem dX11_in_14 : decode cX11_in 14 = .ok (.iconst 0, 1) := by decide +kernel
theorem dX11_in_15 : decode cX11_in 15 = .ok (.ireturn, 1) := by decide +kernel
theorem dX11_isFelon_0 : decode cX11_isFelon 0 = .ok (.iload_n 1, 1) := by decide +kernel
theorem dX11_isFelon_1 : decode cX11_isFelon 1 = .ok (.bipush 10, 2) := by decide +kernel
theorem dX11_isFelon_3 : decode cX11_isFelon 3 = .ok (.invokestatic 139, 3) := by decide +kernel
theorem dX11_isFelon_6 : decode cX11_isFelon 6 = .ok (.ifCond .eq 21, 3) := by decide +kernel
theorem dX11_isFelon_9 : decode cX11_isFelon 9 = .ok (.aload_n 0, 1) := by decide +kernel
theorem dX11_isFelon_10 : decode cX11_isFelon 10 = .ok (.getfield 7, 3) := by decide +kernel
theorem dX11_isFelon_13 : decode cX11_isFelon 13 = .ok (.bipush 35, 2) := by decide +kernel
theorem dX11_isFelon_15 : decode cX11_isFelon 15 = .ok (.iaload, 1) := by decide +kernel
theorem dX11_isFelon_16 : decode cX11_isFelon 16 = .ok (.iload_n 1, 1) := by decide +kernel
theorem dX11_isFelon_17 : decode cX11_isFelon 17 = .ok (.invokestatic 143, 3) := by decide +kernel
theorem dX11_isFelon_20 : decode cX11_isFelon 20 = .ok (.ifCond .eq 7, 3) := by decide +kernel
theorem dX11_isFelon_23 : decode cX11_isFelon 23 = .ok (.iconst 1, 1) := by decide +kernel
theorem dX11_isFelon_24 : decode cX11_isFelon 24 = .ok (.goto 4, 3) := by decide +kernel
theorem dX11_isFelon_27 : decode cX11_isFelon 27 = .ok (.iconst 0, 1) := by decide +kernel
theorem dX11_isFelon_28 : decode cX11_isFelon 28 = .ok (.ireturn, 1) := by decide +kernel
theorem dX11_isFive_0 : decode cX11_isFive 0 = .ok (.iload_n 0, 1) := by decide +kernel
theorem dX11_isFive_1 : decode cX11_isFive 1 = .ok (.ifCond .lt 12, 3) := by decide +kernel
theorem dX11_isFive_4 : decode cX11_isFive 4 = .ok (.iload_n 0, 1) := by decide +kernel
theorem dX11_isFive_5 : decode cX11_isFive 5 = .ok (.iload_n 1, 1) := by decide +kernel
theorem dX11_isFive_6 : decode cX11_isFive 6 = .ok (.if_icmp .ge 7, 3) := by decide +kernel
theorem dX11_isFive_9 : decode cX11_isFive 9 = .ok (.iconst 1, 1) := by decide +kernel
theorem dX11_isFive_10 : decode cX11_isFive 10 = .ok (.goto 4, 3) := by decide +kernel
theorem dX11_isFive_13 : decode cX11_isFive 13 = .ok (.iconst 0, 1) := by decide +kernel
theorem dX11_isFive_14 : decode cX11_isFive 14 = .ok (.ireturn, 1) := by decide +kernel
theorem dX11_isGround_0 : decode cX11_isGround 0 = .ok (.aload_n 0, 1) := by decide +kernel
theorem dX11_isGround_1 : decode cX11_isGround 1 = .ok (.getfield 19, 3) := by decide +kernel
theorem dX11_isGround_4 : decode cX11_isGround 4 = .ok (.iload_n 1, 1) := by decide +kernel
theorem dX11_isGround_5 : decode cX11_isGround 5 = .ok (.iaload, 1) := by decide +kernel
theorem dX11_isGround_6 : decode cX11_isGround 6 = .ok (.ifCond .eq 13, 3) := by decide +kernel
theorem dX11_isGround_9 : decode cX11_isGround 9 = .ok (.aload_n 0, 1) := by decide +kernel
theorem dX11_isGround_10 : decode cX11_isGround 10 = .ok (.getfield 19, 3) := by decide +kernel
theorem dX11_isGround_13 : decode cX11_isGround 13 = .ok (.iload_n 1, 1) := by decide +kernel
theorem dX11_isGround_14 : decode cX11_isGround 14 = .ok (.iaload, 1) := by decide +kernel
theorem dX11_isGround_15 : decode cX11_isGround 15 = .ok (.iconst 2, 1) := by decide +kernel
theorem dX11_isGround_16 : decode cX11_isGround 16 = .ok (.if_icmp .ne 7, 3) := by decide +kernel
theorem dX11_isGround_19 : decode cX11_isGround 19 = .ok (.iconst 1, 1) := by decide +kernel
theorem dX11_isGround_20 : decode cX11_isGround 20 = .ok (.goto 4, 3) := by decide +kernel
theorem dX11_isGround_23 : decode cX11_isGround 23 = .ok (.iconst 0, 1) := by decide +kernel
theorem dX11_isGround_24 : decode cX11_isGround 24 = .ok (.ireturn, 1) := by decide +kernel
theorem dX11_isJudge_0 : decode cX11_isJudge 0 = .ok (.iload_n 1, 1) := by decide +kernel
theorem dX11_isJudge_1 : decode cX11_isJudge 1 = .ok (.iconst 2, 1) := by decide +kernel
theorem dX11_isJudge_2 : decode cX11_isJudge 2 = .ok (.invokestatic 139, 3) := by decide +kernel
theorem dX11_isJudge_5 : decode cX11_isJudge 5 = .ok (.ifCond .eq 21, 3) := by decide +kernel
theorem dX11_isJudge_8 : decode cX11_isJudge 8 = .ok (.aload_n 0, 1) := by decide +kernel
theorem dX11_isJudge_9 : decode cX11_isJudge 9 = .ok (.getfield 7, 3) := by decide +kernel
theorem dX11_isJudge_12 : decode cX11_isJudge 12 = .ok (.bipush 34, 2) := by decide +kernel
theorem dX11_isJudge_14 : decode cX11_isJudge 14 = .ok (.iaload, 1) := by decide +kernel
theorem dX11_isJudge_15 : decode cX11_isJudge 15 = .ok (.iload_n 1, 1) := by decide +kernel
theorem dX11_isJudge_16 : decode cX11_isJudge 16 = .ok (.invokestatic 143, 3) := by decide +kernel
theorem dX11_isJudge_19 : decode cX11_isJudge 19 = .ok (.ifCond .eq 7, 3) := by decide +kernel
theorem dX11_isJudge_22 : decode cX11_isJudge 22 = .ok (.iconst 1, 1) := by decide +kernel
theorem dX11_isJudge_23 : decode cX11_isJudge 23 = .ok (.goto 4, 3) := by decide +kernel
theorem dX11_isJudge_26 : decode cX11_isJudge 26 = .ok (.iconst 0, 1) := by decide +kernel
theorem dX11_isJudge_27 : decode cX11_isJudge 27 = .ok (.ireturn, 1) := by decide +kernel
theorem dX11_isOn_0 : decode cX11_isOn 0 = .ok (.iload_n 0, 1) := by decide +kernel
theorem dX11_isOn_1 : decode cX11_isOn 1 = .ok (.iconst 0, 1) := by decide +kernel
theorem dX11_isOn_2 : decode cX11_isOn 2 = .ok (.bipush 9, 2) := by decide +kernel
theorem dX11_isOn_4 : decode cX11_isOn 4 = .ok (.invokestatic 150, 3) := by decide +kernel
theorem dX11_isOn_7 : decode cX11_isOn 7 = .ok (.ifCond .eq 17, 3) := by decide +kernel
theorem dX11_isOn_10 : decode cX11_isOn 10 = .ok (.iload_n 1, 1) := by decide +kernel
theorem dX11_isOn_11 : decode cX11_isOn 11 = .ok (.iconst 0, 1) := by decide +kernel
theorem dX11_isOn_12 : decode cX11_isOn 12 = .ok (.bipush 9, 2) := by decide +kernel
theorem dX11_isOn_14 : decode cX11_isOn 14 = .ok (.invokestatic 150, 3) := by decide +kernel
theorem dX11_isOn_17 : decode cX11_isOn 17 = .ok (.ifCond .eq 7, 3) := by decide +kernel
theorem dX11_isOn_20 : decode cX11_isOn 20 = .ok (.iconst 1, 1) := by decide +kernel
theorem dX11_isOn_21 : decode cX11_isOn 21 = .ok (.goto 4, 3) := by decide +kernel
theorem dX11_isOn_24 : decode cX11_isOn 24 = .ok (.iconst 0, 1) := by decide +kernel
theorem dX11_isOn_25 : decode cX11_isOn 25 = .ok (.ireturn, 1) := by decide +kernel
theorem dX11_lampSet_0 : decode cX11_lampSet 0 = .ok (.iconst 0, 1) := by decide +kernel
theorem dX11_lampSet_1 : decode cX11_lampSet 1 = .ok (.istore_n 1, 1) := by decide +kernel
theorem dX11_lampSet_2 : decode cX11_lampSet 2 = .ok (.iconst 0, 1) := by decide +kernel
theorem dX11_lampSet_3 : decode cX11_lampSet 3 = .ok (.istore_n 2, 1) := by decide +kernel
theorem dX11_lampSet_4 : decode cX11_lampSet 4 = .ok (.iload_n 2, 1) := by decide +kernel
theorem dX11_lampSet_5 : decode cX11_lampSet 5 = .ok (.iconst 4, 1) := by decide +kernel
theorem dX11_lampSet_6 : decode cX11_lampSet 6 = .ok (.if_icmp .ge 29, 3) := by decide +kernel
theorem dX11_lampSet_9 : decode cX11_lampSet 9 = .ok (.iload_n 1, 1) := by decide +kernel
theorem dX11_lampSet_10 : decode cX11_lampSet 10 = .ok (.aload_n 0, 1) := by decide +kernel
theorem dX11_lampSet_11 : decode cX11_lampSet 11 = .ok (.getfield 22, 3) := by decide +kernel
theorem dX11_lampSet_14 : decode cX11_lampSet 14 = .ok (.iload_n 2, 1) := by decide +kernel
theorem dX11_lampSet_15 : decode cX11_lampSet 15 = .ok (.iaload, 1) := by decide +kernel
theorem dX11_lampSet_16 : decode cX11_lampSet 16 = .ok (.iconst (-1), 1) := by decide +kernel
theorem dX11_lampSet_17 : decode cX11_lampSet 17 = .ok (.if_icmp .ne 7, 3) := by decide +kernel
theorem dX11_lampSet_20 : decode cX11_lampSet 20 = .ok (.iconst 0, 1) := by decide +kernel
theorem dX11_lampSet_21 : decode cX11_lampSet 21 = .ok (.goto 6, 3) := by decide +kernel
theorem dX11_lampSet_24 : decode cX11_lampSet 24 = .ok (.iconst 1, 1) := by decide +kernel
theorem dX11_lampSet_25 : decode cX11_lampSet 25 = .ok (.iload_n 2, 1) := by decide +kernel
theorem dX11_lampSet_26 : decode cX11_lampSet 26 = .ok (.ishl, 1) := by decide +kernel
theorem dX11_lampSet_27 : decode cX11_lampSet 27 = .ok (.ior, 1) := by decide +kernel
theorem dX11_lampSet_28 : decode cX11_lampSet 28 = .ok (.istore_n 1, 1) := by decide +kernel
theorem dX11_lampSet_29 : decode cX11_lampSet 29 = .ok (.iinc 2 1, 3) := by decide +kernel
theorem dX11_lampSet_32 : decode cX11_lampSet 32 = .ok (.goto (-28), 3) := by decide +kernel
theorem dX11_lampSet_35 : decode cX11_lampSet 35 = .ok (.iload_n 1, 1) := by decide +kernel
theorem dX11_lampSet_36 : decode cX11_lampSet 36 = .ok (.ireturn, 1) := by decide +kernel
theorem dX11_laysCosts_0 : decode cX11_laysCosts 0 = .ok (.iconst 0, 1) := by decide +kernel
theorem dX11_laysCosts_1 : decode cX11_laysCosts 1 = .ok (.istore 4, 2) := by decide +kernel
theorem dX11_laysCosts_3 : decode cX11_laysCosts 3 = .ok (.iload 4, 2) := by decide +kernel
theorem dX11_laysCosts_5 : decode cX11_laysCosts 5 = .ok (.bipush 100, 2) := by decide +kernel
theorem dX11_laysCosts_7 : decode cX11_laysCosts 7 = .ok (.if_icmp .ge 29, 3) := by decide +kernel
theorem dX11_laysCosts_10 : decode cX11_laysCosts 10 = .ok (.aload_n 0, 1) := by decide +kernel
theorem dX11_laysCosts_11 : decode cX11_laysCosts 11 = .ok (.getfield 92, 3) := by decide +kernel
theorem dX11_laysCosts_14 : decode cX11_laysCosts 14 = .ok (.iload 4, 2) := by decide +kernel
theorem dX11_laysCosts_16 : decode cX11_laysCosts 16 = .ok (.iload 4, 2) := by decide +kernel
theorem dX11_laysCosts_18 : decode cX11_laysCosts 18 = .ok (.iload_n 1, 1) := by decide +kernel
theorem dX11_laysCosts_19 : decode cX11_laysCosts 19 = .ok (.if_icmp .ne 7, 3) := by decide +kernel
theorem dX11_laysCosts_22 : decode cX11_laysCosts 22 = .ok (.iconst 0, 1) := by decide +kernel
theorem dX11_laysCosts_23 : decode cX11_laysCosts 23 = .ok (.goto 6, 3) := by decide +kernel
theorem dX11_laysCosts_26 : decode cX11_laysCosts 26 = .ok (.ldc_w 348, 3) := by decide +kernel
theorem dX11_laysCosts_29 : decode cX11_laysCosts 29 = .ok (.iastore, 1) := by decide +kernel
theorem dX11_laysCosts_30 : decode cX11_laysCosts 30 = .ok (.iinc 4 1, 3) := by decide +kernel
theorem dX11_laysCosts_33 : decode cX11_laysCosts 33 = .ok (.goto (-30), 3) := by decide +kernel
theorem dX11_laysCosts_36 : decode cX11_laysCosts 36 = .ok (.iconst 0, 1) := by decide +kernel
theorem dX11_laysCosts_37 : decode cX11_laysCosts 37 = .ok (.istore 4, 2) := by decide +kernel
theorem dX11_laysCosts_39 : decode cX11_laysCosts 39 = .ok (.iload 4, 2) := by decide +kernel
theorem dX11_laysCosts_41 : decode cX11_laysCosts 41 = .ok (.iload_n 2, 1) := by decide +kernel
theorem dX11_laysCosts_42 : decode cX11_laysCosts 42 = .ok (.if_icmp .ge 124, 3) := by decide +kernel
theorem dX11_laysCosts_45 : decode cX11_laysCosts 45 = .ok (.iconst 0, 1) := by decide +kernel
theorem dX11_laysCosts_46 : decode cX11_laysCosts 46 = .ok (.istore 5, 2) := by decide +kernel
theorem dX11_laysCosts_48 : decode cX11_laysCosts 48 = .ok (.iload 5, 2) := by decide +kernel
theorem dX11_laysCosts_50 : decode cX11_laysCosts 50 = .ok (.bipush 100, 2) := by decide +kernel
theorem dX11_laysCosts_52 : decode cX11_laysCosts 52 = .ok (.if_icmp .ge 108, 3) := by decide +kernel
theorem dX11_laysCosts_55 : decode cX11_laysCosts 55 = .ok (.aload_n 0, 1) := by decide +kernel
theorem dX11_laysCosts_56 : decode cX11_laysCosts 56 = .ok (.getfield 92, 3) := by decide +kernel
theorem dX11_laysCosts_59 : decode cX11_laysCosts 59 = .ok (.iload 5, 2) := by decide +kernel
theorem dX11_laysCosts_61 : decode cX11_laysCosts 61 = .ok (.iaload, 1) := by decide +kernel
theorem dX11_laysCosts_62 : decode cX11_laysCosts 62 = .ok (.iload 4, 2) := by decide +kernel
theorem dX11_laysCosts_64 : decode cX11_laysCosts 64 = .ok (.if_icmp .eq 6, 3) := by decide +kernel
theorem dX11_laysCosts_67 : decode cX11_laysCosts 67 = .ok (.goto 87, 3) := by decide +kernel
theorem dX11_laysCosts_70 : decode cX11_laysCosts 70 = .ok (.iconst 0, 1) := by decide +kernel
theorem dX11_laysCosts_71 : decode cX11_laysCosts 71 = .ok (.istore 6, 2) := by decide +kernel
theorem dX11_laysCosts_73 : decode cX11_laysCosts 73 = .ok (.iload 6, 2) := by decide +kernel
theorem dX11_laysCosts_75 : decode cX11_laysCosts 75 = .ok (.bipush 8, 2) := by decide +kernel
theorem dX11_laysCosts_77 : decode cX11_laysCosts 77 = .ok (.if_icmp .ge 77, 3) := by decide +kernel
theorem dX11_laysCosts_80 : decode cX11_laysCosts 80 = .ok (.iload 5, 2) := by decide +kernel
theorem dX11_laysCosts_82 : decode cX11_laysCosts 82 = .ok (.iload 6, 2) := by decide +kernel
theorem dX11_laysCosts_84 : decode cX11_laysCosts 84 = .ok (.invokestatic 323, 3) := by decide +kernel
theorem dX11_laysCosts_87 : decode cX11_laysCosts 87 = .ok (.istore 7, 2) := by decide +kernel
theorem dX11_laysCosts_89 : decode cX11_laysCosts 89 = .ok (.iload 7, 2) := by decide +kernel
theorem dX11_laysCosts_91 : decode cX11_laysCosts 91 = .ok (.iconst (-1), 1) := by decide +kernel
theorem dX11_laysCosts_92 : decode cX11_laysCosts 92 = .ok (.if_icmp .eq 53, 3) := by decide +kernel
theorem dX11_laysCosts_95 : decode cX11_laysCosts 95 = .ok (.aload_n 0, 1) := by decide +kernel
theorem dX11_laysCosts_96 : decode cX11_laysCosts 96 = .ok (.getfield 92, 3) := by decide +kernel
theorem dX11_laysCosts_99 : decode cX11_laysCosts 99 = .ok (.iload 7, 2) := by decide +kernel
theorem dX11_laysCosts_101 : decode cX11_laysCosts 101 = .ok (.iaload, 1) := by decide +kernel
theorem dX11_laysCosts_102 : decode cX11_laysCosts 102 = .ok (.ldc_w 348, 3) := by decide +kernel
theorem dX11_laysCosts_105 : decode cX11_laysCosts 105 = .ok (.if_icmp .ne 40, 3) := by decide +kernel
theorem dX11_laysCosts_108 : decode cX11_laysCosts 108 = .ok (.aload_n 0, 1) := by decide +kernel
theorem dX11_laysCosts_109 : decode cX11_laysCosts 109 = .ok (.getfield 19, 3) := by decide +kernel
theorem dX11_laysCosts_112 : decode cX11_laysCosts 112 = .ok (.iload 7, 2) := by decide +kernel
theorem dX11_laysCosts_114 : decode cX11_laysCosts 114 = .ok (.iaload, 1) := by decide +kernel
theorem dX11_laysCosts_115 : decode cX11_laysCosts 115 = .ok (.iconst 1, 1) := by decide +kernel
theorem dX11_laysCosts_116 : decode cX11_laysCosts 116 = .ok (.if_icmp .eq 29, 3) := by decide +kernel
theorem dX11_laysCosts_119 : decode cX11_laysCosts 119 = .ok (.iload_n 3, 1) := by decide +kernel
theorem dX11_laysCosts_120 : decode cX11_laysCosts 120 = .ok (.ifCond .eq 14, 3) := by decide +kernel
theorem dX11_laysCosts_123 : decode cX11_laysCosts 123 = .ok (.aload_n 0, 1) := by decide +kernel
theorem dX11_laysCosts_124 : decode cX11_laysCosts 124 = .ok (.getfield 19, 3) := by decide +kernel
theorem dX11_laysCosts_127 : decode cX11_laysCosts 127 = .ok (.iload 7, 2) := by decide +kernel
theorem dX11_laysCosts_129 : decode cX11_laysCosts 129 = .ok (.iaload, 1) := by decide +kernel
theorem dX11_laysCosts_130 : decode cX11_laysCosts 130 = .ok (.iconst 3, 1) := by decide +kernel
theorem dX11_laysCosts_131 : decode cX11_laysCosts 131 = .ok (.if_icmp .eq 14, 3) := by decide +kernel
theorem dX11_laysCosts_134 : decode cX11_laysCosts 134 = .ok (.aload_n 0, 1) := by decide +kernel
theorem dX11_laysCosts_135 : decode cX11_laysCosts 135 = .ok (.getfield 92, 3) := by decide +kernel
theorem dX11_laysCosts_138 : decode cX11_laysCosts 138 = .ok (.iload 7, 2) := by decide +kernel
theorem dX11_laysCosts_140 : decode cX11_laysCosts 140 = .ok (.iload 4, 2) := by decide +kernel
theorem dX11_laysCosts_142 : decode cX11_laysCosts 142 = .ok (.iconst 1, 1) := by decide +kernel
theorem dX11_laysCosts_143 : decode cX11_laysCosts 143 = .ok (.iadd, 1) := by decide +kernel
theorem dX11_laysCosts_144 : decode cX11_laysCosts 144 = .ok (.iastore, 1) := by decide +kernel
theorem dX11_laysCosts_145 : decode cX11_laysCosts 145 = .ok (.iload 6, 2) := by decide +kernel
theorem dX11_laysCosts_147 : decode cX11_laysCosts 147 = .ok (.iconst 2, 1) := by decide +kernel
theorem dX11_laysCosts_148 : decode cX11_laysCosts 148 = .ok (.iadd, 1) := by decide +kernel
theorem dX11_laysCosts_149 : decode cX11_laysCosts 149 = .ok (.istore 6, 2) := by decide +kernel
theorem dX11_laysCosts_151 : decode cX11_laysCosts 151 = .ok (.goto (-78), 3) := by decide +kernel
theorem dX11_laysCosts_154 : decode cX11_laysCosts 154 = .ok (.iinc 5 1, 3) := by decide +kernel
theorem dX11_laysCosts_157 : decode cX11_laysCosts 157 = .ok (.goto (-109), 3) := by decide +kernel
theorem dX11_laysCosts_160 : decode cX11_laysCosts 160 = .ok (.iinc 4 1, 3) := by decide +kernel
theorem dX11_laysCosts_163 : decode cX11_laysCosts 163 = .ok (.goto (-124), 3) := by decide +kernel
theorem dX11_laysCosts_166 : decode cX11_laysCosts 166 = .ok (.return_, 1) := by decide +kernel
theorem dX11_max_0 : decode cX11_max 0 = .ok (.iload_n 0, 1) := by decide +kernel
theorem dX11_max_1 : decode cX11_max 1 = .ok (.iload_n 1, 1) := by decide +kernel
theorem dX11_max_2 : decode cX11_max 2 = .ok (.if_icmp .le 7, 3) := by decide +kernel
theorem dX11_max_5 : decode cX11_max 5 = .ok (.iload_n 0, 1) := by decide +kernel
theorem dX11_max_6 : decode cX11_max 6 = .ok (.goto 4, 3) := by decide +kernel
theorem dX11_max_9 : decode cX11_max 9 = .ok (.iload_n 1, 1) := by decide +kernel
theorem dX11_max_10 : decode cX11_max 10 = .ok (.ireturn, 1) := by decide +kernel
theorem dX11_min_0 : decode cX11_min 0 = .ok (.iload_n 0, 1) := by decide +kernel
theorem dX11_min_1 : decode cX11_min 1 = .ok (.iload_n 1, 1) := by decide +kernel
theorem dX11_min_2 : decode cX11_min 2 = .ok (.if_icmp .ge 7, 3) := by decide +kernel
theorem dX11_min_5 : decode cX11_min 5 = .ok (.iload_n 0, 1) := by decide +kernel
theorem dX11_min_6 : decode cX11_min 6 = .ok (.goto 4, 3) := by decide +kernel
theorem dX11_min_9 : decode cX11_min 9 = .ok (.iload_n 1, 1) := by decide +kernel
theorem dX11_min_10 : decode cX11_min 10 = .ok (.ireturn, 1) := by decide +kernel
theorem dX11_owedAll_0 : decode cX11_owedAll 0 = .ok (.iconst 0, 1) := by decide +kernel
theorem dX11_owedAll_1 : decode cX11_owedAll 1 = .ok (.istore_n 1, 1) := by decide +kernel
theorem dX11_owedAll_2 : decode cX11_owedAll 2 = .ok (.iconst 0, 1) := by decide +kernel
theorem dX11_owedAll_3 : decode cX11_owedAll 3 = .ok (.istore_n 2, 1) := by decide +kernel
theorem dX11_owedAll_4 : decode cX11_owedAll 4 = .ok (.iload_n 2, 1) := by decide +kernel
theorem dX11_owedAll_5 : decode cX11_owedAll 5 = .ok (.bipush 10, 2) := by decide +kernel
theorem dX11_owedAll_7 : decode cX11_owedAll 7 = .ok (.if_icmp .ge 33, 3) := by decide +kernel
theorem dX11_owedAll_10 : decode cX11_owedAll 10 = .ok (.iload_n 1, 1) := by decide +kernel
theorem dX11_owedAll_11 : decode cX11_owedAll 11 = .ok (.aload_n 0, 1) := by decide +kernel
theorem dX11_owedAll_12 : decode cX11_owedAll 12 = .ok (.iload_n 2, 1) := by decide +kernel
theorem dX11_owedAll_13 : decode cX11_owedAll 13 = .ok (.invokevirtual 146, 3) := by decide +kernel
theorem dX11_owedAll_16 : decode cX11_owedAll 16 = .ok (.ifCond .eq 15, 3) := by decide +kernel
theorem dX11_owedAll_19 : decode cX11_owedAll 19 = .ok (.aload_n 0, 1) := by decide +kernel
theorem dX11_owedAll_20 : decode cX11_owedAll 20 = .ok (.getfield 7, 3) := by decide +kernel
theorem dX11_owedAll_23 : decode cX11_owedAll 23 = .ok (.bipush 14, 2) := by decide +kernel
theorem dX11_owedAll_25 : decode cX11_owedAll 25 = .ok (.iload_n 2, 1) := by decide +kernel
theorem dX11_owedAll_26 : decode cX11_owedAll 26 = .ok (.iadd, 1) := by decide +kernel
theorem dX11_owedAll_27 : decode cX11_owedAll 27 = .ok (.iaload, 1) := by decide +kernel
theorem dX11_owedAll_28 : decode cX11_owedAll 28 = .ok (.goto 4, 3) := by decide +kernel
theorem dX11_owedAll_31 : decode cX11_owedAll 31 = .ok (.iconst 0, 1) := by decide +kernel
theorem dX11_owedAll_32 : decode cX11_owedAll 32 = .ok (.iadd, 1) := by decide +kernel
theorem dX11_owedAll_33 : decode cX11_owedAll 33 = .ok (.istore_n 1, 1) := by decide +kernel
theorem dX11_owedAll_34 : decode cX11_owedAll 34 = .ok (.iinc 2 1, 3) := by decide +kernel
theorem dX11_owedAll_37 : decode cX11_owedAll 37 = .ok (.goto (-33), 3) := by decide +kernel
theorem dX11_owedAll_40 : decode cX11_owedAll 40 = .ok (.iload_n 1, 1) := by decide +kernel
theorem dX11_owedAll_41 : decode cX11_owedAll 41 = .ok (.ireturn, 1) := by decide +kernel
theorem dX11_owes_0 : decode cX11_owes 0 = .ok (.aload_n 0, 1) := by decide +kernel
theorem dX11_owes_1 : decode cX11_owes 1 = .ok (.iload_n 1, 1) := by decide +kernel
theorem dX11_owes_2 : decode cX11_owes 2 = .ok (.invokevirtual 146, 3) := by decide +kernel
theorem dX11_owes_5 : decode cX11_owes 5 = .ok (.ifCond .eq 33, 3) := by decide +kernel
theorem dX11_owes_8 : decode cX11_owes 8 = .ok (.aload_n 0, 1) := by decide +kernel
theorem dX11_owes_9 : decode cX11_owes 9 = .ok (.getfield 7, 3) := by decide +kernel
theorem dX11_owes_12 : decode cX11_owes 12 = .ok (.bipush 14, 2) := by decide +kernel
theorem dX11_owes_14 : decode cX11_owes 14 = .ok (.iload_n 1, 1) := by decide +kernel
theorem dX11_owes_15 : decode cX11_owes 15 = .ok (.iadd, 1) := by decide +kernel
theorem dX11_owes_16 : decode cX11_owes 16 = .ok (.iaload, 1) := by decide +kernel
theorem dX11_owes_17 : decode cX11_owes 17 = .ok (.ifCond .le 21, 3) := by decide +kernel
theorem dX11_owes_20 : decode cX11_owes 20 = .ok (.aload_n 0, 1) := by decide +kernel
theorem dX11_owes_21 : decode cX11_owes 21 = .ok (.getfield 7, 3) := by decide +kernel
theorem dX11_owes_24 : decode cX11_owes 24 = .ok (.bipush 36, 2) := by decide +kernel
theorem dX11_owes_26 : decode cX11_owes 26 = .ok (.iaload, 1) := by decide +kernel
theorem dX11_owes_27 : decode cX11_owes 27 = .ok (.iload_n 1, 1) := by decide +kernel
theorem dX11_owes_28 : decode cX11_owes 28 = .ok (.invokestatic 143, 3) := by decide +kernel
theorem dX11_owes_31 : decode cX11_owes 31 = .ok (.ifCond .ne 7, 3) := by decide +kernel
theorem dX11_owes_34 : decode cX11_owes 34 = .ok (.iconst 1, 1) := by decide +kernel
theorem dX11_owes_35 : decode cX11_owes 35 = .ok (.goto 4, 3) := by decide +kernel
theorem dX11_owes_38 : decode cX11_owes 38 = .ok (.iconst 0, 1) := by decide +kernel
theorem dX11_owes_39 : decode cX11_owes 39 = .ok (.ireturn, 1) := by decide +kernel
theorem dX11_reckon_0 : decode cX11_reckon 0 = .ok (.iload_n 0, 1) := by decide +kernel
theorem dX11_reckon_1 : decode cX11_reckon 1 = .ok (.tableswitch 85 2 8 #[43, 47, 51, 55, 59, 63, 74], 43) := by decide +kernel
theorem dX11_reckon_44 : decode cX11_reckon 44 = .ok (.iload_n 1, 1) := by decide +kernel
theorem dX11_reckon_45 : decode cX11_reckon 45 = .ok (.iload_n 2, 1) := by decide +kernel
theorem dX11_reckon_46 : decode cX11_reckon 46 = .ok (.iadd, 1) := by decide +kernel
theorem dX11_reckon_47 : decode cX11_reckon 47 = .ok (.ireturn, 1) := by decide +kernel
theorem dX11_reckon_48 : decode cX11_reckon 48 = .ok (.iload_n 1, 1) := by decide +kernel
theorem dX11_reckon_49 : decode cX11_reckon 49 = .ok (.iload_n 2, 1) := by decide +kernel
theorem dX11_reckon_50 : decode cX11_reckon 50 = .ok (.isub, 1) := by decide +kernel
theorem dX11_reckon_51 : decode cX11_reckon 51 = .ok (.ireturn, 1) := by decide +kernel
theorem dX11_reckon_52 : decode cX11_reckon 52 = .ok (.iload_n 1, 1) := by decide +kernel
theorem dX11_reckon_53 : decode cX11_reckon 53 = .ok (.iload_n 2, 1) := by decide +kernel
theorem dX11_reckon_54 : decode cX11_reckon 54 = .ok (.imul, 1) := by decide +kernel
theorem dX11_reckon_55 : decode cX11_reckon 55 = .ok (.ireturn, 1) := by decide +kernel
theorem dX11_reckon_56 : decode cX11_reckon 56 = .ok (.iload_n 1, 1) := by decide +kernel
theorem dX11_reckon_57 : decode cX11_reckon 57 = .ok (.iload_n 2, 1) := by decide +kernel
theorem dX11_reckon_58 : decode cX11_reckon 58 = .ok (.idiv, 1) := by decide +kernel
theorem dX11_reckon_59 : decode cX11_reckon 59 = .ok (.ireturn, 1) := by decide +kernel
theorem dX11_reckon_60 : decode cX11_reckon 60 = .ok (.iload_n 1, 1) := by decide +kernel
theorem dX11_reckon_61 : decode cX11_reckon 61 = .ok (.iload_n 2, 1) := by decide +kernel
theorem dX11_reckon_62 : decode cX11_reckon 62 = .ok (.irem, 1) := by decide +kernel
theorem dX11_reckon_63 : decode cX11_reckon 63 = .ok (.ireturn, 1) := by decide +kernel
theorem dX11_reckon_64 : decode cX11_reckon 64 = .ok (.iload_n 1, 1) := by decide +kernel
theorem dX11_reckon_65 : decode cX11_reckon 65 = .ok (.iload_n 2, 1) := by decide +kernel
theorem dX11_reckon_66 : decode cX11_reckon 66 = .ok (.if_icmp .ge 7, 3) := by decide +kernel
theorem dX11_reckon_69 : decode cX11_reckon 69 = .ok (.iconst 1, 1) := by decide +kernel
theorem dX11_reckon_70 : decode cX11_reckon 70 = .ok (.goto 4, 3) := by decide +kernel
theorem dX11_reckon_73 : decode cX11_reckon 73 = .ok (.iconst 0, 1) := by decide +kernel
theorem dX11_reckon_74 : decode cX11_reckon 74 = .ok (.ireturn, 1) := by decide +kernel
theorem dX11_reckon_75 : decode cX11_reckon 75 = .ok (.iload_n 1, 1) := by decide +kernel
theorem dX11_reckon_76 : decode cX11_reckon 76 = .ok (.iload_n 2, 1) := by decide +kernel
theorem dX11_reckon_77 : decode cX11_reckon 77 = .ok (.if_icmp .le 7, 3) := by decide +kernel
theorem dX11_reckon_80 : decode cX11_reckon 80 = .ok (.iconst 1, 1) := by decide +kernel
theorem dX11_reckon_81 : decode cX11_reckon 81 = .ok (.goto 4, 3) := by decide +kernel
theorem dX11_reckon_84 : decode cX11_reckon 84 = .ok (.iconst 0, 1) := by decide +kernel
theorem dX11_reckon_85 : decode cX11_reckon 85 = .ok (.ireturn, 1) := by decide +kernel
theorem dX11_reckon_86 : decode cX11_reckon 86 = .ok (.iload_n 1, 1) := by decide +kernel
theorem dX11_reckon_87 : decode cX11_reckon 87 = .ok (.iload_n 2, 1) := by decide +kernel
theorem dX11_reckon_88 : decode cX11_reckon 88 = .ok (.if_icmp .ne 7, 3) := by decide +kernel
theorem dX11_reckon_91 : decode cX11_reckon 91 = .ok (.iconst 1, 1) := by decide +kernel
theorem dX11_reckon_92 : decode cX11_reckon 92 = .ok (.goto 4, 3) := by decide +kernel
theorem dX11_reckon_95 : decode cX11_reckon 95 = .ok (.iconst 0, 1) := by decide +kernel
theorem dX11_reckon_96 : decode cX11_reckon 96 = .ok (.ireturn, 1) := by decide +kernel
theorem dX11_steps_0 : decode cX11_steps 0 = .ok (.iload_n 2, 1) := by decide +kernel
theorem dX11_steps_1 : decode cX11_steps 1 = .ok (.bipush 8, 2) := by decide +kernel
theorem dX11_steps_3 : decode cX11_steps 3 = .ok (.if_icmp .ne 7, 3) := by decide +kernel
theorem dX11_steps_6 : decode cX11_steps 6 = .ok (.iconst (-1), 1) := by decide +kernel
theorem dX11_steps_7 : decode cX11_steps 7 = .ok (.goto 15, 3) := by decide +kernel
theorem dX11_steps_10 : decode cX11_steps 10 = .ok (.aload_n 0, 1) := by decide +kernel
theorem dX11_steps_11 : decode cX11_steps 11 = .ok (.getfield 7, 3) := by decide +kernel
theorem dX11_steps_14 : decode cX11_steps 14 = .ok (.iconst 0, 1) := by decide +kernel
theorem dX11_steps_15 : decode cX11_steps 15 = .ok (.iload_n 1, 1) := by decide +kernel
theorem dX11_steps_16 : decode cX11_steps 16 = .ok (.iadd, 1) := by decide +kernel
theorem dX11_steps_17 : decode cX11_steps 17 = .ok (.iaload, 1) := by decide +kernel
theorem dX11_steps_18 : decode cX11_steps 18 = .ok (.iload_n 2, 1) := by decide +kernel
theorem dX11_steps_19 : decode cX11_steps 19 = .ok (.invokestatic 323, 3) := by decide +kernel
theorem dX11_steps_22 : decode cX11_steps 22 = .ok (.istore_n 3, 1) := by decide +kernel
theorem dX11_steps_23 : decode cX11_steps 23 = .ok (.iload_n 3, 1) := by decide +kernel
theorem dX11_steps_24 : decode cX11_steps 24 = .ok (.iconst (-1), 1) := by decide +kernel
theorem dX11_steps_25 : decode cX11_steps 25 = .ok (.if_icmp .eq 33, 3) := by decide +kernel
theorem dX11_steps_28 : decode cX11_steps 28 = .ok (.aload_n 0, 1) := by decide +kernel
theorem dX11_steps_29 : decode cX11_steps 29 = .ok (.iload_n 3, 1) := by decide +kernel
theorem dX11_steps_30 : decode cX11_steps 30 = .ok (.invokevirtual 263, 3) := by decide +kernel
theorem dX11_steps_33 : decode cX11_steps 33 = .ok (.ifCond .eq 25, 3) := by decide +kernel
theorem dX11_steps_36 : decode cX11_steps 36 = .ok (.aload_n 0, 1) := by decide +kernel
theorem dX11_steps_37 : decode cX11_steps 37 = .ok (.iconst 1, 1) := by decide +kernel
theorem dX11_steps_38 : decode cX11_steps 38 = .ok (.iload_n 1, 1) := by decide +kernel
theorem dX11_steps_39 : decode cX11_steps 39 = .ok (.isub, 1) := by decide +kernel
theorem dX11_steps_40 : decode cX11_steps 40 = .ok (.invokevirtual 260, 3) := by decide +kernel
theorem dX11_steps_43 : decode cX11_steps 43 = .ok (.ifCond .eq 16, 3) := by decide +kernel
theorem dX11_steps_46 : decode cX11_steps 46 = .ok (.aload_n 0, 1) := by decide +kernel
theorem dX11_steps_47 : decode cX11_steps 47 = .ok (.getfield 7, 3) := by decide +kernel
theorem dX11_steps_50 : decode cX11_steps 50 = .ok (.iconst 1, 1) := by decide +kernel
theorem dX11_steps_51 : decode cX11_steps 51 = .ok (.iload_n 1, 1) := by decide +kernel
theorem dX11_steps_52 : decode cX11_steps 52 = .ok (.isub, 1) := by decide +kernel
theorem dX11_steps_53 : decode cX11_steps 53 = .ok (.iaload, 1) := by decide +kernel
theorem dX11_steps_54 : decode cX11_steps 54 = .ok (.iload_n 3, 1) := by decide +kernel
theorem dX11_steps_55 : decode cX11_steps 55 = .ok (.if_icmp .ne 4, 3) := by decide +kernel
theorem dX11_steps_58 : decode cX11_steps 58 = .ok (.return_, 1) := by decide +kernel
theorem dX11_steps_59 : decode cX11_steps 59 = .ok (.aload_n 0, 1) := by decide +kernel
theorem dX11_steps_60 : decode cX11_steps 60 = .ok (.getfield 7, 3) := by decide +kernel
theorem dX11_steps_63 : decode cX11_steps 63 = .ok (.iconst 0, 1) := by decide +kernel
theorem dX11_steps_64 : decode cX11_steps 64 = .ok (.iload_n 1, 1) := by decide +kernel
theorem dX11_steps_65 : decode cX11_steps 65 = .ok (.iadd, 1) := by decide +kernel
theorem dX11_steps_66 : decode cX11_steps 66 = .ok (.iload_n 3, 1) := by decide +kernel
theorem dX11_steps_67 : decode cX11_steps 67 = .ok (.iastore, 1) := by decide +kernel
theorem dX11_steps_68 : decode cX11_steps 68 = .ok (.return_, 1) := by decide +kernel
theorem dX11_types_0 : decode cX11_types 0 = .ok (.iconst 3, 1) := by decide +kernel
theorem dX11_types_1 : decode cX11_types 1 = .ok (.istore_n 2, 1) := by decide +kernel
theorem dX11_types_2 : decode cX11_types 2 = .ok (.iload_n 2, 1) := by decide +kernel
theorem dX11_types_3 : decode cX11_types 3 = .ok (.ifCond .lt 35, 3) := by decide +kernel
theorem dX11_types_6 : decode cX11_types 6 = .ok (.aload_n 0, 1) := by decide +kernel
theorem dX11_types_7 : decode cX11_types 7 = .ok (.getfield 32, 3) := by decide +kernel
theorem dX11_types_10 : decode cX11_types 10 = .ok (.aload_n 0, 1) := by decide +kernel
theorem dX11_types_11 : decode cX11_types 11 = .ok (.getfield 164, 3) := by decide +kernel
theorem dX11_types_14 : decode cX11_types 14 = .ok (.iload_n 1, 1) := by decide +kernel
theorem dX11_types_15 : decode cX11_types 15 = .ok (.bipush 8, 2) := by decide +kernel
theorem dX11_types_17 : decode cX11_types 17 = .ok (.iload_n 2, 1) := by decide +kernel
theorem dX11_types_18 : decode cX11_types 18 = .ok (.imul, 1) := by decide +kernel
theorem dX11_types_19 : decode cX11_types 19 = .ok (.ishr, 1) := by decide +kernel
theorem dX11_types_20 : decode cX11_types 20 = .ok (.i2b, 1) := by decide +kernel
theorem dX11_types_21 : decode cX11_types 21 = .ok (.bastore, 1) := by decide +kernel
theorem dX11_types_22 : decode cX11_types 22 = .ok (.aload_n 0, 1) := by decide +kernel
theorem dX11_types_23 : decode cX11_types 23 = .ok (.aload_n 0, 1) := by decide +kernel
theorem dX11_types_24 : decode cX11_types 24 = .ok (.getfield 164, 3) := by decide +kernel
theorem dX11_types_27 : decode cX11_types 27 = .ok (.iconst 1, 1) := by decide +kernel
theorem dX11_types_28 : decode cX11_types 28 = .ok (.iadd, 1) := by decide +kernel
theorem dX11_types_29 : decode cX11_types 29 = .ok (.putfield 164, 3) := by decide +kernel
theorem dX11_types_32 : decode cX11_types 32 = .ok (.iinc 2 (-1), 3) := by decide +kernel
theorem dX11_types_35 : decode cX11_types 35 = .ok (.goto (-33), 3) := by decide +kernel
theorem dX11_types_38 : decode cX11_types 38 = .ok (.return_, 1) := by decide +kernel
theorem dX11_walksOn_0 : decode cX11_walksOn 0 = .ok (.aload_n 0, 1) := by decide +kernel
theorem dX11_walksOn_1 : decode cX11_walksOn 1 = .ok (.iload_n 1, 1) := by decide +kernel
theorem dX11_walksOn_2 : decode cX11_walksOn 2 = .ok (.invokevirtual 260, 3) := by decide +kernel
theorem dX11_walksOn_5 : decode cX11_walksOn 5 = .ok (.ifCond .eq 20, 3) := by decide +kernel
theorem dX11_walksOn_8 : decode cX11_walksOn 8 = .ok (.aload_n 0, 1) := by decide +kernel
theorem dX11_walksOn_9 : decode cX11_walksOn 9 = .ok (.getfield 7, 3) := by decide +kernel
theorem dX11_walksOn_12 : decode cX11_walksOn 12 = .ok (.iconst 2, 1) := by decide +kernel
theorem dX11_walksOn_13 : decode cX11_walksOn 13 = .ok (.iload_n 1, 1) := by decide +kernel
theorem dX11_walksOn_14 : decode cX11_walksOn 14 = .ok (.iadd, 1) := by decide +kernel
theorem dX11_walksOn_15 : decode cX11_walksOn 15 = .ok (.iaload, 1) := by decide +kernel
theorem dX11_walksOn_16 : decode cX11_walksOn 16 = .ok (.aload_n 0, 1) := by decide +kernel
theorem dX11_walksOn_17 : decode cX11_walksOn 17 = .ok (.getfield 25, 3) := by decide +kernel
theorem dX11_walksOn_20 : decode cX11_walksOn 20 = .ok (.iload_n 1, 1) := by decide +kernel
theorem dX11_walksOn_21 : decode cX11_walksOn 21 = .ok (.iaload, 1) := by decide +kernel
theorem dX11_walksOn_22 : decode cX11_walksOn 22 = .ok (.if_icmp .lt 4, 3) := by decide +kernel
theorem dX11_walksOn_25 : decode cX11_walksOn 25 = .ok (.return_, 1) := by decide +kernel
theorem dX11_walksOn_26 : decode cX11_walksOn 26 = .ok (.aload_n 0, 1) := by decide +kernel
theorem dX11_walksOn_27 : decode cX11_walksOn 27 = .ok (.getfield 28, 3) := by decide +kernel
theorem dX11_walksOn_30 : decode cX11_walksOn 30 = .ok (.bipush 60, 2) := by decide +kernel
theorem dX11_walksOn_32 : decode cX11_walksOn 32 = .ok (.iload_n 1, 1) := by decide +kernel
theorem dX11_walksOn_33 : decode cX11_walksOn 33 = .ok (.imul, 1) := by decide +kernel
theorem dX11_walksOn_34 : decode cX11_walksOn 34 = .ok (.aload_n 0, 1) := by decide +kernel
theorem dX11_walksOn_35 : decode cX11_walksOn 35 = .ok (.getfield 7, 3) := by decide +kernel
theorem dX11_walksOn_38 : decode cX11_walksOn 38 = .ok (.iconst 2, 1) := by decide +kernel
theorem dX11_walksOn_39 : decode cX11_walksOn 39 = .ok (.iload_n 1, 1) := by decide +kernel
theorem dX11_walksOn_40 : decode cX11_walksOn 40 = .ok (.iadd, 1) := by decide +kernel
theorem dX11_walksOn_41 : decode cX11_walksOn 41 = .ok (.iaload, 1) := by decide +kernel
theorem dX11_walksOn_42 : decode cX11_walksOn 42 = .ok (.iadd, 1) := by decide +kernel
theorem dX11_walksOn_43 : decode cX11_walksOn 43 = .ok (.baload, 1) := by decide +kernel
theorem dX11_walksOn_44 : decode cX11_walksOn 44 = .ok (.istore_n 2, 1) := by decide +kernel
theorem dX11_walksOn_45 : decode cX11_walksOn 45 = .ok (.aload_n 0, 1) := by decide +kernel
theorem dX11_walksOn_46 : decode cX11_walksOn 46 = .ok (.getfield 7, 3) := by decide +kernel
theorem dX11_walksOn_49 : decode cX11_walksOn 49 = .ok (.iconst 2, 1) := by decide +kernel
theorem dX11_walksOn_50 : decode cX11_walksOn 50 = .ok (.iload_n 1, 1) := by decide +kernel
theorem dX11_walksOn_51 : decode cX11_walksOn 51 = .ok (.iadd, 1) := by decide +kernel
theorem dX11_walksOn_52 : decode cX11_walksOn 52 = .ok (.aload_n 0, 1) := by decide +kernel
theorem dX11_walksOn_53 : decode cX11_walksOn 53 = .ok (.getfield 7, 3) := by decide +kernel
theorem dX11_walksOn_56 : decode cX11_walksOn 56 = .ok (.iconst 2, 1) := by decide +kernel
theorem dX11_walksOn_57 : decode cX11_walksOn 57 = .ok (.iload_n 1, 1) := by decide +kernel
theorem dX11_walksOn_58 : decode cX11_walksOn 58 = .ok (.iadd, 1) := by decide +kernel
theorem dX11_walksOn_59 : decode cX11_walksOn 59 = .ok (.iaload, 1) := by decide +kernel
theorem dX11_walksOn_60 : decode cX11_walksOn 60 = .ok (.iconst 1, 1) := by decide +kernel
theorem dX11_walksOn_61 : decode cX11_walksOn 61 = .ok (.iadd, 1) := by decide +kernel
theorem dX11_walksOn_62 : decode cX11_walksOn 62 = .ok (.iastore, 1) := by decide +kernel
theorem dX11_walksOn_63 : decode cX11_walksOn 63 = .ok (.aload_n 0, 1) := by decide +kernel
theorem dX11_walksOn_64 : decode cX11_walksOn 64 = .ok (.iload_n 1, 1) := by decide +kernel
theorem dX11_walksOn_65 : decode cX11_walksOn 65 = .ok (.iload_n 2, 1) := by decide +kernel
theorem dX11_walksOn_66 : decode cX11_walksOn 66 = .ok (.invokevirtual 345, 3) := by decide +kernel
theorem dX11_walksOn_69 : decode cX11_walksOn 69 = .ok (.return_, 1) := by decide +kernel
theorem dX11_wayX_0 : decode cX11_wayX 0 = .ok (.iload_n 0, 1) := by decide +kernel
theorem dX11_wayX_1 : decode cX11_wayX 1 = .ok (.ifCond .eq 8, 3) := by decide +kernel
theorem dX11_wayX_4 : decode cX11_wayX 4 = .ok (.iload_n 0, 1) := by decide +kernel
theorem dX11_wayX_5 : decode cX11_wayX 5 = .ok (.iconst 4, 1) := by decide +kernel
theorem dX11_wayX_6 : decode cX11_wayX 6 = .ok (.if_icmp .ne 7, 3) := by decide +kernel
theorem dX11_wayX_9 : decode cX11_wayX 9 = .ok (.iconst 0, 1) := by decide +kernel
theorem dX11_wayX_10 : decode cX11_wayX 10 = .ok (.goto 13, 3) := by decide +kernel
theorem dX11_wayX_13 : decode cX11_wayX 13 = .ok (.iload_n 0, 1) := by decide +kernel
theorem dX11_wayX_14 : decode cX11_wayX 14 = .ok (.iconst 4, 1) := by decide +kernel
theorem dX11_wayX_15 : decode cX11_wayX 15 = .ok (.if_icmp .ge 7, 3) := by decide +kernel
theorem dX11_wayX_18 : decode cX11_wayX 18 = .ok (.iconst 1, 1) := by decide +kernel
theorem dX11_wayX_19 : decode cX11_wayX 19 = .ok (.goto 4, 3) := by decide +kernel
theorem dX11_wayX_22 : decode cX11_wayX 22 = .ok (.iconst (-1), 1) := by decide +kernel
theorem dX11_wayX_23 : decode cX11_wayX 23 = .ok (.ireturn, 1) := by decide +kernel
theorem dX11_wayY_0 : decode cX11_wayY 0 = .ok (.iload_n 0, 1) := by decide +kernel
theorem dX11_wayY_1 : decode cX11_wayY 1 = .ok (.iconst 2, 1) := by decide +kernel
theorem dX11_wayY_2 : decode cX11_wayY 2 = .ok (.if_icmp .eq 9, 3) := by decide +kernel
theorem dX11_wayY_5 : decode cX11_wayY 5 = .ok (.iload_n 0, 1) := by decide +kernel
theorem dX11_wayY_6 : decode cX11_wayY 6 = .ok (.bipush 6, 2) := by decide +kernel
theorem dX11_wayY_8 : decode cX11_wayY 8 = .ok (.if_icmp .ne 7, 3) := by decide +kernel
theorem dX11_wayY_11 : decode cX11_wayY 11 = .ok (.iconst 0, 1) := by decide +kernel
theorem dX11_wayY_12 : decode cX11_wayY 12 = .ok (.goto 17, 3) := by decide +kernel
theorem dX11_wayY_15 : decode cX11_wayY 15 = .ok (.iload_n 0, 1) := by decide +kernel
theorem dX11_wayY_16 : decode cX11_wayY 16 = .ok (.iconst 3, 1) := by decide +kernel
theorem dX11_wayY_17 : decode cX11_wayY 17 = .ok (.iconst 5, 1) := by decide +kernel
theorem dX11_wayY_18 : decode cX11_wayY 18 = .ok (.invokestatic 150, 3) := by decide +kernel
theorem dX11_wayY_21 : decode cX11_wayY 21 = .ok (.ifCond .eq 7, 3) := by decide +kernel
theorem dX11_wayY_24 : decode cX11_wayY 24 = .ok (.iconst (-1), 1) := by decide +kernel
theorem dX11_wayY_25 : decode cX11_wayY 25 = .ok (.goto 4, 3) := by decide +kernel
theorem dX11_wayY_28 : decode cX11_wayY 28 = .ok (.iconst 1, 1) := by decide +kernel
theorem dX11_wayY_29 : decode cX11_wayY 29 = .ok (.ireturn, 1) := by decide +kernel
