theorem cls_X11 : xCls RX11 TX11 61 11 tyX11 := ⟨xin [1246, 1248, 1250, 1252, 1254, 1256, 1258, 1260, 1262, 1264, 1266, 1268, 1270, 1272, 1274, 1276, 1278, 1280, 1282, 1284, 1286, 1288, 1290, 1292, 1294, 1296, 1298, 1300, 1302, 1304, 1306, 1308, 1310, 1312, 1314, 1316, 1318, 1320, 1322, 1324, 1326, 1328, 1330, 1332, 1334, 1336, 1338, 1340, 1342, 1344, 1346, 1348, 1350, 1352, 1354, 1356, 1358, 1360, 1362, 1364, 1366] (by decide +kernel) (by decide +kernel), rfl, tyX11_ok, nmX11⟩
theorem st_X11_8 (h0 : Nat) (σ : xS) (k : Nat) (a : Int) : xobj h0 (xU σ k 8 a) k 11 = (xobj h0 σ k 11).set 8 (.int (xJ a)) := by simp [xobj, xU]
theorem ln_X11_8 (h0 : Nat) (σ : xS) (k : Nat) : 8 < (xobj h0 σ k 11).length := by simp [xobj]
theorem st_X11_41 (h0 : Nat) (σ : xS) (k : Nat) (a : Int) : xobj h0 (xU σ k 41 a) k 11 = (xobj h0 σ k 11).set 41 (.int (xJ a)) := by simp [xobj, xU]
theorem ln_X11_41 (h0 : Nat) (σ : xS) (k : Nat) : 41 < (xobj h0 σ k 11).length := by simp [xobj]
theorem st_X11_42 (h0 : Nat) (σ : xS) (k : Nat) (a : Int) : xobj h0 (xU σ k 42 a) k 11 = (xobj h0 σ k 11).set 42 (.int (xJ a)) := by simp [xobj, xU]
theorem ln_X11_42 (h0 : Nat) (σ : xS) (k : Nat) : 42 < (xobj h0 σ k 11).length := by simp [xobj]
theorem st_X11_43 (h0 : Nat) (σ : xS) (k : Nat) (a : Int) : xobj h0 (xU σ k 43 a) k 11 = (xobj h0 σ k 11).set 43 (.int (xJ a)) := by simp [xobj, xU]
theorem ln_X11_43 (h0 : Nat) (σ : xS) (k : Nat) : 43 < (xobj h0 σ k 11).length := by simp [xobj]
theorem st_X11_44 (h0 : Nat) (σ : xS) (k : Nat) (a : Int) : xobj h0 (xU σ k 44 a) k 11 = (xobj h0 σ k 11).set 44 (.int (xJ a)) := by simp [xobj, xU]
theorem ln_X11_44 (h0 : Nat) (σ : xS) (k : Nat) : 44 < (xobj h0 σ k 11).length := by simp [xobj]
theorem cf_X11_bares : xCF yX11_bares cX11_bares 2 none 0 := ⟨xq 1593 (by decide +kernel) rfl, xq 179 (by decide +kernel) rfl, by decide +kernel⟩
theorem cf_X11_begins : xCF yX11_begins cX11_begins 1 none 0 := ⟨xq 1544 (by decide +kernel) rfl, xq 179 (by decide +kernel) rfl, by decide +kernel⟩
theorem cf_X11_byLaw : xCF yX11_byLaw cX11_byLaw 5 (some .int) 2 := ⟨xq 1578 (by decide +kernel) rfl, xq 179 (by decide +kernel) rfl, by decide +kernel⟩
theorem cf_X11_draws : xCF yX11_draws cX11_draws 1 (some .int) 0 := ⟨xq 1569 (by decide +kernel) rfl, xq 179 (by decide +kernel) rfl, by decide +kernel⟩
theorem cf_X11_feels : xCF yX11_feels cX11_feels 3 none 1 := ⟨xq 1574 (by decide +kernel) rfl, xq 179 (by decide +kernel) rfl, by decide +kernel⟩
theorem cf_X11_has : xCF yX11_has cX11_has 2 (some .boolean) 2 := ⟨xq 1416 (by decide +kernel) rfl, xq 179 (by decide +kernel) rfl, by decide +kernel⟩
theorem cf_X11_in : xCF yX11_in cX11_in 3 (some .boolean) 3 := ⟨xq 1384 (by decide +kernel) rfl, xq 179 (by decide +kernel) rfl, by decide +kernel⟩
theorem cf_X11_isFelon : xCF yX11_isFelon cX11_isFelon 2 (some .boolean) 1 := ⟨xq 1424 (by decide +kernel) rfl, xq 179 (by decide +kernel) rfl, by decide +kernel⟩
theorem cf_X11_isFive : xCF yX11_isFive cX11_isFive 2 (some .boolean) 2 := ⟨xq 1413 (by decide +kernel) rfl, xq 179 (by decide +kernel) rfl, by decide +kernel⟩
theorem cf_X11_isGround : xCF yX11_isGround cX11_isGround 2 (some .boolean) 1 := ⟨xq 1420 (by decide +kernel) rfl, xq 179 (by decide +kernel) rfl, by decide +kernel⟩
theorem cf_X11_isJudge : xCF yX11_isJudge cX11_isJudge 2 (some .boolean) 1 := ⟨xq 1410 (by decide +kernel) rfl, xq 179 (by decide +kernel) rfl, by decide +kernel⟩
theorem cf_X11_isNight : xCF yX11_isNight cX11_isNight 3 (some .boolean) 1 := ⟨xq 1605 (by decide +kernel) rfl, xq 179 (by decide +kernel) rfl, by decide +kernel⟩
theorem cf_X11_isOn : xCF yX11_isOn cX11_isOn 2 (some .boolean) 2 := ⟨xq 1431 (by decide +kernel) rfl, xq 179 (by decide +kernel) rfl, by decide +kernel⟩
theorem cf_X11_laysOrder : xCF yX11_laysOrder cX11_laysOrder 4 (some .int) 0 := ⟨xq 1617 (by decide +kernel) rfl, xq 179 (by decide +kernel) rfl, by decide +kernel⟩
theorem cf_X11_laysShades : xCF yX11_laysShades cX11_laysShades 4 none 2 := ⟨xq 1589 (by decide +kernel) rfl, xq 179 (by decide +kernel) rfl, by decide +kernel⟩
theorem cf_X11_minutesGo : xCF yX11_minutesGo cX11_minutesGo 3 none 1 := ⟨xq 1540 (by decide +kernel) rfl, xq 179 (by decide +kernel) rfl, by decide +kernel⟩
theorem cf_X11_owes : xCF yX11_owes cX11_owes 2 (some .boolean) 1 := ⟨xq 1621 (by decide +kernel) rfl, xq 179 (by decide +kernel) rfl, by decide +kernel⟩
theorem cf_X11_shadesGo : xCF yX11_shadesGo cX11_shadesGo 6 none 0 := ⟨xq 1565 (by decide +kernel) rfl, xq 179 (by decide +kernel) rfl, by decide +kernel⟩
theorem cf_X11_types : xCF yX11_types cX11_types 3 none 1 := ⟨xq 1377 (by decide +kernel) rfl, xq 179 (by decide +kernel) rfl, by decide +kernel⟩
theorem cf_X11_walksOn : xCF yX11_walksOn cX11_walksOn 3 none 1 := ⟨xq 1548 (by decide +kernel) rfl, xq 179 (by decide +kernel) rfl, by decide +kernel⟩
theorem wq104 : Cond.selects yX11_types.cls yX11_types yX11_types ∈ xTB := xq 104 (by decide +kernel) rfl
theorem wq109 : Cond.selects yX11_isJudge.cls yX11_isJudge yX11_isJudge ∈ xTB := xq 109 (by decide +kernel) rfl
theorem wq110 : Cond.selects yX11_isGround.cls yX11_isGround yX11_isGround ∈ xTB := xq 110 (by decide +kernel) rfl
theorem wq111 : Cond.selects yX11_isFelon.cls yX11_isFelon yX11_isFelon ∈ xTB := xq 111 (by decide +kernel) rfl
theorem wq130 : Cond.selects yX11_minutesGo.cls yX11_minutesGo yX11_minutesGo ∈ xTB := xq 130 (by decide +kernel) rfl
theorem wq131 : Cond.selects yX11_begins.cls yX11_begins yX11_begins ∈ xTB := xq 131 (by decide +kernel) rfl
theorem wq132 : Cond.selects yX11_walksOn.cls yX11_walksOn yX11_walksOn ∈ xTB := xq 132 (by decide +kernel) rfl
theorem wq134 : Cond.selects yX11_shadesGo.cls yX11_shadesGo yX11_shadesGo ∈ xTB := xq 134 (by decide +kernel) rfl
theorem wq135 : Cond.selects yX11_draws.cls yX11_draws yX11_draws ∈ xTB := xq 135 (by decide +kernel) rfl
theorem wq136 : Cond.selects yX11_feels.cls yX11_feels yX11_feels ∈ xTB := xq 136 (by decide +kernel) rfl
theorem wq137 : Cond.selects yX11_byLaw.cls yX11_byLaw yX11_byLaw ∈ xTB := xq 137 (by decide +kernel) rfl
theorem wq139 : Cond.selects yX11_laysShades.cls yX11_laysShades yX11_laysShades ∈ xTB := xq 139 (by decide +kernel) rfl
theorem wq140 : Cond.selects yX11_bares.cls yX11_bares yX11_bares ∈ xTB := xq 140 (by decide +kernel) rfl
theorem wq143 : Cond.selects yX11_isNight.cls yX11_isNight yX11_isNight ∈ xTB := xq 143 (by decide +kernel) rfl
theorem wq146 : Cond.selects yX11_laysOrder.cls yX11_laysOrder yX11_laysOrder ∈ xTB := xq 146 (by decide +kernel) rfl
theorem wq147 : Cond.selects yX11_owes.cls yX11_owes yX11_owes ∈ xTB := xq 147 (by decide +kernel) rfl
theorem wq1185 : Cond.fieldLink "ShadowCourtModel" (7) "ShadowCourtModel" "now" "[I" ∈ xTB := xq 1185 (by decide +kernel) rfl
theorem wq1188 : Cond.fieldLink "ShadowCourtModel" (19) "ShadowCourtModel" "kindOf" "[I" ∈ xTB := xq 1188 (by decide +kernel) rfl
theorem wq1189 : Cond.fieldLink "ShadowCourtModel" (22) "ShadowCourtModel" "lampAt" "[I" ∈ xTB := xq 1189 (by decide +kernel) rfl
theorem wq1192 : Cond.fieldLink "ShadowCourtModel" (32) "ShadowCourtModel" "tape" "[B" ∈ xTB := xq 1192 (by decide +kernel) rfl
theorem wq1193 : Cond.fieldLink "ShadowCourtModel" (164) "ShadowCourtModel" "taped" "I" ∈ xTB := xq 1193 (by decide +kernel) rfl
theorem wq1202 : Cond.fieldLink "ShadowCourtModel" (306) "ShadowCourtModel" "clauses" "I" ∈ xTB := xq 1202 (by decide +kernel) rfl
theorem wq1224 : Cond.fieldLink "ShadowCourtModel" (86) "ShadowCourtModel" "facts" "[I" ∈ xTB := xq 1224 (by decide +kernel) rfl
theorem wq1225 : Cond.fieldLink "ShadowCourtModel" (89) "ShadowCourtModel" "shades" "[I" ∈ xTB := xq 1225 (by decide +kernel) rfl
theorem wq1226 : Cond.fieldLink "ShadowCourtModel" (371) "ShadowCourtModel" "servedNow" "I" ∈ xTB := xq 1226 (by decide +kernel) rfl
theorem wq1227 : Cond.fieldLink "ShadowCourtModel" (365) "ShadowCourtModel" "awayNow" "I" ∈ xTB := xq 1227 (by decide +kernel) rfl
theorem wq1228 : Cond.fieldLink "ShadowCourtModel" (378) "ShadowCourtModel" "cloudyNow" "I" ∈ xTB := xq 1228 (by decide +kernel) rfl
theorem wq1229 : Cond.fieldLink "ShadowCourtModel" (368) "ShadowCourtModel" "stepsNow" "I" ∈ xTB := xq 1229 (by decide +kernel) rfl
theorem wq1234 : Cond.fieldLink "ShadowCourtModel" (101) "ShadowCourtModel" "isTaken" "[Z" ∈ xTB := xq 1234 (by decide +kernel) rfl
theorem wq1374 : Cond.methodLink "ShadowCourtModel" (167) yX11_types ∈ xTB := xq 1374 (by decide +kernel) rfl
theorem wq1376 : Cond.instanceMethod yX11_types ∈ xTB := xq 1376 (by decide +kernel) rfl
theorem wq1382 : Cond.methodLink "ShadowCourtModel" (150) yX11_in ∈ xTB := xq 1382 (by decide +kernel) rfl
theorem wq1383 : Cond.static yX11_in ∈ xTB := xq 1383 (by decide +kernel) rfl
theorem wq1407 : Cond.methodLink "ShadowCourtModel" (260) yX11_isJudge ∈ xTB := xq 1407 (by decide +kernel) rfl
theorem wq1409 : Cond.instanceMethod yX11_isJudge ∈ xTB := xq 1409 (by decide +kernel) rfl
theorem wq1411 : Cond.methodLink "ShadowCourtModel" (139) yX11_isFive ∈ xTB := xq 1411 (by decide +kernel) rfl
theorem wq1412 : Cond.static yX11_isFive ∈ xTB := xq 1412 (by decide +kernel) rfl
theorem wq1414 : Cond.methodLink "ShadowCourtModel" (143) yX11_has ∈ xTB := xq 1414 (by decide +kernel) rfl
theorem wq1415 : Cond.static yX11_has ∈ xTB := xq 1415 (by decide +kernel) rfl
theorem wq1417 : Cond.methodLink "ShadowCourtModel" (263) yX11_isGround ∈ xTB := xq 1417 (by decide +kernel) rfl
theorem wq1419 : Cond.instanceMethod yX11_isGround ∈ xTB := xq 1419 (by decide +kernel) rfl
theorem wq1421 : Cond.methodLink "ShadowCourtModel" (146) yX11_isFelon ∈ xTB := xq 1421 (by decide +kernel) rfl
theorem wq1423 : Cond.instanceMethod yX11_isFelon ∈ xTB := xq 1423 (by decide +kernel) rfl
theorem wq1429 : Cond.methodLink "ShadowCourtModel" (161) yX11_isOn ∈ xTB := xq 1429 (by decide +kernel) rfl
theorem wq1430 : Cond.static yX11_isOn ∈ xTB := xq 1430 (by decide +kernel) rfl
theorem wq1537 : Cond.methodLink "ShadowCourtModel" (400) yX11_minutesGo ∈ xTB := xq 1537 (by decide +kernel) rfl
theorem wq1539 : Cond.instanceMethod yX11_minutesGo ∈ xTB := xq 1539 (by decide +kernel) rfl
theorem wq1541 : Cond.methodLink "ShadowCourtModel" (391) yX11_begins ∈ xTB := xq 1541 (by decide +kernel) rfl
theorem wq1543 : Cond.instanceMethod yX11_begins ∈ xTB := xq 1543 (by decide +kernel) rfl
theorem wq1545 : Cond.methodLink "ShadowCourtModel" (394) yX11_walksOn ∈ xTB := xq 1545 (by decide +kernel) rfl
theorem wq1547 : Cond.instanceMethod yX11_walksOn ∈ xTB := xq 1547 (by decide +kernel) rfl
theorem wq1562 : Cond.methodLink "ShadowCourtModel" (397) yX11_shadesGo ∈ xTB := xq 1562 (by decide +kernel) rfl
theorem wq1564 : Cond.instanceMethod yX11_shadesGo ∈ xTB := xq 1564 (by decide +kernel) rfl
theorem wq1566 : Cond.methodLink "ShadowCourtModel" (375) yX11_draws ∈ xTB := xq 1566 (by decide +kernel) rfl
theorem wq1568 : Cond.instanceMethod yX11_draws ∈ xTB := xq 1568 (by decide +kernel) rfl
theorem wq1570 : Cond.constant "ShadowCourtModel" (374) (65536) ∈ xTB := xq 1570 (by decide +kernel) rfl
theorem wq1571 : Cond.methodLink "ShadowCourtModel" (317) yX11_feels ∈ xTB := xq 1571 (by decide +kernel) rfl
theorem wq1573 : Cond.instanceMethod yX11_feels ∈ xTB := xq 1573 (by decide +kernel) rfl
theorem wq1575 : Cond.methodLink "ShadowCourtModel" (320) yX11_byLaw ∈ xTB := xq 1575 (by decide +kernel) rfl
theorem wq1577 : Cond.instanceMethod yX11_byLaw ∈ xTB := xq 1577 (by decide +kernel) rfl
theorem wq1586 : Cond.methodLink "ShadowCourtModel" (381) yX11_laysShades ∈ xTB := xq 1586 (by decide +kernel) rfl
theorem wq1588 : Cond.instanceMethod yX11_laysShades ∈ xTB := xq 1588 (by decide +kernel) rfl
theorem wq1590 : Cond.methodLink "ShadowCourtModel" (333) yX11_bares ∈ xTB := xq 1590 (by decide +kernel) rfl
theorem wq1592 : Cond.instanceMethod yX11_bares ∈ xTB := xq 1592 (by decide +kernel) rfl
theorem wq1602 : Cond.methodLink "ShadowCourtModel" (339) yX11_isNight ∈ xTB := xq 1602 (by decide +kernel) rfl
theorem wq1604 : Cond.instanceMethod yX11_isNight ∈ xTB := xq 1604 (by decide +kernel) rfl
theorem wq1614 : Cond.methodLink "ShadowCourtModel" (385) yX11_laysOrder ∈ xTB := xq 1614 (by decide +kernel) rfl
theorem wq1616 : Cond.instanceMethod yX11_laysOrder ∈ xTB := xq 1616 (by decide +kernel) rfl
theorem wq1618 : Cond.methodLink "ShadowCourtModel" (349) yX11_owes ∈ xTB := xq 1618 (by decide +kernel) rfl
theorem wq1620 : Cond.instanceMethod yX11_owes ∈ xTB := xq 1620 (by decide +kernel) rfl
theorem dX11_bares_0 : decode cX11_bares 0 = .ok (.iconst 0, 1) := by decide +kernel
theorem dX11_bares_1 : decode cX11_bares 1 = .ok (.istore_n 1, 1) := by decide +kernel
theorem dX11_bares_2 : decode cX11_bares 2 = .ok (.iload_n 1, 1) := by decide +kernel
theorem dX11_bares_3 : decode cX11_bares 3 = .ok (.bipush 100, 2) := by decide +kernel
theorem dX11_bares_5 : decode cX11_bares 5 = .ok (.if_icmp .ge 16, 3) := by decide +kernel
theorem dX11_bares_8 : decode cX11_bares 8 = .ok (.aload_n 0, 1) := by decide +kernel
theorem dX11_bares_9 : decode cX11_bares 9 = .ok (.getfield 89, 3) := by decide +kernel
theorem dX11_bares_12 : decode cX11_bares 12 = .ok (.iload_n 1, 1) := by decide +kernel
theorem dX11_bares_13 : decode cX11_bares 13 = .ok (.iconst 0, 1) := by decide +kernel
theorem dX11_bares_14 : decode cX11_bares 14 = .ok (.iastore, 1) := by decide +kernel
theorem dX11_bares_15 : decode cX11_bares 15 = .ok (.iinc 1 1, 3) := by decide +kernel
theorem dX11_bares_18 : decode cX11_bares 18 = .ok (.goto (-16), 3) := by decide +kernel
theorem dX11_bares_21 : decode cX11_bares 21 = .ok (.return_, 1) := by decide +kernel
theorem dX11_begins_0 : decode cX11_begins 0 = .ok (.aload_n 0, 1) := by decide +kernel
theorem dX11_begins_1 : decode cX11_begins 1 = .ok (.iconst 0, 1) := by decide +kernel
theorem dX11_begins_2 : decode cX11_begins 2 = .ok (.putfield 371, 3) := by decide +kernel
theorem dX11_begins_5 : decode cX11_begins 5 = .ok (.aload_n 0, 1) := by decide +kernel
theorem dX11_begins_6 : decode cX11_begins 6 = .ok (.iconst 0, 1) := by decide +kernel
theorem dX11_begins_7 : decode cX11_begins 7 = .ok (.putfield 365, 3) := by decide +kernel
theorem dX11_begins_10 : decode cX11_begins 10 = .ok (.aload_n 0, 1) := by decide +kernel
theorem dX11_begins_11 : decode cX11_begins 11 = .ok (.iconst 0, 1) := by decide +kernel
theorem dX11_begins_12 : decode cX11_begins 12 = .ok (.putfield 378, 3) := by decide +kernel
theorem dX11_begins_15 : decode cX11_begins 15 = .ok (.aload_n 0, 1) := by decide +kernel
theorem dX11_begins_16 : decode cX11_begins 16 = .ok (.iconst 0, 1) := by decide +kernel
theorem dX11_begins_17 : decode cX11_begins 17 = .ok (.putfield 368, 3) := by decide +kernel
theorem dX11_begins_20 : decode cX11_begins 20 = .ok (.return_, 1) := by decide +kernel
theorem dX11_bits_0 : decode cX11_bits 0 = .ok (.iconst 0, 1) := by decide +kernel
theorem dX11_bits_1 : decode cX11_bits 1 = .ok (.istore_n 1, 1) := by decide +kernel
theorem dX11_bits_2 : decode cX11_bits 2 = .ok (.iconst 0, 1) := by decide +kernel
theorem dX11_bits_3 : decode cX11_bits 3 = .ok (.istore_n 2, 1) := by decide +kernel
theorem dX11_bits_4 : decode cX11_bits 4 = .ok (.iload_n 2, 1) := by decide +kernel
theorem dX11_bits_5 : decode cX11_bits 5 = .ok (.bipush 10, 2) := by decide +kernel
theorem dX11_bits_7 : decode cX11_bits 7 = .ok (.if_icmp .ge 17, 3) := by decide +kernel
theorem dX11_bits_10 : decode cX11_bits 10 = .ok (.iload_n 1, 1) := by decide +kernel
theorem dX11_bits_11 : decode cX11_bits 11 = .ok (.iload_n 0, 1) := by decide +kernel
theorem dX11_bits_12 : decode cX11_bits 12 = .ok (.iload_n 2, 1) := by decide +kernel
theorem dX11_bits_13 : decode cX11_bits 13 = .ok (.ishr, 1) := by decide +kernel
theorem dX11_bits_14 : decode cX11_bits 14 = .ok (.iconst 1, 1) := by decide +kernel
theorem dX11_bits_15 : decode cX11_bits 15 = .ok (.iand, 1) := by decide +kernel
theorem dX11_bits_16 : decode cX11_bits 16 = .ok (.iadd, 1) := by decide +kernel
theorem dX11_bits_17 : decode cX11_bits 17 = .ok (.istore_n 1, 1) := by decide +kernel
theorem dX11_bits_18 : decode cX11_bits 18 = .ok (.iinc 2 1, 3) := by decide +kernel
theorem dX11_bits_21 : decode cX11_bits 21 = .ok (.goto (-17), 3) := by decide +kernel
theorem dX11_bits_24 : decode cX11_bits 24 = .ok (.iload_n 1, 1) := by decide +kernel
theorem dX11_bits_25 : decode cX11_bits 25 = .ok (.ireturn, 1) := by decide +kernel
theorem dX11_byLaw_0 : decode cX11_byLaw 0 = .ok (.iconst 0, 1) := by decide +kernel
theorem dX11_byLaw_1 : decode cX11_byLaw 1 = .ok (.istore_n 3, 1) := by decide +kernel
theorem dX11_byLaw_2 : decode cX11_byLaw 2 = .ok (.iload_n 3, 1) := by decide +kernel
theorem dX11_byLaw_3 : decode cX11_byLaw 3 = .ok (.aload_n 0, 1) := by decide +kernel
theorem dX11_byLaw_4 : decode cX11_byLaw 4 = .ok (.getfield 306, 3) := by decide +kernel
theorem dX11_byLaw_7 : decode cX11_byLaw 7 = .ok (.if_icmp .ge 82, 3) := by decide +kernel
theorem dX11_byLaw_10 : decode cX11_byLaw 10 = .ok (.aload_n 0, 1) := by decide +kernel
theorem dX11_byLaw_11 : decode cX11_byLaw 11 = .ok (.getfield 56, 3) := by decide +kernel
theorem dX11_byLaw_14 : decode cX11_byLaw 14 = .ok (.iload_n 3, 1) := by decide +kernel
theorem dX11_byLaw_15 : decode cX11_byLaw 15 = .ok (.iaload, 1) := by decide +kernel
theorem dX11_byLaw_16 : decode cX11_byLaw 16 = .ok (.iload_n 1, 1) := by decide +kernel
theorem dX11_byLaw_17 : decode cX11_byLaw 17 = .ok (.if_icmp .ne 66, 3) := by decide +kernel
theorem dX11_byLaw_20 : decode cX11_byLaw 20 = .ok (.aload_n 0, 1) := by decide +kernel
theorem dX11_byLaw_21 : decode cX11_byLaw 21 = .ok (.aload_n 0, 1) := by decide +kernel
theorem dX11_byLaw_22 : decode cX11_byLaw 22 = .ok (.getfield 62, 3) := by decide +kernel
theorem dX11_byLaw_25 : decode cX11_byLaw 25 = .ok (.iload_n 3, 1) := by decide +kernel
theorem dX11_byLaw_26 : decode cX11_byLaw 26 = .ok (.iaload, 1) := by decide +kernel
theorem dX11_byLaw_27 : decode cX11_byLaw 27 = .ok (.aload_n 0, 1) := by decide +kernel
theorem dX11_byLaw_28 : decode cX11_byLaw 28 = .ok (.getfield 65, 3) := by decide +kernel
theorem dX11_byLaw_31 : decode cX11_byLaw 31 = .ok (.iload_n 3, 1) := by decide +kernel
theorem dX11_byLaw_32 : decode cX11_byLaw 32 = .ok (.iaload, 1) := by decide +kernel
theorem dX11_byLaw_33 : decode cX11_byLaw 33 = .ok (.invokevirtual 313, 3) := by decide +kernel
theorem dX11_byLaw_36 : decode cX11_byLaw 36 = .ok (.iconst 1, 1) := by decide +kernel
theorem dX11_byLaw_37 : decode cX11_byLaw 37 = .ok (.if_icmp .eq 6, 3) := by decide +kernel
theorem dX11_byLaw_40 : decode cX11_byLaw 40 = .ok (.goto 43, 3) := by decide +kernel
theorem dX11_byLaw_43 : decode cX11_byLaw 43 = .ok (.aload_n 0, 1) := by decide +kernel
theorem dX11_byLaw_44 : decode cX11_byLaw 44 = .ok (.aload_n 0, 1) := by decide +kernel
theorem dX11_byLaw_45 : decode cX11_byLaw 45 = .ok (.getfield 59, 3) := by decide +kernel
theorem dX11_byLaw_48 : decode cX11_byLaw 48 = .ok (.iload_n 3, 1) := by decide +kernel
theorem dX11_byLaw_49 : decode cX11_byLaw 49 = .ok (.iaload, 1) := by decide +kernel
theorem dX11_byLaw_50 : decode cX11_byLaw 50 = .ok (.aload_n 0, 1) := by decide +kernel
theorem dX11_byLaw_51 : decode cX11_byLaw 51 = .ok (.getfield 62, 3) := by decide +kernel
theorem dX11_byLaw_54 : decode cX11_byLaw 54 = .ok (.iload_n 3, 1) := by decide +kernel
theorem dX11_byLaw_55 : decode cX11_byLaw 55 = .ok (.iaload, 1) := by decide +kernel
theorem dX11_byLaw_56 : decode cX11_byLaw 56 = .ok (.invokevirtual 313, 3) := by decide +kernel
theorem dX11_byLaw_59 : decode cX11_byLaw 59 = .ok (.istore 4, 2) := by decide +kernel
theorem dX11_byLaw_61 : decode cX11_byLaw 61 = .ok (.iload 4, 2) := by decide +kernel
theorem dX11_byLaw_63 : decode cX11_byLaw 63 = .ok (.ifCond .ge 7, 3) := by decide +kernel
theorem dX11_byLaw_66 : decode cX11_byLaw 66 = .ok (.iconst 0, 1) := by decide +kernel
theorem dX11_byLaw_67 : decode cX11_byLaw 67 = .ok (.goto 15, 3) := by decide +kernel
theorem dX11_byLaw_70 : decode cX11_byLaw 70 = .ok (.iload 4, 2) := by decide +kernel
theorem dX11_byLaw_72 : decode cX11_byLaw 72 = .ok (.iload_n 2, 1) := by decide +kernel
theorem dX11_byLaw_73 : decode cX11_byLaw 73 = .ok (.if_icmp .le 7, 3) := by decide +kernel
theorem dX11_byLaw_76 : decode cX11_byLaw 76 = .ok (.iload_n 2, 1) := by decide +kernel
theorem dX11_byLaw_77 : decode cX11_byLaw 77 = .ok (.goto 5, 3) := by decide +kernel
theorem dX11_byLaw_80 : decode cX11_byLaw 80 = .ok (.iload 4, 2) := by decide +kernel
theorem dX11_byLaw_82 : decode cX11_byLaw 82 = .ok (.ireturn, 1) := by decide +kernel
theorem dX11_byLaw_83 : decode cX11_byLaw 83 = .ok (.iinc 3 1, 3) := by decide +kernel
theorem dX11_byLaw_86 : decode cX11_byLaw 86 = .ok (.goto (-84), 3) := by decide +kernel
theorem dX11_byLaw_89 : decode cX11_byLaw 89 = .ok (.iconst 0, 1) := by decide +kernel
theorem dX11_byLaw_90 : decode cX11_byLaw 90 = .ok (.ireturn, 1) := by decide +kernel
theorem dX11_draws_0 : decode cX11_draws 0 = .ok (.aload_n 0, 1) := by decide +kernel
theorem dX11_draws_1 : decode cX11_draws 1 = .ok (.getfield 7, 3) := by decide +kernel
theorem dX11_draws_4 : decode cX11_draws 4 = .ok (.bipush 38, 2) := by decide +kernel
theorem dX11_draws_6 : decode cX11_draws 6 = .ok (.sipush 25173, 3) := by decide +kernel
theorem dX11_draws_9 : decode cX11_draws 9 = .ok (.aload_n 0, 1) := by decide +kernel
theorem dX11_draws_10 : decode cX11_draws 10 = .ok (.getfield 7, 3) := by decide +kernel
theorem dX11_draws_13 : decode cX11_draws 13 = .ok (.bipush 38, 2) := by decide +kernel
theorem dX11_draws_15 : decode cX11_draws 15 = .ok (.iaload, 1) := by decide +kernel
theorem dX11_draws_16 : decode cX11_draws 16 = .ok (.imul, 1) := by decide +kernel
theorem dX11_draws_17 : decode cX11_draws 17 = .ok (.sipush 13849, 3) := by decide +kernel
theorem dX11_draws_20 : decode cX11_draws 20 = .ok (.iadd, 1) := by decide +kernel
theorem dX11_draws_21 : decode cX11_draws 21 = .ok (.ldc_w 374, 3) := by decide +kernel
theorem dX11_draws_24 : decode cX11_draws 24 = .ok (.irem, 1) := by decide +kernel
theorem dX11_draws_25 : decode cX11_draws 25 = .ok (.iastore, 1) := by decide +kernel
theorem dX11_draws_26 : decode cX11_draws 26 = .ok (.aload_n 0, 1) := by decide +kernel
theorem dX11_draws_27 : decode cX11_draws 27 = .ok (.getfield 7, 3) := by decide +kernel
theorem dX11_draws_30 : decode cX11_draws 30 = .ok (.bipush 38, 2) := by decide +kernel
theorem dX11_draws_32 : decode cX11_draws 32 = .ok (.iaload, 1) := by decide +kernel
theorem dX11_draws_33 : decode cX11_draws 33 = .ok (.bipush 10, 2) := by decide +kernel
theorem dX11_draws_35 : decode cX11_draws 35 = .ok (.irem, 1) := by decide +kernel
theorem dX11_draws_36 : decode cX11_draws 36 = .ok (.ireturn, 1) := by decide +kernel
theorem dX11_fallsByLamps_0 : decode cX11_fallsByLamps 0 = .ok (.iconst 0, 1) := by decide +kernel
theorem dX11_fallsByLamps_1 : decode cX11_fallsByLamps 1 = .ok (.istore_n 1, 1) := by decide +kernel
theorem dX11_fallsByLamps_2 : decode cX11_fallsByLamps 2 = .ok (.iload_n 1, 1) := by decide +kernel
theorem dX11_fallsByLamps_3 : decode cX11_fallsByLamps 3 = .ok (.iconst 4, 1) := by decide +kernel
theorem dX11_fallsByLamps_4 : decode cX11_fallsByLamps 4 = .ok (.if_icmp .ge 51, 3) := by decide +kernel
theorem dX11_fallsByLamps_7 : decode cX11_fallsByLamps 7 = .ok (.iconst 0, 1) := by decide +kernel
theorem dX11_fallsByLamps_8 : decode cX11_fallsByLamps 8 = .ok (.istore_n 2, 1) := by decide +kernel
theorem dX11_fallsByLamps_9 : decode cX11_fallsByLamps 9 = .ok (.iload_n 2, 1) := by decide +kernel
theorem dX11_fallsByLamps_10 : decode cX11_fallsByLamps 10 = .ok (.iconst 2, 1) := by decide +kernel
theorem dX11_fallsByLamps_11 : decode cX11_fallsByLamps 11 = .ok (.if_icmp .ge 38, 3) := by decide +kernel
theorem dX11_fallsByLamps_14 : decode cX11_fallsByLamps 14 = .ok (.aload_n 0, 1) := by decide +kernel
theorem dX11_fallsByLamps_15 : decode cX11_fallsByLamps 15 = .ok (.getfield 22, 3) := by decide +kernel
theorem dX11_fallsByLamps_18 : decode cX11_fallsByLamps 18 = .ok (.iload_n 1, 1) := by decide +kernel
theorem dX11_fallsByLamps_19 : decode cX11_fallsByLamps 19 = .ok (.iaload, 1) := by decide +kernel
theorem dX11_fallsByLamps_20 : decode cX11_fallsByLamps 20 = .ok (.iconst (-1), 1) := by decide +kernel
theorem dX11_fallsByLamps_21 : decode cX11_fallsByLamps 21 = .ok (.if_icmp .eq 22, 3) := by decide +kernel
theorem dX11_fallsByLamps_24 : decode cX11_fallsByLamps 24 = .ok (.aload_n 0, 1) := by decide +kernel
theorem dX11_fallsByLamps_25 : decode cX11_fallsByLamps 25 = .ok (.iload_n 2, 1) := by decide +kernel
theorem dX11_fallsByLamps_26 : decode cX11_fallsByLamps 26 = .ok (.invokevirtual 260, 3) := by decide +kernel
theorem dX11_fallsByLamps_29 : decode cX11_fallsByLamps 29 = .ok (.ifCond .eq 14, 3) := by decide +kernel
theorem dX11_fallsByLamps_32 : decode cX11_fallsByLamps 32 = .ok (.aload_n 0, 1) := by decide +kernel
theorem dX11_fallsByLamps_33 : decode cX11_fallsByLamps 33 = .ok (.aload_n 0, 1) := by decide +kernel
theorem dX11_fallsByLamps_34 : decode cX11_fallsByLamps 34 = .ok (.getfield 22, 3) := by decide +kernel
theorem dX11_fallsByLamps_37 : decode cX11_fallsByLamps 37 = .ok (.iload_n 1, 1) := by decide +kernel
theorem dX11_fallsByLamps_38 : decode cX11_fallsByLamps 38 = .ok (.iaload, 1) := by decide +kernel
theorem dX11_fallsByLamps_39 : decode cX11_fallsByLamps 39 = .ok (.iload_n 2, 1) := by decide +kernel
theorem dX11_fallsByLamps_40 : decode cX11_fallsByLamps 40 = .ok (.invokevirtual 330, 3) := by decide +kernel
theorem dX11_fallsByLamps_43 : decode cX11_fallsByLamps 43 = .ok (.iinc 2 1, 3) := by decide +kernel
theorem dX11_fallsByLamps_46 : decode cX11_fallsByLamps 46 = .ok (.goto (-37), 3) := by decide +kernel
theorem dX11_fallsByLamps_49 : decode cX11_fallsByLamps 49 = .ok (.iinc 1 1, 3) := by decide +kernel
theorem dX11_fallsByLamps_52 : decode cX11_fallsByLamps 52 = .ok (.goto (-50), 3) := by decide +kernel
theorem dX11_fallsByLamps_55 : decode cX11_fallsByLamps 55 = .ok (.return_, 1) := by decide +kernel
theorem dX11_feed_0 : decode cX11_feed 0 = .ok (.aload_n 0, 1) := by decide +kernel
theorem dX11_feed_1 : decode cX11_feed 1 = .ok (.getfield 164, 3) := by decide +kernel
theorem dX11_feed_4 : decode cX11_feed 4 = .ok (.bipush 20, 2) := by decide +kernel
theorem dX11_feed_6 : decode cX11_feed 6 = .ok (.iadd, 1) := by decide +kernel
theorem dX11_feed_7 : decode cX11_feed 7 = .ok (.sipush 260, 3) := by decide +kernel
theorem dX11_feed_10 : decode cX11_feed 10 = .ok (.if_icmp .le 5, 3) := by decide +kernel
theorem dX11_feed_13 : decode cX11_feed 13 = .ok (.iconst (-1), 1) := by decide +kernel
theorem dX11_feed_14 : decode cX11_feed 14 = .ok (.ireturn, 1) := by decide +kernel
theorem dX11_feed_15 : decode cX11_feed 15 = .ok (.aload_n 0, 1) := by decide +kernel
theorem dX11_feed_16 : decode cX11_feed 16 = .ok (.iload_n 1, 1) := by decide +kernel
theorem dX11_feed_17 : decode cX11_feed 17 = .ok (.invokevirtual 167, 3) := by decide +kernel
theorem dX11_feed_20 : decode cX11_feed 20 = .ok (.aload_n 0, 1) := by decide +kernel
theorem dX11_feed_21 : decode cX11_feed 21 = .ok (.iload_n 2, 1) := by decide +kernel
theorem dX11_feed_22 : decode cX11_feed 22 = .ok (.invokevirtual 167, 3) := by decide +kernel
theorem dX11_feed_25 : decode cX11_feed 25 = .ok (.aload_n 0, 1) := by decide +kernel
theorem dX11_feed_26 : decode cX11_feed 26 = .ok (.iload_n 3, 1) := by decide +kernel
theorem dX11_feed_27 : decode cX11_feed 27 = .ok (.invokevirtual 167, 3) := by decide +kernel
theorem dX11_feed_30 : decode cX11_feed 30 = .ok (.aload_n 0, 1) := by decide +kernel
theorem dX11_feed_31 : decode cX11_feed 31 = .ok (.iload 4, 2) := by decide +kernel
theorem dX11_feed_33 : decode cX11_feed 33 = .ok (.invokevirtual 167, 3) := by decide +kernel
theorem dX11_feed_36 : decode cX11_feed 36 = .ok (.aload_n 0, 1) := by decide +kernel
theorem dX11_feed_37 : decode cX11_feed 37 = .ok (.iload 5, 2) := by decide +kernel
theorem dX11_feed_39 : decode cX11_feed 39 = .ok (.invokevirtual 167, 3) := by decide +kernel
theorem dX11_feed_42 : decode cX11_feed 42 = .ok (.aload_n 0, 1) := by decide +kernel
theorem dX11_feed_43 : decode cX11_feed 43 = .ok (.getfield 164, 3) := by decide +kernel
theorem dX11_feed_46 : decode cX11_feed 46 = .ok (.ireturn, 1) := by decide +kernel
theorem dX11_feels_0 : decode cX11_feels 0 = .ok (.iconst 0, 1) := by decide +kernel
theorem dX11_feels_1 : decode cX11_feels 1 = .ok (.istore_n 2, 1) := by decide +kernel
theorem dX11_feels_2 : decode cX11_feels 2 = .ok (.iload_n 2, 1) := by decide +kernel
theorem dX11_feels_3 : decode cX11_feels 3 = .ok (.bipush 7, 2) := by decide +kernel
theorem dX11_feels_5 : decode cX11_feels 5 = .ok (.if_icmp .ge 16, 3) := by decide +kernel
theorem dX11_feels_8 : decode cX11_feels 8 = .ok (.aload_n 0, 1) := by decide +kernel
theorem dX11_feels_9 : decode cX11_feels 9 = .ok (.getfield 86, 3) := by decide +kernel
theorem dX11_feels_12 : decode cX11_feels 12 = .ok (.iload_n 2, 1) := by decide +kernel
theorem dX11_feels_13 : decode cX11_feels 13 = .ok (.iconst 0, 1) := by decide +kernel
theorem dX11_feels_14 : decode cX11_feels 14 = .ok (.iastore, 1) := by decide +kernel
theorem dX11_feels_15 : decode cX11_feels 15 = .ok (.iinc 2 1, 3) := by decide +kernel
theorem dX11_feels_18 : decode cX11_feels 18 = .ok (.goto (-16), 3) := by decide +kernel
theorem dX11_feels_21 : decode cX11_feels 21 = .ok (.aload_n 0, 1) := by decide +kernel
theorem dX11_feels_22 : decode cX11_feels 22 = .ok (.getfield 86, 3) := by decide +kernel
theorem dX11_feels_25 : decode cX11_feels 25 = .ok (.iconst 0, 1) := by decide +kernel
theorem dX11_feels_26 : decode cX11_feels 26 = .ok (.iload_n 1, 1) := by decide +kernel
theorem dX11_feels_27 : decode cX11_feels 27 = .ok (.iastore, 1) := by decide +kernel
theorem dX11_feels_28 : decode cX11_feels 28 = .ok (.aload_n 0, 1) := by decide +kernel
theorem dX11_feels_29 : decode cX11_feels 29 = .ok (.getfield 86, 3) := by decide +kernel
theorem dX11_feels_32 : decode cX11_feels 32 = .ok (.iconst 1, 1) := by decide +kernel
theorem dX11_feels_33 : decode cX11_feels 33 = .ok (.iload_n 1, 1) := by decide +kernel
theorem dX11_feels_34 : decode cX11_feels 34 = .ok (.bipush 60, 2) := by decide +kernel
theorem dX11_feels_36 : decode cX11_feels 36 = .ok (.idiv, 1) := by decide +kernel
theorem dX11_feels_37 : decode cX11_feels 37 = .ok (.bipush 24, 2) := by decide +kernel
theorem dX11_feels_39 : decode cX11_feels 39 = .ok (.irem, 1) := by decide +kernel
theorem dX11_feels_40 : decode cX11_feels 40 = .ok (.iastore, 1) := by decide +kernel
theorem dX11_feels_41 : decode cX11_feels 41 = .ok (.return_, 1) := by decide +kernel
theorem dX11_felon_0 : decode cX11_felon 0 = .ok (.iload_n 1, 1) := by decide +kernel
theorem dX11_felon_1 : decode cX11_felon 1 = .ok (.bipush 10, 2) := by decide +kernel
theorem dX11_felon_3 : decode cX11_felon 3 = .ok (.invokestatic 139, 3) := by decide +kernel
theorem dX11_felon_6 : decode cX11_felon 6 = .ok (.ifCond .eq 36, 3) := by decide +kernel
theorem dX11_felon_9 : decode cX11_felon 9 = .ok (.iload_n 2, 1) := by decide +kernel
theorem dX11_felon_10 : decode cX11_felon 10 = .ok (.iload_n 3, 1) := by decide +kernel
theorem dX11_felon_11 : decode cX11_felon 11 = .ok (.invokestatic 161, 3) := by decide +kernel
theorem dX11_felon_14 : decode cX11_felon 14 = .ok (.ifCond .eq 28, 3) := by decide +kernel
theorem dX11_felon_17 : decode cX11_felon 17 = .ok (.aload_n 0, 1) := by decide +kernel
theorem dX11_felon_18 : decode cX11_felon 18 = .ok (.bipush 10, 2) := by decide +kernel
theorem dX11_felon_20 : decode cX11_felon 20 = .ok (.iload_n 3, 1) := by decide +kernel
theorem dX11_felon_21 : decode cX11_felon 21 = .ok (.imul, 1) := by decide +kernel
theorem dX11_felon_22 : decode cX11_felon 22 = .ok (.iload_n 2, 1) := by decide +kernel
theorem dX11_felon_23 : decode cX11_felon 23 = .ok (.iadd, 1) := by decide +kernel
theorem dX11_felon_24 : decode cX11_felon 24 = .ok (.invokevirtual 263, 3) := by decide +kernel
theorem dX11_felon_27 : decode cX11_felon 27 = .ok (.ifCond .eq 15, 3) := by decide +kernel
theorem dX11_felon_30 : decode cX11_felon 30 = .ok (.iload 4, 2) := by decide +kernel
theorem dX11_felon_32 : decode cX11_felon 32 = .ok (.iconst 0, 1) := by decide +kernel
theorem dX11_felon_33 : decode cX11_felon 33 = .ok (.sipush 999, 3) := by decide +kernel
theorem dX11_felon_36 : decode cX11_felon 36 = .ok (.invokestatic 150, 3) := by decide +kernel
theorem dX11_felon_39 : decode cX11_felon 39 = .ok (.ifCond .ne 5, 3) := by decide +kernel
theorem dX11_felon_42 : decode cX11_felon 42 = .ok (.iconst 0, 1) := by decide +kernel
theorem dX11_felon_43 : decode cX11_felon 43 = .ok (.ireturn, 1) := by decide +kernel
theorem dX11_felon_44 : decode cX11_felon 44 = .ok (.aload_n 0, 1) := by decide +kernel
theorem dX11_felon_45 : decode cX11_felon 45 = .ok (.getfield 7, 3) := by decide +kernel
theorem dX11_felon_48 : decode cX11_felon 48 = .ok (.bipush 35, 2) := by decide +kernel
theorem dX11_felon_50 : decode cX11_felon 50 = .ok (.aload_n 0, 1) := by decide +kernel
theorem dX11_felon_51 : decode cX11_felon 51 = .ok (.getfield 7, 3) := by decide +kernel
theorem dX11_felon_54 : decode cX11_felon 54 = .ok (.bipush 35, 2) := by decide +kernel
theorem dX11_felon_56 : decode cX11_felon 56 = .ok (.iaload, 1) := by decide +kernel
theorem dX11_felon_57 : decode cX11_felon 57 = .ok (.iconst 1, 1) := by decide +kernel
theorem dX11_felon_58 : decode cX11_felon 58 = .ok (.iload_n 1, 1) := by decide +kernel
theorem dX11_felon_59 : decode cX11_felon 59 = .ok (.ishl, 1) := by decide +kernel
theorem dX11_felon_60 : decode cX11_felon 60 = .ok (.ior, 1) := by decide +kernel
theorem dX11_felon_61 : decode cX11_felon 61 = .ok (.iastore, 1) := by decide +kernel
theorem dX11_felon_62 : decode cX11_felon 62 = .ok (.aload_n 0, 1) := by decide +kernel
theorem dX11_felon_63 : decode cX11_felon 63 = .ok (.getfield 7, 3) := by decide +kernel
theorem dX11_felon_66 : decode cX11_felon 66 = .ok (.bipush 36, 2) := by decide +kernel
theorem dX11_felon_68 : decode cX11_felon 68 = .ok (.aload_n 0, 1) := by decide +kernel
theorem dX11_felon_69 : decode cX11_felon 69 = .ok (.getfield 7, 3) := by decide +kernel
theorem dX11_felon_72 : decode cX11_felon 72 = .ok (.bipush 36, 2) := by decide +kernel
theorem dX11_felon_74 : decode cX11_felon 74 = .ok (.iaload, 1) := by decide +kernel
theorem dX11_felon_75 : decode cX11_felon 75 = .ok (.iconst 1, 1) := by decide +kernel
theorem dX11_felon_76 : decode cX11_felon 76 = .ok (.iload_n 1, 1) := by decide +kernel
theorem dX11_felon_77 : decode cX11_felon 77 = .ok (.ishl, 1) := by decide +kernel
theorem dX11_felon_78 : decode cX11_felon 78 = .ok (.iconst (-1), 1) := by decide +kernel
theorem dX11_felon_79 : decode cX11_felon 79 = .ok (.ixor, 1) := by decide +kernel
theorem dX11_felon_80 : decode cX11_felon 80 = .ok (.iand, 1) := by decide +kernel
theorem dX11_felon_81 : decode cX11_felon 81 = .ok (.iastore, 1) := by decide +kernel
theorem dX11_felon_82 : decode cX11_felon 82 = .ok (.aload_n 0, 1) := by decide +kernel
theorem dX11_felon_83 : decode cX11_felon 83 = .ok (.getfield 7, 3) := by decide +kernel
theorem dX11_felon_86 : decode cX11_felon 86 = .ok (.iconst 4, 1) := by decide +kernel
theorem dX11_felon_87 : decode cX11_felon 87 = .ok (.iload_n 1, 1) := by decide +kernel
theorem dX11_felon_88 : decode cX11_felon 88 = .ok (.iadd, 1) := by decide +kernel
theorem dX11_felon_89 : decode cX11_felon 89 = .ok (.bipush 10, 2) := by decide +kernel
theorem dX11_felon_91 : decode cX11_felon 91 = .ok (.iload_n 3, 1) := by decide +kernel
theorem dX11_felon_92 : decode cX11_felon 92 = .ok (.imul, 1) := by decide +kernel
theorem dX11_felon_93 : decode cX11_felon 93 = .ok (.iload_n 2, 1) := by decide +kernel
theorem dX11_felon_94 : decode cX11_felon 94 = .ok (.iadd, 1) := by decide +kernel
theorem dX11_felon_95 : decode cX11_felon 95 = .ok (.iastore, 1) := by decide +kernel
theorem dX11_felon_96 : decode cX11_felon 96 = .ok (.aload_n 0, 1) := by decide +kernel
theorem dX11_felon_97 : decode cX11_felon 97 = .ok (.getfield 7, 3) := by decide +kernel
theorem dX11_felon_100 : decode cX11_felon 100 = .ok (.bipush 14, 2) := by decide +kernel
theorem dX11_felon_102 : decode cX11_felon 102 = .ok (.iload_n 1, 1) := by decide +kernel
theorem dX11_felon_103 : decode cX11_felon 103 = .ok (.iadd, 1) := by decide +kernel
theorem dX11_felon_104 : decode cX11_felon 104 = .ok (.iload 4, 2) := by decide +kernel
theorem dX11_felon_106 : decode cX11_felon 106 = .ok (.iastore, 1) := by decide +kernel
theorem dX11_felon_107 : decode cX11_felon 107 = .ok (.aload_n 0, 1) := by decide +kernel
theorem dX11_felon_108 : decode cX11_felon 108 = .ok (.getfield 7, 3) := by decide +kernel
theorem dX11_felon_111 : decode cX11_felon 111 = .ok (.bipush 24, 2) := by decide +kernel
theorem dX11_felon_113 : decode cX11_felon 113 = .ok (.iload_n 1, 1) := by decide +kernel
theorem dX11_felon_114 : decode cX11_felon 114 = .ok (.iadd, 1) := by decide +kernel
theorem dX11_felon_115 : decode cX11_felon 115 = .ok (.iconst 0, 1) := by decide +kernel
theorem dX11_felon_116 : decode cX11_felon 116 = .ok (.iastore, 1) := by decide +kernel
theorem dX11_felon_117 : decode cX11_felon 117 = .ok (.iconst 1, 1) := by decide +kernel
theorem dX11_felon_118 : decode cX11_felon 118 = .ok (.ireturn, 1) := by decide +kernel
theorem dX11_has_0 : decode cX11_has 0 = .ok (.iload_n 0, 1) := by decide +kernel
theorem dX11_has_1 : decode cX11_has 1 = .ok (.iload_n 1, 1) := by decide +kernel
theorem dX11_has_2 : decode cX11_has 2 = .ok (.ishr, 1) := by decide +kernel
theorem dX11_has_3 : decode cX11_has 3 = .ok (.iconst 1, 1) := by decide +kernel
theorem dX11_has_4 : decode cX11_has 4 = .ok (.iand, 1) := by decide +kernel
theorem dX11_has_5 : decode cX11_has 5 = .ok (.iconst 1, 1) := by decide +kernel
theorem dX11_has_6 : decode cX11_has 6 = .ok (.if_icmp .ne 7, 3) := by decide +kernel
theorem dX11_has_9 : decode cX11_has 9 = .ok (.iconst 1, 1) := by decide +kernel
theorem dX11_has_10 : decode cX11_has 10 = .ok (.goto 4, 3) := by decide +kernel
theorem dX11_has_13 : decode cX11_has 13 = .ok (.iconst 0, 1) := by decide +kernel
theorem dX11_has_14 : decode cX11_has 14 = .ok (.ireturn, 1) := by decide +kernel
theorem dX11_in_0 : decode cX11_in 0 = .ok (.iload_n 0, 1) := by decide +kernel
theorem dX11_in_1 : decode cX11_in 1 = .ok (.iload_n 1, 1) := by decide +kernel
theorem dX11_in_2 : decode cX11_in 2 = .ok (.if_icmp .lt 12, 3) := by decide +kernel
theorem dX11_in_5 : decode cX11_in 5 = .ok (.iload_n 0, 1) := by decide +kernel
theorem dX11_in_6 : decode cX11_in 6 = .ok (.iload_n 2, 1) := by decide +kernel
theorem dX11_in_7 : decode cX11_in 7 = .ok (.if_icmp .gt 7, 3) := by decide +kernel
theorem dX11_in_10 : decode cX11_in 10 = .ok (.iconst 1, 1) := by decide +kernel
theorem dX11_in_11 : decode cX11_in 11 = .ok (.goto 4, 3) := by decide +kernel
theorem dX11_in_14 : decode cX11_in 14 = .ok (.iconst 0, 1) := by decide +kernel
theorem dX11_in_15 : decode cX11_in 15 = .ok (.ireturn, 1) := by decide +kernel
theorem dX11_isFelon_0 : decode cX11_isFelon 0 = .ok (.iload_n 1, 1) := by decide +kernel
theorem dX11_isFelon_1 : decode cX11_isFelon 1 = .ok (.bipush 10, 2) := by decide +kernel
theorem dX11_isFelon_3 : decode cX11_isFelon 3 = .ok (.invokestatic 139, 3) := by decide +kernel
theorem dX11_isFelon_6 : decode cX11_isFelon 6 = .ok (.ifCond .eq 21, 3) := by decide +kernel
theorem dX11_isFelon_9 : decode cX11_isFelon 9 = .ok (.aload_n 0, 1) := by decide +kernel
theorem dX11_isFelon_10 : decode cX11_isFelon 10 = .ok (.getfield 7, 3) := by decide +kernel
theorem dX11_isFelon_13 : decode cX11_isFelon 13 = .ok (.bipush 35, 2) := by decide +kernel
theorem dX11_isFelon_15 : decode cX11_isFelon 15 = .ok (.iaload, 1) := by decide +kernel
theorem dX11_isFelon_16 : decode cX11_isFelon 16 = .ok (.iload_n 1, 1) := by decide +kernel
theorem dX11_isFelon_17 : decode cX11_isFelon 17 = .ok (.invokestatic 143, 3) := by decide +kernel
theorem dX11_isFelon_20 : decode cX11_isFelon 20 = .ok (.ifCond .eq 7, 3) := by decide +kernel
theorem dX11_isFelon_23 : decode cX11_isFelon 23 = .ok (.iconst 1, 1) := by decide +kernel
theorem dX11_isFelon_24 : decode cX11_isFelon 24 = .ok (.goto 4, 3) := by decide +kernel
theorem dX11_isFelon_27 : decode cX11_isFelon 27 = .ok (.iconst 0, 1) := by decide +kernel
theorem dX11_isFelon_28 : decode cX11_isFelon 28 = .ok (.ireturn, 1) := by decide +kernel
theorem dX11_isFive_0 : decode cX11_isFive 0 = .ok (.iload_n 0, 1) := by decide +kernel
theorem dX11_isFive_1 : decode cX11_isFive 1 = .ok (.ifCond .lt 12, 3) := by decide +kernel
theorem dX11_isFive_4 : decode cX11_isFive 4 = .ok (.iload_n 0, 1) := by decide +kernel
theorem dX11_isFive_5 : decode cX11_isFive 5 = .ok (.iload_n 1, 1) := by decide +kernel
theorem dX11_isFive_6 : decode cX11_isFive 6 = .ok (.if_icmp .ge 7, 3) := by decide +kernel
theorem dX11_isFive_9 : decode cX11_isFive 9 = .ok (.iconst 1, 1) := by decide +kernel
theorem dX11_isFive_10 : decode cX11_isFive 10 = .ok (.goto 4, 3) := by decide +kernel
theorem dX11_isFive_13 : decode cX11_isFive 13 = .ok (.iconst 0, 1) := by decide +kernel
theorem dX11_isFive_14 : decode cX11_isFive 14 = .ok (.ireturn, 1) := by decide +kernel
theorem dX11_isGround_0 : decode cX11_isGround 0 = .ok (.aload_n 0, 1) := by decide +kernel
theorem dX11_isGround_1 : decode cX11_isGround 1 = .ok (.getfield 19, 3) := by decide +kernel
theorem dX11_isGround_4 : decode cX11_isGround 4 = .ok (.iload_n 1, 1) := by decide +kernel
theorem dX11_isGround_5 : decode cX11_isGround 5 = .ok (.iaload, 1) := by decide +kernel
theorem dX11_isGround_6 : decode cX11_isGround 6 = .ok (.ifCond .eq 13, 3) := by decide +kernel
theorem dX11_isGround_9 : decode cX11_isGround 9 = .ok (.aload_n 0, 1) := by decide +kernel
theorem dX11_isGround_10 : decode cX11_isGround 10 = .ok (.getfield 19, 3) := by decide +kernel
theorem dX11_isGround_13 : decode cX11_isGround 13 = .ok (.iload_n 1, 1) := by decide +kernel
theorem dX11_isGround_14 : decode cX11_isGround 14 = .ok (.iaload, 1) := by decide +kernel
theorem dX11_isGround_15 : decode cX11_isGround 15 = .ok (.iconst 2, 1) := by decide +kernel
theorem dX11_isGround_16 : decode cX11_isGround 16 = .ok (.if_icmp .ne 7, 3) := by decide +kernel
theorem dX11_isGround_19 : decode cX11_isGround 19 = .ok (.iconst 1, 1) := by decide +kernel
theorem dX11_isGround_20 : decode cX11_isGround 20 = .ok (.goto 4, 3) := by decide +kernel
theorem dX11_isGround_23 : decode cX11_isGround 23 = .ok (.iconst 0, 1) := by decide +kernel
theorem dX11_isGround_24 : decode cX11_isGround 24 = .ok (.ireturn, 1) := by decide +kernel
theorem dX11_isJudge_0 : decode cX11_isJudge 0 = .ok (.iload_n 1, 1) := by decide +kernel
theorem dX11_isJudge_1 : decode cX11_isJudge 1 = .ok (.iconst 2, 1) := by decide +kernel
theorem dX11_isJudge_2 : decode cX11_isJudge 2 = .ok (.invokestatic 139, 3) := by decide +kernel
theorem dX11_isJudge_5 : decode cX11_isJudge 5 = .ok (.ifCond .eq 21, 3) := by decide +kernel
theorem dX11_isJudge_8 : decode cX11_isJudge 8 = .ok (.aload_n 0, 1) := by decide +kernel
theorem dX11_isJudge_9 : decode cX11_isJudge 9 = .ok (.getfield 7, 3) := by decide +kernel
theorem dX11_isJudge_12 : decode cX11_isJudge 12 = .ok (.bipush 34, 2) := by decide +kernel
theorem dX11_isJudge_14 : decode cX11_isJudge 14 = .ok (.iaload, 1) := by decide +kernel
theorem dX11_isJudge_15 : decode cX11_isJudge 15 = .ok (.iload_n 1, 1) := by decide +kernel
theorem dX11_isJudge_16 : decode cX11_isJudge 16 = .ok (.invokestatic 143, 3) := by decide +kernel
theorem dX11_isJudge_19 : decode cX11_isJudge 19 = .ok (.ifCond .eq 7, 3) := by decide +kernel
theorem dX11_isJudge_22 : decode cX11_isJudge 22 = .ok (.iconst 1, 1) := by decide +kernel
theorem dX11_isJudge_23 : decode cX11_isJudge 23 = .ok (.goto 4, 3) := by decide +kernel
theorem dX11_isJudge_26 : decode cX11_isJudge 26 = .ok (.iconst 0, 1) := by decide +kernel
theorem dX11_isJudge_27 : decode cX11_isJudge 27 = .ok (.ireturn, 1) := by decide +kernel
theorem dX11_isNight_0 : decode cX11_isNight 0 = .ok (.aload_n 0, 1) := by decide +kernel
theorem dX11_isNight_1 : decode cX11_isNight 1 = .ok (.iload_n 1, 1) := by decide +kernel
theorem dX11_isNight_2 : decode cX11_isNight 2 = .ok (.invokevirtual 317, 3) := by decide +kernel
theorem dX11_isNight_5 : decode cX11_isNight 5 = .ok (.iconst 0, 1) := by decide +kernel
theorem dX11_isNight_6 : decode cX11_isNight 6 = .ok (.istore_n 2, 1) := by decide +kernel
theorem dX11_isNight_7 : decode cX11_isNight 7 = .ok (.iload_n 2, 1) := by decide +kernel
theorem dX11_isNight_8 : decode cX11_isNight 8 = .ok (.aload_n 0, 1) := by decide +kernel
theorem dX11_isNight_9 : decode cX11_isNight 9 = .ok (.getfield 306, 3) := by decide +kernel
theorem dX11_isNight_12 : decode cX11_isNight 12 = .ok (.if_icmp .ge 42, 3) := by decide +kernel
theorem dX11_isNight_15 : decode cX11_isNight 15 = .ok (.aload_n 0, 1) := by decide +kernel
theorem dX11_isNight_16 : decode cX11_isNight 16 = .ok (.getfield 56, 3) := by decide +kernel
theorem dX11_isNight_19 : decode cX11_isNight 19 = .ok (.iload_n 2, 1) := by decide +kernel
theorem dX11_isNight_20 : decode cX11_isNight 20 = .ok (.iaload, 1) := by decide +kernel
theorem dX11_isNight_21 : decode cX11_isNight 21 = .ok (.bipush 110, 2) := by decide +kernel
theorem dX11_isNight_23 : decode cX11_isNight 23 = .ok (.if_icmp .ne 25, 3) := by decide +kernel
theorem dX11_isNight_26 : decode cX11_isNight 26 = .ok (.aload_n 0, 1) := by decide +kernel
theorem dX11_isNight_27 : decode cX11_isNight 27 = .ok (.aload_n 0, 1) := by decide +kernel
theorem dX11_isNight_28 : decode cX11_isNight 28 = .ok (.getfield 62, 3) := by decide +kernel
theorem dX11_isNight_31 : decode cX11_isNight 31 = .ok (.iload_n 2, 1) := by decide +kernel
theorem dX11_isNight_32 : decode cX11_isNight 32 = .ok (.iaload, 1) := by decide +kernel
theorem dX11_isNight_33 : decode cX11_isNight 33 = .ok (.aload_n 0, 1) := by decide +kernel
theorem dX11_isNight_34 : decode cX11_isNight 34 = .ok (.getfield 65, 3) := by decide +kernel
theorem dX11_isNight_37 : decode cX11_isNight 37 = .ok (.iload_n 2, 1) := by decide +kernel
theorem dX11_isNight_38 : decode cX11_isNight 38 = .ok (.iaload, 1) := by decide +kernel
theorem dX11_isNight_39 : decode cX11_isNight 39 = .ok (.invokevirtual 313, 3) := by decide +kernel
theorem dX11_isNight_42 : decode cX11_isNight 42 = .ok (.iconst 1, 1) := by decide +kernel
theorem dX11_isNight_43 : decode cX11_isNight 43 = .ok (.if_icmp .ne 5, 3) := by decide +kernel
theorem dX11_isNight_46 : decode cX11_isNight 46 = .ok (.iconst 1, 1) := by decide +kernel
theorem dX11_isNight_47 : decode cX11_isNight 47 = .ok (.ireturn, 1) := by decide +kernel
theorem dX11_isNight_48 : decode cX11_isNight 48 = .ok (.iinc 2 1, 3) := by decide +kernel
theorem dX11_isNight_51 : decode cX11_isNight 51 = .ok (.goto (-44), 3) := by decide +kernel
theorem dX11_isNight_54 : decode cX11_isNight 54 = .ok (.iconst 0, 1) := by decide +kernel
theorem dX11_isNight_55 : decode cX11_isNight 55 = .ok (.ireturn, 1) := by decide +kernel
theorem dX11_isOn_0 : decode cX11_isOn 0 = .ok (.iload_n 0, 1) := by decide +kernel
theorem dX11_isOn_1 : decode cX11_isOn 1 = .ok (.iconst 0, 1) := by decide +kernel
theorem dX11_isOn_2 : decode cX11_isOn 2 = .ok (.bipush 9, 2) := by decide +kernel
theorem dX11_isOn_4 : decode cX11_isOn 4 = .ok (.invokestatic 150, 3) := by decide +kernel
theorem dX11_isOn_7 : decode cX11_isOn 7 = .ok (.ifCond .eq 17, 3) := by decide +kernel
theorem dX11_isOn_10 : decode cX11_isOn 10 = .ok (.iload_n 1, 1) := by decide +kernel
theorem dX11_isOn_11 : decode cX11_isOn 11 = .ok (.iconst 0, 1) := by decide +kernel
theorem dX11_isOn_12 : decode cX11_isOn 12 = .ok (.bipush 9, 2) := by decide +kernel
theorem dX11_isOn_14 : decode cX11_isOn 14 = .ok (.invokestatic 150, 3) := by decide +kernel
theorem dX11_isOn_17 : decode cX11_isOn 17 = .ok (.ifCond .eq 7, 3) := by decide +kernel
theorem dX11_isOn_20 : decode cX11_isOn 20 = .ok (.iconst 1, 1) := by decide +kernel
theorem dX11_isOn_21 : decode cX11_isOn 21 = .ok (.goto 4, 3) := by decide +kernel
theorem dX11_isOn_24 : decode cX11_isOn 24 = .ok (.iconst 0, 1) := by decide +kernel
theorem dX11_isOn_25 : decode cX11_isOn 25 = .ok (.ireturn, 1) := by decide +kernel
theorem dX11_judge_0 : decode cX11_judge 0 = .ok (.iload_n 1, 1) := by decide +kernel
theorem dX11_judge_1 : decode cX11_judge 1 = .ok (.iconst 2, 1) := by decide +kernel
theorem dX11_judge_2 : decode cX11_judge 2 = .ok (.invokestatic 139, 3) := by decide +kernel
theorem dX11_judge_5 : decode cX11_judge 5 = .ok (.ifCond .eq 24, 3) := by decide +kernel
theorem dX11_judge_8 : decode cX11_judge 8 = .ok (.iload_n 2, 1) := by decide +kernel
theorem dX11_judge_9 : decode cX11_judge 9 = .ok (.iload_n 3, 1) := by decide +kernel
theorem dX11_judge_10 : decode cX11_judge 10 = .ok (.invokestatic 161, 3) := by decide +kernel
theorem dX11_judge_13 : decode cX11_judge 13 = .ok (.ifCond .eq 16, 3) := by decide +kernel
theorem dX11_judge_16 : decode cX11_judge 16 = .ok (.aload_n 0, 1) := by decide +kernel
theorem dX11_judge_17 : decode cX11_judge 17 = .ok (.bipush 10, 2) := by decide +kernel
theorem dX11_judge_19 : decode cX11_judge 19 = .ok (.iload_n 3, 1) := by decide +kernel
theorem dX11_judge_20 : decode cX11_judge 20 = .ok (.imul, 1) := by decide +kernel
theorem dX11_judge_21 : decode cX11_judge 21 = .ok (.iload_n 2, 1) := by decide +kernel
theorem dX11_judge_22 : decode cX11_judge 22 = .ok (.iadd, 1) := by decide +kernel
theorem dX11_judge_23 : decode cX11_judge 23 = .ok (.invokevirtual 263, 3) := by decide +kernel
theorem dX11_judge_26 : decode cX11_judge 26 = .ok (.ifCond .ne 5, 3) := by decide +kernel
theorem dX11_judge_29 : decode cX11_judge 29 = .ok (.iconst 0, 1) := by decide +kernel
theorem dX11_judge_30 : decode cX11_judge 30 = .ok (.ireturn, 1) := by decide +kernel
theorem dX11_judge_31 : decode cX11_judge 31 = .ok (.aload_n 0, 1) := by decide +kernel
theorem dX11_judge_32 : decode cX11_judge 32 = .ok (.iconst 1, 1) := by decide +kernel
theorem dX11_judge_33 : decode cX11_judge 33 = .ok (.iload_n 1, 1) := by decide +kernel
theorem dX11_judge_34 : decode cX11_judge 34 = .ok (.isub, 1) := by decide +kernel
theorem dX11_judge_35 : decode cX11_judge 35 = .ok (.invokevirtual 260, 3) := by decide +kernel
theorem dX11_judge_38 : decode cX11_judge 38 = .ok (.ifCond .eq 22, 3) := by decide +kernel
theorem dX11_judge_41 : decode cX11_judge 41 = .ok (.aload_n 0, 1) := by decide +kernel
theorem dX11_judge_42 : decode cX11_judge 42 = .ok (.getfield 7, 3) := by decide +kernel
theorem dX11_judge_45 : decode cX11_judge 45 = .ok (.iconst 1, 1) := by decide +kernel
theorem dX11_judge_46 : decode cX11_judge 46 = .ok (.iload_n 1, 1) := by decide +kernel
theorem dX11_judge_47 : decode cX11_judge 47 = .ok (.isub, 1) := by decide +kernel
theorem dX11_judge_48 : decode cX11_judge 48 = .ok (.iaload, 1) := by decide +kernel
theorem dX11_judge_49 : decode cX11_judge 49 = .ok (.bipush 10, 2) := by decide +kernel
theorem dX11_judge_51 : decode cX11_judge 51 = .ok (.iload_n 3, 1) := by decide +kernel
theorem dX11_judge_52 : decode cX11_judge 52 = .ok (.imul, 1) := by decide +kernel
theorem dX11_judge_53 : decode cX11_judge 53 = .ok (.iload_n 2, 1) := by decide +kernel
theorem dX11_judge_54 : decode cX11_judge 54 = .ok (.iadd, 1) := by decide +kernel
theorem dX11_judge_55 : decode cX11_judge 55 = .ok (.if_icmp .ne 5, 3) := by decide +kernel
theorem dX11_judge_58 : decode cX11_judge 58 = .ok (.iconst 0, 1) := by decide +kernel
theorem dX11_judge_59 : decode cX11_judge 59 = .ok (.ireturn, 1) := by decide +kernel
theorem dX11_judge_60 : decode cX11_judge 60 = .ok (.aload_n 0, 1) := by decide +kernel
theorem dX11_judge_61 : decode cX11_judge 61 = .ok (.getfield 7, 3) := by decide +kernel
theorem dX11_judge_64 : decode cX11_judge 64 = .ok (.bipush 34, 2) := by decide +kernel
theorem dX11_judge_66 : decode cX11_judge 66 = .ok (.aload_n 0, 1) := by decide +kernel
theorem dX11_judge_67 : decode cX11_judge 67 = .ok (.getfield 7, 3) := by decide +kernel
theorem dX11_judge_70 : decode cX11_judge 70 = .ok (.bipush 34, 2) := by decide +kernel
theorem dX11_judge_72 : decode cX11_judge 72 = .ok (.iaload, 1) := by decide +kernel
theorem dX11_judge_73 : decode cX11_judge 73 = .ok (.iconst 1, 1) := by decide +kernel
theorem dX11_judge_74 : decode cX11_judge 74 = .ok (.iload_n 1, 1) := by decide +kernel
theorem dX11_judge_75 : decode cX11_judge 75 = .ok (.ishl, 1) := by decide +kernel
theorem dX11_judge_76 : decode cX11_judge 76 = .ok (.ior, 1) := by decide +kernel
theorem dX11_judge_77 : decode cX11_judge 77 = .ok (.iastore, 1) := by decide +kernel
theorem dX11_judge_78 : decode cX11_judge 78 = .ok (.aload_n 0, 1) := by decide +kernel
theorem dX11_judge_79 : decode cX11_judge 79 = .ok (.getfield 7, 3) := by decide +kernel
theorem dX11_judge_82 : decode cX11_judge 82 = .ok (.iconst 0, 1) := by decide +kernel
theorem dX11_judge_83 : decode cX11_judge 83 = .ok (.iload_n 1, 1) := by decide +kernel
theorem dX11_judge_84 : decode cX11_judge 84 = .ok (.iadd, 1) := by decide +kernel
theorem dX11_judge_85 : decode cX11_judge 85 = .ok (.bipush 10, 2) := by decide +kernel
theorem dX11_judge_87 : decode cX11_judge 87 = .ok (.iload_n 3, 1) := by decide +kernel
theorem dX11_judge_88 : decode cX11_judge 88 = .ok (.imul, 1) := by decide +kernel
theorem dX11_judge_89 : decode cX11_judge 89 = .ok (.iload_n 2, 1) := by decide +kernel
theorem dX11_judge_90 : decode cX11_judge 90 = .ok (.iadd, 1) := by decide +kernel
theorem dX11_judge_91 : decode cX11_judge 91 = .ok (.iastore, 1) := by decide +kernel
theorem dX11_judge_92 : decode cX11_judge 92 = .ok (.iconst 1, 1) := by decide +kernel
theorem dX11_judge_93 : decode cX11_judge 93 = .ok (.ireturn, 1) := by decide +kernel
theorem dX11_lamp_0 : decode cX11_lamp 0 = .ok (.iload_n 1, 1) := by decide +kernel
theorem dX11_lamp_1 : decode cX11_lamp 1 = .ok (.iconst 4, 1) := by decide +kernel
theorem dX11_lamp_2 : decode cX11_lamp 2 = .ok (.invokestatic 139, 3) := by decide +kernel
theorem dX11_lamp_5 : decode cX11_lamp 5 = .ok (.ifCond .ne 5, 3) := by decide +kernel
theorem dX11_lamp_8 : decode cX11_lamp 8 = .ok (.iconst 0, 1) := by decide +kernel
theorem dX11_lamp_9 : decode cX11_lamp 9 = .ok (.ireturn, 1) := by decide +kernel
theorem dX11_lamp_10 : decode cX11_lamp 10 = .ok (.iload_n 2, 1) := by decide +kernel
theorem dX11_lamp_11 : decode cX11_lamp 11 = .ok (.iconst (-1), 1) := by decide +kernel
theorem dX11_lamp_12 : decode cX11_lamp 12 = .ok (.if_icmp .eq 26, 3) := by decide +kernel
theorem dX11_lamp_15 : decode cX11_lamp 15 = .ok (.iload_n 2, 1) := by decide +kernel
theorem dX11_lamp_16 : decode cX11_lamp 16 = .ok (.iload_n 3, 1) := by decide +kernel
theorem dX11_lamp_17 : decode cX11_lamp 17 = .ok (.invokestatic 161, 3) := by decide +kernel
theorem dX11_lamp_20 : decode cX11_lamp 20 = .ok (.ifCond .eq 16, 3) := by decide +kernel
theorem dX11_lamp_23 : decode cX11_lamp 23 = .ok (.aload_n 0, 1) := by decide +kernel
theorem dX11_lamp_24 : decode cX11_lamp 24 = .ok (.bipush 10, 2) := by decide +kernel
theorem dX11_lamp_26 : decode cX11_lamp 26 = .ok (.iload_n 3, 1) := by decide +kernel
theorem dX11_lamp_27 : decode cX11_lamp 27 = .ok (.imul, 1) := by decide +kernel
theorem dX11_lamp_28 : decode cX11_lamp 28 = .ok (.iload_n 2, 1) := by decide +kernel
theorem dX11_lamp_29 : decode cX11_lamp 29 = .ok (.iadd, 1) := by decide +kernel
theorem dX11_lamp_30 : decode cX11_lamp 30 = .ok (.invokevirtual 263, 3) := by decide +kernel
theorem dX11_lamp_33 : decode cX11_lamp 33 = .ok (.ifCond .ne 5, 3) := by decide +kernel
theorem dX11_lamp_36 : decode cX11_lamp 36 = .ok (.iconst 0, 1) := by decide +kernel
theorem dX11_lamp_37 : decode cX11_lamp 37 = .ok (.ireturn, 1) := by decide +kernel
theorem dX11_lamp_38 : decode cX11_lamp 38 = .ok (.aload_n 0, 1) := by decide +kernel
theorem dX11_lamp_39 : decode cX11_lamp 39 = .ok (.getfield 22, 3) := by decide +kernel
theorem dX11_lamp_42 : decode cX11_lamp 42 = .ok (.iload_n 1, 1) := by decide +kernel
theorem dX11_lamp_43 : decode cX11_lamp 43 = .ok (.iload_n 2, 1) := by decide +kernel
theorem dX11_lamp_44 : decode cX11_lamp 44 = .ok (.iconst (-1), 1) := by decide +kernel
theorem dX11_lamp_45 : decode cX11_lamp 45 = .ok (.if_icmp .ne 7, 3) := by decide +kernel
theorem dX11_lamp_48 : decode cX11_lamp 48 = .ok (.iconst (-1), 1) := by decide +kernel
theorem dX11_lamp_49 : decode cX11_lamp 49 = .ok (.goto 9, 3) := by decide +kernel
theorem dX11_lamp_52 : decode cX11_lamp 52 = .ok (.bipush 10, 2) := by decide +kernel
theorem dX11_lamp_54 : decode cX11_lamp 54 = .ok (.iload_n 3, 1) := by decide +kernel
theorem dX11_lamp_55 : decode cX11_lamp 55 = .ok (.imul, 1) := by decide +kernel
theorem dX11_lamp_56 : decode cX11_lamp 56 = .ok (.iload_n 2, 1) := by decide +kernel
theorem dX11_lamp_57 : decode cX11_lamp 57 = .ok (.iadd, 1) := by decide +kernel
theorem dX11_lamp_58 : decode cX11_lamp 58 = .ok (.iastore, 1) := by decide +kernel
theorem dX11_lamp_59 : decode cX11_lamp 59 = .ok (.iconst 1, 1) := by decide +kernel
theorem dX11_lamp_60 : decode cX11_lamp 60 = .ok (.ireturn, 1) := by decide +kernel
theorem dX11_laysOrder_0 : decode cX11_laysOrder 0 = .ok (.iconst 0, 1) := by decide +kernel
theorem dX11_laysOrder_1 : decode cX11_laysOrder 1 = .ok (.istore_n 1, 1) := by decide +kernel
theorem dX11_laysOrder_2 : decode cX11_laysOrder 2 = .ok (.iconst 0, 1) := by decide +kernel
theorem dX11_laysOrder_3 : decode cX11_laysOrder 3 = .ok (.istore_n 2, 1) := by decide +kernel
theorem dX11_laysOrder_4 : decode cX11_laysOrder 4 = .ok (.iload_n 2, 1) := by decide +kernel
theorem dX11_laysOrder_5 : decode cX11_laysOrder 5 = .ok (.bipush 10, 2) := by decide +kernel
theorem dX11_laysOrder_7 : decode cX11_laysOrder 7 = .ok (.if_icmp .ge 110, 3) := by decide +kernel
theorem dX11_laysOrder_10 : decode cX11_laysOrder 10 = .ok (.aload_n 0, 1) := by decide +kernel
theorem dX11_laysOrder_11 : decode cX11_laysOrder 11 = .ok (.iload_n 2, 1) := by decide +kernel
theorem dX11_laysOrder_12 : decode cX11_laysOrder 12 = .ok (.invokevirtual 349, 3) := by decide +kernel
theorem dX11_laysOrder_15 : decode cX11_laysOrder 15 = .ok (.ifCond .ne 6, 3) := by decide +kernel
theorem dX11_laysOrder_18 : decode cX11_laysOrder 18 = .ok (.goto 93, 3) := by decide +kernel
theorem dX11_laysOrder_21 : decode cX11_laysOrder 21 = .ok (.aload_n 0, 1) := by decide +kernel
theorem dX11_laysOrder_22 : decode cX11_laysOrder 22 = .ok (.getfield 98, 3) := by decide +kernel
theorem dX11_laysOrder_25 : decode cX11_laysOrder 25 = .ok (.iload_n 2, 1) := by decide +kernel
theorem dX11_laysOrder_26 : decode cX11_laysOrder 26 = .ok (.iload_n 2, 1) := by decide +kernel
theorem dX11_laysOrder_27 : decode cX11_laysOrder 27 = .ok (.aload_n 0, 1) := by decide +kernel
theorem dX11_laysOrder_28 : decode cX11_laysOrder 28 = .ok (.getfield 135, 3) := by decide +kernel
theorem dX11_laysOrder_31 : decode cX11_laysOrder 31 = .ok (.if_icmp .ne 9, 3) := by decide +kernel
theorem dX11_laysOrder_34 : decode cX11_laysOrder 34 = .ok (.ldc_w 348, 3) := by decide +kernel
theorem dX11_laysOrder_37 : decode cX11_laysOrder 37 = .ok (.goto 13, 3) := by decide +kernel
theorem dX11_laysOrder_40 : decode cX11_laysOrder 40 = .ok (.aload_n 0, 1) := by decide +kernel
theorem dX11_laysOrder_41 : decode cX11_laysOrder 41 = .ok (.bipush 111, 2) := by decide +kernel
theorem dX11_laysOrder_43 : decode cX11_laysOrder 43 = .ok (.sipush 999, 3) := by decide +kernel
theorem dX11_laysOrder_46 : decode cX11_laysOrder 46 = .ok (.iload_n 2, 1) := by decide +kernel
theorem dX11_laysOrder_47 : decode cX11_laysOrder 47 = .ok (.invokevirtual 352, 3) := by decide +kernel
theorem dX11_laysOrder_50 : decode cX11_laysOrder 50 = .ok (.iastore, 1) := by decide +kernel
theorem dX11_laysOrder_51 : decode cX11_laysOrder 51 = .ok (.iload_n 1, 1) := by decide +kernel
theorem dX11_laysOrder_52 : decode cX11_laysOrder 52 = .ok (.istore_n 3, 1) := by decide +kernel
theorem dX11_laysOrder_53 : decode cX11_laysOrder 53 = .ok (.iload_n 3, 1) := by decide +kernel
theorem dX11_laysOrder_54 : decode cX11_laysOrder 54 = .ok (.ifCond .le 46, 3) := by decide +kernel
theorem dX11_laysOrder_57 : decode cX11_laysOrder 57 = .ok (.aload_n 0, 1) := by decide +kernel
theorem dX11_laysOrder_58 : decode cX11_laysOrder 58 = .ok (.getfield 98, 3) := by decide +kernel
theorem dX11_laysOrder_61 : decode cX11_laysOrder 61 = .ok (.aload_n 0, 1) := by decide +kernel
theorem dX11_laysOrder_62 : decode cX11_laysOrder 62 = .ok (.getfield 95, 3) := by decide +kernel
theorem dX11_laysOrder_65 : decode cX11_laysOrder 65 = .ok (.iload_n 3, 1) := by decide +kernel
theorem dX11_laysOrder_66 : decode cX11_laysOrder 66 = .ok (.iconst 1, 1) := by decide +kernel
theorem dX11_laysOrder_67 : decode cX11_laysOrder 67 = .ok (.isub, 1) := by decide +kernel
theorem dX11_laysOrder_68 : decode cX11_laysOrder 68 = .ok (.iaload, 1) := by decide +kernel
theorem dX11_laysOrder_69 : decode cX11_laysOrder 69 = .ok (.iaload, 1) := by decide +kernel
theorem dX11_laysOrder_70 : decode cX11_laysOrder 70 = .ok (.aload_n 0, 1) := by decide +kernel
theorem dX11_laysOrder_71 : decode cX11_laysOrder 71 = .ok (.getfield 98, 3) := by decide +kernel
theorem dX11_laysOrder_74 : decode cX11_laysOrder 74 = .ok (.iload_n 2, 1) := by decide +kernel
theorem dX11_laysOrder_75 : decode cX11_laysOrder 75 = .ok (.iaload, 1) := by decide +kernel
theorem dX11_laysOrder_76 : decode cX11_laysOrder 76 = .ok (.if_icmp .ge 24, 3) := by decide +kernel
theorem dX11_laysOrder_79 : decode cX11_laysOrder 79 = .ok (.aload_n 0, 1) := by decide +kernel
theorem dX11_laysOrder_80 : decode cX11_laysOrder 80 = .ok (.getfield 95, 3) := by decide +kernel
theorem dX11_laysOrder_83 : decode cX11_laysOrder 83 = .ok (.iload_n 3, 1) := by decide +kernel
theorem dX11_laysOrder_84 : decode cX11_laysOrder 84 = .ok (.aload_n 0, 1) := by decide +kernel
theorem dX11_laysOrder_85 : decode cX11_laysOrder 85 = .ok (.getfield 95, 3) := by decide +kernel
theorem dX11_laysOrder_88 : decode cX11_laysOrder 88 = .ok (.iload_n 3, 1) := by decide +kernel
theorem dX11_laysOrder_89 : decode cX11_laysOrder 89 = .ok (.iconst 1, 1) := by decide +kernel
theorem dX11_laysOrder_90 : decode cX11_laysOrder 90 = .ok (.isub, 1) := by decide +kernel
theorem dX11_laysOrder_91 : decode cX11_laysOrder 91 = .ok (.iaload, 1) := by decide +kernel
theorem dX11_laysOrder_92 : decode cX11_laysOrder 92 = .ok (.iastore, 1) := by decide +kernel
theorem dX11_laysOrder_93 : decode cX11_laysOrder 93 = .ok (.iload_n 3, 1) := by decide +kernel
theorem dX11_laysOrder_94 : decode cX11_laysOrder 94 = .ok (.iconst 1, 1) := by decide +kernel
theorem dX11_laysOrder_95 : decode cX11_laysOrder 95 = .ok (.isub, 1) := by decide +kernel
theorem dX11_laysOrder_96 : decode cX11_laysOrder 96 = .ok (.istore_n 3, 1) := by decide +kernel
theorem dX11_laysOrder_97 : decode cX11_laysOrder 97 = .ok (.goto (-44), 3) := by decide +kernel
theorem dX11_laysOrder_100 : decode cX11_laysOrder 100 = .ok (.aload_n 0, 1) := by decide +kernel
theorem dX11_laysOrder_101 : decode cX11_laysOrder 101 = .ok (.getfield 95, 3) := by decide +kernel
theorem dX11_laysOrder_104 : decode cX11_laysOrder 104 = .ok (.iload_n 3, 1) := by decide +kernel
theorem dX11_laysOrder_105 : decode cX11_laysOrder 105 = .ok (.iload_n 2, 1) := by decide +kernel
theorem dX11_laysOrder_106 : decode cX11_laysOrder 106 = .ok (.iastore, 1) := by decide +kernel
theorem dX11_laysOrder_107 : decode cX11_laysOrder 107 = .ok (.iload_n 1, 1) := by decide +kernel
theorem dX11_laysOrder_108 : decode cX11_laysOrder 108 = .ok (.iconst 1, 1) := by decide +kernel
theorem dX11_laysOrder_109 : decode cX11_laysOrder 109 = .ok (.iadd, 1) := by decide +kernel
theorem dX11_laysOrder_110 : decode cX11_laysOrder 110 = .ok (.istore_n 1, 1) := by decide +kernel
theorem dX11_laysOrder_111 : decode cX11_laysOrder 111 = .ok (.iinc 2 1, 3) := by decide +kernel
theorem dX11_laysOrder_114 : decode cX11_laysOrder 114 = .ok (.goto (-110), 3) := by decide +kernel
theorem dX11_laysOrder_117 : decode cX11_laysOrder 117 = .ok (.iload_n 1, 1) := by decide +kernel
theorem dX11_laysOrder_118 : decode cX11_laysOrder 118 = .ok (.ireturn, 1) := by decide +kernel
theorem dX11_laysShades_0 : decode cX11_laysShades 0 = .ok (.aload_n 0, 1) := by decide +kernel
theorem dX11_laysShades_1 : decode cX11_laysShades 1 = .ok (.invokevirtual 333, 3) := by decide +kernel
theorem dX11_laysShades_4 : decode cX11_laysShades 4 = .ok (.iconst 0, 1) := by decide +kernel
theorem dX11_laysShades_5 : decode cX11_laysShades 5 = .ok (.istore_n 3, 1) := by decide +kernel
theorem dX11_laysShades_6 : decode cX11_laysShades 6 = .ok (.iload_n 3, 1) := by decide +kernel
theorem dX11_laysShades_7 : decode cX11_laysShades 7 = .ok (.iconst 2, 1) := by decide +kernel
theorem dX11_laysShades_8 : decode cX11_laysShades 8 = .ok (.if_icmp .ge 27, 3) := by decide +kernel
theorem dX11_laysShades_11 : decode cX11_laysShades 11 = .ok (.aload_n 0, 1) := by decide +kernel
theorem dX11_laysShades_12 : decode cX11_laysShades 12 = .ok (.iload_n 3, 1) := by decide +kernel
theorem dX11_laysShades_13 : decode cX11_laysShades 13 = .ok (.invokevirtual 260, 3) := by decide +kernel
theorem dX11_laysShades_16 : decode cX11_laysShades 16 = .ok (.ifCond .eq 13, 3) := by decide +kernel
theorem dX11_laysShades_19 : decode cX11_laysShades 19 = .ok (.iload_n 2, 1) := by decide +kernel
theorem dX11_laysShades_20 : decode cX11_laysShades 20 = .ok (.ifCond .ne 9, 3) := by decide +kernel
theorem dX11_laysShades_23 : decode cX11_laysShades 23 = .ok (.aload_n 0, 1) := by decide +kernel
theorem dX11_laysShades_24 : decode cX11_laysShades 24 = .ok (.iload_n 3, 1) := by decide +kernel
theorem dX11_laysShades_25 : decode cX11_laysShades 25 = .ok (.iload_n 1, 1) := by decide +kernel
theorem dX11_laysShades_26 : decode cX11_laysShades 26 = .ok (.invokevirtual 336, 3) := by decide +kernel
theorem dX11_laysShades_29 : decode cX11_laysShades 29 = .ok (.iinc 3 1, 3) := by decide +kernel
theorem dX11_laysShades_32 : decode cX11_laysShades 32 = .ok (.goto (-26), 3) := by decide +kernel
theorem dX11_laysShades_35 : decode cX11_laysShades 35 = .ok (.aload_n 0, 1) := by decide +kernel
theorem dX11_laysShades_36 : decode cX11_laysShades 36 = .ok (.iload_n 1, 1) := by decide +kernel
theorem dX11_laysShades_37 : decode cX11_laysShades 37 = .ok (.invokevirtual 339, 3) := by decide +kernel
theorem dX11_laysShades_40 : decode cX11_laysShades 40 = .ok (.ifCond .eq 7, 3) := by decide +kernel
theorem dX11_laysShades_43 : decode cX11_laysShades 43 = .ok (.aload_n 0, 1) := by decide +kernel
theorem dX11_laysShades_44 : decode cX11_laysShades 44 = .ok (.invokevirtual 342, 3) := by decide +kernel
theorem dX11_laysShades_47 : decode cX11_laysShades 47 = .ok (.return_, 1) := by decide +kernel
theorem dX11_max_0 : decode cX11_max 0 = .ok (.iload_n 0, 1) := by decide +kernel
theorem dX11_max_1 : decode cX11_max 1 = .ok (.iload_n 1, 1) := by decide +kernel
theorem dX11_max_2 : decode cX11_max 2 = .ok (.if_icmp .le 7, 3) := by decide +kernel
theorem dX11_max_5 : decode cX11_max 5 = .ok (.iload_n 0, 1) := by decide +kernel
theorem dX11_max_6 : decode cX11_max 6 = .ok (.goto 4, 3) := by decide +kernel
theorem dX11_max_9 : decode cX11_max 9 = .ok (.iload_n 1, 1) := by decide +kernel
theorem dX11_max_10 : decode cX11_max 10 = .ok (.ireturn, 1) := by decide +kernel
theorem dX11_minutes_0 : decode cX11_minutes 0 = .ok (.iload_n 1, 1) := by decide +kernel
theorem dX11_minutes_1 : decode cX11_minutes 1 = .ok (.iconst 1, 1) := by decide +kernel
theorem dX11_minutes_2 : decode cX11_minutes 2 = .ok (.bipush 120, 2) := by decide +kernel
theorem dX11_minutes_4 : decode cX11_minutes 4 = .ok (.invokestatic 150, 3) := by decide +kernel
theorem dX11_minutes_7 : decode cX11_minutes 7 = .ok (.ifCond .ne 5, 3) := by decide +kernel
theorem dX11_minutes_10 : decode cX11_minutes 10 = .ok (.iconst (-1), 1) := by decide +kernel
theorem dX11_minutes_11 : decode cX11_minutes 11 = .ok (.ireturn, 1) := by decide +kernel
theorem dX11_minutes_12 : decode cX11_minutes 12 = .ok (.aload_n 0, 1) := by decide +kernel
theorem dX11_minutes_13 : decode cX11_minutes 13 = .ok (.iload_n 1, 1) := by decide +kernel
theorem dX11_minutes_14 : decode cX11_minutes 14 = .ok (.invokevirtual 400, 3) := by decide +kernel
theorem dX11_minutes_17 : decode cX11_minutes 17 = .ok (.aload_n 0, 1) := by decide +kernel
theorem dX11_minutes_18 : decode cX11_minutes 18 = .ok (.getfield 371, 3) := by decide +kernel
theorem dX11_minutes_21 : decode cX11_minutes 21 = .ok (.ireturn, 1) := by decide +kernel
theorem dX11_minutesGo_0 : decode cX11_minutesGo 0 = .ok (.aload_n 0, 1) := by decide +kernel
theorem dX11_minutesGo_1 : decode cX11_minutesGo 1 = .ok (.invokevirtual 391, 3) := by decide +kernel
theorem dX11_minutesGo_4 : decode cX11_minutesGo 4 = .ok (.iconst 0, 1) := by decide +kernel
theorem dX11_minutesGo_5 : decode cX11_minutesGo 5 = .ok (.istore_n 2, 1) := by decide +kernel
theorem dX11_minutesGo_6 : decode cX11_minutesGo 6 = .ok (.iload_n 2, 1) := by decide +kernel
theorem dX11_minutesGo_7 : decode cX11_minutesGo 7 = .ok (.iload_n 1, 1) := by decide +kernel
theorem dX11_minutesGo_8 : decode cX11_minutesGo 8 = .ok (.if_icmp .ge 36, 3) := by decide +kernel
theorem dX11_minutesGo_11 : decode cX11_minutesGo 11 = .ok (.aload_n 0, 1) := by decide +kernel
theorem dX11_minutesGo_12 : decode cX11_minutesGo 12 = .ok (.getfield 7, 3) := by decide +kernel
theorem dX11_minutesGo_15 : decode cX11_minutesGo 15 = .ok (.bipush 37, 2) := by decide +kernel
theorem dX11_minutesGo_17 : decode cX11_minutesGo 17 = .ok (.iaload, 1) := by decide +kernel
theorem dX11_minutesGo_18 : decode cX11_minutesGo 18 = .ok (.sipush 9999, 3) := by decide +kernel
theorem dX11_minutesGo_21 : decode cX11_minutesGo 21 = .ok (.if_icmp .ge 23, 3) := by decide +kernel
theorem dX11_minutesGo_24 : decode cX11_minutesGo 24 = .ok (.aload_n 0, 1) := by decide +kernel
theorem dX11_minutesGo_25 : decode cX11_minutesGo 25 = .ok (.iconst 0, 1) := by decide +kernel
theorem dX11_minutesGo_26 : decode cX11_minutesGo 26 = .ok (.invokevirtual 394, 3) := by decide +kernel
theorem dX11_minutesGo_29 : decode cX11_minutesGo 29 = .ok (.aload_n 0, 1) := by decide +kernel
theorem dX11_minutesGo_30 : decode cX11_minutesGo 30 = .ok (.iconst 1, 1) := by decide +kernel
theorem dX11_minutesGo_31 : decode cX11_minutesGo 31 = .ok (.invokevirtual 394, 3) := by decide +kernel
theorem dX11_minutesGo_34 : decode cX11_minutesGo 34 = .ok (.aload_n 0, 1) := by decide +kernel
theorem dX11_minutesGo_35 : decode cX11_minutesGo 35 = .ok (.invokevirtual 397, 3) := by decide +kernel
theorem dX11_minutesGo_38 : decode cX11_minutesGo 38 = .ok (.iinc 2 1, 3) := by decide +kernel
theorem dX11_minutesGo_41 : decode cX11_minutesGo 41 = .ok (.goto (-35), 3) := by decide +kernel
theorem dX11_minutesGo_44 : decode cX11_minutesGo 44 = .ok (.return_, 1) := by decide +kernel
theorem dX11_owes_0 : decode cX11_owes 0 = .ok (.aload_n 0, 1) := by decide +kernel
theorem dX11_owes_1 : decode cX11_owes 1 = .ok (.iload_n 1, 1) := by decide +kernel
theorem dX11_owes_2 : decode cX11_owes 2 = .ok (.invokevirtual 146, 3) := by decide +kernel
theorem dX11_owes_5 : decode cX11_owes 5 = .ok (.ifCond .eq 33, 3) := by decide +kernel
theorem dX11_owes_8 : decode cX11_owes 8 = .ok (.aload_n 0, 1) := by decide +kernel
theorem dX11_owes_9 : decode cX11_owes 9 = .ok (.getfield 7, 3) := by decide +kernel
theorem dX11_owes_12 : decode cX11_owes 12 = .ok (.bipush 14, 2) := by decide +kernel
theorem dX11_owes_14 : decode cX11_owes 14 = .ok (.iload_n 1, 1) := by decide +kernel
theorem dX11_owes_15 : decode cX11_owes 15 = .ok (.iadd, 1) := by decide +kernel
theorem dX11_owes_16 : decode cX11_owes 16 = .ok (.iaload, 1) := by decide +kernel
theorem dX11_owes_17 : decode cX11_owes 17 = .ok (.ifCond .le 21, 3) := by decide +kernel
theorem dX11_owes_20 : decode cX11_owes 20 = .ok (.aload_n 0, 1) := by decide +kernel
theorem dX11_owes_21 : decode cX11_owes 21 = .ok (.getfield 7, 3) := by decide +kernel
theorem dX11_owes_24 : decode cX11_owes 24 = .ok (.bipush 36, 2) := by decide +kernel
theorem dX11_owes_26 : decode cX11_owes 26 = .ok (.iaload, 1) := by decide +kernel
theorem dX11_owes_27 : decode cX11_owes 27 = .ok (.iload_n 1, 1) := by decide +kernel
theorem dX11_owes_28 : decode cX11_owes 28 = .ok (.invokestatic 143, 3) := by decide +kernel
theorem dX11_owes_31 : decode cX11_owes 31 = .ok (.ifCond .ne 7, 3) := by decide +kernel
theorem dX11_owes_34 : decode cX11_owes 34 = .ok (.iconst 1, 1) := by decide +kernel
theorem dX11_owes_35 : decode cX11_owes 35 = .ok (.goto 4, 3) := by decide +kernel
theorem dX11_owes_38 : decode cX11_owes 38 = .ok (.iconst 0, 1) := by decide +kernel
theorem dX11_owes_39 : decode cX11_owes 39 = .ok (.ireturn, 1) := by decide +kernel
theorem dX11_shadesGo_0 : decode cX11_shadesGo 0 = .ok (.aload_n 0, 1) := by decide +kernel
theorem dX11_shadesGo_1 : decode cX11_shadesGo 1 = .ok (.invokevirtual 375, 3) := by decide +kernel
theorem dX11_shadesGo_4 : decode cX11_shadesGo 4 = .ok (.istore_n 1, 1) := by decide +kernel
theorem dX11_shadesGo_5 : decode cX11_shadesGo 5 = .ok (.aload_n 0, 1) := by decide +kernel
theorem dX11_shadesGo_6 : decode cX11_shadesGo 6 = .ok (.aload_n 0, 1) := by decide +kernel
theorem dX11_shadesGo_7 : decode cX11_shadesGo 7 = .ok (.getfield 7, 3) := by decide +kernel
theorem dX11_shadesGo_10 : decode cX11_shadesGo 10 = .ok (.bipush 37, 2) := by decide +kernel
theorem dX11_shadesGo_12 : decode cX11_shadesGo 12 = .ok (.iaload, 1) := by decide +kernel
theorem dX11_shadesGo_13 : decode cX11_shadesGo 13 = .ok (.invokevirtual 317, 3) := by decide +kernel
theorem dX11_shadesGo_16 : decode cX11_shadesGo 16 = .ok (.iload_n 1, 1) := by decide +kernel
theorem dX11_shadesGo_17 : decode cX11_shadesGo 17 = .ok (.aload_n 0, 1) := by decide +kernel
theorem dX11_shadesGo_18 : decode cX11_shadesGo 18 = .ok (.bipush 99, 2) := by decide +kernel
theorem dX11_shadesGo_20 : decode cX11_shadesGo 20 = .ok (.bipush 10, 2) := by decide +kernel
theorem dX11_shadesGo_22 : decode cX11_shadesGo 22 = .ok (.invokevirtual 320, 3) := by decide +kernel
theorem dX11_shadesGo_25 : decode cX11_shadesGo 25 = .ok (.if_icmp .ge 7, 3) := by decide +kernel
theorem dX11_shadesGo_28 : decode cX11_shadesGo 28 = .ok (.iconst 1, 1) := by decide +kernel
theorem dX11_shadesGo_29 : decode cX11_shadesGo 29 = .ok (.goto 4, 3) := by decide +kernel
theorem dX11_shadesGo_32 : decode cX11_shadesGo 32 = .ok (.iconst 0, 1) := by decide +kernel
theorem dX11_shadesGo_33 : decode cX11_shadesGo 33 = .ok (.istore_n 2, 1) := by decide +kernel
theorem dX11_shadesGo_34 : decode cX11_shadesGo 34 = .ok (.aload_n 0, 1) := by decide +kernel
theorem dX11_shadesGo_35 : decode cX11_shadesGo 35 = .ok (.aload_n 0, 1) := by decide +kernel
theorem dX11_shadesGo_36 : decode cX11_shadesGo 36 = .ok (.getfield 378, 3) := by decide +kernel
theorem dX11_shadesGo_39 : decode cX11_shadesGo 39 = .ok (.iload_n 2, 1) := by decide +kernel
theorem dX11_shadesGo_40 : decode cX11_shadesGo 40 = .ok (.ifCond .eq 7, 3) := by decide +kernel
theorem dX11_shadesGo_43 : decode cX11_shadesGo 43 = .ok (.iconst 1, 1) := by decide +kernel
theorem dX11_shadesGo_44 : decode cX11_shadesGo 44 = .ok (.goto 4, 3) := by decide +kernel
theorem dX11_shadesGo_47 : decode cX11_shadesGo 47 = .ok (.iconst 0, 1) := by decide +kernel
theorem dX11_shadesGo_48 : decode cX11_shadesGo 48 = .ok (.iadd, 1) := by decide +kernel
theorem dX11_shadesGo_49 : decode cX11_shadesGo 49 = .ok (.putfield 378, 3) := by decide +kernel
theorem dX11_shadesGo_52 : decode cX11_shadesGo 52 = .ok (.aload_n 0, 1) := by decide +kernel
theorem dX11_shadesGo_53 : decode cX11_shadesGo 53 = .ok (.aload_n 0, 1) := by decide +kernel
theorem dX11_shadesGo_54 : decode cX11_shadesGo 54 = .ok (.getfield 7, 3) := by decide +kernel
theorem dX11_shadesGo_57 : decode cX11_shadesGo 57 = .ok (.bipush 37, 2) := by decide +kernel
theorem dX11_shadesGo_59 : decode cX11_shadesGo 59 = .ok (.iaload, 1) := by decide +kernel
theorem dX11_shadesGo_60 : decode cX11_shadesGo 60 = .ok (.iload_n 2, 1) := by decide +kernel
theorem dX11_shadesGo_61 : decode cX11_shadesGo 61 = .ok (.invokevirtual 381, 3) := by decide +kernel
theorem dX11_shadesGo_64 : decode cX11_shadesGo 64 = .ok (.aload_n 0, 1) := by decide +kernel
theorem dX11_shadesGo_65 : decode cX11_shadesGo 65 = .ok (.aload_n 0, 1) := by decide +kernel
theorem dX11_shadesGo_66 : decode cX11_shadesGo 66 = .ok (.getfield 7, 3) := by decide +kernel
theorem dX11_shadesGo_69 : decode cX11_shadesGo 69 = .ok (.bipush 37, 2) := by decide +kernel
theorem dX11_shadesGo_71 : decode cX11_shadesGo 71 = .ok (.iaload, 1) := by decide +kernel
theorem dX11_shadesGo_72 : decode cX11_shadesGo 72 = .ok (.invokevirtual 339, 3) := by decide +kernel
theorem dX11_shadesGo_75 : decode cX11_shadesGo 75 = .ok (.istore_n 3, 1) := by decide +kernel
theorem dX11_shadesGo_76 : decode cX11_shadesGo 76 = .ok (.iconst 0, 1) := by decide +kernel
theorem dX11_shadesGo_77 : decode cX11_shadesGo 77 = .ok (.istore 4, 2) := by decide +kernel
theorem dX11_shadesGo_79 : decode cX11_shadesGo 79 = .ok (.iload 4, 2) := by decide +kernel
theorem dX11_shadesGo_81 : decode cX11_shadesGo 81 = .ok (.bipush 100, 2) := by decide +kernel
theorem dX11_shadesGo_83 : decode cX11_shadesGo 83 = .ok (.if_icmp .ge 17, 3) := by decide +kernel
theorem dX11_shadesGo_86 : decode cX11_shadesGo 86 = .ok (.aload_n 0, 1) := by decide +kernel
theorem dX11_shadesGo_87 : decode cX11_shadesGo 87 = .ok (.getfield 101, 3) := by decide +kernel
theorem dX11_shadesGo_90 : decode cX11_shadesGo 90 = .ok (.iload 4, 2) := by decide +kernel
theorem dX11_shadesGo_92 : decode cX11_shadesGo 92 = .ok (.iconst 0, 1) := by decide +kernel
theorem dX11_shadesGo_93 : decode cX11_shadesGo 93 = .ok (.bastore, 1) := by decide +kernel
theorem dX11_shadesGo_94 : decode cX11_shadesGo 94 = .ok (.iinc 4 1, 3) := by decide +kernel
theorem dX11_shadesGo_97 : decode cX11_shadesGo 97 = .ok (.goto (-18), 3) := by decide +kernel
theorem dX11_shadesGo_100 : decode cX11_shadesGo 100 = .ok (.aload_n 0, 1) := by decide +kernel
theorem dX11_shadesGo_101 : decode cX11_shadesGo 101 = .ok (.invokevirtual 385, 3) := by decide +kernel
theorem dX11_shadesGo_104 : decode cX11_shadesGo 104 = .ok (.istore 4, 2) := by decide +kernel
theorem dX11_shadesGo_106 : decode cX11_shadesGo 106 = .ok (.iconst 0, 1) := by decide +kernel
theorem dX11_shadesGo_107 : decode cX11_shadesGo 107 = .ok (.istore 5, 2) := by decide +kernel
theorem dX11_shadesGo_109 : decode cX11_shadesGo 109 = .ok (.iload 5, 2) := by decide +kernel
theorem dX11_shadesGo_111 : decode cX11_shadesGo 111 = .ok (.iload 4, 2) := by decide +kernel
theorem dX11_shadesGo_113 : decode cX11_shadesGo 113 = .ok (.if_icmp .ge 21, 3) := by decide +kernel
theorem dX11_shadesGo_116 : decode cX11_shadesGo 116 = .ok (.aload_n 0, 1) := by decide +kernel
theorem dX11_shadesGo_117 : decode cX11_shadesGo 117 = .ok (.aload_n 0, 1) := by decide +kernel
theorem dX11_shadesGo_118 : decode cX11_shadesGo 118 = .ok (.getfield 95, 3) := by decide +kernel
theorem dX11_shadesGo_121 : decode cX11_shadesGo 121 = .ok (.iload 5, 2) := by decide +kernel
theorem dX11_shadesGo_123 : decode cX11_shadesGo 123 = .ok (.iaload, 1) := by decide +kernel
theorem dX11_shadesGo_124 : decode cX11_shadesGo 124 = .ok (.iload_n 3, 1) := by decide +kernel
theorem dX11_shadesGo_125 : decode cX11_shadesGo 125 = .ok (.invokevirtual 388, 3) := by decide +kernel
theorem dX11_shadesGo_128 : decode cX11_shadesGo 128 = .ok (.iinc 5 1, 3) := by decide +kernel
theorem dX11_shadesGo_131 : decode cX11_shadesGo 131 = .ok (.goto (-22), 3) := by decide +kernel
theorem dX11_shadesGo_134 : decode cX11_shadesGo 134 = .ok (.aload_n 0, 1) := by decide +kernel
theorem dX11_shadesGo_135 : decode cX11_shadesGo 135 = .ok (.getfield 7, 3) := by decide +kernel
theorem dX11_shadesGo_138 : decode cX11_shadesGo 138 = .ok (.bipush 37, 2) := by decide +kernel
theorem dX11_shadesGo_140 : decode cX11_shadesGo 140 = .ok (.aload_n 0, 1) := by decide +kernel
theorem dX11_shadesGo_141 : decode cX11_shadesGo 141 = .ok (.getfield 7, 3) := by decide +kernel
theorem dX11_shadesGo_144 : decode cX11_shadesGo 144 = .ok (.bipush 37, 2) := by decide +kernel
theorem dX11_shadesGo_146 : decode cX11_shadesGo 146 = .ok (.iaload, 1) := by decide +kernel
theorem dX11_shadesGo_147 : decode cX11_shadesGo 147 = .ok (.iconst 1, 1) := by decide +kernel
theorem dX11_shadesGo_148 : decode cX11_shadesGo 148 = .ok (.iadd, 1) := by decide +kernel
theorem dX11_shadesGo_149 : decode cX11_shadesGo 149 = .ok (.iastore, 1) := by decide +kernel
theorem dX11_shadesGo_150 : decode cX11_shadesGo 150 = .ok (.return_, 1) := by decide +kernel
theorem dX11_types_0 : decode cX11_types 0 = .ok (.iconst 3, 1) := by decide +kernel
theorem dX11_types_1 : decode cX11_types 1 = .ok (.istore_n 2, 1) := by decide +kernel
theorem dX11_types_2 : decode cX11_types 2 = .ok (.iload_n 2, 1) := by decide +kernel
theorem dX11_types_3 : decode cX11_types 3 = .ok (.ifCond .lt 35, 3) := by decide +kernel
theorem dX11_types_6 : decode cX11_types 6 = .ok (.aload_n 0, 1) := by decide +kernel
theorem dX11_types_7 : decode cX11_types 7 = .ok (.getfield 32, 3) := by decide +kernel
theorem dX11_types_10 : decode cX11_types 10 = .ok (.aload_n 0, 1) := by decide +kernel
theorem dX11_types_11 : decode cX11_types 11 = .ok (.getfield 164, 3) := by decide +kernel
theorem dX11_types_14 : decode cX11_types 14 = .ok (.iload_n 1, 1) := by decide +kernel
theorem dX11_types_15 : decode cX11_types 15 = .ok (.bipush 8, 2) := by decide +kernel
theorem dX11_types_17 : decode cX11_types 17 = .ok (.iload_n 2, 1) := by decide +kernel
theorem dX11_types_18 : decode cX11_types 18 = .ok (.imul, 1) := by decide +kernel
theorem dX11_types_19 : decode cX11_types 19 = .ok (.ishr, 1) := by decide +kernel
theorem dX11_types_20 : decode cX11_types 20 = .ok (.i2b, 1) := by decide +kernel
theorem dX11_types_21 : decode cX11_types 21 = .ok (.bastore, 1) := by decide +kernel
theorem dX11_types_22 : decode cX11_types 22 = .ok (.aload_n 0, 1) := by decide +kernel
theorem dX11_types_23 : decode cX11_types 23 = .ok (.aload_n 0, 1) := by decide +kernel
theorem dX11_types_24 : decode cX11_types 24 = .ok (.getfield 164, 3) := by decide +kernel
theorem dX11_types_27 : decode cX11_types 27 = .ok (.iconst 1, 1) := by decide +kernel
theorem dX11_types_28 : decode cX11_types 28 = .ok (.iadd, 1) := by decide +kernel
theorem dX11_types_29 : decode cX11_types 29 = .ok (.putfield 164, 3) := by decide +kernel
theorem dX11_types_32 : decode cX11_types 32 = .ok (.iinc 2 (-1), 3) := by decide +kernel
theorem dX11_types_35 : decode cX11_types 35 = .ok (.goto (-33), 3) := by decide +kernel
theorem dX11_types_38 : decode cX11_types 38 = .ok (.return_, 1) := by decide +kernel
theorem dX11_walksOn_0 : decode cX11_walksOn 0 = .ok (.aload_n 0, 1) := by decide +kernel
theorem dX11_walksOn_1 : decode cX11_walksOn 1 = .ok (.iload_n 1, 1) := by decide +kernel
theorem dX11_walksOn_2 : decode cX11_walksOn 2 = .ok (.invokevirtual 260, 3) := by decide +kernel
theorem dX11_walksOn_5 : decode cX11_walksOn 5 = .ok (.ifCond .eq 20, 3) := by decide +kernel
theorem dX11_walksOn_8 : decode cX11_walksOn 8 = .ok (.aload_n 0, 1) := by decide +kernel
theorem dX11_walksOn_9 : decode cX11_walksOn 9 = .ok (.getfield 7, 3) := by decide +kernel
theorem dX11_walksOn_12 : decode cX11_walksOn 12 = .ok (.iconst 2, 1) := by decide +kernel
theorem dX11_walksOn_13 : decode cX11_walksOn 13 = .ok (.iload_n 1, 1) := by decide +kernel
theorem dX11_walksOn_14 : decode cX11_walksOn 14 = .ok (.iadd, 1) := by decide +kernel
theorem dX11_walksOn_15 : decode cX11_walksOn 15 = .ok (.iaload, 1) := by decide +kernel
theorem dX11_walksOn_16 : decode cX11_walksOn 16 = .ok (.aload_n 0, 1) := by decide +kernel
theorem dX11_walksOn_17 : decode cX11_walksOn 17 = .ok (.getfield 25, 3) := by decide +kernel
theorem dX11_walksOn_20 : decode cX11_walksOn 20 = .ok (.iload_n 1, 1) := by decide +kernel
theorem dX11_walksOn_21 : decode cX11_walksOn 21 = .ok (.iaload, 1) := by decide +kernel
theorem dX11_walksOn_22 : decode cX11_walksOn 22 = .ok (.if_icmp .lt 4, 3) := by decide +kernel
theorem dX11_walksOn_25 : decode cX11_walksOn 25 = .ok (.return_, 1) := by decide +kernel
theorem dX11_walksOn_26 : decode cX11_walksOn 26 = .ok (.aload_n 0, 1) := by decide +kernel
theorem dX11_walksOn_27 : decode cX11_walksOn 27 = .ok (.getfield 28, 3) := by decide +kernel
theorem dX11_walksOn_30 : decode cX11_walksOn 30 = .ok (.bipush 60, 2) := by decide +kernel
theorem dX11_walksOn_32 : decode cX11_walksOn 32 = .ok (.iload_n 1, 1) := by decide +kernel
theorem dX11_walksOn_33 : decode cX11_walksOn 33 = .ok (.imul, 1) := by decide +kernel
theorem dX11_walksOn_34 : decode cX11_walksOn 34 = .ok (.aload_n 0, 1) := by decide +kernel
theorem dX11_walksOn_35 : decode cX11_walksOn 35 = .ok (.getfield 7, 3) := by decide +kernel
theorem dX11_walksOn_38 : decode cX11_walksOn 38 = .ok (.iconst 2, 1) := by decide +kernel
theorem dX11_walksOn_39 : decode cX11_walksOn 39 = .ok (.iload_n 1, 1) := by decide +kernel
theorem dX11_walksOn_40 : decode cX11_walksOn 40 = .ok (.iadd, 1) := by decide +kernel
theorem dX11_walksOn_41 : decode cX11_walksOn 41 = .ok (.iaload, 1) := by decide +kernel
theorem dX11_walksOn_42 : decode cX11_walksOn 42 = .ok (.iadd, 1) := by decide +kernel
theorem dX11_walksOn_43 : decode cX11_walksOn 43 = .ok (.baload, 1) := by decide +kernel
theorem dX11_walksOn_44 : decode cX11_walksOn 44 = .ok (.istore_n 2, 1) := by decide +kernel
theorem dX11_walksOn_45 : decode cX11_walksOn 45 = .ok (.aload_n 0, 1) := by decide +kernel
theorem dX11_walksOn_46 : decode cX11_walksOn 46 = .ok (.getfield 7, 3) := by decide +kernel
theorem dX11_walksOn_49 : decode cX11_walksOn 49 = .ok (.iconst 2, 1) := by decide +kernel
theorem dX11_walksOn_50 : decode cX11_walksOn 50 = .ok (.iload_n 1, 1) := by decide +kernel
theorem dX11_walksOn_51 : decode cX11_walksOn 51 = .ok (.iadd, 1) := by decide +kernel
theorem dX11_walksOn_52 : decode cX11_walksOn 52 = .ok (.aload_n 0, 1) := by decide +kernel
theorem dX11_walksOn_53 : decode cX11_walksOn 53 = .ok (.getfield 7, 3) := by decide +kernel
theorem dX11_walksOn_56 : decode cX11_walksOn 56 = .ok (.iconst 2, 1) := by decide +kernel
theorem dX11_walksOn_57 : decode cX11_walksOn 57 = .ok (.iload_n 1, 1) := by decide +kernel
theorem dX11_walksOn_58 : decode cX11_walksOn 58 = .ok (.iadd, 1) := by decide +kernel
theorem dX11_walksOn_59 : decode cX11_walksOn 59 = .ok (.iaload, 1) := by decide +kernel
theorem dX11_walksOn_60 : decode cX11_walksOn 60 = .ok (.iconst 1, 1) := by decide +kernel
theorem dX11_walksOn_61 : decode cX11_walksOn 61 = .ok (.iadd, 1) := by decide +kernel
theorem dX11_walksOn_62 : decode cX11_walksOn 62 = .ok (.iastore, 1) := by decide +kernel
theorem dX11_walksOn_63 : decode cX11_walksOn 63 = .ok (.aload_n 0, 1) := by decide +kernel
theorem dX11_walksOn_64 : decode cX11_walksOn 64 = .ok (.iload_n 1, 1) := by decide +kernel
theorem dX11_walksOn_65 : decode cX11_walksOn 65 = .ok (.iload_n 2, 1) := by decide +kernel
theorem dX11_walksOn_66 : decode cX11_walksOn 66 = .ok (.invokevirtual 345, 3) := by decide +kernel
theorem dX11_walksOn_69 : decode cX11_walksOn 69 = .ok (.return_, 1) := by decide +kernel
