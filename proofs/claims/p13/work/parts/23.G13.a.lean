theorem st_X11_48 (h0 : Nat) (σ : xS) (k : Nat) (a : Int) : xobj h0 (xU σ k 48 a) k 11 = (xobj h0 σ k 11).set 48 (.int (xJ a)) := by simp [xobj, xU]
theorem ln_X11_48 (h0 : Nat) (σ : xS) (k : Nat) : 48 < (xobj h0 σ k 11).length := by simp [xobj]
theorem st_X11_58 (h0 : Nat) (σ : xS) (k : Nat) (a : Int) : xobj h0 (xU σ k 58 a) k 11 = (xobj h0 σ k 11).set 58 (.int (xJ a)) := by simp [xobj, xU]
theorem ln_X11_58 (h0 : Nat) (σ : xS) (k : Nat) : 58 < (xobj h0 σ k 11).length := by simp [xobj]
theorem cf_X11_begins : xCF yX11_begins cX11_begins 1 none 0 := ⟨xq 1544 (by decide +kernel) rfl, xq 179 (by decide +kernel) rfl, by decide +kernel⟩
theorem cf_X11_bits : xCF yX11_bits cX11_bits 3 (some .int) 1 := ⟨xq 1651 (by decide +kernel) rfl, xq 179 (by decide +kernel) rfl, by decide +kernel⟩
theorem cf_X11_copies : xCF yX11_copies cX11_copies 3 none 2 := ⟨xq 1648 (by decide +kernel) rfl, xq 179 (by decide +kernel) rfl, by decide +kernel⟩
theorem cf_X11_copiesWalks : xCF yX11_copiesWalks cX11_copiesWalks 5 none 4 := ⟨xq 1765 (by decide +kernel) rfl, xq 179 (by decide +kernel) rfl, by decide +kernel⟩
theorem cf_X11_draws : xCF yX11_draws cX11_draws 1 (some .int) 0 := ⟨xq 1569 (by decide +kernel) rfl, xq 179 (by decide +kernel) rfl, by decide +kernel⟩
theorem cf_X11_freeMany : xCF yX11_freeMany cX11_freeMany 3 (some .int) 0 := ⟨xq 1655 (by decide +kernel) rfl, xq 179 (by decide +kernel) rfl, by decide +kernel⟩
theorem cf_X11_goesFew : xCF yX11_goesFew cX11_goesFew 7 none 1 := ⟨xq 1690 (by decide +kernel) rfl, xq 179 (by decide +kernel) rfl, by decide +kernel⟩
theorem cf_X11_isFree : xCF yX11_isFree cX11_isFree 3 (some .boolean) 1 := ⟨xq 1709 (by decide +kernel) rfl, xq 179 (by decide +kernel) rfl, by decide +kernel⟩
theorem cf_X11_lampSet : xCF yX11_lampSet cX11_lampSet 3 (some .int) 0 := ⟨xq 1785 (by decide +kernel) rfl, xq 179 (by decide +kernel) rfl, by decide +kernel⟩
theorem cf_X11_laysDark : xCF yX11_laysDark cX11_laysDark 4 none 1 := ⟨xq 1725 (by decide +kernel) rfl, xq 179 (by decide +kernel) rfl, by decide +kernel⟩
theorem cf_X11_laysOrder : xCF yX11_laysOrder cX11_laysOrder 4 (some .int) 0 := ⟨xq 1617 (by decide +kernel) rfl, xq 179 (by decide +kernel) rfl, by decide +kernel⟩
theorem cf_X11_laysReach : xCF yX11_laysReach cX11_laysReach 3 none 0 := ⟨xq 1675 (by decide +kernel) rfl, xq 179 (by decide +kernel) rfl, by decide +kernel⟩
theorem cf_X11_laysShades : xCF yX11_laysShades cX11_laysShades 4 none 2 := ⟨xq 1589 (by decide +kernel) rfl, xq 179 (by decide +kernel) rfl, by decide +kernel⟩
theorem cf_X11_laysSteps : xCF yX11_laysSteps cX11_laysSteps 3 none 0 := ⟨xq 1686 (by decide +kernel) rfl, xq 179 (by decide +kernel) rfl, by decide +kernel⟩
theorem cf_X11_max : xCF yX11_max cX11_max 2 (some .int) 2 := ⟨xq 1678 (by decide +kernel) rfl, xq 179 (by decide +kernel) rfl, by decide +kernel⟩
theorem cf_X11_minutesGo : xCF yX11_minutesGo cX11_minutesGo 3 none 1 := ⟨xq 1540 (by decide +kernel) rfl, xq 179 (by decide +kernel) rfl, by decide +kernel⟩
theorem cf_X11_mostAtOnce : xCF yX11_mostAtOnce cX11_mostAtOnce 4 (some .int) 0 := ⟨xq 1671 (by decide +kernel) rfl, xq 179 (by decide +kernel) rfl, by decide +kernel⟩
theorem cf_X11_owedAll : xCF yX11_owedAll cX11_owedAll 3 (some .int) 0 := ⟨xq 1789 (by decide +kernel) rfl, xq 179 (by decide +kernel) rfl, by decide +kernel⟩
theorem cf_X11_servedFirst : xCF yX11_servedFirst cX11_servedFirst 3 (some .int) 2 := ⟨xq 1717 (by decide +kernel) rfl, xq 179 (by decide +kernel) rfl, by decide +kernel⟩
theorem cf_X11_servedIn : xCF yX11_servedIn cX11_servedIn 5 (some .int) 3 := ⟨xq 1698 (by decide +kernel) rfl, xq 179 (by decide +kernel) rfl, by decide +kernel⟩
theorem cf_X11_servesOf : xCF yX11_servesOf cX11_servesOf 5 none 2 := ⟨xq 1630 (by decide +kernel) rfl, xq 179 (by decide +kernel) rfl, by decide +kernel⟩
theorem cf_X11_shadesGo : xCF yX11_shadesGo cX11_shadesGo 6 none 0 := ⟨xq 1565 (by decide +kernel) rfl, xq 179 (by decide +kernel) rfl, by decide +kernel⟩
theorem cf_X11_stepIn : xCF yX11_stepIn cX11_stepIn 5 (some .int) 3 := ⟨xq 1701 (by decide +kernel) rfl, xq 179 (by decide +kernel) rfl, by decide +kernel⟩
theorem cf_X11_walksOn : xCF yX11_walksOn cX11_walksOn 3 none 1 := ⟨xq 1548 (by decide +kernel) rfl, xq 179 (by decide +kernel) rfl, by decide +kernel⟩
theorem wq130 : Cond.selects yX11_minutesGo.cls yX11_minutesGo yX11_minutesGo ∈ xTB := xq 130 (by decide +kernel) rfl
theorem wq131 : Cond.selects yX11_begins.cls yX11_begins yX11_begins ∈ xTB := xq 131 (by decide +kernel) rfl
theorem wq132 : Cond.selects yX11_walksOn.cls yX11_walksOn yX11_walksOn ∈ xTB := xq 132 (by decide +kernel) rfl
theorem wq134 : Cond.selects yX11_shadesGo.cls yX11_shadesGo yX11_shadesGo ∈ xTB := xq 134 (by decide +kernel) rfl
theorem wq135 : Cond.selects yX11_draws.cls yX11_draws yX11_draws ∈ xTB := xq 135 (by decide +kernel) rfl
theorem wq139 : Cond.selects yX11_laysShades.cls yX11_laysShades yX11_laysShades ∈ xTB := xq 139 (by decide +kernel) rfl
theorem wq146 : Cond.selects yX11_laysOrder.cls yX11_laysOrder yX11_laysOrder ∈ xTB := xq 146 (by decide +kernel) rfl
theorem wq149 : Cond.selects yX11_servesOf.cls yX11_servesOf yX11_servesOf ∈ xTB := xq 149 (by decide +kernel) rfl
theorem wq152 : Cond.selects yX11_freeMany.cls yX11_freeMany yX11_freeMany ∈ xTB := xq 152 (by decide +kernel) rfl
theorem wq153 : Cond.selects yX11_mostAtOnce.cls yX11_mostAtOnce yX11_mostAtOnce ∈ xTB := xq 153 (by decide +kernel) rfl
theorem wq154 : Cond.selects yX11_laysReach.cls yX11_laysReach yX11_laysReach ∈ xTB := xq 154 (by decide +kernel) rfl
theorem wq155 : Cond.selects yX11_laysSteps.cls yX11_laysSteps yX11_laysSteps ∈ xTB := xq 155 (by decide +kernel) rfl
theorem wq156 : Cond.selects yX11_goesFew.cls yX11_goesFew yX11_goesFew ∈ xTB := xq 156 (by decide +kernel) rfl
theorem wq157 : Cond.selects yX11_servedIn.cls yX11_servedIn yX11_servedIn ∈ xTB := xq 157 (by decide +kernel) rfl
theorem wq158 : Cond.selects yX11_isFree.cls yX11_isFree yX11_isFree ∈ xTB := xq 158 (by decide +kernel) rfl
theorem wq159 : Cond.selects yX11_servedFirst.cls yX11_servedFirst yX11_servedFirst ∈ xTB := xq 159 (by decide +kernel) rfl
theorem wq160 : Cond.selects yX11_laysDark.cls yX11_laysDark yX11_laysDark ∈ xTB := xq 160 (by decide +kernel) rfl
theorem wq165 : Cond.selects yX11_lampSet.cls yX11_lampSet yX11_lampSet ∈ xTB := xq 165 (by decide +kernel) rfl
theorem wq166 : Cond.selects yX11_owedAll.cls yX11_owedAll yX11_owedAll ∈ xTB := xq 166 (by decide +kernel) rfl
theorem wq1186 : Cond.fieldLink "ShadowCourtModel" (13) "ShadowCourtModel" "aside" "[I" ∈ xTB := xq 1186 (by decide +kernel) rfl
theorem wq1187 : Cond.fieldLink "ShadowCourtModel" (16) "ShadowCourtModel" "kept" "[I" ∈ xTB := xq 1187 (by decide +kernel) rfl
theorem wq1235 : Cond.fieldLink "ShadowCourtModel" (105) "ShadowCourtModel" "canStand" "[Z" ∈ xTB := xq 1235 (by decide +kernel) rfl
theorem wq1236 : Cond.fieldLink "ShadowCourtModel" (108) "ShadowCourtModel" "reachOf" "[I" ∈ xTB := xq 1236 (by decide +kernel) rfl
theorem wq1237 : Cond.fieldLink "ShadowCourtModel" (111) "ShadowCourtModel" "fewOf" "[I" ∈ xTB := xq 1237 (by decide +kernel) rfl
theorem wq1238 : Cond.fieldLink "ShadowCourtModel" (114) "ShadowCourtModel" "fewThen" "[I" ∈ xTB := xq 1238 (by decide +kernel) rfl
theorem wq1239 : Cond.fieldLink "ShadowCourtModel" (117) "ShadowCourtModel" "stepsFrom" "[I" ∈ xTB := xq 1239 (by decide +kernel) rfl
theorem wq1240 : Cond.fieldLink "ShadowCourtModel" (120) "ShadowCourtModel" "darkOf" "[I" ∈ xTB := xq 1240 (by decide +kernel) rfl
theorem wq1243 : Cond.fieldLink "ShadowCourtModel" (266) "ShadowCourtModel" "isKept" "Z" ∈ xTB := xq 1243 (by decide +kernel) rfl
theorem wq1244 : Cond.fieldLink "ShadowCourtModel" (129) "ShadowCourtModel" "keptMany" "[I" ∈ xTB := xq 1244 (by decide +kernel) rfl
theorem wq1245 : Cond.fieldLink "ShadowCourtModel" (132) "ShadowCourtModel" "keptStep" "[B" ∈ xTB := xq 1245 (by decide +kernel) rfl
theorem wq1537 : Cond.methodLink "ShadowCourtModel" (400) yX11_minutesGo ∈ xTB := xq 1537 (by decide +kernel) rfl
theorem wq1539 : Cond.instanceMethod yX11_minutesGo ∈ xTB := xq 1539 (by decide +kernel) rfl
theorem wq1541 : Cond.methodLink "ShadowCourtModel" (391) yX11_begins ∈ xTB := xq 1541 (by decide +kernel) rfl
theorem wq1543 : Cond.instanceMethod yX11_begins ∈ xTB := xq 1543 (by decide +kernel) rfl
theorem wq1545 : Cond.methodLink "ShadowCourtModel" (394) yX11_walksOn ∈ xTB := xq 1545 (by decide +kernel) rfl
theorem wq1547 : Cond.instanceMethod yX11_walksOn ∈ xTB := xq 1547 (by decide +kernel) rfl
theorem wq1562 : Cond.methodLink "ShadowCourtModel" (397) yX11_shadesGo ∈ xTB := xq 1562 (by decide +kernel) rfl
theorem wq1564 : Cond.instanceMethod yX11_shadesGo ∈ xTB := xq 1564 (by decide +kernel) rfl
theorem wq1566 : Cond.methodLink "ShadowCourtModel" (375) yX11_draws ∈ xTB := xq 1566 (by decide +kernel) rfl
theorem wq1568 : Cond.instanceMethod yX11_draws ∈ xTB := xq 1568 (by decide +kernel) rfl
theorem wq1586 : Cond.methodLink "ShadowCourtModel" (381) yX11_laysShades ∈ xTB := xq 1586 (by decide +kernel) rfl
theorem wq1588 : Cond.instanceMethod yX11_laysShades ∈ xTB := xq 1588 (by decide +kernel) rfl
theorem wq1614 : Cond.methodLink "ShadowCourtModel" (385) yX11_laysOrder ∈ xTB := xq 1614 (by decide +kernel) rfl
theorem wq1616 : Cond.instanceMethod yX11_laysOrder ∈ xTB := xq 1616 (by decide +kernel) rfl
theorem wq1627 : Cond.methodLink "ShadowCourtModel" (388) yX11_servesOf ∈ xTB := xq 1627 (by decide +kernel) rfl
theorem wq1629 : Cond.instanceMethod yX11_servesOf ∈ xTB := xq 1629 (by decide +kernel) rfl
theorem wq1646 : Cond.methodLink "ShadowCourtModel" (403) yX11_copies ∈ xTB := xq 1646 (by decide +kernel) rfl
theorem wq1647 : Cond.static yX11_copies ∈ xTB := xq 1647 (by decide +kernel) rfl
theorem wq1649 : Cond.methodLink "ShadowCourtModel" (407) yX11_bits ∈ xTB := xq 1649 (by decide +kernel) rfl
theorem wq1650 : Cond.static yX11_bits ∈ xTB := xq 1650 (by decide +kernel) rfl
theorem wq1652 : Cond.methodLink "ShadowCourtModel" (410) yX11_freeMany ∈ xTB := xq 1652 (by decide +kernel) rfl
theorem wq1654 : Cond.instanceMethod yX11_freeMany ∈ xTB := xq 1654 (by decide +kernel) rfl
theorem wq1668 : Cond.methodLink "ShadowCourtModel" (419) yX11_mostAtOnce ∈ xTB := xq 1668 (by decide +kernel) rfl
theorem wq1670 : Cond.instanceMethod yX11_mostAtOnce ∈ xTB := xq 1670 (by decide +kernel) rfl
theorem wq1672 : Cond.methodLink "ShadowCourtModel" (413) yX11_laysReach ∈ xTB := xq 1672 (by decide +kernel) rfl
theorem wq1674 : Cond.instanceMethod yX11_laysReach ∈ xTB := xq 1674 (by decide +kernel) rfl
theorem wq1676 : Cond.methodLink "ShadowCourtModel" (416) yX11_max ∈ xTB := xq 1676 (by decide +kernel) rfl
theorem wq1677 : Cond.static yX11_max ∈ xTB := xq 1677 (by decide +kernel) rfl
theorem wq1683 : Cond.methodLink "ShadowCourtModel" (422) yX11_laysSteps ∈ xTB := xq 1683 (by decide +kernel) rfl
theorem wq1685 : Cond.instanceMethod yX11_laysSteps ∈ xTB := xq 1685 (by decide +kernel) rfl
theorem wq1687 : Cond.methodLink "ShadowCourtModel" (425) yX11_goesFew ∈ xTB := xq 1687 (by decide +kernel) rfl
theorem wq1689 : Cond.instanceMethod yX11_goesFew ∈ xTB := xq 1689 (by decide +kernel) rfl
theorem wq1695 : Cond.methodLink "ShadowCourtModel" (431) yX11_servedIn ∈ xTB := xq 1695 (by decide +kernel) rfl
theorem wq1697 : Cond.instanceMethod yX11_servedIn ∈ xTB := xq 1697 (by decide +kernel) rfl
theorem wq1699 : Cond.methodLink "ShadowCourtModel" (428) yX11_stepIn ∈ xTB := xq 1699 (by decide +kernel) rfl
theorem wq1700 : Cond.static yX11_stepIn ∈ xTB := xq 1700 (by decide +kernel) rfl
theorem wq1706 : Cond.methodLink "ShadowCourtModel" (434) yX11_isFree ∈ xTB := xq 1706 (by decide +kernel) rfl
theorem wq1708 : Cond.instanceMethod yX11_isFree ∈ xTB := xq 1708 (by decide +kernel) rfl
theorem wq1714 : Cond.methodLink "ShadowCourtModel" (437) yX11_servedFirst ∈ xTB := xq 1714 (by decide +kernel) rfl
theorem wq1716 : Cond.instanceMethod yX11_servedFirst ∈ xTB := xq 1716 (by decide +kernel) rfl
theorem wq1722 : Cond.methodLink "ShadowCourtModel" (440) yX11_laysDark ∈ xTB := xq 1722 (by decide +kernel) rfl
theorem wq1724 : Cond.instanceMethod yX11_laysDark ∈ xTB := xq 1724 (by decide +kernel) rfl
theorem wq1758 : Cond.constant "ShadowCourtModel" (452) (65535) ∈ xTB := xq 1758 (by decide +kernel) rfl
theorem wq1763 : Cond.methodLink "ShadowCourtModel" (453) yX11_copiesWalks ∈ xTB := xq 1763 (by decide +kernel) rfl
theorem wq1764 : Cond.static yX11_copiesWalks ∈ xTB := xq 1764 (by decide +kernel) rfl
theorem wq1782 : Cond.methodLink "ShadowCourtModel" (460) yX11_lampSet ∈ xTB := xq 1782 (by decide +kernel) rfl
theorem wq1784 : Cond.instanceMethod yX11_lampSet ∈ xTB := xq 1784 (by decide +kernel) rfl
theorem wq1786 : Cond.methodLink "ShadowCourtModel" (463) yX11_owedAll ∈ xTB := xq 1786 (by decide +kernel) rfl
theorem wq1788 : Cond.instanceMethod yX11_owedAll ∈ xTB := xq 1788 (by decide +kernel) rfl
theorem dX11_atOnce_0 : decode cX11_atOnce 0 = .ok (.iload_n 1, 1) := by decide +kernel
theorem dX11_atOnce_1 : decode cX11_atOnce 1 = .ok (.iconst 0, 1) := by decide +kernel
theorem dX11_atOnce_2 : decode cX11_atOnce 2 = .ok (.iconst 2, 1) := by decide +kernel
theorem dX11_atOnce_3 : decode cX11_atOnce 3 = .ok (.invokestatic 150, 3) := by decide +kernel
theorem dX11_atOnce_6 : decode cX11_atOnce 6 = .ok (.ifCond .ne 5, 3) := by decide +kernel
theorem dX11_atOnce_9 : decode cX11_atOnce 9 = .ok (.iconst (-1), 1) := by decide +kernel
theorem dX11_atOnce_10 : decode cX11_atOnce 10 = .ok (.ireturn, 1) := by decide +kernel
theorem dX11_atOnce_11 : decode cX11_atOnce 11 = .ok (.aload_n 0, 1) := by decide +kernel
theorem dX11_atOnce_12 : decode cX11_atOnce 12 = .ok (.aload_n 0, 1) := by decide +kernel
theorem dX11_atOnce_13 : decode cX11_atOnce 13 = .ok (.getfield 7, 3) := by decide +kernel
theorem dX11_atOnce_16 : decode cX11_atOnce 16 = .ok (.bipush 37, 2) := by decide +kernel
theorem dX11_atOnce_18 : decode cX11_atOnce 18 = .ok (.iaload, 1) := by decide +kernel
theorem dX11_atOnce_19 : decode cX11_atOnce 19 = .ok (.iconst 0, 1) := by decide +kernel
theorem dX11_atOnce_20 : decode cX11_atOnce 20 = .ok (.invokevirtual 381, 3) := by decide +kernel
theorem dX11_atOnce_23 : decode cX11_atOnce 23 = .ok (.iload_n 1, 1) := by decide +kernel
theorem dX11_atOnce_24 : decode cX11_atOnce 24 = .ok (.ifCond .ne 8, 3) := by decide +kernel
theorem dX11_atOnce_27 : decode cX11_atOnce 27 = .ok (.aload_n 0, 1) := by decide +kernel
theorem dX11_atOnce_28 : decode cX11_atOnce 28 = .ok (.invokevirtual 419, 3) := by decide +kernel
theorem dX11_atOnce_31 : decode cX11_atOnce 31 = .ok (.ireturn, 1) := by decide +kernel
theorem dX11_atOnce_32 : decode cX11_atOnce 32 = .ok (.iconst 0, 1) := by decide +kernel
theorem dX11_atOnce_33 : decode cX11_atOnce 33 = .ok (.istore_n 2, 1) := by decide +kernel
theorem dX11_atOnce_34 : decode cX11_atOnce 34 = .ok (.iconst 0, 1) := by decide +kernel
theorem dX11_atOnce_35 : decode cX11_atOnce 35 = .ok (.istore_n 3, 1) := by decide +kernel
theorem dX11_atOnce_36 : decode cX11_atOnce 36 = .ok (.iload_n 3, 1) := by decide +kernel
theorem dX11_atOnce_37 : decode cX11_atOnce 37 = .ok (.bipush 100, 2) := by decide +kernel
theorem dX11_atOnce_39 : decode cX11_atOnce 39 = .ok (.if_icmp .ge 27, 3) := by decide +kernel
theorem dX11_atOnce_42 : decode cX11_atOnce 42 = .ok (.iload_n 2, 1) := by decide +kernel
theorem dX11_atOnce_43 : decode cX11_atOnce 43 = .ok (.aload_n 0, 1) := by decide +kernel
theorem dX11_atOnce_44 : decode cX11_atOnce 44 = .ok (.getfield 89, 3) := by decide +kernel
theorem dX11_atOnce_47 : decode cX11_atOnce 47 = .ok (.iload_n 3, 1) := by decide +kernel
theorem dX11_atOnce_48 : decode cX11_atOnce 48 = .ok (.iaload, 1) := by decide +kernel
theorem dX11_atOnce_49 : decode cX11_atOnce 49 = .ok (.iload_n 1, 1) := by decide +kernel
theorem dX11_atOnce_50 : decode cX11_atOnce 50 = .ok (.if_icmp .lt 7, 3) := by decide +kernel
theorem dX11_atOnce_53 : decode cX11_atOnce 53 = .ok (.iconst 1, 1) := by decide +kernel
theorem dX11_atOnce_54 : decode cX11_atOnce 54 = .ok (.goto 4, 3) := by decide +kernel
theorem dX11_atOnce_57 : decode cX11_atOnce 57 = .ok (.iconst 0, 1) := by decide +kernel
theorem dX11_atOnce_58 : decode cX11_atOnce 58 = .ok (.iadd, 1) := by decide +kernel
theorem dX11_atOnce_59 : decode cX11_atOnce 59 = .ok (.istore_n 2, 1) := by decide +kernel
theorem dX11_atOnce_60 : decode cX11_atOnce 60 = .ok (.iinc 3 1, 3) := by decide +kernel
theorem dX11_atOnce_63 : decode cX11_atOnce 63 = .ok (.goto (-27), 3) := by decide +kernel
theorem dX11_atOnce_66 : decode cX11_atOnce 66 = .ok (.iload_n 2, 1) := by decide +kernel
theorem dX11_atOnce_67 : decode cX11_atOnce 67 = .ok (.ireturn, 1) := by decide +kernel
theorem dX11_count_0 : decode cX11_count 0 = .ok (.iload_n 1, 1) := by decide +kernel
theorem dX11_count_1 : decode cX11_count 1 = .ok (.tableswitch 123 0 8 #[51, 59, 67, 75, 80, 85, 90, 95, 103], 51) := by decide +kernel
theorem dX11_count_52 : decode cX11_count 52 = .ok (.aload_n 0, 1) := by decide +kernel
theorem dX11_count_53 : decode cX11_count 53 = .ok (.getfield 7, 3) := by decide +kernel
theorem dX11_count_56 : decode cX11_count 56 = .ok (.bipush 37, 2) := by decide +kernel
theorem dX11_count_58 : decode cX11_count 58 = .ok (.iaload, 1) := by decide +kernel
theorem dX11_count_59 : decode cX11_count 59 = .ok (.ireturn, 1) := by decide +kernel
theorem dX11_count_60 : decode cX11_count 60 = .ok (.aload_n 0, 1) := by decide +kernel
theorem dX11_count_61 : decode cX11_count 61 = .ok (.getfield 7, 3) := by decide +kernel
theorem dX11_count_64 : decode cX11_count 64 = .ok (.bipush 34, 2) := by decide +kernel
theorem dX11_count_66 : decode cX11_count 66 = .ok (.iaload, 1) := by decide +kernel
theorem dX11_count_67 : decode cX11_count 67 = .ok (.ireturn, 1) := by decide +kernel
theorem dX11_count_68 : decode cX11_count 68 = .ok (.aload_n 0, 1) := by decide +kernel
theorem dX11_count_69 : decode cX11_count 69 = .ok (.getfield 7, 3) := by decide +kernel
theorem dX11_count_72 : decode cX11_count 72 = .ok (.bipush 35, 2) := by decide +kernel
theorem dX11_count_74 : decode cX11_count 74 = .ok (.iaload, 1) := by decide +kernel
theorem dX11_count_75 : decode cX11_count 75 = .ok (.ireturn, 1) := by decide +kernel
theorem dX11_count_76 : decode cX11_count 76 = .ok (.aload_n 0, 1) := by decide +kernel
theorem dX11_count_77 : decode cX11_count 77 = .ok (.invokevirtual 460, 3) := by decide +kernel
theorem dX11_count_80 : decode cX11_count 80 = .ok (.ireturn, 1) := by decide +kernel
theorem dX11_count_81 : decode cX11_count 81 = .ok (.aload_n 0, 1) := by decide +kernel
theorem dX11_count_82 : decode cX11_count 82 = .ok (.invokevirtual 463, 3) := by decide +kernel
theorem dX11_count_85 : decode cX11_count 85 = .ok (.ireturn, 1) := by decide +kernel
theorem dX11_count_86 : decode cX11_count 86 = .ok (.aload_n 0, 1) := by decide +kernel
theorem dX11_count_87 : decode cX11_count 87 = .ok (.getfield 306, 3) := by decide +kernel
theorem dX11_count_90 : decode cX11_count 90 = .ok (.ireturn, 1) := by decide +kernel
theorem dX11_count_91 : decode cX11_count 91 = .ok (.aload_n 0, 1) := by decide +kernel
theorem dX11_count_92 : decode cX11_count 92 = .ok (.getfield 164, 3) := by decide +kernel
theorem dX11_count_95 : decode cX11_count 95 = .ok (.ireturn, 1) := by decide +kernel
theorem dX11_count_96 : decode cX11_count 96 = .ok (.aload_n 0, 1) := by decide +kernel
theorem dX11_count_97 : decode cX11_count 97 = .ok (.getfield 7, 3) := by decide +kernel
theorem dX11_count_100 : decode cX11_count 100 = .ok (.bipush 38, 2) := by decide +kernel
theorem dX11_count_102 : decode cX11_count 102 = .ok (.iaload, 1) := by decide +kernel
theorem dX11_count_103 : decode cX11_count 103 = .ok (.ireturn, 1) := by decide +kernel
theorem dX11_count_104 : decode cX11_count 104 = .ok (.aload_n 0, 1) := by decide +kernel
theorem dX11_count_105 : decode cX11_count 105 = .ok (.aload_n 0, 1) := by decide +kernel
theorem dX11_count_106 : decode cX11_count 106 = .ok (.getfield 7, 3) := by decide +kernel
theorem dX11_count_109 : decode cX11_count 109 = .ok (.bipush 37, 2) := by decide +kernel
theorem dX11_count_111 : decode cX11_count 111 = .ok (.iaload, 1) := by decide +kernel
theorem dX11_count_112 : decode cX11_count 112 = .ok (.invokevirtual 339, 3) := by decide +kernel
theorem dX11_count_115 : decode cX11_count 115 = .ok (.ifCond .eq 7, 3) := by decide +kernel
theorem dX11_count_118 : decode cX11_count 118 = .ok (.iconst 1, 1) := by decide +kernel
theorem dX11_count_119 : decode cX11_count 119 = .ok (.goto 4, 3) := by decide +kernel
theorem dX11_count_122 : decode cX11_count 122 = .ok (.iconst 0, 1) := by decide +kernel
theorem dX11_count_123 : decode cX11_count 123 = .ok (.ireturn, 1) := by decide +kernel
theorem dX11_count_124 : decode cX11_count 124 = .ok (.iload_n 1, 1) := by decide +kernel
theorem dX11_count_125 : decode cX11_count 125 = .ok (.bipush 10, 2) := by decide +kernel
theorem dX11_count_127 : decode cX11_count 127 = .ok (.bipush 11, 2) := by decide +kernel
theorem dX11_count_129 : decode cX11_count 129 = .ok (.invokestatic 150, 3) := by decide +kernel
theorem dX11_count_132 : decode cX11_count 132 = .ok (.ifCond .eq 26, 3) := by decide +kernel
theorem dX11_count_135 : decode cX11_count 135 = .ok (.aload_n 0, 1) := by decide +kernel
theorem dX11_count_136 : decode cX11_count 136 = .ok (.iload_n 1, 1) := by decide +kernel
theorem dX11_count_137 : decode cX11_count 137 = .ok (.bipush 10, 2) := by decide +kernel
theorem dX11_count_139 : decode cX11_count 139 = .ok (.isub, 1) := by decide +kernel
theorem dX11_count_140 : decode cX11_count 140 = .ok (.invokevirtual 260, 3) := by decide +kernel
theorem dX11_count_143 : decode cX11_count 143 = .ok (.ifCond .eq 15, 3) := by decide +kernel
theorem dX11_count_146 : decode cX11_count 146 = .ok (.aload_n 0, 1) := by decide +kernel
theorem dX11_count_147 : decode cX11_count 147 = .ok (.getfield 7, 3) := by decide +kernel
theorem dX11_count_150 : decode cX11_count 150 = .ok (.iconst 0, 1) := by decide +kernel
theorem dX11_count_151 : decode cX11_count 151 = .ok (.iload_n 1, 1) := by decide +kernel
theorem dX11_count_152 : decode cX11_count 152 = .ok (.iadd, 1) := by decide +kernel
theorem dX11_count_153 : decode cX11_count 153 = .ok (.bipush 10, 2) := by decide +kernel
theorem dX11_count_155 : decode cX11_count 155 = .ok (.isub, 1) := by decide +kernel
theorem dX11_count_156 : decode cX11_count 156 = .ok (.iaload, 1) := by decide +kernel
theorem dX11_count_157 : decode cX11_count 157 = .ok (.ireturn, 1) := by decide +kernel
theorem dX11_count_158 : decode cX11_count 158 = .ok (.iload_n 1, 1) := by decide +kernel
theorem dX11_count_159 : decode cX11_count 159 = .ok (.bipush 20, 2) := by decide +kernel
theorem dX11_count_161 : decode cX11_count 161 = .ok (.bipush 21, 2) := by decide +kernel
theorem dX11_count_163 : decode cX11_count 163 = .ok (.invokestatic 150, 3) := by decide +kernel
theorem dX11_count_166 : decode cX11_count 166 = .ok (.ifCond .eq 25, 3) := by decide +kernel
theorem dX11_count_169 : decode cX11_count 169 = .ok (.aload_n 0, 1) := by decide +kernel
theorem dX11_count_170 : decode cX11_count 170 = .ok (.getfield 25, 3) := by decide +kernel
theorem dX11_count_173 : decode cX11_count 173 = .ok (.iload_n 1, 1) := by decide +kernel
theorem dX11_count_174 : decode cX11_count 174 = .ok (.bipush 20, 2) := by decide +kernel
theorem dX11_count_176 : decode cX11_count 176 = .ok (.isub, 1) := by decide +kernel
theorem dX11_count_177 : decode cX11_count 177 = .ok (.iaload, 1) := by decide +kernel
theorem dX11_count_178 : decode cX11_count 178 = .ok (.aload_n 0, 1) := by decide +kernel
theorem dX11_count_179 : decode cX11_count 179 = .ok (.getfield 7, 3) := by decide +kernel
theorem dX11_count_182 : decode cX11_count 182 = .ok (.iconst 2, 1) := by decide +kernel
theorem dX11_count_183 : decode cX11_count 183 = .ok (.iload_n 1, 1) := by decide +kernel
theorem dX11_count_184 : decode cX11_count 184 = .ok (.iadd, 1) := by decide +kernel
theorem dX11_count_185 : decode cX11_count 185 = .ok (.bipush 20, 2) := by decide +kernel
theorem dX11_count_187 : decode cX11_count 187 = .ok (.isub, 1) := by decide +kernel
theorem dX11_count_188 : decode cX11_count 188 = .ok (.iaload, 1) := by decide +kernel
theorem dX11_count_189 : decode cX11_count 189 = .ok (.isub, 1) := by decide +kernel
theorem dX11_count_190 : decode cX11_count 190 = .ok (.ireturn, 1) := by decide +kernel
theorem dX11_count_191 : decode cX11_count 191 = .ok (.iload_n 1, 1) := by decide +kernel
theorem dX11_count_192 : decode cX11_count 192 = .ok (.bipush 30, 2) := by decide +kernel
theorem dX11_count_194 : decode cX11_count 194 = .ok (.bipush 33, 2) := by decide +kernel
theorem dX11_count_196 : decode cX11_count 196 = .ok (.invokestatic 150, 3) := by decide +kernel
theorem dX11_count_199 : decode cX11_count 199 = .ok (.ifCond .eq 13, 3) := by decide +kernel
theorem dX11_count_202 : decode cX11_count 202 = .ok (.aload_n 0, 1) := by decide +kernel
theorem dX11_count_203 : decode cX11_count 203 = .ok (.getfield 22, 3) := by decide +kernel
theorem dX11_count_206 : decode cX11_count 206 = .ok (.iload_n 1, 1) := by decide +kernel
theorem dX11_count_207 : decode cX11_count 207 = .ok (.bipush 30, 2) := by decide +kernel
theorem dX11_count_209 : decode cX11_count 209 = .ok (.isub, 1) := by decide +kernel
theorem dX11_count_210 : decode cX11_count 210 = .ok (.iaload, 1) := by decide +kernel
theorem dX11_count_211 : decode cX11_count 211 = .ok (.ireturn, 1) := by decide +kernel
theorem dX11_count_212 : decode cX11_count 212 = .ok (.iload_n 1, 1) := by decide +kernel
theorem dX11_count_213 : decode cX11_count 213 = .ok (.bipush 100, 2) := by decide +kernel
theorem dX11_count_215 : decode cX11_count 215 = .ok (.sipush 199, 3) := by decide +kernel
theorem dX11_count_218 : decode cX11_count 218 = .ok (.invokestatic 150, 3) := by decide +kernel
theorem dX11_count_221 : decode cX11_count 221 = .ok (.ifCond .eq 15, 3) := by decide +kernel
theorem dX11_count_224 : decode cX11_count 224 = .ok (.aload_n 0, 1) := by decide +kernel
theorem dX11_count_225 : decode cX11_count 225 = .ok (.getfield 19, 3) := by decide +kernel
theorem dX11_count_228 : decode cX11_count 228 = .ok (.iload_n 1, 1) := by decide +kernel
theorem dX11_count_229 : decode cX11_count 229 = .ok (.bipush 100, 2) := by decide +kernel
theorem dX11_count_231 : decode cX11_count 231 = .ok (.isub, 1) := by decide +kernel
theorem dX11_count_232 : decode cX11_count 232 = .ok (.iaload, 1) := by decide +kernel
theorem dX11_count_233 : decode cX11_count 233 = .ok (.goto 4, 3) := by decide +kernel
theorem dX11_count_236 : decode cX11_count 236 = .ok (.iconst (-1), 1) := by decide +kernel
theorem dX11_count_237 : decode cX11_count 237 = .ok (.ireturn, 1) := by decide +kernel
theorem dX11_dark_0 : decode cX11_dark 0 = .ok (.iload_n 1, 1) := by decide +kernel
theorem dX11_dark_1 : decode cX11_dark 1 = .ok (.iconst 1, 1) := by decide +kernel
theorem dX11_dark_2 : decode cX11_dark 2 = .ok (.bipush 60, 2) := by decide +kernel
theorem dX11_dark_4 : decode cX11_dark 4 = .ok (.invokestatic 150, 3) := by decide +kernel
theorem dX11_dark_7 : decode cX11_dark 7 = .ok (.ifCond .eq 12, 3) := by decide +kernel
theorem dX11_dark_10 : decode cX11_dark 10 = .ok (.iload_n 2, 1) := by decide +kernel
theorem dX11_dark_11 : decode cX11_dark 11 = .ok (.iconst 0, 1) := by decide +kernel
theorem dX11_dark_12 : decode cX11_dark 12 = .ok (.iconst 2, 1) := by decide +kernel
theorem dX11_dark_13 : decode cX11_dark 13 = .ok (.invokestatic 150, 3) := by decide +kernel
theorem dX11_dark_16 : decode cX11_dark 16 = .ok (.ifCond .ne 5, 3) := by decide +kernel
theorem dX11_dark_19 : decode cX11_dark 19 = .ok (.iconst (-1), 1) := by decide +kernel
theorem dX11_dark_20 : decode cX11_dark 20 = .ok (.ireturn, 1) := by decide +kernel
theorem dX11_dark_21 : decode cX11_dark 21 = .ok (.aload_n 0, 1) := by decide +kernel
theorem dX11_dark_22 : decode cX11_dark 22 = .ok (.iload_n 1, 1) := by decide +kernel
theorem dX11_dark_23 : decode cX11_dark 23 = .ok (.invokevirtual 440, 3) := by decide +kernel
theorem dX11_dark_26 : decode cX11_dark 26 = .ok (.iconst 0, 1) := by decide +kernel
theorem dX11_dark_27 : decode cX11_dark 27 = .ok (.istore_n 3, 1) := by decide +kernel
theorem dX11_dark_28 : decode cX11_dark 28 = .ok (.bipush (-2), 2) := by decide +kernel
theorem dX11_dark_30 : decode cX11_dark 30 = .ok (.istore 4, 2) := by decide +kernel
theorem dX11_dark_32 : decode cX11_dark 32 = .ok (.iconst 0, 1) := by decide +kernel
theorem dX11_dark_33 : decode cX11_dark 33 = .ok (.istore 5, 2) := by decide +kernel
theorem dX11_dark_35 : decode cX11_dark 35 = .ok (.iload 5, 2) := by decide +kernel
theorem dX11_dark_37 : decode cX11_dark 37 = .ok (.bipush 100, 2) := by decide +kernel
theorem dX11_dark_39 : decode cX11_dark 39 = .ok (.if_icmp .ge 69, 3) := by decide +kernel
theorem dX11_dark_42 : decode cX11_dark 42 = .ok (.aload_n 0, 1) := by decide +kernel
theorem dX11_dark_43 : decode cX11_dark 43 = .ok (.getfield 19, 3) := by decide +kernel
theorem dX11_dark_46 : decode cX11_dark 46 = .ok (.iload 5, 2) := by decide +kernel
theorem dX11_dark_48 : decode cX11_dark 48 = .ok (.iaload, 1) := by decide +kernel
theorem dX11_dark_49 : decode cX11_dark 49 = .ok (.iconst 1, 1) := by decide +kernel
theorem dX11_dark_50 : decode cX11_dark 50 = .ok (.if_icmp .ne 6, 3) := by decide +kernel
theorem dX11_dark_53 : decode cX11_dark 53 = .ok (.goto 49, 3) := by decide +kernel
theorem dX11_dark_56 : decode cX11_dark 56 = .ok (.iload_n 3, 1) := by decide +kernel
theorem dX11_dark_57 : decode cX11_dark 57 = .ok (.aload_n 0, 1) := by decide +kernel
theorem dX11_dark_58 : decode cX11_dark 58 = .ok (.getfield 120, 3) := by decide +kernel
theorem dX11_dark_61 : decode cX11_dark 61 = .ok (.iload 5, 2) := by decide +kernel
theorem dX11_dark_63 : decode cX11_dark 63 = .ok (.iaload, 1) := by decide +kernel
theorem dX11_dark_64 : decode cX11_dark 64 = .ok (.ifCond .ne 7, 3) := by decide +kernel
theorem dX11_dark_67 : decode cX11_dark 67 = .ok (.iconst 1, 1) := by decide +kernel
theorem dX11_dark_68 : decode cX11_dark 68 = .ok (.goto 4, 3) := by decide +kernel
theorem dX11_dark_71 : decode cX11_dark 71 = .ok (.iconst 0, 1) := by decide +kernel
theorem dX11_dark_72 : decode cX11_dark 72 = .ok (.iadd, 1) := by decide +kernel
theorem dX11_dark_73 : decode cX11_dark 73 = .ok (.istore_n 3, 1) := by decide +kernel
theorem dX11_dark_74 : decode cX11_dark 74 = .ok (.iload 4, 2) := by decide +kernel
theorem dX11_dark_76 : decode cX11_dark 76 = .ok (.bipush (-2), 2) := by decide +kernel
theorem dX11_dark_78 : decode cX11_dark 78 = .ok (.if_icmp .eq 20, 3) := by decide +kernel
theorem dX11_dark_81 : decode cX11_dark 81 = .ok (.aload_n 0, 1) := by decide +kernel
theorem dX11_dark_82 : decode cX11_dark 82 = .ok (.getfield 120, 3) := by decide +kernel
theorem dX11_dark_85 : decode cX11_dark 85 = .ok (.iload 5, 2) := by decide +kernel
theorem dX11_dark_87 : decode cX11_dark 87 = .ok (.iaload, 1) := by decide +kernel
theorem dX11_dark_88 : decode cX11_dark 88 = .ok (.aload_n 0, 1) := by decide +kernel
theorem dX11_dark_89 : decode cX11_dark 89 = .ok (.getfield 120, 3) := by decide +kernel
theorem dX11_dark_92 : decode cX11_dark 92 = .ok (.iload 4, 2) := by decide +kernel
theorem dX11_dark_94 : decode cX11_dark 94 = .ok (.iaload, 1) := by decide +kernel
theorem dX11_dark_95 : decode cX11_dark 95 = .ok (.if_icmp .le 7, 3) := by decide +kernel
theorem dX11_dark_98 : decode cX11_dark 98 = .ok (.iload 5, 2) := by decide +kernel
theorem dX11_dark_100 : decode cX11_dark 100 = .ok (.istore 4, 2) := by decide +kernel
theorem dX11_dark_102 : decode cX11_dark 102 = .ok (.iinc 5 1, 3) := by decide +kernel
theorem dX11_dark_105 : decode cX11_dark 105 = .ok (.goto (-70), 3) := by decide +kernel
theorem dX11_dark_108 : decode cX11_dark 108 = .ok (.iload_n 2, 1) := by decide +kernel
theorem dX11_dark_109 : decode cX11_dark 109 = .ok (.ifCond .ne 7, 3) := by decide +kernel
theorem dX11_dark_112 : decode cX11_dark 112 = .ok (.iload_n 3, 1) := by decide +kernel
theorem dX11_dark_113 : decode cX11_dark 113 = .ok (.goto 31, 3) := by decide +kernel
theorem dX11_dark_116 : decode cX11_dark 116 = .ok (.iload_n 2, 1) := by decide +kernel
theorem dX11_dark_117 : decode cX11_dark 117 = .ok (.iconst 1, 1) := by decide +kernel
theorem dX11_dark_118 : decode cX11_dark 118 = .ok (.if_icmp .ne 8, 3) := by decide +kernel
theorem dX11_dark_121 : decode cX11_dark 121 = .ok (.iload 4, 2) := by decide +kernel
theorem dX11_dark_123 : decode cX11_dark 123 = .ok (.goto 21, 3) := by decide +kernel
theorem dX11_dark_126 : decode cX11_dark 126 = .ok (.iload 4, 2) := by decide +kernel
theorem dX11_dark_128 : decode cX11_dark 128 = .ok (.bipush (-2), 2) := by decide +kernel
theorem dX11_dark_130 : decode cX11_dark 130 = .ok (.if_icmp .ne 7, 3) := by decide +kernel
theorem dX11_dark_133 : decode cX11_dark 133 = .ok (.iconst 0, 1) := by decide +kernel
theorem dX11_dark_134 : decode cX11_dark 134 = .ok (.goto 10, 3) := by decide +kernel
theorem dX11_dark_137 : decode cX11_dark 137 = .ok (.aload_n 0, 1) := by decide +kernel
theorem dX11_dark_138 : decode cX11_dark 138 = .ok (.getfield 120, 3) := by decide +kernel
theorem dX11_dark_141 : decode cX11_dark 141 = .ok (.iload 4, 2) := by decide +kernel
theorem dX11_dark_143 : decode cX11_dark 143 = .ok (.iaload, 1) := by decide +kernel
theorem dX11_dark_144 : decode cX11_dark 144 = .ok (.ireturn, 1) := by decide +kernel
theorem dX11_felon_0 : decode cX11_felon 0 = .ok (.iload_n 1, 1) := by decide +kernel
theorem dX11_felon_1 : decode cX11_felon 1 = .ok (.bipush 10, 2) := by decide +kernel
theorem dX11_felon_3 : decode cX11_felon 3 = .ok (.invokestatic 139, 3) := by decide +kernel
theorem dX11_felon_6 : decode cX11_felon 6 = .ok (.ifCond .eq 36, 3) := by decide +kernel
theorem dX11_felon_9 : decode cX11_felon 9 = .ok (.iload_n 2, 1) := by decide +kernel
theorem dX11_felon_10 : decode cX11_felon 10 = .ok (.iload_n 3, 1) := by decide +kernel
theorem dX11_felon_11 : decode cX11_felon 11 = .ok (.invokestatic 161, 3) := by decide +kernel
theorem dX11_felon_14 : decode cX11_felon 14 = .ok (.ifCond .eq 28, 3) := by decide +kernel
theorem dX11_felon_17 : decode cX11_felon 17 = .ok (.aload_n 0, 1) := by decide +kernel
theorem dX11_felon_18 : decode cX11_felon 18 = .ok (.bipush 10, 2) := by decide +kernel
theorem dX11_felon_20 : decode cX11_felon 20 = .ok (.iload_n 3, 1) := by decide +kernel
theorem dX11_felon_21 : decode cX11_felon 21 = .ok (.imul, 1) := by decide +kernel
theorem dX11_felon_22 : decode cX11_felon 22 = .ok (.iload_n 2, 1) := by decide +kernel
theorem dX11_felon_23 : decode cX11_felon 23 = .ok (.iadd, 1) := by decide +kernel
theorem dX11_felon_24 : decode cX11_felon 24 = .ok (.invokevirtual 263, 3) := by decide +kernel
theorem dX11_felon_27 : decode cX11_felon 27 = .ok (.ifCond .eq 15, 3) := by decide +kernel
theorem dX11_felon_30 : decode cX11_felon 30 = .ok (.iload 4, 2) := by decide +kernel
theorem dX11_felon_32 : decode cX11_felon 32 = .ok (.iconst 0, 1) := by decide +kernel
theorem dX11_felon_33 : decode cX11_felon 33 = .ok (.sipush 999, 3) := by decide +kernel
theorem dX11_felon_36 : decode cX11_felon 36 = .ok (.invokestatic 150, 3) := by decide +kernel
theorem dX11_felon_39 : decode cX11_felon 39 = .ok (.ifCond .ne 5, 3) := by decide +kernel
theorem dX11_felon_42 : decode cX11_felon 42 = .ok (.iconst 0, 1) := by decide +kernel
theorem dX11_felon_43 : decode cX11_felon 43 = .ok (.ireturn, 1) := by decide +kernel
theorem dX11_felon_44 : decode cX11_felon 44 = .ok (.aload_n 0, 1) := by decide +kernel
theorem dX11_felon_45 : decode cX11_felon 45 = .ok (.getfield 7, 3) := by decide +kernel
theorem dX11_felon_48 : decode cX11_felon 48 = .ok (.bipush 35, 2) := by decide +kernel
theorem dX11_felon_50 : decode cX11_felon 50 = .ok (.aload_n 0, 1) := by decide +kernel
theorem dX11_felon_51 : decode cX11_felon 51 = .ok (.getfield 7, 3) := by decide +kernel
theorem dX11_felon_54 : decode cX11_felon 54 = .ok (.bipush 35, 2) := by decide +kernel
theorem dX11_felon_56 : decode cX11_felon 56 = .ok (.iaload, 1) := by decide +kernel
theorem dX11_felon_57 : decode cX11_felon 57 = .ok (.iconst 1, 1) := by decide +kernel
theorem dX11_felon_58 : decode cX11_felon 58 = .ok (.iload_n 1, 1) := by decide +kernel
theorem dX11_felon_59 : decode cX11_felon 59 = .ok (.ishl, 1) := by decide +kernel
theorem dX11_felon_60 : decode cX11_felon 60 = .ok (.ior, 1) := by decide +kernel
theorem dX11_felon_61 : decode cX11_felon 61 = .ok (.iastore, 1) := by decide +kernel
theorem dX11_felon_62 : decode cX11_felon 62 = .ok (.aload_n 0, 1) := by decide +kernel
theorem dX11_felon_63 : decode cX11_felon 63 = .ok (.getfield 7, 3) := by decide +kernel
theorem dX11_felon_66 : decode cX11_felon 66 = .ok (.bipush 36, 2) := by decide +kernel
theorem dX11_felon_68 : decode cX11_felon 68 = .ok (.aload_n 0, 1) := by decide +kernel
theorem dX11_felon_69 : decode cX11_felon 69 = .ok (.getfield 7, 3) := by decide +kernel
theorem dX11_felon_72 : decode cX11_felon 72 = .ok (.bipush 36, 2) := by decide +kernel
theorem dX11_felon_74 : decode cX11_felon 74 = .ok (.iaload, 1) := by decide +kernel
theorem dX11_felon_75 : decode cX11_felon 75 = .ok (.iconst 1, 1) := by decide +kernel
theorem dX11_felon_76 : decode cX11_felon 76 = .ok (.iload_n 1, 1) := by decide +kernel
theorem dX11_felon_77 : decode cX11_felon 77 = .ok (.ishl, 1) := by decide +kernel
theorem dX11_felon_78 : decode cX11_felon 78 = .ok (.iconst (-1), 1) := by decide +kernel
theorem dX11_felon_79 : decode cX11_felon 79 = .ok (.ixor, 1) := by decide +kernel
theorem dX11_felon_80 : decode cX11_felon 80 = .ok (.iand, 1) := by decide +kernel
theorem dX11_felon_81 : decode cX11_felon 81 = .ok (.iastore, 1) := by decide +kernel
theorem dX11_felon_82 : decode cX11_felon 82 = .ok (.aload_n 0, 1) := by decide +kernel
theorem dX11_felon_83 : decode cX11_felon 83 = .ok (.getfield 7, 3) := by decide +kernel
theorem dX11_felon_86 : decode cX11_felon 86 = .ok (.iconst 4, 1) := by decide +kernel
theorem dX11_felon_87 : decode cX11_felon 87 = .ok (.iload_n 1, 1) := by decide +kernel
theorem dX11_felon_88 : decode cX11_felon 88 = .ok (.iadd, 1) := by decide +kernel
theorem dX11_felon_89 : decode cX11_felon 89 = .ok (.bipush 10, 2) := by decide +kernel
theorem dX11_felon_91 : decode cX11_felon 91 = .ok (.iload_n 3, 1) := by decide +kernel
theorem dX11_felon_92 : decode cX11_felon 92 = .ok (.imul, 1) := by decide +kernel
theorem dX11_felon_93 : decode cX11_felon 93 = .ok (.iload_n 2, 1) := by decide +kernel
theorem dX11_felon_94 : decode cX11_felon 94 = .ok (.iadd, 1) := by decide +kernel
theorem dX11_felon_95 : decode cX11_felon 95 = .ok (.iastore, 1) := by decide +kernel
theorem dX11_felon_96 : decode cX11_felon 96 = .ok (.aload_n 0, 1) := by decide +kernel
theorem dX11_felon_97 : decode cX11_felon 97 = .ok (.getfield 7, 3) := by decide +kernel
theorem dX11_felon_100 : decode cX11_felon 100 = .ok (.bipush 14, 2) := by decide +kernel
theorem dX11_felon_102 : decode cX11_felon 102 = .ok (.iload_n 1, 1) := by decide +kernel
theorem dX11_felon_103 : decode cX11_felon 103 = .ok (.iadd, 1) := by decide +kernel
theorem dX11_felon_104 : decode cX11_felon 104 = .ok (.iload 4, 2) := by decide +kernel
theorem dX11_felon_106 : decode cX11_felon 106 = .ok (.iastore, 1) := by decide +kernel
theorem dX11_felon_107 : decode cX11_felon 107 = .ok (.aload_n 0, 1) := by decide +kernel
theorem dX11_felon_108 : decode cX11_felon 108 = .ok (.getfield 7, 3) := by decide +kernel
theorem dX11_felon_111 : decode cX11_felon 111 = .ok (.bipush 24, 2) := by decide +kernel
theorem dX11_felon_113 : decode cX11_felon 113 = .ok (.iload_n 1, 1) := by decide +kernel
theorem dX11_felon_114 : decode cX11_felon 114 = .ok (.iadd, 1) := by decide +kernel
theorem dX11_felon_115 : decode cX11_felon 115 = .ok (.iconst 0, 1) := by decide +kernel
theorem dX11_felon_116 : decode cX11_felon 116 = .ok (.iastore, 1) := by decide +kernel
theorem dX11_felon_117 : decode cX11_felon 117 = .ok (.iconst 1, 1) := by decide +kernel
theorem dX11_felon_118 : decode cX11_felon 118 = .ok (.ireturn, 1) := by decide +kernel
theorem dX11_felonIs_0 : decode cX11_felonIs 0 = .ok (.aload_n 0, 1) := by decide +kernel
theorem dX11_felonIs_1 : decode cX11_felonIs 1 = .ok (.iload_n 1, 1) := by decide +kernel
theorem dX11_felonIs_2 : decode cX11_felonIs 2 = .ok (.invokevirtual 146, 3) := by decide +kernel
theorem dX11_felonIs_5 : decode cX11_felonIs 5 = .ok (.ifCond .ne 5, 3) := by decide +kernel
theorem dX11_felonIs_8 : decode cX11_felonIs 8 = .ok (.iconst (-1), 1) := by decide +kernel
theorem dX11_felonIs_9 : decode cX11_felonIs 9 = .ok (.ireturn, 1) := by decide +kernel
theorem dX11_felonIs_10 : decode cX11_felonIs 10 = .ok (.iload_n 2, 1) := by decide +kernel
theorem dX11_felonIs_11 : decode cX11_felonIs 11 = .ok (.tableswitch 121 0 5 #[37, 46, 56, 66, 86, 95], 37) := by decide +kernel
theorem dX11_felonIs_48 : decode cX11_felonIs 48 = .ok (.aload_n 0, 1) := by decide +kernel
theorem dX11_felonIs_49 : decode cX11_felonIs 49 = .ok (.getfield 7, 3) := by decide +kernel
theorem dX11_felonIs_52 : decode cX11_felonIs 52 = .ok (.iconst 4, 1) := by decide +kernel
theorem dX11_felonIs_53 : decode cX11_felonIs 53 = .ok (.iload_n 1, 1) := by decide +kernel
theorem dX11_felonIs_54 : decode cX11_felonIs 54 = .ok (.iadd, 1) := by decide +kernel
theorem dX11_felonIs_55 : decode cX11_felonIs 55 = .ok (.iaload, 1) := by decide +kernel
theorem dX11_felonIs_56 : decode cX11_felonIs 56 = .ok (.ireturn, 1) := by decide +kernel
theorem dX11_felonIs_57 : decode cX11_felonIs 57 = .ok (.aload_n 0, 1) := by decide +kernel
theorem dX11_felonIs_58 : decode cX11_felonIs 58 = .ok (.getfield 7, 3) := by decide +kernel
theorem dX11_felonIs_61 : decode cX11_felonIs 61 = .ok (.bipush 14, 2) := by decide +kernel
theorem dX11_felonIs_63 : decode cX11_felonIs 63 = .ok (.iload_n 1, 1) := by decide +kernel
theorem dX11_felonIs_64 : decode cX11_felonIs 64 = .ok (.iadd, 1) := by decide +kernel
theorem dX11_felonIs_65 : decode cX11_felonIs 65 = .ok (.iaload, 1) := by decide +kernel
theorem dX11_felonIs_66 : decode cX11_felonIs 66 = .ok (.ireturn, 1) := by decide +kernel
theorem dX11_felonIs_67 : decode cX11_felonIs 67 = .ok (.aload_n 0, 1) := by decide +kernel
theorem dX11_felonIs_68 : decode cX11_felonIs 68 = .ok (.getfield 7, 3) := by decide +kernel
theorem dX11_felonIs_71 : decode cX11_felonIs 71 = .ok (.bipush 24, 2) := by decide +kernel
theorem dX11_felonIs_73 : decode cX11_felonIs 73 = .ok (.iload_n 1, 1) := by decide +kernel
theorem dX11_felonIs_74 : decode cX11_felonIs 74 = .ok (.iadd, 1) := by decide +kernel
theorem dX11_felonIs_75 : decode cX11_felonIs 75 = .ok (.iaload, 1) := by decide +kernel
theorem dX11_felonIs_76 : decode cX11_felonIs 76 = .ok (.ireturn, 1) := by decide +kernel
theorem dX11_felonIs_77 : decode cX11_felonIs 77 = .ok (.aload_n 0, 1) := by decide +kernel
theorem dX11_felonIs_78 : decode cX11_felonIs 78 = .ok (.getfield 7, 3) := by decide +kernel
theorem dX11_felonIs_81 : decode cX11_felonIs 81 = .ok (.bipush 36, 2) := by decide +kernel
theorem dX11_felonIs_83 : decode cX11_felonIs 83 = .ok (.iaload, 1) := by decide +kernel
theorem dX11_felonIs_84 : decode cX11_felonIs 84 = .ok (.iload_n 1, 1) := by decide +kernel
theorem dX11_felonIs_85 : decode cX11_felonIs 85 = .ok (.invokestatic 143, 3) := by decide +kernel
theorem dX11_felonIs_88 : decode cX11_felonIs 88 = .ok (.ifCond .eq 7, 3) := by decide +kernel
theorem dX11_felonIs_91 : decode cX11_felonIs 91 = .ok (.iconst 1, 1) := by decide +kernel
theorem dX11_felonIs_92 : decode cX11_felonIs 92 = .ok (.goto 4, 3) := by decide +kernel
theorem dX11_felonIs_95 : decode cX11_felonIs 95 = .ok (.iconst 0, 1) := by decide +kernel
theorem dX11_felonIs_96 : decode cX11_felonIs 96 = .ok (.ireturn, 1) := by decide +kernel
theorem dX11_felonIs_97 : decode cX11_felonIs 97 = .ok (.aload_n 0, 1) := by decide +kernel
theorem dX11_felonIs_98 : decode cX11_felonIs 98 = .ok (.bipush 118, 2) := by decide +kernel
theorem dX11_felonIs_100 : decode cX11_felonIs 100 = .ok (.iconst 3, 1) := by decide +kernel
theorem dX11_felonIs_101 : decode cX11_felonIs 101 = .ok (.iload_n 1, 1) := by decide +kernel
theorem dX11_felonIs_102 : decode cX11_felonIs 102 = .ok (.invokevirtual 352, 3) := by decide +kernel
theorem dX11_felonIs_105 : decode cX11_felonIs 105 = .ok (.ireturn, 1) := by decide +kernel
theorem dX11_felonIs_106 : decode cX11_felonIs 106 = .ok (.aload_n 0, 1) := by decide +kernel
theorem dX11_felonIs_107 : decode cX11_felonIs 107 = .ok (.aload_n 0, 1) := by decide +kernel
theorem dX11_felonIs_108 : decode cX11_felonIs 108 = .ok (.getfield 7, 3) := by decide +kernel
theorem dX11_felonIs_111 : decode cX11_felonIs 111 = .ok (.bipush 37, 2) := by decide +kernel
theorem dX11_felonIs_113 : decode cX11_felonIs 113 = .ok (.iaload, 1) := by decide +kernel
theorem dX11_felonIs_114 : decode cX11_felonIs 114 = .ok (.iconst 0, 1) := by decide +kernel
theorem dX11_felonIs_115 : decode cX11_felonIs 115 = .ok (.invokevirtual 381, 3) := by decide +kernel
theorem dX11_felonIs_118 : decode cX11_felonIs 118 = .ok (.aload_n 0, 1) := by decide +kernel
theorem dX11_felonIs_119 : decode cX11_felonIs 119 = .ok (.getfield 89, 3) := by decide +kernel
theorem dX11_felonIs_122 : decode cX11_felonIs 122 = .ok (.aload_n 0, 1) := by decide +kernel
theorem dX11_felonIs_123 : decode cX11_felonIs 123 = .ok (.getfield 7, 3) := by decide +kernel
theorem dX11_felonIs_126 : decode cX11_felonIs 126 = .ok (.iconst 4, 1) := by decide +kernel
theorem dX11_felonIs_127 : decode cX11_felonIs 127 = .ok (.iload_n 1, 1) := by decide +kernel
theorem dX11_felonIs_128 : decode cX11_felonIs 128 = .ok (.iadd, 1) := by decide +kernel
theorem dX11_felonIs_129 : decode cX11_felonIs 129 = .ok (.iaload, 1) := by decide +kernel
theorem dX11_felonIs_130 : decode cX11_felonIs 130 = .ok (.iaload, 1) := by decide +kernel
theorem dX11_felonIs_131 : decode cX11_felonIs 131 = .ok (.ireturn, 1) := by decide +kernel
theorem dX11_felonIs_132 : decode cX11_felonIs 132 = .ok (.iconst (-1), 1) := by decide +kernel
theorem dX11_felonIs_133 : decode cX11_felonIs 133 = .ok (.ireturn, 1) := by decide +kernel
theorem dX11_fewest_0 : decode cX11_fewest 0 = .ok (.aload_n 0, 1) := by decide +kernel
theorem dX11_fewest_1 : decode cX11_fewest 1 = .ok (.iload_n 1, 1) := by decide +kernel
theorem dX11_fewest_2 : decode cX11_fewest 2 = .ok (.invokevirtual 146, 3) := by decide +kernel
theorem dX11_fewest_5 : decode cX11_fewest 5 = .ok (.ifCond .eq 22, 3) := by decide +kernel
theorem dX11_fewest_8 : decode cX11_fewest 8 = .ok (.iload_n 2, 1) := by decide +kernel
theorem dX11_fewest_9 : decode cX11_fewest 9 = .ok (.iconst 1, 1) := by decide +kernel
theorem dX11_fewest_10 : decode cX11_fewest 10 = .ok (.bipush 30, 2) := by decide +kernel
theorem dX11_fewest_12 : decode cX11_fewest 12 = .ok (.invokestatic 150, 3) := by decide +kernel
theorem dX11_fewest_15 : decode cX11_fewest 15 = .ok (.ifCond .eq 12, 3) := by decide +kernel
theorem dX11_fewest_18 : decode cX11_fewest 18 = .ok (.iload_n 3, 1) := by decide +kernel
theorem dX11_fewest_19 : decode cX11_fewest 19 = .ok (.iconst 1, 1) := by decide +kernel
theorem dX11_fewest_20 : decode cX11_fewest 20 = .ok (.iload_n 2, 1) := by decide +kernel
theorem dX11_fewest_21 : decode cX11_fewest 21 = .ok (.invokestatic 150, 3) := by decide +kernel
theorem dX11_fewest_24 : decode cX11_fewest 24 = .ok (.ifCond .ne 5, 3) := by decide +kernel
theorem dX11_fewest_27 : decode cX11_fewest 27 = .ok (.iconst (-1), 1) := by decide +kernel
theorem dX11_fewest_28 : decode cX11_fewest 28 = .ok (.ireturn, 1) := by decide +kernel
theorem dX11_fewest_29 : decode cX11_fewest 29 = .ok (.aload_n 0, 1) := by decide +kernel
theorem dX11_fewest_30 : decode cX11_fewest 30 = .ok (.getfield 7, 3) := by decide +kernel
theorem dX11_fewest_33 : decode cX11_fewest 33 = .ok (.aload_n 0, 1) := by decide +kernel
theorem dX11_fewest_34 : decode cX11_fewest 34 = .ok (.getfield 13, 3) := by decide +kernel
theorem dX11_fewest_37 : decode cX11_fewest 37 = .ok (.invokestatic 403, 3) := by decide +kernel
theorem dX11_fewest_40 : decode cX11_fewest 40 = .ok (.aload_n 0, 1) := by decide +kernel
theorem dX11_fewest_41 : decode cX11_fewest 41 = .ok (.invokevirtual 422, 3) := by decide +kernel
theorem dX11_fewest_44 : decode cX11_fewest 44 = .ok (.iconst 0, 1) := by decide +kernel
theorem dX11_fewest_45 : decode cX11_fewest 45 = .ok (.istore 4, 2) := by decide +kernel
theorem dX11_fewest_47 : decode cX11_fewest 47 = .ok (.iload 4, 2) := by decide +kernel
theorem dX11_fewest_49 : decode cX11_fewest 49 = .ok (.sipush 3100, 3) := by decide +kernel
theorem dX11_fewest_52 : decode cX11_fewest 52 = .ok (.if_icmp .ge 39, 3) := by decide +kernel
theorem dX11_fewest_55 : decode cX11_fewest 55 = .ok (.aload_n 0, 1) := by decide +kernel
theorem dX11_fewest_56 : decode cX11_fewest 56 = .ok (.getfield 111, 3) := by decide +kernel
theorem dX11_fewest_59 : decode cX11_fewest 59 = .ok (.iload 4, 2) := by decide +kernel
theorem dX11_fewest_61 : decode cX11_fewest 61 = .ok (.iload 4, 2) := by decide +kernel
theorem dX11_fewest_63 : decode cX11_fewest 63 = .ok (.bipush 31, 2) := by decide +kernel
theorem dX11_fewest_65 : decode cX11_fewest 65 = .ok (.aload_n 0, 1) := by decide +kernel
theorem dX11_fewest_66 : decode cX11_fewest 66 = .ok (.getfield 7, 3) := by decide +kernel
theorem dX11_fewest_69 : decode cX11_fewest 69 = .ok (.iconst 4, 1) := by decide +kernel
theorem dX11_fewest_70 : decode cX11_fewest 70 = .ok (.iload_n 1, 1) := by decide +kernel
theorem dX11_fewest_71 : decode cX11_fewest 71 = .ok (.iadd, 1) := by decide +kernel
theorem dX11_fewest_72 : decode cX11_fewest 72 = .ok (.iaload, 1) := by decide +kernel
theorem dX11_fewest_73 : decode cX11_fewest 73 = .ok (.imul, 1) := by decide +kernel
theorem dX11_fewest_74 : decode cX11_fewest 74 = .ok (.if_icmp .ne 7, 3) := by decide +kernel
theorem dX11_fewest_77 : decode cX11_fewest 77 = .ok (.iconst 0, 1) := by decide +kernel
theorem dX11_fewest_78 : decode cX11_fewest 78 = .ok (.goto 6, 3) := by decide +kernel
theorem dX11_fewest_81 : decode cX11_fewest 81 = .ok (.ldc_w 348, 3) := by decide +kernel
theorem dX11_fewest_84 : decode cX11_fewest 84 = .ok (.iastore, 1) := by decide +kernel
theorem dX11_fewest_85 : decode cX11_fewest 85 = .ok (.iinc 4 1, 3) := by decide +kernel
theorem dX11_fewest_88 : decode cX11_fewest 88 = .ok (.goto (-41), 3) := by decide +kernel
theorem dX11_fewest_91 : decode cX11_fewest 91 = .ok (.iconst 0, 1) := by decide +kernel
theorem dX11_fewest_92 : decode cX11_fewest 92 = .ok (.istore 4, 2) := by decide +kernel
theorem dX11_fewest_94 : decode cX11_fewest 94 = .ok (.iload 4, 2) := by decide +kernel
theorem dX11_fewest_96 : decode cX11_fewest 96 = .ok (.iload_n 2, 1) := by decide +kernel
theorem dX11_fewest_97 : decode cX11_fewest 97 = .ok (.if_icmp .ge 68, 3) := by decide +kernel
theorem dX11_fewest_100 : decode cX11_fewest 100 = .ok (.aload_n 0, 1) := by decide +kernel
theorem dX11_fewest_101 : decode cX11_fewest 101 = .ok (.iconst 0, 1) := by decide +kernel
theorem dX11_fewest_102 : decode cX11_fewest 102 = .ok (.invokevirtual 394, 3) := by decide +kernel
theorem dX11_fewest_105 : decode cX11_fewest 105 = .ok (.aload_n 0, 1) := by decide +kernel
theorem dX11_fewest_106 : decode cX11_fewest 106 = .ok (.iconst 1, 1) := by decide +kernel
theorem dX11_fewest_107 : decode cX11_fewest 107 = .ok (.invokevirtual 394, 3) := by decide +kernel
theorem dX11_fewest_110 : decode cX11_fewest 110 = .ok (.aload_n 0, 1) := by decide +kernel
theorem dX11_fewest_111 : decode cX11_fewest 111 = .ok (.invokevirtual 333, 3) := by decide +kernel
theorem dX11_fewest_114 : decode cX11_fewest 114 = .ok (.iconst 0, 1) := by decide +kernel
theorem dX11_fewest_115 : decode cX11_fewest 115 = .ok (.istore 5, 2) := by decide +kernel
theorem dX11_fewest_117 : decode cX11_fewest 117 = .ok (.iload 5, 2) := by decide +kernel
theorem dX11_fewest_119 : decode cX11_fewest 119 = .ok (.iconst 2, 1) := by decide +kernel
theorem dX11_fewest_120 : decode cX11_fewest 120 = .ok (.if_icmp .ge 34, 3) := by decide +kernel
theorem dX11_fewest_123 : decode cX11_fewest 123 = .ok (.aload_n 0, 1) := by decide +kernel
theorem dX11_fewest_124 : decode cX11_fewest 124 = .ok (.iload 5, 2) := by decide +kernel
theorem dX11_fewest_126 : decode cX11_fewest 126 = .ok (.invokevirtual 260, 3) := by decide +kernel
theorem dX11_fewest_129 : decode cX11_fewest 129 = .ok (.ifCond .eq 19, 3) := by decide +kernel
theorem dX11_fewest_132 : decode cX11_fewest 132 = .ok (.aload_n 0, 1) := by decide +kernel
theorem dX11_fewest_133 : decode cX11_fewest 133 = .ok (.iload 5, 2) := by decide +kernel
theorem dX11_fewest_135 : decode cX11_fewest 135 = .ok (.aload_n 0, 1) := by decide +kernel
theorem dX11_fewest_136 : decode cX11_fewest 136 = .ok (.getfield 13, 3) := by decide +kernel
theorem dX11_fewest_139 : decode cX11_fewest 139 = .ok (.bipush 37, 2) := by decide +kernel
theorem dX11_fewest_141 : decode cX11_fewest 141 = .ok (.iaload, 1) := by decide +kernel
theorem dX11_fewest_142 : decode cX11_fewest 142 = .ok (.iload 4, 2) := by decide +kernel
theorem dX11_fewest_144 : decode cX11_fewest 144 = .ok (.iadd, 1) := by decide +kernel
theorem dX11_fewest_145 : decode cX11_fewest 145 = .ok (.invokevirtual 336, 3) := by decide +kernel
theorem dX11_fewest_148 : decode cX11_fewest 148 = .ok (.iinc 5 1, 3) := by decide +kernel
theorem dX11_fewest_151 : decode cX11_fewest 151 = .ok (.goto (-34), 3) := by decide +kernel
theorem dX11_fewest_154 : decode cX11_fewest 154 = .ok (.aload_n 0, 1) := by decide +kernel
theorem dX11_fewest_155 : decode cX11_fewest 155 = .ok (.iload_n 3, 1) := by decide +kernel
theorem dX11_fewest_156 : decode cX11_fewest 156 = .ok (.invokevirtual 425, 3) := by decide +kernel
theorem dX11_fewest_159 : decode cX11_fewest 159 = .ok (.iinc 4 1, 3) := by decide +kernel
theorem dX11_fewest_162 : decode cX11_fewest 162 = .ok (.goto (-68), 3) := by decide +kernel
theorem dX11_fewest_165 : decode cX11_fewest 165 = .ok (.aload_n 0, 1) := by decide +kernel
theorem dX11_fewest_166 : decode cX11_fewest 166 = .ok (.getfield 13, 3) := by decide +kernel
theorem dX11_fewest_169 : decode cX11_fewest 169 = .ok (.aload_n 0, 1) := by decide +kernel
theorem dX11_fewest_170 : decode cX11_fewest 170 = .ok (.getfield 7, 3) := by decide +kernel
theorem dX11_fewest_173 : decode cX11_fewest 173 = .ok (.invokestatic 403, 3) := by decide +kernel
theorem dX11_fewest_176 : decode cX11_fewest 176 = .ok (.ldc_w 348, 3) := by decide +kernel
theorem dX11_fewest_179 : decode cX11_fewest 179 = .ok (.istore 4, 2) := by decide +kernel
theorem dX11_fewest_181 : decode cX11_fewest 181 = .ok (.iconst 0, 1) := by decide +kernel
theorem dX11_fewest_182 : decode cX11_fewest 182 = .ok (.istore 5, 2) := by decide +kernel
theorem dX11_fewest_184 : decode cX11_fewest 184 = .ok (.iload 5, 2) := by decide +kernel
theorem dX11_fewest_186 : decode cX11_fewest 186 = .ok (.bipush 100, 2) := by decide +kernel
theorem dX11_fewest_188 : decode cX11_fewest 188 = .ok (.if_icmp .ge 28, 3) := by decide +kernel
theorem dX11_fewest_191 : decode cX11_fewest 191 = .ok (.iload 4, 2) := by decide +kernel
theorem dX11_fewest_193 : decode cX11_fewest 193 = .ok (.aload_n 0, 1) := by decide +kernel
theorem dX11_fewest_194 : decode cX11_fewest 194 = .ok (.getfield 111, 3) := by decide +kernel
theorem dX11_fewest_197 : decode cX11_fewest 197 = .ok (.bipush 31, 2) := by decide +kernel
theorem dX11_fewest_199 : decode cX11_fewest 199 = .ok (.iload 5, 2) := by decide +kernel
theorem dX11_fewest_201 : decode cX11_fewest 201 = .ok (.imul, 1) := by decide +kernel
theorem dX11_fewest_202 : decode cX11_fewest 202 = .ok (.iload_n 3, 1) := by decide +kernel
theorem dX11_fewest_203 : decode cX11_fewest 203 = .ok (.iadd, 1) := by decide +kernel
theorem dX11_fewest_204 : decode cX11_fewest 204 = .ok (.iaload, 1) := by decide +kernel
theorem dX11_fewest_205 : decode cX11_fewest 205 = .ok (.invokestatic 362, 3) := by decide +kernel
theorem dX11_fewest_208 : decode cX11_fewest 208 = .ok (.istore 4, 2) := by decide +kernel
theorem dX11_fewest_210 : decode cX11_fewest 210 = .ok (.iinc 5 1, 3) := by decide +kernel
theorem dX11_fewest_213 : decode cX11_fewest 213 = .ok (.goto (-29), 3) := by decide +kernel
theorem dX11_fewest_216 : decode cX11_fewest 216 = .ok (.iload 4, 2) := by decide +kernel
theorem dX11_fewest_218 : decode cX11_fewest 218 = .ok (.ldc_w 348, 3) := by decide +kernel
theorem dX11_fewest_221 : decode cX11_fewest 221 = .ok (.if_icmp .ne 8, 3) := by decide +kernel
theorem dX11_fewest_224 : decode cX11_fewest 224 = .ok (.bipush (-2), 2) := by decide +kernel
theorem dX11_fewest_226 : decode cX11_fewest 226 = .ok (.goto 5, 3) := by decide +kernel
theorem dX11_fewest_229 : decode cX11_fewest 229 = .ok (.iload 4, 2) := by decide +kernel
theorem dX11_fewest_231 : decode cX11_fewest 231 = .ok (.ireturn, 1) := by decide +kernel
theorem dX11_first_0 : decode cX11_first 0 = .ok (.iload_n 1, 1) := by decide +kernel
theorem dX11_first_1 : decode cX11_first 1 = .ok (.iconst 1, 1) := by decide +kernel
theorem dX11_first_2 : decode cX11_first 2 = .ok (.bipush 60, 2) := by decide +kernel
theorem dX11_first_4 : decode cX11_first 4 = .ok (.invokestatic 150, 3) := by decide +kernel
theorem dX11_first_7 : decode cX11_first 7 = .ok (.ifCond .eq 12, 3) := by decide +kernel
theorem dX11_first_10 : decode cX11_first 10 = .ok (.iload_n 2, 1) := by decide +kernel
theorem dX11_first_11 : decode cX11_first 11 = .ok (.iconst 0, 1) := by decide +kernel
theorem dX11_first_12 : decode cX11_first 12 = .ok (.iconst 1, 1) := by decide +kernel
theorem dX11_first_13 : decode cX11_first 13 = .ok (.invokestatic 150, 3) := by decide +kernel
theorem dX11_first_16 : decode cX11_first 16 = .ok (.ifCond .ne 5, 3) := by decide +kernel
theorem dX11_first_19 : decode cX11_first 19 = .ok (.iconst (-1), 1) := by decide +kernel
theorem dX11_first_20 : decode cX11_first 20 = .ok (.ireturn, 1) := by decide +kernel
theorem dX11_first_21 : decode cX11_first 21 = .ok (.bipush (-2), 2) := by decide +kernel
theorem dX11_first_23 : decode cX11_first 23 = .ok (.istore_n 3, 1) := by decide +kernel
theorem dX11_first_24 : decode cX11_first 24 = .ok (.aload_n 0, 1) := by decide +kernel
theorem dX11_first_25 : decode cX11_first 25 = .ok (.iconst (-1), 1) := by decide +kernel
theorem dX11_first_26 : decode cX11_first 26 = .ok (.iload_n 1, 1) := by decide +kernel
theorem dX11_first_27 : decode cX11_first 27 = .ok (.invokevirtual 437, 3) := by decide +kernel
theorem dX11_first_30 : decode cX11_first 30 = .ok (.istore 4, 2) := by decide +kernel
theorem dX11_first_32 : decode cX11_first 32 = .ok (.iconst 0, 1) := by decide +kernel
theorem dX11_first_33 : decode cX11_first 33 = .ok (.istore 5, 2) := by decide +kernel
theorem dX11_first_35 : decode cX11_first 35 = .ok (.iload 5, 2) := by decide +kernel
theorem dX11_first_37 : decode cX11_first 37 = .ok (.bipush 10, 2) := by decide +kernel
theorem dX11_first_39 : decode cX11_first 39 = .ok (.if_icmp .ge 47, 3) := by decide +kernel
theorem dX11_first_42 : decode cX11_first 42 = .ok (.aload_n 0, 1) := by decide +kernel
theorem dX11_first_43 : decode cX11_first 43 = .ok (.iload 5, 2) := by decide +kernel
theorem dX11_first_45 : decode cX11_first 45 = .ok (.invokevirtual 349, 3) := by decide +kernel
theorem dX11_first_48 : decode cX11_first 48 = .ok (.ifCond .ne 6, 3) := by decide +kernel
theorem dX11_first_51 : decode cX11_first 51 = .ok (.goto 29, 3) := by decide +kernel
theorem dX11_first_54 : decode cX11_first 54 = .ok (.aload_n 0, 1) := by decide +kernel
theorem dX11_first_55 : decode cX11_first 55 = .ok (.iload 5, 2) := by decide +kernel
theorem dX11_first_57 : decode cX11_first 57 = .ok (.iload_n 1, 1) := by decide +kernel
theorem dX11_first_58 : decode cX11_first 58 = .ok (.invokevirtual 437, 3) := by decide +kernel
theorem dX11_first_61 : decode cX11_first 61 = .ok (.istore 6, 2) := by decide +kernel
theorem dX11_first_63 : decode cX11_first 63 = .ok (.iload 6, 2) := by decide +kernel
theorem dX11_first_65 : decode cX11_first 65 = .ok (.iload 4, 2) := by decide +kernel
theorem dX11_first_67 : decode cX11_first 67 = .ok (.if_icmp .gt 6, 3) := by decide +kernel
theorem dX11_first_70 : decode cX11_first 70 = .ok (.goto 10, 3) := by decide +kernel
theorem dX11_first_73 : decode cX11_first 73 = .ok (.iload 6, 2) := by decide +kernel
theorem dX11_first_75 : decode cX11_first 75 = .ok (.istore 4, 2) := by decide +kernel
theorem dX11_first_77 : decode cX11_first 77 = .ok (.iload 5, 2) := by decide +kernel
theorem dX11_first_79 : decode cX11_first 79 = .ok (.istore_n 3, 1) := by decide +kernel
theorem dX11_first_80 : decode cX11_first 80 = .ok (.iinc 5 1, 3) := by decide +kernel
theorem dX11_first_83 : decode cX11_first 83 = .ok (.goto (-48), 3) := by decide +kernel
theorem dX11_first_86 : decode cX11_first 86 = .ok (.iload_n 2, 1) := by decide +kernel
theorem dX11_first_87 : decode cX11_first 87 = .ok (.ifCond .ne 7, 3) := by decide +kernel
theorem dX11_first_90 : decode cX11_first 90 = .ok (.iload_n 3, 1) := by decide +kernel
theorem dX11_first_91 : decode cX11_first 91 = .ok (.goto 5, 3) := by decide +kernel
theorem dX11_first_94 : decode cX11_first 94 = .ok (.iload 4, 2) := by decide +kernel
theorem dX11_first_96 : decode cX11_first 96 = .ok (.ireturn, 1) := by decide +kernel
theorem dX11_goesFew_0 : decode cX11_goesFew 0 = .ok (.iconst 0, 1) := by decide +kernel
theorem dX11_goesFew_1 : decode cX11_goesFew 1 = .ok (.istore_n 2, 1) := by decide +kernel
theorem dX11_goesFew_2 : decode cX11_goesFew 2 = .ok (.iload_n 2, 1) := by decide +kernel
theorem dX11_goesFew_3 : decode cX11_goesFew 3 = .ok (.sipush 3100, 3) := by decide +kernel
theorem dX11_goesFew_6 : decode cX11_goesFew 6 = .ok (.if_icmp .ge 18, 3) := by decide +kernel
theorem dX11_goesFew_9 : decode cX11_goesFew 9 = .ok (.aload_n 0, 1) := by decide +kernel
theorem dX11_goesFew_10 : decode cX11_goesFew 10 = .ok (.getfield 114, 3) := by decide +kernel
theorem dX11_goesFew_13 : decode cX11_goesFew 13 = .ok (.iload_n 2, 1) := by decide +kernel
theorem dX11_goesFew_14 : decode cX11_goesFew 14 = .ok (.ldc_w 348, 3) := by decide +kernel
theorem dX11_goesFew_17 : decode cX11_goesFew 17 = .ok (.iastore, 1) := by decide +kernel
theorem dX11_goesFew_18 : decode cX11_goesFew 18 = .ok (.iinc 2 1, 3) := by decide +kernel
theorem dX11_goesFew_21 : decode cX11_goesFew 21 = .ok (.goto (-19), 3) := by decide +kernel
theorem dX11_goesFew_24 : decode cX11_goesFew 24 = .ok (.iconst 0, 1) := by decide +kernel
theorem dX11_goesFew_25 : decode cX11_goesFew 25 = .ok (.istore_n 2, 1) := by decide +kernel
theorem dX11_goesFew_26 : decode cX11_goesFew 26 = .ok (.iload_n 2, 1) := by decide +kernel
theorem dX11_goesFew_27 : decode cX11_goesFew 27 = .ok (.bipush 100, 2) := by decide +kernel
theorem dX11_goesFew_29 : decode cX11_goesFew 29 = .ok (.if_icmp .ge 124, 3) := by decide +kernel
theorem dX11_goesFew_32 : decode cX11_goesFew 32 = .ok (.iconst 0, 1) := by decide +kernel
theorem dX11_goesFew_33 : decode cX11_goesFew 33 = .ok (.istore_n 3, 1) := by decide +kernel
theorem dX11_goesFew_34 : decode cX11_goesFew 34 = .ok (.iload_n 3, 1) := by decide +kernel
theorem dX11_goesFew_35 : decode cX11_goesFew 35 = .ok (.bipush 100, 2) := by decide +kernel
theorem dX11_goesFew_37 : decode cX11_goesFew 37 = .ok (.if_icmp .ge 110, 3) := by decide +kernel
theorem dX11_goesFew_40 : decode cX11_goesFew 40 = .ok (.aload_n 0, 1) := by decide +kernel
theorem dX11_goesFew_41 : decode cX11_goesFew 41 = .ok (.getfield 117, 3) := by decide +kernel
theorem dX11_goesFew_44 : decode cX11_goesFew 44 = .ok (.bipush 100, 2) := by decide +kernel
theorem dX11_goesFew_46 : decode cX11_goesFew 46 = .ok (.iload_n 2, 1) := by decide +kernel
theorem dX11_goesFew_47 : decode cX11_goesFew 47 = .ok (.imul, 1) := by decide +kernel
theorem dX11_goesFew_48 : decode cX11_goesFew 48 = .ok (.iload_n 3, 1) := by decide +kernel
theorem dX11_goesFew_49 : decode cX11_goesFew 49 = .ok (.iadd, 1) := by decide +kernel
theorem dX11_goesFew_50 : decode cX11_goesFew 50 = .ok (.iaload, 1) := by decide +kernel
theorem dX11_goesFew_51 : decode cX11_goesFew 51 = .ok (.istore 4, 2) := by decide +kernel
theorem dX11_goesFew_53 : decode cX11_goesFew 53 = .ok (.iconst 0, 1) := by decide +kernel
theorem dX11_goesFew_54 : decode cX11_goesFew 54 = .ok (.istore 5, 2) := by decide +kernel
theorem dX11_goesFew_56 : decode cX11_goesFew 56 = .ok (.iload 5, 2) := by decide +kernel
theorem dX11_goesFew_58 : decode cX11_goesFew 58 = .ok (.iload_n 1, 1) := by decide +kernel
theorem dX11_goesFew_59 : decode cX11_goesFew 59 = .ok (.if_icmp .gt 82, 3) := by decide +kernel
theorem dX11_goesFew_62 : decode cX11_goesFew 62 = .ok (.iload 4, 2) := by decide +kernel
theorem dX11_goesFew_64 : decode cX11_goesFew 64 = .ok (.ldc_w 348, 3) := by decide +kernel
theorem dX11_goesFew_67 : decode cX11_goesFew 67 = .ok (.if_icmp .ge 74, 3) := by decide +kernel
theorem dX11_goesFew_70 : decode cX11_goesFew 70 = .ok (.iload_n 1, 1) := by decide +kernel
theorem dX11_goesFew_71 : decode cX11_goesFew 71 = .ok (.iload 5, 2) := by decide +kernel
theorem dX11_goesFew_73 : decode cX11_goesFew 73 = .ok (.aload_n 0, 1) := by decide +kernel
theorem dX11_goesFew_74 : decode cX11_goesFew 74 = .ok (.getfield 89, 3) := by decide +kernel
theorem dX11_goesFew_77 : decode cX11_goesFew 77 = .ok (.iload_n 3, 1) := by decide +kernel
theorem dX11_goesFew_78 : decode cX11_goesFew 78 = .ok (.iaload, 1) := by decide +kernel
theorem dX11_goesFew_79 : decode cX11_goesFew 79 = .ok (.ifCond .le 7, 3) := by decide +kernel
theorem dX11_goesFew_82 : decode cX11_goesFew 82 = .ok (.iconst 1, 1) := by decide +kernel
theorem dX11_goesFew_83 : decode cX11_goesFew 83 = .ok (.goto 4, 3) := by decide +kernel
theorem dX11_goesFew_86 : decode cX11_goesFew 86 = .ok (.iconst 0, 1) := by decide +kernel
theorem dX11_goesFew_87 : decode cX11_goesFew 87 = .ok (.iadd, 1) := by decide +kernel
theorem dX11_goesFew_88 : decode cX11_goesFew 88 = .ok (.invokestatic 362, 3) := by decide +kernel
theorem dX11_goesFew_91 : decode cX11_goesFew 91 = .ok (.istore 6, 2) := by decide +kernel
theorem dX11_goesFew_93 : decode cX11_goesFew 93 = .ok (.aload_n 0, 1) := by decide +kernel
theorem dX11_goesFew_94 : decode cX11_goesFew 94 = .ok (.getfield 114, 3) := by decide +kernel
theorem dX11_goesFew_97 : decode cX11_goesFew 97 = .ok (.bipush 31, 2) := by decide +kernel
theorem dX11_goesFew_99 : decode cX11_goesFew 99 = .ok (.iload_n 3, 1) := by decide +kernel
theorem dX11_goesFew_100 : decode cX11_goesFew 100 = .ok (.imul, 1) := by decide +kernel
theorem dX11_goesFew_101 : decode cX11_goesFew 101 = .ok (.iload 6, 2) := by decide +kernel
theorem dX11_goesFew_103 : decode cX11_goesFew 103 = .ok (.iadd, 1) := by decide +kernel
theorem dX11_goesFew_104 : decode cX11_goesFew 104 = .ok (.aload_n 0, 1) := by decide +kernel
theorem dX11_goesFew_105 : decode cX11_goesFew 105 = .ok (.getfield 114, 3) := by decide +kernel
theorem dX11_goesFew_108 : decode cX11_goesFew 108 = .ok (.bipush 31, 2) := by decide +kernel
theorem dX11_goesFew_110 : decode cX11_goesFew 110 = .ok (.iload_n 3, 1) := by decide +kernel
theorem dX11_goesFew_111 : decode cX11_goesFew 111 = .ok (.imul, 1) := by decide +kernel
theorem dX11_goesFew_112 : decode cX11_goesFew 112 = .ok (.iload 6, 2) := by decide +kernel
theorem dX11_goesFew_114 : decode cX11_goesFew 114 = .ok (.iadd, 1) := by decide +kernel
theorem dX11_goesFew_115 : decode cX11_goesFew 115 = .ok (.iaload, 1) := by decide +kernel
theorem dX11_goesFew_116 : decode cX11_goesFew 116 = .ok (.aload_n 0, 1) := by decide +kernel
theorem dX11_goesFew_117 : decode cX11_goesFew 117 = .ok (.getfield 111, 3) := by decide +kernel
theorem dX11_goesFew_120 : decode cX11_goesFew 120 = .ok (.bipush 31, 2) := by decide +kernel
theorem dX11_goesFew_122 : decode cX11_goesFew 122 = .ok (.iload_n 2, 1) := by decide +kernel
theorem dX11_goesFew_123 : decode cX11_goesFew 123 = .ok (.imul, 1) := by decide +kernel
theorem dX11_goesFew_124 : decode cX11_goesFew 124 = .ok (.iload 5, 2) := by decide +kernel
theorem dX11_goesFew_126 : decode cX11_goesFew 126 = .ok (.iadd, 1) := by decide +kernel
theorem dX11_goesFew_127 : decode cX11_goesFew 127 = .ok (.iaload, 1) := by decide +kernel
theorem dX11_goesFew_128 : decode cX11_goesFew 128 = .ok (.iload 4, 2) := by decide +kernel
theorem dX11_goesFew_130 : decode cX11_goesFew 130 = .ok (.iadd, 1) := by decide +kernel
theorem dX11_goesFew_131 : decode cX11_goesFew 131 = .ok (.invokestatic 362, 3) := by decide +kernel
theorem dX11_goesFew_134 : decode cX11_goesFew 134 = .ok (.iastore, 1) := by decide +kernel
theorem dX11_goesFew_135 : decode cX11_goesFew 135 = .ok (.iinc 5 1, 3) := by decide +kernel
theorem dX11_goesFew_138 : decode cX11_goesFew 138 = .ok (.goto (-82), 3) := by decide +kernel
theorem dX11_goesFew_141 : decode cX11_goesFew 141 = .ok (.iinc 3 1, 3) := by decide +kernel
theorem dX11_goesFew_144 : decode cX11_goesFew 144 = .ok (.goto (-110), 3) := by decide +kernel
theorem dX11_goesFew_147 : decode cX11_goesFew 147 = .ok (.iinc 2 1, 3) := by decide +kernel
theorem dX11_goesFew_150 : decode cX11_goesFew 150 = .ok (.goto (-124), 3) := by decide +kernel
theorem dX11_goesFew_153 : decode cX11_goesFew 153 = .ok (.iconst 0, 1) := by decide +kernel
theorem dX11_goesFew_154 : decode cX11_goesFew 154 = .ok (.istore_n 2, 1) := by decide +kernel
theorem dX11_goesFew_155 : decode cX11_goesFew 155 = .ok (.iload_n 2, 1) := by decide +kernel
theorem dX11_goesFew_156 : decode cX11_goesFew 156 = .ok (.sipush 3100, 3) := by decide +kernel
theorem dX11_goesFew_159 : decode cX11_goesFew 159 = .ok (.if_icmp .ge 27, 3) := by decide +kernel
theorem dX11_goesFew_162 : decode cX11_goesFew 162 = .ok (.aload_n 0, 1) := by decide +kernel
theorem dX11_goesFew_163 : decode cX11_goesFew 163 = .ok (.getfield 111, 3) := by decide +kernel
theorem dX11_goesFew_166 : decode cX11_goesFew 166 = .ok (.iload_n 2, 1) := by decide +kernel
theorem dX11_goesFew_167 : decode cX11_goesFew 167 = .ok (.ldc_w 348, 3) := by decide +kernel
theorem dX11_goesFew_170 : decode cX11_goesFew 170 = .ok (.aload_n 0, 1) := by decide +kernel
theorem dX11_goesFew_171 : decode cX11_goesFew 171 = .ok (.getfield 114, 3) := by decide +kernel
theorem dX11_goesFew_174 : decode cX11_goesFew 174 = .ok (.iload_n 2, 1) := by decide +kernel
theorem dX11_goesFew_175 : decode cX11_goesFew 175 = .ok (.iaload, 1) := by decide +kernel
theorem dX11_goesFew_176 : decode cX11_goesFew 176 = .ok (.invokestatic 362, 3) := by decide +kernel
theorem dX11_goesFew_179 : decode cX11_goesFew 179 = .ok (.iastore, 1) := by decide +kernel
theorem dX11_goesFew_180 : decode cX11_goesFew 180 = .ok (.iinc 2 1, 3) := by decide +kernel
theorem dX11_goesFew_183 : decode cX11_goesFew 183 = .ok (.goto (-28), 3) := by decide +kernel
theorem dX11_goesFew_186 : decode cX11_goesFew 186 = .ok (.return_, 1) := by decide +kernel
theorem dX11_home_0 : decode cX11_home 0 = .ok (.aload_n 0, 1) := by decide +kernel
theorem dX11_home_1 : decode cX11_home 1 = .ok (.iload_n 1, 1) := by decide +kernel
theorem dX11_home_2 : decode cX11_home 2 = .ok (.invokevirtual 260, 3) := by decide +kernel
theorem dX11_home_5 : decode cX11_home 5 = .ok (.ifCond .eq 29, 3) := by decide +kernel
theorem dX11_home_8 : decode cX11_home 8 = .ok (.iload_n 2, 1) := by decide +kernel
theorem dX11_home_9 : decode cX11_home 9 = .ok (.iconst 1, 1) := by decide +kernel
theorem dX11_home_10 : decode cX11_home 10 = .ok (.iconst 5, 1) := by decide +kernel
theorem dX11_home_11 : decode cX11_home 11 = .ok (.invokestatic 150, 3) := by decide +kernel
theorem dX11_home_14 : decode cX11_home 14 = .ok (.ifCond .eq 20, 3) := by decide +kernel
theorem dX11_home_17 : decode cX11_home 17 = .ok (.iload_n 3, 1) := by decide +kernel
theorem dX11_home_18 : decode cX11_home 18 = .ok (.bipush 10, 2) := by decide +kernel
theorem dX11_home_20 : decode cX11_home 20 = .ok (.if_icmp .eq 16, 3) := by decide +kernel
theorem dX11_home_23 : decode cX11_home 23 = .ok (.iload_n 3, 1) := by decide +kernel
theorem dX11_home_24 : decode cX11_home 24 = .ok (.iconst 0, 1) := by decide +kernel
theorem dX11_home_25 : decode cX11_home 25 = .ok (.iload_n 2, 1) := by decide +kernel
theorem dX11_home_26 : decode cX11_home 26 = .ok (.iconst 1, 1) := by decide +kernel
theorem dX11_home_27 : decode cX11_home 27 = .ok (.isub, 1) := by decide +kernel
theorem dX11_home_28 : decode cX11_home 28 = .ok (.invokestatic 150, 3) := by decide +kernel
theorem dX11_home_31 : decode cX11_home 31 = .ok (.ifCond .ne 5, 3) := by decide +kernel
theorem dX11_home_34 : decode cX11_home 34 = .ok (.iconst (-1), 1) := by decide +kernel
theorem dX11_home_35 : decode cX11_home 35 = .ok (.ireturn, 1) := by decide +kernel
theorem dX11_home_36 : decode cX11_home 36 = .ok (.iconst 1, 1) := by decide +kernel
theorem dX11_home_37 : decode cX11_home 37 = .ok (.istore 4, 2) := by decide +kernel
theorem dX11_home_39 : decode cX11_home 39 = .ok (.iconst 0, 1) := by decide +kernel
theorem dX11_home_40 : decode cX11_home 40 = .ok (.istore 5, 2) := by decide +kernel
theorem dX11_home_42 : decode cX11_home 42 = .ok (.iload 5, 2) := by decide +kernel
theorem dX11_home_44 : decode cX11_home 44 = .ok (.iload_n 2, 1) := by decide +kernel
theorem dX11_home_45 : decode cX11_home 45 = .ok (.if_icmp .ge 15, 3) := by decide +kernel
theorem dX11_home_48 : decode cX11_home 48 = .ok (.iload 4, 2) := by decide +kernel
theorem dX11_home_50 : decode cX11_home 50 = .ok (.iconst 5, 1) := by decide +kernel
theorem dX11_home_51 : decode cX11_home 51 = .ok (.imul, 1) := by decide +kernel
theorem dX11_home_52 : decode cX11_home 52 = .ok (.istore 4, 2) := by decide +kernel
theorem dX11_home_54 : decode cX11_home 54 = .ok (.iinc 5 1, 3) := by decide +kernel
theorem dX11_home_57 : decode cX11_home 57 = .ok (.goto (-15), 3) := by decide +kernel
theorem dX11_home_60 : decode cX11_home 60 = .ok (.iconst (-1), 1) := by decide +kernel
theorem dX11_home_61 : decode cX11_home 61 = .ok (.istore 5, 2) := by decide +kernel
theorem dX11_home_63 : decode cX11_home 63 = .ok (.iconst (-1), 1) := by decide +kernel
theorem dX11_home_64 : decode cX11_home 64 = .ok (.istore 6, 2) := by decide +kernel
theorem dX11_home_66 : decode cX11_home 66 = .ok (.iconst 0, 1) := by decide +kernel
theorem dX11_home_67 : decode cX11_home 67 = .ok (.istore 7, 2) := by decide +kernel
theorem dX11_home_69 : decode cX11_home 69 = .ok (.iload 7, 2) := by decide +kernel
theorem dX11_home_71 : decode cX11_home 71 = .ok (.iload 4, 2) := by decide +kernel
theorem dX11_home_73 : decode cX11_home 73 = .ok (.if_icmp .ge 37, 3) := by decide +kernel
theorem dX11_home_76 : decode cX11_home 76 = .ok (.aload_n 0, 1) := by decide +kernel
theorem dX11_home_77 : decode cX11_home 77 = .ok (.iload_n 1, 1) := by decide +kernel
theorem dX11_home_78 : decode cX11_home 78 = .ok (.iload_n 2, 1) := by decide +kernel
theorem dX11_home_79 : decode cX11_home 79 = .ok (.iload 7, 2) := by decide +kernel
theorem dX11_home_81 : decode cX11_home 81 = .ok (.invokevirtual 431, 3) := by decide +kernel
theorem dX11_home_84 : decode cX11_home 84 = .ok (.istore 8, 2) := by decide +kernel
theorem dX11_home_86 : decode cX11_home 86 = .ok (.iload 8, 2) := by decide +kernel
theorem dX11_home_88 : decode cX11_home 88 = .ok (.iload 6, 2) := by decide +kernel
theorem dX11_home_90 : decode cX11_home 90 = .ok (.if_icmp .gt 6, 3) := by decide +kernel
theorem dX11_home_93 : decode cX11_home 93 = .ok (.goto 11, 3) := by decide +kernel
theorem dX11_home_96 : decode cX11_home 96 = .ok (.iload 8, 2) := by decide +kernel
theorem dX11_home_98 : decode cX11_home 98 = .ok (.istore 6, 2) := by decide +kernel
theorem dX11_home_100 : decode cX11_home 100 = .ok (.iload 7, 2) := by decide +kernel
theorem dX11_home_102 : decode cX11_home 102 = .ok (.istore 5, 2) := by decide +kernel
theorem dX11_home_104 : decode cX11_home 104 = .ok (.iinc 7 1, 3) := by decide +kernel
theorem dX11_home_107 : decode cX11_home 107 = .ok (.goto (-38), 3) := by decide +kernel
theorem dX11_home_110 : decode cX11_home 110 = .ok (.iload_n 3, 1) := by decide +kernel
theorem dX11_home_111 : decode cX11_home 111 = .ok (.bipush 10, 2) := by decide +kernel
theorem dX11_home_113 : decode cX11_home 113 = .ok (.if_icmp .ne 8, 3) := by decide +kernel
theorem dX11_home_116 : decode cX11_home 116 = .ok (.iload 6, 2) := by decide +kernel
theorem dX11_home_118 : decode cX11_home 118 = .ok (.goto 12, 3) := by decide +kernel
theorem dX11_home_121 : decode cX11_home 121 = .ok (.iload 5, 2) := by decide +kernel
theorem dX11_home_123 : decode cX11_home 123 = .ok (.iload_n 2, 1) := by decide +kernel
theorem dX11_home_124 : decode cX11_home 124 = .ok (.iload_n 3, 1) := by decide +kernel
theorem dX11_home_125 : decode cX11_home 125 = .ok (.invokestatic 428, 3) := by decide +kernel
theorem dX11_home_128 : decode cX11_home 128 = .ok (.iconst 2, 1) := by decide +kernel
theorem dX11_home_129 : decode cX11_home 129 = .ok (.idiv, 1) := by decide +kernel
theorem dX11_home_130 : decode cX11_home 130 = .ok (.ireturn, 1) := by decide +kernel
theorem dX11_hung_0 : decode cX11_hung 0 = .ok (.iload_n 1, 1) := by decide +kernel
theorem dX11_hung_1 : decode cX11_hung 1 = .ok (.iconst 0, 1) := by decide +kernel
theorem dX11_hung_2 : decode cX11_hung 2 = .ok (.iconst 1, 1) := by decide +kernel
theorem dX11_hung_3 : decode cX11_hung 3 = .ok (.invokestatic 150, 3) := by decide +kernel
theorem dX11_hung_6 : decode cX11_hung 6 = .ok (.ifCond .ne 5, 3) := by decide +kernel
theorem dX11_hung_9 : decode cX11_hung 9 = .ok (.iconst (-1), 1) := by decide +kernel
theorem dX11_hung_10 : decode cX11_hung 10 = .ok (.ireturn, 1) := by decide +kernel
theorem dX11_hung_11 : decode cX11_hung 11 = .ok (.bipush (-2), 2) := by decide +kernel
theorem dX11_hung_13 : decode cX11_hung 13 = .ok (.istore_n 2, 1) := by decide +kernel
theorem dX11_hung_14 : decode cX11_hung 14 = .ok (.iconst (-1), 1) := by decide +kernel
theorem dX11_hung_15 : decode cX11_hung 15 = .ok (.istore_n 3, 1) := by decide +kernel
theorem dX11_hung_16 : decode cX11_hung 16 = .ok (.iconst 0, 1) := by decide +kernel
theorem dX11_hung_17 : decode cX11_hung 17 = .ok (.istore 4, 2) := by decide +kernel
theorem dX11_hung_19 : decode cX11_hung 19 = .ok (.iload 4, 2) := by decide +kernel
theorem dX11_hung_21 : decode cX11_hung 21 = .ok (.bipush 100, 2) := by decide +kernel
theorem dX11_hung_23 : decode cX11_hung 23 = .ok (.if_icmp .ge 115, 3) := by decide +kernel
theorem dX11_hung_26 : decode cX11_hung 26 = .ok (.aload_n 0, 1) := by decide +kernel
theorem dX11_hung_27 : decode cX11_hung 27 = .ok (.iload 4, 2) := by decide +kernel
theorem dX11_hung_29 : decode cX11_hung 29 = .ok (.invokevirtual 434, 3) := by decide +kernel
theorem dX11_hung_32 : decode cX11_hung 32 = .ok (.ifCond .ne 6, 3) := by decide +kernel
theorem dX11_hung_35 : decode cX11_hung 35 = .ok (.goto 97, 3) := by decide +kernel
theorem dX11_hung_38 : decode cX11_hung 38 = .ok (.aload_n 0, 1) := by decide +kernel
theorem dX11_hung_39 : decode cX11_hung 39 = .ok (.invokevirtual 333, 3) := by decide +kernel
theorem dX11_hung_42 : decode cX11_hung 42 = .ok (.aload_n 0, 1) := by decide +kernel
theorem dX11_hung_43 : decode cX11_hung 43 = .ok (.invokevirtual 342, 3) := by decide +kernel
theorem dX11_hung_46 : decode cX11_hung 46 = .ok (.iconst 0, 1) := by decide +kernel
theorem dX11_hung_47 : decode cX11_hung 47 = .ok (.istore 5, 2) := by decide +kernel
theorem dX11_hung_49 : decode cX11_hung 49 = .ok (.iload 5, 2) := by decide +kernel
theorem dX11_hung_51 : decode cX11_hung 51 = .ok (.iconst 2, 1) := by decide +kernel
theorem dX11_hung_52 : decode cX11_hung 52 = .ok (.if_icmp .ge 26, 3) := by decide +kernel
theorem dX11_hung_55 : decode cX11_hung 55 = .ok (.aload_n 0, 1) := by decide +kernel
theorem dX11_hung_56 : decode cX11_hung 56 = .ok (.iload 5, 2) := by decide +kernel
theorem dX11_hung_58 : decode cX11_hung 58 = .ok (.invokevirtual 260, 3) := by decide +kernel
theorem dX11_hung_61 : decode cX11_hung 61 = .ok (.ifCond .eq 11, 3) := by decide +kernel
theorem dX11_hung_64 : decode cX11_hung 64 = .ok (.aload_n 0, 1) := by decide +kernel
theorem dX11_hung_65 : decode cX11_hung 65 = .ok (.iload 4, 2) := by decide +kernel
theorem dX11_hung_67 : decode cX11_hung 67 = .ok (.iload 5, 2) := by decide +kernel
theorem dX11_hung_69 : decode cX11_hung 69 = .ok (.invokevirtual 330, 3) := by decide +kernel
theorem dX11_hung_72 : decode cX11_hung 72 = .ok (.iinc 5 1, 3) := by decide +kernel
theorem dX11_hung_75 : decode cX11_hung 75 = .ok (.goto (-26), 3) := by decide +kernel
theorem dX11_hung_78 : decode cX11_hung 78 = .ok (.iconst 0, 1) := by decide +kernel
theorem dX11_hung_79 : decode cX11_hung 79 = .ok (.istore 5, 2) := by decide +kernel
theorem dX11_hung_81 : decode cX11_hung 81 = .ok (.iconst 0, 1) := by decide +kernel
theorem dX11_hung_82 : decode cX11_hung 82 = .ok (.istore 6, 2) := by decide +kernel
theorem dX11_hung_84 : decode cX11_hung 84 = .ok (.iload 6, 2) := by decide +kernel
theorem dX11_hung_86 : decode cX11_hung 86 = .ok (.bipush 100, 2) := by decide +kernel
theorem dX11_hung_88 : decode cX11_hung 88 = .ok (.if_icmp .ge 29, 3) := by decide +kernel
theorem dX11_hung_91 : decode cX11_hung 91 = .ok (.iload 5, 2) := by decide +kernel
theorem dX11_hung_93 : decode cX11_hung 93 = .ok (.aload_n 0, 1) := by decide +kernel
theorem dX11_hung_94 : decode cX11_hung 94 = .ok (.getfield 89, 3) := by decide +kernel
theorem dX11_hung_97 : decode cX11_hung 97 = .ok (.iload 6, 2) := by decide +kernel
theorem dX11_hung_99 : decode cX11_hung 99 = .ok (.iaload, 1) := by decide +kernel
theorem dX11_hung_100 : decode cX11_hung 100 = .ok (.ifCond .le 7, 3) := by decide +kernel
theorem dX11_hung_103 : decode cX11_hung 103 = .ok (.iconst 1, 1) := by decide +kernel
theorem dX11_hung_104 : decode cX11_hung 104 = .ok (.goto 4, 3) := by decide +kernel
theorem dX11_hung_107 : decode cX11_hung 107 = .ok (.iconst 0, 1) := by decide +kernel
theorem dX11_hung_108 : decode cX11_hung 108 = .ok (.iadd, 1) := by decide +kernel
theorem dX11_hung_109 : decode cX11_hung 109 = .ok (.istore 5, 2) := by decide +kernel
theorem dX11_hung_111 : decode cX11_hung 111 = .ok (.iinc 6 1, 3) := by decide +kernel
theorem dX11_hung_114 : decode cX11_hung 114 = .ok (.goto (-30), 3) := by decide +kernel
theorem dX11_hung_117 : decode cX11_hung 117 = .ok (.iload 5, 2) := by decide +kernel
theorem dX11_hung_119 : decode cX11_hung 119 = .ok (.iload_n 3, 1) := by decide +kernel
theorem dX11_hung_120 : decode cX11_hung 120 = .ok (.if_icmp .gt 6, 3) := by decide +kernel
theorem dX11_hung_123 : decode cX11_hung 123 = .ok (.goto 9, 3) := by decide +kernel
theorem dX11_hung_126 : decode cX11_hung 126 = .ok (.iload 5, 2) := by decide +kernel
theorem dX11_hung_128 : decode cX11_hung 128 = .ok (.istore_n 3, 1) := by decide +kernel
theorem dX11_hung_129 : decode cX11_hung 129 = .ok (.iload 4, 2) := by decide +kernel
theorem dX11_hung_131 : decode cX11_hung 131 = .ok (.istore_n 2, 1) := by decide +kernel
theorem dX11_hung_132 : decode cX11_hung 132 = .ok (.iinc 4 1, 3) := by decide +kernel
theorem dX11_hung_135 : decode cX11_hung 135 = .ok (.goto (-116), 3) := by decide +kernel
theorem dX11_hung_138 : decode cX11_hung 138 = .ok (.iload_n 1, 1) := by decide +kernel
theorem dX11_hung_139 : decode cX11_hung 139 = .ok (.ifCond .eq 9, 3) := by decide +kernel
theorem dX11_hung_142 : decode cX11_hung 142 = .ok (.iload_n 2, 1) := by decide +kernel
theorem dX11_hung_143 : decode cX11_hung 143 = .ok (.bipush (-2), 2) := by decide +kernel
theorem dX11_hung_145 : decode cX11_hung 145 = .ok (.if_icmp .ne 7, 3) := by decide +kernel
theorem dX11_hung_148 : decode cX11_hung 148 = .ok (.iload_n 2, 1) := by decide +kernel
theorem dX11_hung_149 : decode cX11_hung 149 = .ok (.goto 4, 3) := by decide +kernel
theorem dX11_hung_152 : decode cX11_hung 152 = .ok (.iload_n 3, 1) := by decide +kernel
theorem dX11_hung_153 : decode cX11_hung 153 = .ok (.ireturn, 1) := by decide +kernel
theorem dX11_isFree_0 : decode cX11_isFree 0 = .ok (.aload_n 0, 1) := by decide +kernel
theorem dX11_isFree_1 : decode cX11_isFree 1 = .ok (.getfield 19, 3) := by decide +kernel
theorem dX11_isFree_4 : decode cX11_isFree 4 = .ok (.iload_n 1, 1) := by decide +kernel
theorem dX11_isFree_5 : decode cX11_isFree 5 = .ok (.iaload, 1) := by decide +kernel
theorem dX11_isFree_6 : decode cX11_isFree 6 = .ok (.ifCond .eq 5, 3) := by decide +kernel
theorem dX11_isFree_9 : decode cX11_isFree 9 = .ok (.iconst 0, 1) := by decide +kernel
theorem dX11_isFree_10 : decode cX11_isFree 10 = .ok (.ireturn, 1) := by decide +kernel
theorem dX11_isFree_11 : decode cX11_isFree 11 = .ok (.iconst 0, 1) := by decide +kernel
theorem dX11_isFree_12 : decode cX11_isFree 12 = .ok (.istore_n 2, 1) := by decide +kernel
theorem dX11_isFree_13 : decode cX11_isFree 13 = .ok (.iload_n 2, 1) := by decide +kernel
theorem dX11_isFree_14 : decode cX11_isFree 14 = .ok (.iconst 2, 1) := by decide +kernel
theorem dX11_isFree_15 : decode cX11_isFree 15 = .ok (.if_icmp .ge 31, 3) := by decide +kernel
theorem dX11_isFree_18 : decode cX11_isFree 18 = .ok (.aload_n 0, 1) := by decide +kernel
theorem dX11_isFree_19 : decode cX11_isFree 19 = .ok (.iload_n 2, 1) := by decide +kernel
theorem dX11_isFree_20 : decode cX11_isFree 20 = .ok (.invokevirtual 260, 3) := by decide +kernel
theorem dX11_isFree_23 : decode cX11_isFree 23 = .ok (.ifCond .eq 17, 3) := by decide +kernel
theorem dX11_isFree_26 : decode cX11_isFree 26 = .ok (.aload_n 0, 1) := by decide +kernel
theorem dX11_isFree_27 : decode cX11_isFree 27 = .ok (.getfield 7, 3) := by decide +kernel
theorem dX11_isFree_30 : decode cX11_isFree 30 = .ok (.iconst 0, 1) := by decide +kernel
theorem dX11_isFree_31 : decode cX11_isFree 31 = .ok (.iload_n 2, 1) := by decide +kernel
theorem dX11_isFree_32 : decode cX11_isFree 32 = .ok (.iadd, 1) := by decide +kernel
theorem dX11_isFree_33 : decode cX11_isFree 33 = .ok (.iaload, 1) := by decide +kernel
theorem dX11_isFree_34 : decode cX11_isFree 34 = .ok (.iload_n 1, 1) := by decide +kernel
theorem dX11_isFree_35 : decode cX11_isFree 35 = .ok (.if_icmp .ne 5, 3) := by decide +kernel
theorem dX11_isFree_38 : decode cX11_isFree 38 = .ok (.iconst 0, 1) := by decide +kernel
theorem dX11_isFree_39 : decode cX11_isFree 39 = .ok (.ireturn, 1) := by decide +kernel
theorem dX11_isFree_40 : decode cX11_isFree 40 = .ok (.iinc 2 1, 3) := by decide +kernel
theorem dX11_isFree_43 : decode cX11_isFree 43 = .ok (.goto (-30), 3) := by decide +kernel
theorem dX11_isFree_46 : decode cX11_isFree 46 = .ok (.iconst 0, 1) := by decide +kernel
theorem dX11_isFree_47 : decode cX11_isFree 47 = .ok (.istore_n 2, 1) := by decide +kernel
theorem dX11_isFree_48 : decode cX11_isFree 48 = .ok (.iload_n 2, 1) := by decide +kernel
theorem dX11_isFree_49 : decode cX11_isFree 49 = .ok (.bipush 10, 2) := by decide +kernel
theorem dX11_isFree_51 : decode cX11_isFree 51 = .ok (.if_icmp .ge 31, 3) := by decide +kernel
theorem dX11_isFree_54 : decode cX11_isFree 54 = .ok (.aload_n 0, 1) := by decide +kernel
theorem dX11_isFree_55 : decode cX11_isFree 55 = .ok (.iload_n 2, 1) := by decide +kernel
theorem dX11_isFree_56 : decode cX11_isFree 56 = .ok (.invokevirtual 146, 3) := by decide +kernel
theorem dX11_isFree_59 : decode cX11_isFree 59 = .ok (.ifCond .eq 17, 3) := by decide +kernel
theorem dX11_isFree_62 : decode cX11_isFree 62 = .ok (.aload_n 0, 1) := by decide +kernel
theorem dX11_isFree_63 : decode cX11_isFree 63 = .ok (.getfield 7, 3) := by decide +kernel
theorem dX11_isFree_66 : decode cX11_isFree 66 = .ok (.iconst 4, 1) := by decide +kernel
theorem dX11_isFree_67 : decode cX11_isFree 67 = .ok (.iload_n 2, 1) := by decide +kernel
theorem dX11_isFree_68 : decode cX11_isFree 68 = .ok (.iadd, 1) := by decide +kernel
theorem dX11_isFree_69 : decode cX11_isFree 69 = .ok (.iaload, 1) := by decide +kernel
theorem dX11_isFree_70 : decode cX11_isFree 70 = .ok (.iload_n 1, 1) := by decide +kernel
theorem dX11_isFree_71 : decode cX11_isFree 71 = .ok (.if_icmp .ne 5, 3) := by decide +kernel
theorem dX11_isFree_74 : decode cX11_isFree 74 = .ok (.iconst 0, 1) := by decide +kernel
theorem dX11_isFree_75 : decode cX11_isFree 75 = .ok (.ireturn, 1) := by decide +kernel
theorem dX11_isFree_76 : decode cX11_isFree 76 = .ok (.iinc 2 1, 3) := by decide +kernel
theorem dX11_isFree_79 : decode cX11_isFree 79 = .ok (.goto (-31), 3) := by decide +kernel
theorem dX11_isFree_82 : decode cX11_isFree 82 = .ok (.iconst 0, 1) := by decide +kernel
theorem dX11_isFree_83 : decode cX11_isFree 83 = .ok (.istore_n 2, 1) := by decide +kernel
theorem dX11_isFree_84 : decode cX11_isFree 84 = .ok (.iload_n 2, 1) := by decide +kernel
theorem dX11_isFree_85 : decode cX11_isFree 85 = .ok (.iconst 4, 1) := by decide +kernel
theorem dX11_isFree_86 : decode cX11_isFree 86 = .ok (.if_icmp .ge 21, 3) := by decide +kernel
theorem dX11_isFree_89 : decode cX11_isFree 89 = .ok (.aload_n 0, 1) := by decide +kernel
theorem dX11_isFree_90 : decode cX11_isFree 90 = .ok (.getfield 22, 3) := by decide +kernel
theorem dX11_isFree_93 : decode cX11_isFree 93 = .ok (.iload_n 2, 1) := by decide +kernel
theorem dX11_isFree_94 : decode cX11_isFree 94 = .ok (.iaload, 1) := by decide +kernel
theorem dX11_isFree_95 : decode cX11_isFree 95 = .ok (.iload_n 1, 1) := by decide +kernel
theorem dX11_isFree_96 : decode cX11_isFree 96 = .ok (.if_icmp .ne 5, 3) := by decide +kernel
theorem dX11_isFree_99 : decode cX11_isFree 99 = .ok (.iconst 0, 1) := by decide +kernel
theorem dX11_isFree_100 : decode cX11_isFree 100 = .ok (.ireturn, 1) := by decide +kernel
theorem dX11_isFree_101 : decode cX11_isFree 101 = .ok (.iinc 2 1, 3) := by decide +kernel
theorem dX11_isFree_104 : decode cX11_isFree 104 = .ok (.goto (-20), 3) := by decide +kernel
theorem dX11_isFree_107 : decode cX11_isFree 107 = .ok (.iconst 1, 1) := by decide +kernel
theorem dX11_isFree_108 : decode cX11_isFree 108 = .ok (.ireturn, 1) := by decide +kernel
theorem dX11_judge_0 : decode cX11_judge 0 = .ok (.iload_n 1, 1) := by decide +kernel
theorem dX11_judge_1 : decode cX11_judge 1 = .ok (.iconst 2, 1) := by decide +kernel
theorem dX11_judge_2 : decode cX11_judge 2 = .ok (.invokestatic 139, 3) := by decide +kernel
theorem dX11_judge_5 : decode cX11_judge 5 = .ok (.ifCond .eq 24, 3) := by decide +kernel
theorem dX11_judge_8 : decode cX11_judge 8 = .ok (.iload_n 2, 1) := by decide +kernel
theorem dX11_judge_9 : decode cX11_judge 9 = .ok (.iload_n 3, 1) := by decide +kernel
theorem dX11_judge_10 : decode cX11_judge 10 = .ok (.invokestatic 161, 3) := by decide +kernel
theorem dX11_judge_13 : decode cX11_judge 13 = .ok (.ifCond .eq 16, 3) := by decide +kernel
theorem dX11_judge_16 : decode cX11_judge 16 = .ok (.aload_n 0, 1) := by decide +kernel
theorem dX11_judge_17 : decode cX11_judge 17 = .ok (.bipush 10, 2) := by decide +kernel
theorem dX11_judge_19 : decode cX11_judge 19 = .ok (.iload_n 3, 1) := by decide +kernel
theorem dX11_judge_20 : decode cX11_judge 20 = .ok (.imul, 1) := by decide +kernel
theorem dX11_judge_21 : decode cX11_judge 21 = .ok (.iload_n 2, 1) := by decide +kernel
theorem dX11_judge_22 : decode cX11_judge 22 = .ok (.iadd, 1) := by decide +kernel
theorem dX11_judge_23 : decode cX11_judge 23 = .ok (.invokevirtual 263, 3) := by decide +kernel
theorem dX11_judge_26 : decode cX11_judge 26 = .ok (.ifCond .ne 5, 3) := by decide +kernel
theorem dX11_judge_29 : decode cX11_judge 29 = .ok (.iconst 0, 1) := by decide +kernel
theorem dX11_judge_30 : decode cX11_judge 30 = .ok (.ireturn, 1) := by decide +kernel
theorem dX11_judge_31 : decode cX11_judge 31 = .ok (.aload_n 0, 1) := by decide +kernel
theorem dX11_judge_32 : decode cX11_judge 32 = .ok (.iconst 1, 1) := by decide +kernel
theorem dX11_judge_33 : decode cX11_judge 33 = .ok (.iload_n 1, 1) := by decide +kernel
theorem dX11_judge_34 : decode cX11_judge 34 = .ok (.isub, 1) := by decide +kernel
theorem dX11_judge_35 : decode cX11_judge 35 = .ok (.invokevirtual 260, 3) := by decide +kernel
theorem dX11_judge_38 : decode cX11_judge 38 = .ok (.ifCond .eq 22, 3) := by decide +kernel
theorem dX11_judge_41 : decode cX11_judge 41 = .ok (.aload_n 0, 1) := by decide +kernel
theorem dX11_judge_42 : decode cX11_judge 42 = .ok (.getfield 7, 3) := by decide +kernel
theorem dX11_judge_45 : decode cX11_judge 45 = .ok (.iconst 1, 1) := by decide +kernel
theorem dX11_judge_46 : decode cX11_judge 46 = .ok (.iload_n 1, 1) := by decide +kernel
theorem dX11_judge_47 : decode cX11_judge 47 = .ok (.isub, 1) := by decide +kernel
theorem dX11_judge_48 : decode cX11_judge 48 = .ok (.iaload, 1) := by decide +kernel
theorem dX11_judge_49 : decode cX11_judge 49 = .ok (.bipush 10, 2) := by decide +kernel
theorem dX11_judge_51 : decode cX11_judge 51 = .ok (.iload_n 3, 1) := by decide +kernel
theorem dX11_judge_52 : decode cX11_judge 52 = .ok (.imul, 1) := by decide +kernel
theorem dX11_judge_53 : decode cX11_judge 53 = .ok (.iload_n 2, 1) := by decide +kernel
theorem dX11_judge_54 : decode cX11_judge 54 = .ok (.iadd, 1) := by decide +kernel
theorem dX11_judge_55 : decode cX11_judge 55 = .ok (.if_icmp .ne 5, 3) := by decide +kernel
theorem dX11_judge_58 : decode cX11_judge 58 = .ok (.iconst 0, 1) := by decide +kernel
theorem dX11_judge_59 : decode cX11_judge 59 = .ok (.ireturn, 1) := by decide +kernel
theorem dX11_judge_60 : decode cX11_judge 60 = .ok (.aload_n 0, 1) := by decide +kernel
theorem dX11_judge_61 : decode cX11_judge 61 = .ok (.getfield 7, 3) := by decide +kernel
theorem dX11_judge_64 : decode cX11_judge 64 = .ok (.bipush 34, 2) := by decide +kernel
theorem dX11_judge_66 : decode cX11_judge 66 = .ok (.aload_n 0, 1) := by decide +kernel
theorem dX11_judge_67 : decode cX11_judge 67 = .ok (.getfield 7, 3) := by decide +kernel
theorem dX11_judge_70 : decode cX11_judge 70 = .ok (.bipush 34, 2) := by decide +kernel
theorem dX11_judge_72 : decode cX11_judge 72 = .ok (.iaload, 1) := by decide +kernel
theorem dX11_judge_73 : decode cX11_judge 73 = .ok (.iconst 1, 1) := by decide +kernel
theorem dX11_judge_74 : decode cX11_judge 74 = .ok (.iload_n 1, 1) := by decide +kernel
theorem dX11_judge_75 : decode cX11_judge 75 = .ok (.ishl, 1) := by decide +kernel
theorem dX11_judge_76 : decode cX11_judge 76 = .ok (.ior, 1) := by decide +kernel
theorem dX11_judge_77 : decode cX11_judge 77 = .ok (.iastore, 1) := by decide +kernel
theorem dX11_judge_78 : decode cX11_judge 78 = .ok (.aload_n 0, 1) := by decide +kernel
theorem dX11_judge_79 : decode cX11_judge 79 = .ok (.getfield 7, 3) := by decide +kernel
theorem dX11_judge_82 : decode cX11_judge 82 = .ok (.iconst 0, 1) := by decide +kernel
theorem dX11_judge_83 : decode cX11_judge 83 = .ok (.iload_n 1, 1) := by decide +kernel
theorem dX11_judge_84 : decode cX11_judge 84 = .ok (.iadd, 1) := by decide +kernel
theorem dX11_judge_85 : decode cX11_judge 85 = .ok (.bipush 10, 2) := by decide +kernel
theorem dX11_judge_87 : decode cX11_judge 87 = .ok (.iload_n 3, 1) := by decide +kernel
theorem dX11_judge_88 : decode cX11_judge 88 = .ok (.imul, 1) := by decide +kernel
theorem dX11_judge_89 : decode cX11_judge 89 = .ok (.iload_n 2, 1) := by decide +kernel
theorem dX11_judge_90 : decode cX11_judge 90 = .ok (.iadd, 1) := by decide +kernel
theorem dX11_judge_91 : decode cX11_judge 91 = .ok (.iastore, 1) := by decide +kernel
theorem dX11_judge_92 : decode cX11_judge 92 = .ok (.iconst 1, 1) := by decide +kernel
theorem dX11_judge_93 : decode cX11_judge 93 = .ok (.ireturn, 1) := by decide +kernel
theorem dX11_keep_0 : decode cX11_keep 0 = .ok (.aload_n 0, 1) := by decide +kernel
theorem dX11_keep_1 : decode cX11_keep 1 = .ok (.iconst 1, 1) := by decide +kernel
theorem dX11_keep_2 : decode cX11_keep 2 = .ok (.putfield 266, 3) := by decide +kernel
theorem dX11_keep_5 : decode cX11_keep 5 = .ok (.aload_n 0, 1) := by decide +kernel
theorem dX11_keep_6 : decode cX11_keep 6 = .ok (.getfield 7, 3) := by decide +kernel
theorem dX11_keep_9 : decode cX11_keep 9 = .ok (.aload_n 0, 1) := by decide +kernel
theorem dX11_keep_10 : decode cX11_keep 10 = .ok (.getfield 16, 3) := by decide +kernel
theorem dX11_keep_13 : decode cX11_keep 13 = .ok (.invokestatic 403, 3) := by decide +kernel
theorem dX11_keep_16 : decode cX11_keep 16 = .ok (.aload_n 0, 1) := by decide +kernel
theorem dX11_keep_17 : decode cX11_keep 17 = .ok (.getfield 25, 3) := by decide +kernel
theorem dX11_keep_20 : decode cX11_keep 20 = .ok (.aload_n 0, 1) := by decide +kernel
theorem dX11_keep_21 : decode cX11_keep 21 = .ok (.getfield 28, 3) := by decide +kernel
theorem dX11_keep_24 : decode cX11_keep 24 = .ok (.aload_n 0, 1) := by decide +kernel
theorem dX11_keep_25 : decode cX11_keep 25 = .ok (.getfield 129, 3) := by decide +kernel
theorem dX11_keep_28 : decode cX11_keep 28 = .ok (.aload_n 0, 1) := by decide +kernel
theorem dX11_keep_29 : decode cX11_keep 29 = .ok (.getfield 132, 3) := by decide +kernel
theorem dX11_keep_32 : decode cX11_keep 32 = .ok (.invokestatic 453, 3) := by decide +kernel
theorem dX11_keep_35 : decode cX11_keep 35 = .ok (.aload_n 0, 1) := by decide +kernel
theorem dX11_keep_36 : decode cX11_keep 36 = .ok (.getfield 7, 3) := by decide +kernel
theorem dX11_keep_39 : decode cX11_keep 39 = .ok (.bipush 37, 2) := by decide +kernel
theorem dX11_keep_41 : decode cX11_keep 41 = .ok (.iaload, 1) := by decide +kernel
theorem dX11_keep_42 : decode cX11_keep 42 = .ok (.ireturn, 1) := by decide +kernel
theorem dX11_lamp_0 : decode cX11_lamp 0 = .ok (.iload_n 1, 1) := by decide +kernel
theorem dX11_lamp_1 : decode cX11_lamp 1 = .ok (.iconst 4, 1) := by decide +kernel
theorem dX11_lamp_2 : decode cX11_lamp 2 = .ok (.invokestatic 139, 3) := by decide +kernel
theorem dX11_lamp_5 : decode cX11_lamp 5 = .ok (.ifCond .ne 5, 3) := by decide +kernel
theorem dX11_lamp_8 : decode cX11_lamp 8 = .ok (.iconst 0, 1) := by decide +kernel
theorem dX11_lamp_9 : decode cX11_lamp 9 = .ok (.ireturn, 1) := by decide +kernel
theorem dX11_lamp_10 : decode cX11_lamp 10 = .ok (.iload_n 2, 1) := by decide +kernel
theorem dX11_lamp_11 : decode cX11_lamp 11 = .ok (.iconst (-1), 1) := by decide +kernel
theorem dX11_lamp_12 : decode cX11_lamp 12 = .ok (.if_icmp .eq 26, 3) := by decide +kernel
theorem dX11_lamp_15 : decode cX11_lamp 15 = .ok (.iload_n 2, 1) := by decide +kernel
theorem dX11_lamp_16 : decode cX11_lamp 16 = .ok (.iload_n 3, 1) := by decide +kernel
theorem dX11_lamp_17 : decode cX11_lamp 17 = .ok (.invokestatic 161, 3) := by decide +kernel
theorem dX11_lamp_20 : decode cX11_lamp 20 = .ok (.ifCond .eq 16, 3) := by decide +kernel
theorem dX11_lamp_23 : decode cX11_lamp 23 = .ok (.aload_n 0, 1) := by decide +kernel
theorem dX11_lamp_24 : decode cX11_lamp 24 = .ok (.bipush 10, 2) := by decide +kernel
theorem dX11_lamp_26 : decode cX11_lamp 26 = .ok (.iload_n 3, 1) := by decide +kernel
theorem dX11_lamp_27 : decode cX11_lamp 27 = .ok (.imul, 1) := by decide +kernel
theorem dX11_lamp_28 : decode cX11_lamp 28 = .ok (.iload_n 2, 1) := by decide +kernel
theorem dX11_lamp_29 : decode cX11_lamp 29 = .ok (.iadd, 1) := by decide +kernel
theorem dX11_lamp_30 : decode cX11_lamp 30 = .ok (.invokevirtual 263, 3) := by decide +kernel
theorem dX11_lamp_33 : decode cX11_lamp 33 = .ok (.ifCond .ne 5, 3) := by decide +kernel
theorem dX11_lamp_36 : decode cX11_lamp 36 = .ok (.iconst 0, 1) := by decide +kernel
theorem dX11_lamp_37 : decode cX11_lamp 37 = .ok (.ireturn, 1) := by decide +kernel
theorem dX11_lamp_38 : decode cX11_lamp 38 = .ok (.aload_n 0, 1) := by decide +kernel
theorem dX11_lamp_39 : decode cX11_lamp 39 = .ok (.getfield 22, 3) := by decide +kernel
theorem dX11_lamp_42 : decode cX11_lamp 42 = .ok (.iload_n 1, 1) := by decide +kernel
theorem dX11_lamp_43 : decode cX11_lamp 43 = .ok (.iload_n 2, 1) := by decide +kernel
theorem dX11_lamp_44 : decode cX11_lamp 44 = .ok (.iconst (-1), 1) := by decide +kernel
theorem dX11_lamp_45 : decode cX11_lamp 45 = .ok (.if_icmp .ne 7, 3) := by decide +kernel
theorem dX11_lamp_48 : decode cX11_lamp 48 = .ok (.iconst (-1), 1) := by decide +kernel
theorem dX11_lamp_49 : decode cX11_lamp 49 = .ok (.goto 9, 3) := by decide +kernel
theorem dX11_lamp_52 : decode cX11_lamp 52 = .ok (.bipush 10, 2) := by decide +kernel
theorem dX11_lamp_54 : decode cX11_lamp 54 = .ok (.iload_n 3, 1) := by decide +kernel
theorem dX11_lamp_55 : decode cX11_lamp 55 = .ok (.imul, 1) := by decide +kernel
theorem dX11_lamp_56 : decode cX11_lamp 56 = .ok (.iload_n 2, 1) := by decide +kernel
theorem dX11_lamp_57 : decode cX11_lamp 57 = .ok (.iadd, 1) := by decide +kernel
theorem dX11_lamp_58 : decode cX11_lamp 58 = .ok (.iastore, 1) := by decide +kernel
theorem dX11_lamp_59 : decode cX11_lamp 59 = .ok (.iconst 1, 1) := by decide +kernel
theorem dX11_lamp_60 : decode cX11_lamp 60 = .ok (.ireturn, 1) := by decide +kernel
theorem dX11_laysDark_0 : decode cX11_laysDark 0 = .ok (.iconst 0, 1) := by decide +kernel
theorem dX11_laysDark_1 : decode cX11_laysDark 1 = .ok (.istore_n 2, 1) := by decide +kernel
theorem dX11_laysDark_2 : decode cX11_laysDark 2 = .ok (.iload_n 2, 1) := by decide +kernel
theorem dX11_laysDark_3 : decode cX11_laysDark 3 = .ok (.bipush 100, 2) := by decide +kernel
theorem dX11_laysDark_5 : decode cX11_laysDark 5 = .ok (.if_icmp .ge 16, 3) := by decide +kernel
theorem dX11_laysDark_8 : decode cX11_laysDark 8 = .ok (.aload_n 0, 1) := by decide +kernel
theorem dX11_laysDark_9 : decode cX11_laysDark 9 = .ok (.getfield 120, 3) := by decide +kernel
theorem dX11_laysDark_12 : decode cX11_laysDark 12 = .ok (.iload_n 2, 1) := by decide +kernel
theorem dX11_laysDark_13 : decode cX11_laysDark 13 = .ok (.iconst 0, 1) := by decide +kernel
theorem dX11_laysDark_14 : decode cX11_laysDark 14 = .ok (.iastore, 1) := by decide +kernel
theorem dX11_laysDark_15 : decode cX11_laysDark 15 = .ok (.iinc 2 1, 3) := by decide +kernel
theorem dX11_laysDark_18 : decode cX11_laysDark 18 = .ok (.goto (-16), 3) := by decide +kernel
theorem dX11_laysDark_21 : decode cX11_laysDark 21 = .ok (.aload_n 0, 1) := by decide +kernel
theorem dX11_laysDark_22 : decode cX11_laysDark 22 = .ok (.getfield 7, 3) := by decide +kernel
theorem dX11_laysDark_25 : decode cX11_laysDark 25 = .ok (.aload_n 0, 1) := by decide +kernel
theorem dX11_laysDark_26 : decode cX11_laysDark 26 = .ok (.getfield 13, 3) := by decide +kernel
theorem dX11_laysDark_29 : decode cX11_laysDark 29 = .ok (.invokestatic 403, 3) := by decide +kernel
theorem dX11_laysDark_32 : decode cX11_laysDark 32 = .ok (.iconst 0, 1) := by decide +kernel
theorem dX11_laysDark_33 : decode cX11_laysDark 33 = .ok (.istore_n 2, 1) := by decide +kernel
theorem dX11_laysDark_34 : decode cX11_laysDark 34 = .ok (.iload_n 2, 1) := by decide +kernel
theorem dX11_laysDark_35 : decode cX11_laysDark 35 = .ok (.iload_n 1, 1) := by decide +kernel
theorem dX11_laysDark_36 : decode cX11_laysDark 36 = .ok (.if_icmp .ge 99, 3) := by decide +kernel
theorem dX11_laysDark_39 : decode cX11_laysDark 39 = .ok (.aload_n 0, 1) := by decide +kernel
theorem dX11_laysDark_40 : decode cX11_laysDark 40 = .ok (.iconst 0, 1) := by decide +kernel
theorem dX11_laysDark_41 : decode cX11_laysDark 41 = .ok (.invokevirtual 394, 3) := by decide +kernel
theorem dX11_laysDark_44 : decode cX11_laysDark 44 = .ok (.aload_n 0, 1) := by decide +kernel
theorem dX11_laysDark_45 : decode cX11_laysDark 45 = .ok (.iconst 1, 1) := by decide +kernel
theorem dX11_laysDark_46 : decode cX11_laysDark 46 = .ok (.invokevirtual 394, 3) := by decide +kernel
theorem dX11_laysDark_49 : decode cX11_laysDark 49 = .ok (.aload_n 0, 1) := by decide +kernel
theorem dX11_laysDark_50 : decode cX11_laysDark 50 = .ok (.invokevirtual 333, 3) := by decide +kernel
theorem dX11_laysDark_53 : decode cX11_laysDark 53 = .ok (.iconst 0, 1) := by decide +kernel
theorem dX11_laysDark_54 : decode cX11_laysDark 54 = .ok (.istore_n 3, 1) := by decide +kernel
theorem dX11_laysDark_55 : decode cX11_laysDark 55 = .ok (.iload_n 3, 1) := by decide +kernel
theorem dX11_laysDark_56 : decode cX11_laysDark 56 = .ok (.iconst 2, 1) := by decide +kernel
theorem dX11_laysDark_57 : decode cX11_laysDark 57 = .ok (.if_icmp .ge 31, 3) := by decide +kernel
theorem dX11_laysDark_60 : decode cX11_laysDark 60 = .ok (.aload_n 0, 1) := by decide +kernel
theorem dX11_laysDark_61 : decode cX11_laysDark 61 = .ok (.iload_n 3, 1) := by decide +kernel
theorem dX11_laysDark_62 : decode cX11_laysDark 62 = .ok (.invokevirtual 260, 3) := by decide +kernel
theorem dX11_laysDark_65 : decode cX11_laysDark 65 = .ok (.ifCond .eq 17, 3) := by decide +kernel
theorem dX11_laysDark_68 : decode cX11_laysDark 68 = .ok (.aload_n 0, 1) := by decide +kernel
theorem dX11_laysDark_69 : decode cX11_laysDark 69 = .ok (.iload_n 3, 1) := by decide +kernel
theorem dX11_laysDark_70 : decode cX11_laysDark 70 = .ok (.aload_n 0, 1) := by decide +kernel
theorem dX11_laysDark_71 : decode cX11_laysDark 71 = .ok (.getfield 13, 3) := by decide +kernel
theorem dX11_laysDark_74 : decode cX11_laysDark 74 = .ok (.bipush 37, 2) := by decide +kernel
theorem dX11_laysDark_76 : decode cX11_laysDark 76 = .ok (.iaload, 1) := by decide +kernel
theorem dX11_laysDark_77 : decode cX11_laysDark 77 = .ok (.iload_n 2, 1) := by decide +kernel
theorem dX11_laysDark_78 : decode cX11_laysDark 78 = .ok (.iadd, 1) := by decide +kernel
theorem dX11_laysDark_79 : decode cX11_laysDark 79 = .ok (.invokevirtual 336, 3) := by decide +kernel
theorem dX11_laysDark_82 : decode cX11_laysDark 82 = .ok (.iinc 3 1, 3) := by decide +kernel
theorem dX11_laysDark_85 : decode cX11_laysDark 85 = .ok (.goto (-30), 3) := by decide +kernel
theorem dX11_laysDark_88 : decode cX11_laysDark 88 = .ok (.iconst 0, 1) := by decide +kernel
theorem dX11_laysDark_89 : decode cX11_laysDark 89 = .ok (.istore_n 3, 1) := by decide +kernel
theorem dX11_laysDark_90 : decode cX11_laysDark 90 = .ok (.iload_n 3, 1) := by decide +kernel
theorem dX11_laysDark_91 : decode cX11_laysDark 91 = .ok (.bipush 100, 2) := by decide +kernel
theorem dX11_laysDark_93 : decode cX11_laysDark 93 = .ok (.if_icmp .ge 36, 3) := by decide +kernel
theorem dX11_laysDark_96 : decode cX11_laysDark 96 = .ok (.aload_n 0, 1) := by decide +kernel
theorem dX11_laysDark_97 : decode cX11_laysDark 97 = .ok (.getfield 120, 3) := by decide +kernel
theorem dX11_laysDark_100 : decode cX11_laysDark 100 = .ok (.iload_n 3, 1) := by decide +kernel
theorem dX11_laysDark_101 : decode cX11_laysDark 101 = .ok (.aload_n 0, 1) := by decide +kernel
theorem dX11_laysDark_102 : decode cX11_laysDark 102 = .ok (.getfield 120, 3) := by decide +kernel
theorem dX11_laysDark_105 : decode cX11_laysDark 105 = .ok (.iload_n 3, 1) := by decide +kernel
theorem dX11_laysDark_106 : decode cX11_laysDark 106 = .ok (.iaload, 1) := by decide +kernel
theorem dX11_laysDark_107 : decode cX11_laysDark 107 = .ok (.aload_n 0, 1) := by decide +kernel
theorem dX11_laysDark_108 : decode cX11_laysDark 108 = .ok (.getfield 89, 3) := by decide +kernel
theorem dX11_laysDark_111 : decode cX11_laysDark 111 = .ok (.iload_n 3, 1) := by decide +kernel
theorem dX11_laysDark_112 : decode cX11_laysDark 112 = .ok (.iaload, 1) := by decide +kernel
theorem dX11_laysDark_113 : decode cX11_laysDark 113 = .ok (.ifCond .le 7, 3) := by decide +kernel
theorem dX11_laysDark_116 : decode cX11_laysDark 116 = .ok (.iconst 1, 1) := by decide +kernel
theorem dX11_laysDark_117 : decode cX11_laysDark 117 = .ok (.goto 4, 3) := by decide +kernel
theorem dX11_laysDark_120 : decode cX11_laysDark 120 = .ok (.iconst 0, 1) := by decide +kernel
theorem dX11_laysDark_121 : decode cX11_laysDark 121 = .ok (.iadd, 1) := by decide +kernel
theorem dX11_laysDark_122 : decode cX11_laysDark 122 = .ok (.iastore, 1) := by decide +kernel
theorem dX11_laysDark_123 : decode cX11_laysDark 123 = .ok (.iinc 3 1, 3) := by decide +kernel
theorem dX11_laysDark_126 : decode cX11_laysDark 126 = .ok (.goto (-36), 3) := by decide +kernel
theorem dX11_laysDark_129 : decode cX11_laysDark 129 = .ok (.iinc 2 1, 3) := by decide +kernel
theorem dX11_laysDark_132 : decode cX11_laysDark 132 = .ok (.goto (-98), 3) := by decide +kernel
theorem dX11_laysDark_135 : decode cX11_laysDark 135 = .ok (.aload_n 0, 1) := by decide +kernel
theorem dX11_laysDark_136 : decode cX11_laysDark 136 = .ok (.getfield 13, 3) := by decide +kernel
theorem dX11_laysDark_139 : decode cX11_laysDark 139 = .ok (.aload_n 0, 1) := by decide +kernel
theorem dX11_laysDark_140 : decode cX11_laysDark 140 = .ok (.getfield 7, 3) := by decide +kernel
theorem dX11_laysDark_143 : decode cX11_laysDark 143 = .ok (.invokestatic 403, 3) := by decide +kernel
theorem dX11_laysDark_146 : decode cX11_laysDark 146 = .ok (.return_, 1) := by decide +kernel
theorem dX11_laysReach_0 : decode cX11_laysReach 0 = .ok (.iconst 0, 1) := by decide +kernel
theorem dX11_laysReach_1 : decode cX11_laysReach 1 = .ok (.istore_n 1, 1) := by decide +kernel
theorem dX11_laysReach_2 : decode cX11_laysReach 2 = .ok (.iload_n 1, 1) := by decide +kernel
theorem dX11_laysReach_3 : decode cX11_laysReach 3 = .ok (.bipush 100, 2) := by decide +kernel
theorem dX11_laysReach_5 : decode cX11_laysReach 5 = .ok (.if_icmp .ge 16, 3) := by decide +kernel
theorem dX11_laysReach_8 : decode cX11_laysReach 8 = .ok (.aload_n 0, 1) := by decide +kernel
theorem dX11_laysReach_9 : decode cX11_laysReach 9 = .ok (.getfield 108, 3) := by decide +kernel
theorem dX11_laysReach_12 : decode cX11_laysReach 12 = .ok (.iload_n 1, 1) := by decide +kernel
theorem dX11_laysReach_13 : decode cX11_laysReach 13 = .ok (.iconst 0, 1) := by decide +kernel
theorem dX11_laysReach_14 : decode cX11_laysReach 14 = .ok (.iastore, 1) := by decide +kernel
theorem dX11_laysReach_15 : decode cX11_laysReach 15 = .ok (.iinc 1 1, 3) := by decide +kernel
theorem dX11_laysReach_18 : decode cX11_laysReach 18 = .ok (.goto (-16), 3) := by decide +kernel
theorem dX11_laysReach_21 : decode cX11_laysReach 21 = .ok (.iconst 0, 1) := by decide +kernel
theorem dX11_laysReach_22 : decode cX11_laysReach 22 = .ok (.istore_n 1, 1) := by decide +kernel
theorem dX11_laysReach_23 : decode cX11_laysReach 23 = .ok (.iload_n 1, 1) := by decide +kernel
theorem dX11_laysReach_24 : decode cX11_laysReach 24 = .ok (.bipush 10, 2) := by decide +kernel
theorem dX11_laysReach_26 : decode cX11_laysReach 26 = .ok (.if_icmp .ge 83, 3) := by decide +kernel
theorem dX11_laysReach_29 : decode cX11_laysReach 29 = .ok (.aload_n 0, 1) := by decide +kernel
theorem dX11_laysReach_30 : decode cX11_laysReach 30 = .ok (.iload_n 1, 1) := by decide +kernel
theorem dX11_laysReach_31 : decode cX11_laysReach 31 = .ok (.invokevirtual 349, 3) := by decide +kernel
theorem dX11_laysReach_34 : decode cX11_laysReach 34 = .ok (.ifCond .ne 6, 3) := by decide +kernel
theorem dX11_laysReach_37 : decode cX11_laysReach 37 = .ok (.goto 66, 3) := by decide +kernel
theorem dX11_laysReach_40 : decode cX11_laysReach 40 = .ok (.aload_n 0, 1) := by decide +kernel
theorem dX11_laysReach_41 : decode cX11_laysReach 41 = .ok (.aload_n 0, 1) := by decide +kernel
theorem dX11_laysReach_42 : decode cX11_laysReach 42 = .ok (.getfield 7, 3) := by decide +kernel
theorem dX11_laysReach_45 : decode cX11_laysReach 45 = .ok (.iconst 4, 1) := by decide +kernel
theorem dX11_laysReach_46 : decode cX11_laysReach 46 = .ok (.iload_n 1, 1) := by decide +kernel
theorem dX11_laysReach_47 : decode cX11_laysReach 47 = .ok (.iadd, 1) := by decide +kernel
theorem dX11_laysReach_48 : decode cX11_laysReach 48 = .ok (.iaload, 1) := by decide +kernel
theorem dX11_laysReach_49 : decode cX11_laysReach 49 = .ok (.aload_n 0, 1) := by decide +kernel
theorem dX11_laysReach_50 : decode cX11_laysReach 50 = .ok (.bipush 118, 2) := by decide +kernel
theorem dX11_laysReach_52 : decode cX11_laysReach 52 = .ok (.iconst 3, 1) := by decide +kernel
theorem dX11_laysReach_53 : decode cX11_laysReach 53 = .ok (.iload_n 1, 1) := by decide +kernel
theorem dX11_laysReach_54 : decode cX11_laysReach 54 = .ok (.invokevirtual 352, 3) := by decide +kernel
theorem dX11_laysReach_57 : decode cX11_laysReach 57 = .ok (.iconst 0, 1) := by decide +kernel
theorem dX11_laysReach_58 : decode cX11_laysReach 58 = .ok (.invokevirtual 355, 3) := by decide +kernel
theorem dX11_laysReach_61 : decode cX11_laysReach 61 = .ok (.iconst 0, 1) := by decide +kernel
theorem dX11_laysReach_62 : decode cX11_laysReach 62 = .ok (.istore_n 2, 1) := by decide +kernel
theorem dX11_laysReach_63 : decode cX11_laysReach 63 = .ok (.iload_n 2, 1) := by decide +kernel
theorem dX11_laysReach_64 : decode cX11_laysReach 64 = .ok (.bipush 100, 2) := by decide +kernel
theorem dX11_laysReach_66 : decode cX11_laysReach 66 = .ok (.if_icmp .ge 37, 3) := by decide +kernel
theorem dX11_laysReach_69 : decode cX11_laysReach 69 = .ok (.aload_n 0, 1) := by decide +kernel
theorem dX11_laysReach_70 : decode cX11_laysReach 70 = .ok (.getfield 92, 3) := by decide +kernel
theorem dX11_laysReach_73 : decode cX11_laysReach 73 = .ok (.iload_n 2, 1) := by decide +kernel
theorem dX11_laysReach_74 : decode cX11_laysReach 74 = .ok (.iaload, 1) := by decide +kernel
theorem dX11_laysReach_75 : decode cX11_laysReach 75 = .ok (.ldc_w 348, 3) := by decide +kernel
theorem dX11_laysReach_78 : decode cX11_laysReach 78 = .ok (.if_icmp .ge 19, 3) := by decide +kernel
theorem dX11_laysReach_81 : decode cX11_laysReach 81 = .ok (.aload_n 0, 1) := by decide +kernel
theorem dX11_laysReach_82 : decode cX11_laysReach 82 = .ok (.getfield 108, 3) := by decide +kernel
theorem dX11_laysReach_85 : decode cX11_laysReach 85 = .ok (.iload_n 2, 1) := by decide +kernel
theorem dX11_laysReach_86 : decode cX11_laysReach 86 = .ok (.aload_n 0, 1) := by decide +kernel
theorem dX11_laysReach_87 : decode cX11_laysReach 87 = .ok (.getfield 108, 3) := by decide +kernel
theorem dX11_laysReach_90 : decode cX11_laysReach 90 = .ok (.iload_n 2, 1) := by decide +kernel
theorem dX11_laysReach_91 : decode cX11_laysReach 91 = .ok (.iaload, 1) := by decide +kernel
theorem dX11_laysReach_92 : decode cX11_laysReach 92 = .ok (.iconst 1, 1) := by decide +kernel
theorem dX11_laysReach_93 : decode cX11_laysReach 93 = .ok (.iload_n 1, 1) := by decide +kernel
theorem dX11_laysReach_94 : decode cX11_laysReach 94 = .ok (.ishl, 1) := by decide +kernel
theorem dX11_laysReach_95 : decode cX11_laysReach 95 = .ok (.ior, 1) := by decide +kernel
theorem dX11_laysReach_96 : decode cX11_laysReach 96 = .ok (.iastore, 1) := by decide +kernel
theorem dX11_laysReach_97 : decode cX11_laysReach 97 = .ok (.iinc 2 1, 3) := by decide +kernel
theorem dX11_laysReach_100 : decode cX11_laysReach 100 = .ok (.goto (-37), 3) := by decide +kernel
theorem dX11_laysReach_103 : decode cX11_laysReach 103 = .ok (.iinc 1 1, 3) := by decide +kernel
theorem dX11_laysReach_106 : decode cX11_laysReach 106 = .ok (.goto (-83), 3) := by decide +kernel
theorem dX11_laysReach_109 : decode cX11_laysReach 109 = .ok (.return_, 1) := by decide +kernel
theorem dX11_laysSteps_0 : decode cX11_laysSteps 0 = .ok (.iconst 0, 1) := by decide +kernel
theorem dX11_laysSteps_1 : decode cX11_laysSteps 1 = .ok (.istore_n 1, 1) := by decide +kernel
theorem dX11_laysSteps_2 : decode cX11_laysSteps 2 = .ok (.iload_n 1, 1) := by decide +kernel
theorem dX11_laysSteps_3 : decode cX11_laysSteps 3 = .ok (.bipush 100, 2) := by decide +kernel
theorem dX11_laysSteps_5 : decode cX11_laysSteps 5 = .ok (.if_icmp .ge 47, 3) := by decide +kernel
theorem dX11_laysSteps_8 : decode cX11_laysSteps 8 = .ok (.aload_n 0, 1) := by decide +kernel
theorem dX11_laysSteps_9 : decode cX11_laysSteps 9 = .ok (.iload_n 1, 1) := by decide +kernel
theorem dX11_laysSteps_10 : decode cX11_laysSteps 10 = .ok (.iconst 3, 1) := by decide +kernel
theorem dX11_laysSteps_11 : decode cX11_laysSteps 11 = .ok (.iconst 1, 1) := by decide +kernel
theorem dX11_laysSteps_12 : decode cX11_laysSteps 12 = .ok (.invokevirtual 355, 3) := by decide +kernel
theorem dX11_laysSteps_15 : decode cX11_laysSteps 15 = .ok (.iconst 0, 1) := by decide +kernel
theorem dX11_laysSteps_16 : decode cX11_laysSteps 16 = .ok (.istore_n 2, 1) := by decide +kernel
theorem dX11_laysSteps_17 : decode cX11_laysSteps 17 = .ok (.iload_n 2, 1) := by decide +kernel
theorem dX11_laysSteps_18 : decode cX11_laysSteps 18 = .ok (.bipush 100, 2) := by decide +kernel
theorem dX11_laysSteps_20 : decode cX11_laysSteps 20 = .ok (.if_icmp .ge 26, 3) := by decide +kernel
theorem dX11_laysSteps_23 : decode cX11_laysSteps 23 = .ok (.aload_n 0, 1) := by decide +kernel
theorem dX11_laysSteps_24 : decode cX11_laysSteps 24 = .ok (.getfield 117, 3) := by decide +kernel
theorem dX11_laysSteps_27 : decode cX11_laysSteps 27 = .ok (.bipush 100, 2) := by decide +kernel
theorem dX11_laysSteps_29 : decode cX11_laysSteps 29 = .ok (.iload_n 1, 1) := by decide +kernel
theorem dX11_laysSteps_30 : decode cX11_laysSteps 30 = .ok (.imul, 1) := by decide +kernel
theorem dX11_laysSteps_31 : decode cX11_laysSteps 31 = .ok (.iload_n 2, 1) := by decide +kernel
theorem dX11_laysSteps_32 : decode cX11_laysSteps 32 = .ok (.iadd, 1) := by decide +kernel
theorem dX11_laysSteps_33 : decode cX11_laysSteps 33 = .ok (.aload_n 0, 1) := by decide +kernel
theorem dX11_laysSteps_34 : decode cX11_laysSteps 34 = .ok (.getfield 92, 3) := by decide +kernel
theorem dX11_laysSteps_37 : decode cX11_laysSteps 37 = .ok (.iload_n 2, 1) := by decide +kernel
theorem dX11_laysSteps_38 : decode cX11_laysSteps 38 = .ok (.iaload, 1) := by decide +kernel
theorem dX11_laysSteps_39 : decode cX11_laysSteps 39 = .ok (.iastore, 1) := by decide +kernel
theorem dX11_laysSteps_40 : decode cX11_laysSteps 40 = .ok (.iinc 2 1, 3) := by decide +kernel
theorem dX11_laysSteps_43 : decode cX11_laysSteps 43 = .ok (.goto (-26), 3) := by decide +kernel
theorem dX11_laysSteps_46 : decode cX11_laysSteps 46 = .ok (.iinc 1 1, 3) := by decide +kernel
theorem dX11_laysSteps_49 : decode cX11_laysSteps 49 = .ok (.goto (-47), 3) := by decide +kernel
theorem dX11_laysSteps_52 : decode cX11_laysSteps 52 = .ok (.return_, 1) := by decide +kernel
theorem dX11_minutes_0 : decode cX11_minutes 0 = .ok (.iload_n 1, 1) := by decide +kernel
theorem dX11_minutes_1 : decode cX11_minutes 1 = .ok (.iconst 1, 1) := by decide +kernel
theorem dX11_minutes_2 : decode cX11_minutes 2 = .ok (.bipush 120, 2) := by decide +kernel
theorem dX11_minutes_4 : decode cX11_minutes 4 = .ok (.invokestatic 150, 3) := by decide +kernel
theorem dX11_minutes_7 : decode cX11_minutes 7 = .ok (.ifCond .ne 5, 3) := by decide +kernel
theorem dX11_minutes_10 : decode cX11_minutes 10 = .ok (.iconst (-1), 1) := by decide +kernel
theorem dX11_minutes_11 : decode cX11_minutes 11 = .ok (.ireturn, 1) := by decide +kernel
theorem dX11_minutes_12 : decode cX11_minutes 12 = .ok (.aload_n 0, 1) := by decide +kernel
theorem dX11_minutes_13 : decode cX11_minutes 13 = .ok (.iload_n 1, 1) := by decide +kernel
theorem dX11_minutes_14 : decode cX11_minutes 14 = .ok (.invokevirtual 400, 3) := by decide +kernel
theorem dX11_minutes_17 : decode cX11_minutes 17 = .ok (.aload_n 0, 1) := by decide +kernel
theorem dX11_minutes_18 : decode cX11_minutes 18 = .ok (.getfield 371, 3) := by decide +kernel
theorem dX11_minutes_21 : decode cX11_minutes 21 = .ok (.ireturn, 1) := by decide +kernel
theorem dX11_minutesGo_0 : decode cX11_minutesGo 0 = .ok (.aload_n 0, 1) := by decide +kernel
theorem dX11_minutesGo_1 : decode cX11_minutesGo 1 = .ok (.invokevirtual 391, 3) := by decide +kernel
theorem dX11_minutesGo_4 : decode cX11_minutesGo 4 = .ok (.iconst 0, 1) := by decide +kernel
theorem dX11_minutesGo_5 : decode cX11_minutesGo 5 = .ok (.istore_n 2, 1) := by decide +kernel
theorem dX11_minutesGo_6 : decode cX11_minutesGo 6 = .ok (.iload_n 2, 1) := by decide +kernel
theorem dX11_minutesGo_7 : decode cX11_minutesGo 7 = .ok (.iload_n 1, 1) := by decide +kernel
theorem dX11_minutesGo_8 : decode cX11_minutesGo 8 = .ok (.if_icmp .ge 36, 3) := by decide +kernel
theorem dX11_minutesGo_11 : decode cX11_minutesGo 11 = .ok (.aload_n 0, 1) := by decide +kernel
theorem dX11_minutesGo_12 : decode cX11_minutesGo 12 = .ok (.getfield 7, 3) := by decide +kernel
theorem dX11_minutesGo_15 : decode cX11_minutesGo 15 = .ok (.bipush 37, 2) := by decide +kernel
theorem dX11_minutesGo_17 : decode cX11_minutesGo 17 = .ok (.iaload, 1) := by decide +kernel
theorem dX11_minutesGo_18 : decode cX11_minutesGo 18 = .ok (.sipush 9999, 3) := by decide +kernel
theorem dX11_minutesGo_21 : decode cX11_minutesGo 21 = .ok (.if_icmp .ge 23, 3) := by decide +kernel
theorem dX11_minutesGo_24 : decode cX11_minutesGo 24 = .ok (.aload_n 0, 1) := by decide +kernel
theorem dX11_minutesGo_25 : decode cX11_minutesGo 25 = .ok (.iconst 0, 1) := by decide +kernel
theorem dX11_minutesGo_26 : decode cX11_minutesGo 26 = .ok (.invokevirtual 394, 3) := by decide +kernel
theorem dX11_minutesGo_29 : decode cX11_minutesGo 29 = .ok (.aload_n 0, 1) := by decide +kernel
theorem dX11_minutesGo_30 : decode cX11_minutesGo 30 = .ok (.iconst 1, 1) := by decide +kernel
theorem dX11_minutesGo_31 : decode cX11_minutesGo 31 = .ok (.invokevirtual 394, 3) := by decide +kernel
theorem dX11_minutesGo_34 : decode cX11_minutesGo 34 = .ok (.aload_n 0, 1) := by decide +kernel
theorem dX11_minutesGo_35 : decode cX11_minutesGo 35 = .ok (.invokevirtual 397, 3) := by decide +kernel
theorem dX11_minutesGo_38 : decode cX11_minutesGo 38 = .ok (.iinc 2 1, 3) := by decide +kernel
theorem dX11_minutesGo_41 : decode cX11_minutesGo 41 = .ok (.goto (-35), 3) := by decide +kernel
theorem dX11_minutesGo_44 : decode cX11_minutesGo 44 = .ok (.return_, 1) := by decide +kernel
theorem dX11_mostAtOnce_0 : decode cX11_mostAtOnce 0 = .ok (.aload_n 0, 1) := by decide +kernel
theorem dX11_mostAtOnce_1 : decode cX11_mostAtOnce 1 = .ok (.invokevirtual 413, 3) := by decide +kernel
theorem dX11_mostAtOnce_4 : decode cX11_mostAtOnce 4 = .ok (.iconst 0, 1) := by decide +kernel
theorem dX11_mostAtOnce_5 : decode cX11_mostAtOnce 5 = .ok (.istore_n 1, 1) := by decide +kernel
theorem dX11_mostAtOnce_6 : decode cX11_mostAtOnce 6 = .ok (.iload_n 1, 1) := by decide +kernel
theorem dX11_mostAtOnce_7 : decode cX11_mostAtOnce 7 = .ok (.sipush 1024, 3) := by decide +kernel
theorem dX11_mostAtOnce_10 : decode cX11_mostAtOnce 10 = .ok (.if_icmp .ge 24, 3) := by decide +kernel
theorem dX11_mostAtOnce_13 : decode cX11_mostAtOnce 13 = .ok (.aload_n 0, 1) := by decide +kernel
theorem dX11_mostAtOnce_14 : decode cX11_mostAtOnce 14 = .ok (.getfield 105, 3) := by decide +kernel
theorem dX11_mostAtOnce_17 : decode cX11_mostAtOnce 17 = .ok (.iload_n 1, 1) := by decide +kernel
theorem dX11_mostAtOnce_18 : decode cX11_mostAtOnce 18 = .ok (.iload_n 1, 1) := by decide +kernel
theorem dX11_mostAtOnce_19 : decode cX11_mostAtOnce 19 = .ok (.ifCond .ne 7, 3) := by decide +kernel
theorem dX11_mostAtOnce_22 : decode cX11_mostAtOnce 22 = .ok (.iconst 1, 1) := by decide +kernel
theorem dX11_mostAtOnce_23 : decode cX11_mostAtOnce 23 = .ok (.goto 4, 3) := by decide +kernel
theorem dX11_mostAtOnce_26 : decode cX11_mostAtOnce 26 = .ok (.iconst 0, 1) := by decide +kernel
theorem dX11_mostAtOnce_27 : decode cX11_mostAtOnce 27 = .ok (.bastore, 1) := by decide +kernel
theorem dX11_mostAtOnce_28 : decode cX11_mostAtOnce 28 = .ok (.iinc 1 1, 3) := by decide +kernel
theorem dX11_mostAtOnce_31 : decode cX11_mostAtOnce 31 = .ok (.goto (-25), 3) := by decide +kernel
theorem dX11_mostAtOnce_34 : decode cX11_mostAtOnce 34 = .ok (.iconst 0, 1) := by decide +kernel
theorem dX11_mostAtOnce_35 : decode cX11_mostAtOnce 35 = .ok (.istore_n 1, 1) := by decide +kernel
theorem dX11_mostAtOnce_36 : decode cX11_mostAtOnce 36 = .ok (.iload_n 1, 1) := by decide +kernel
theorem dX11_mostAtOnce_37 : decode cX11_mostAtOnce 37 = .ok (.bipush 100, 2) := by decide +kernel
theorem dX11_mostAtOnce_39 : decode cX11_mostAtOnce 39 = .ok (.if_icmp .ge 90, 3) := by decide +kernel
theorem dX11_mostAtOnce_42 : decode cX11_mostAtOnce 42 = .ok (.aload_n 0, 1) := by decide +kernel
theorem dX11_mostAtOnce_43 : decode cX11_mostAtOnce 43 = .ok (.getfield 89, 3) := by decide +kernel
theorem dX11_mostAtOnce_46 : decode cX11_mostAtOnce 46 = .ok (.iload_n 1, 1) := by decide +kernel
theorem dX11_mostAtOnce_47 : decode cX11_mostAtOnce 47 = .ok (.iaload, 1) := by decide +kernel
theorem dX11_mostAtOnce_48 : decode cX11_mostAtOnce 48 = .ok (.ifCond .ne 6, 3) := by decide +kernel
theorem dX11_mostAtOnce_51 : decode cX11_mostAtOnce 51 = .ok (.goto 72, 3) := by decide +kernel
theorem dX11_mostAtOnce_54 : decode cX11_mostAtOnce 54 = .ok (.sipush 1023, 3) := by decide +kernel
theorem dX11_mostAtOnce_57 : decode cX11_mostAtOnce 57 = .ok (.istore_n 2, 1) := by decide +kernel
theorem dX11_mostAtOnce_58 : decode cX11_mostAtOnce 58 = .ok (.iload_n 2, 1) := by decide +kernel
theorem dX11_mostAtOnce_59 : decode cX11_mostAtOnce 59 = .ok (.ifCond .lt 64, 3) := by decide +kernel
theorem dX11_mostAtOnce_62 : decode cX11_mostAtOnce 62 = .ok (.iconst 0, 1) := by decide +kernel
theorem dX11_mostAtOnce_63 : decode cX11_mostAtOnce 63 = .ok (.istore_n 3, 1) := by decide +kernel
theorem dX11_mostAtOnce_64 : decode cX11_mostAtOnce 64 = .ok (.iload_n 3, 1) := by decide +kernel
theorem dX11_mostAtOnce_65 : decode cX11_mostAtOnce 65 = .ok (.bipush 10, 2) := by decide +kernel
theorem dX11_mostAtOnce_67 : decode cX11_mostAtOnce 67 = .ok (.if_icmp .ge 50, 3) := by decide +kernel
theorem dX11_mostAtOnce_70 : decode cX11_mostAtOnce 70 = .ok (.aload_n 0, 1) := by decide +kernel
theorem dX11_mostAtOnce_71 : decode cX11_mostAtOnce 71 = .ok (.getfield 105, 3) := by decide +kernel
theorem dX11_mostAtOnce_74 : decode cX11_mostAtOnce 74 = .ok (.iload_n 2, 1) := by decide +kernel
theorem dX11_mostAtOnce_75 : decode cX11_mostAtOnce 75 = .ok (.baload, 1) := by decide +kernel
theorem dX11_mostAtOnce_76 : decode cX11_mostAtOnce 76 = .ok (.ifCond .eq 41, 3) := by decide +kernel
theorem dX11_mostAtOnce_79 : decode cX11_mostAtOnce 79 = .ok (.iload_n 2, 1) := by decide +kernel
theorem dX11_mostAtOnce_80 : decode cX11_mostAtOnce 80 = .ok (.iload_n 3, 1) := by decide +kernel
theorem dX11_mostAtOnce_81 : decode cX11_mostAtOnce 81 = .ok (.invokestatic 143, 3) := by decide +kernel
theorem dX11_mostAtOnce_84 : decode cX11_mostAtOnce 84 = .ok (.ifCond .ne 27, 3) := by decide +kernel
theorem dX11_mostAtOnce_87 : decode cX11_mostAtOnce 87 = .ok (.aload_n 0, 1) := by decide +kernel
theorem dX11_mostAtOnce_88 : decode cX11_mostAtOnce 88 = .ok (.getfield 108, 3) := by decide +kernel
theorem dX11_mostAtOnce_91 : decode cX11_mostAtOnce 91 = .ok (.iload_n 1, 1) := by decide +kernel
theorem dX11_mostAtOnce_92 : decode cX11_mostAtOnce 92 = .ok (.iaload, 1) := by decide +kernel
theorem dX11_mostAtOnce_93 : decode cX11_mostAtOnce 93 = .ok (.iload_n 3, 1) := by decide +kernel
theorem dX11_mostAtOnce_94 : decode cX11_mostAtOnce 94 = .ok (.invokestatic 143, 3) := by decide +kernel
theorem dX11_mostAtOnce_97 : decode cX11_mostAtOnce 97 = .ok (.ifCond .eq 14, 3) := by decide +kernel
theorem dX11_mostAtOnce_100 : decode cX11_mostAtOnce 100 = .ok (.aload_n 0, 1) := by decide +kernel
theorem dX11_mostAtOnce_101 : decode cX11_mostAtOnce 101 = .ok (.getfield 105, 3) := by decide +kernel
theorem dX11_mostAtOnce_104 : decode cX11_mostAtOnce 104 = .ok (.iload_n 2, 1) := by decide +kernel
theorem dX11_mostAtOnce_105 : decode cX11_mostAtOnce 105 = .ok (.iconst 1, 1) := by decide +kernel
theorem dX11_mostAtOnce_106 : decode cX11_mostAtOnce 106 = .ok (.iload_n 3, 1) := by decide +kernel
theorem dX11_mostAtOnce_107 : decode cX11_mostAtOnce 107 = .ok (.ishl, 1) := by decide +kernel
theorem dX11_mostAtOnce_108 : decode cX11_mostAtOnce 108 = .ok (.ior, 1) := by decide +kernel
theorem dX11_mostAtOnce_109 : decode cX11_mostAtOnce 109 = .ok (.iconst 1, 1) := by decide +kernel
theorem dX11_mostAtOnce_110 : decode cX11_mostAtOnce 110 = .ok (.bastore, 1) := by decide +kernel
theorem dX11_mostAtOnce_111 : decode cX11_mostAtOnce 111 = .ok (.iinc 3 1, 3) := by decide +kernel
theorem dX11_mostAtOnce_114 : decode cX11_mostAtOnce 114 = .ok (.goto (-50), 3) := by decide +kernel
theorem dX11_mostAtOnce_117 : decode cX11_mostAtOnce 117 = .ok (.iinc 2 (-1), 3) := by decide +kernel
theorem dX11_mostAtOnce_120 : decode cX11_mostAtOnce 120 = .ok (.goto (-62), 3) := by decide +kernel
theorem dX11_mostAtOnce_123 : decode cX11_mostAtOnce 123 = .ok (.iinc 1 1, 3) := by decide +kernel
theorem dX11_mostAtOnce_126 : decode cX11_mostAtOnce 126 = .ok (.goto (-90), 3) := by decide +kernel
theorem dX11_mostAtOnce_129 : decode cX11_mostAtOnce 129 = .ok (.iconst 0, 1) := by decide +kernel
theorem dX11_mostAtOnce_130 : decode cX11_mostAtOnce 130 = .ok (.istore_n 1, 1) := by decide +kernel
theorem dX11_mostAtOnce_131 : decode cX11_mostAtOnce 131 = .ok (.iconst 0, 1) := by decide +kernel
theorem dX11_mostAtOnce_132 : decode cX11_mostAtOnce 132 = .ok (.istore_n 2, 1) := by decide +kernel
theorem dX11_mostAtOnce_133 : decode cX11_mostAtOnce 133 = .ok (.iload_n 2, 1) := by decide +kernel
theorem dX11_mostAtOnce_134 : decode cX11_mostAtOnce 134 = .ok (.sipush 1024, 3) := by decide +kernel
theorem dX11_mostAtOnce_137 : decode cX11_mostAtOnce 137 = .ok (.if_icmp .ge 27, 3) := by decide +kernel
theorem dX11_mostAtOnce_140 : decode cX11_mostAtOnce 140 = .ok (.aload_n 0, 1) := by decide +kernel
theorem dX11_mostAtOnce_141 : decode cX11_mostAtOnce 141 = .ok (.getfield 105, 3) := by decide +kernel
theorem dX11_mostAtOnce_144 : decode cX11_mostAtOnce 144 = .ok (.iload_n 2, 1) := by decide +kernel
theorem dX11_mostAtOnce_145 : decode cX11_mostAtOnce 145 = .ok (.baload, 1) := by decide +kernel
theorem dX11_mostAtOnce_146 : decode cX11_mostAtOnce 146 = .ok (.ifCond .eq 12, 3) := by decide +kernel
theorem dX11_mostAtOnce_149 : decode cX11_mostAtOnce 149 = .ok (.iload_n 1, 1) := by decide +kernel
theorem dX11_mostAtOnce_150 : decode cX11_mostAtOnce 150 = .ok (.iload_n 2, 1) := by decide +kernel
theorem dX11_mostAtOnce_151 : decode cX11_mostAtOnce 151 = .ok (.invokestatic 407, 3) := by decide +kernel
theorem dX11_mostAtOnce_154 : decode cX11_mostAtOnce 154 = .ok (.invokestatic 416, 3) := by decide +kernel
theorem dX11_mostAtOnce_157 : decode cX11_mostAtOnce 157 = .ok (.istore_n 1, 1) := by decide +kernel
theorem dX11_mostAtOnce_158 : decode cX11_mostAtOnce 158 = .ok (.iinc 2 1, 3) := by decide +kernel
theorem dX11_mostAtOnce_161 : decode cX11_mostAtOnce 161 = .ok (.goto (-28), 3) := by decide +kernel
theorem dX11_mostAtOnce_164 : decode cX11_mostAtOnce 164 = .ok (.iload_n 1, 1) := by decide +kernel
theorem dX11_mostAtOnce_165 : decode cX11_mostAtOnce 165 = .ok (.ireturn, 1) := by decide +kernel
theorem dX11_seed_0 : decode cX11_seed 0 = .ok (.iload_n 1, 1) := by decide +kernel
theorem dX11_seed_1 : decode cX11_seed 1 = .ok (.iconst 0, 1) := by decide +kernel
theorem dX11_seed_2 : decode cX11_seed 2 = .ok (.ldc_w 452, 3) := by decide +kernel
theorem dX11_seed_5 : decode cX11_seed 5 = .ok (.invokestatic 150, 3) := by decide +kernel
theorem dX11_seed_8 : decode cX11_seed 8 = .ok (.ifCond .ne 5, 3) := by decide +kernel
theorem dX11_seed_11 : decode cX11_seed 11 = .ok (.iconst 0, 1) := by decide +kernel
theorem dX11_seed_12 : decode cX11_seed 12 = .ok (.ireturn, 1) := by decide +kernel
theorem dX11_seed_13 : decode cX11_seed 13 = .ok (.aload_n 0, 1) := by decide +kernel
theorem dX11_seed_14 : decode cX11_seed 14 = .ok (.getfield 7, 3) := by decide +kernel
theorem dX11_seed_17 : decode cX11_seed 17 = .ok (.bipush 38, 2) := by decide +kernel
theorem dX11_seed_19 : decode cX11_seed 19 = .ok (.iload_n 1, 1) := by decide +kernel
theorem dX11_seed_20 : decode cX11_seed 20 = .ok (.iastore, 1) := by decide +kernel
theorem dX11_seed_21 : decode cX11_seed 21 = .ok (.iconst 1, 1) := by decide +kernel
theorem dX11_seed_22 : decode cX11_seed 22 = .ok (.ireturn, 1) := by decide +kernel
theorem dX11_servedBy_0 : decode cX11_servedBy 0 = .ok (.iload_n 1, 1) := by decide +kernel
theorem dX11_servedBy_1 : decode cX11_servedBy 1 = .ok (.iconst 1, 1) := by decide +kernel
theorem dX11_servedBy_2 : decode cX11_servedBy 2 = .ok (.bipush 60, 2) := by decide +kernel
theorem dX11_servedBy_4 : decode cX11_servedBy 4 = .ok (.invokestatic 150, 3) := by decide +kernel
theorem dX11_servedBy_7 : decode cX11_servedBy 7 = .ok (.ifCond .eq 12, 3) := by decide +kernel
theorem dX11_servedBy_10 : decode cX11_servedBy 10 = .ok (.iload_n 2, 1) := by decide +kernel
theorem dX11_servedBy_11 : decode cX11_servedBy 11 = .ok (.iconst 0, 1) := by decide +kernel
theorem dX11_servedBy_12 : decode cX11_servedBy 12 = .ok (.iconst 2, 1) := by decide +kernel
theorem dX11_servedBy_13 : decode cX11_servedBy 13 = .ok (.invokestatic 150, 3) := by decide +kernel
theorem dX11_servedBy_16 : decode cX11_servedBy 16 = .ok (.ifCond .ne 5, 3) := by decide +kernel
theorem dX11_servedBy_19 : decode cX11_servedBy 19 = .ok (.iconst (-1), 1) := by decide +kernel
theorem dX11_servedBy_20 : decode cX11_servedBy 20 = .ok (.ireturn, 1) := by decide +kernel
theorem dX11_servedBy_21 : decode cX11_servedBy 21 = .ok (.iload_n 2, 1) := by decide +kernel
theorem dX11_servedBy_22 : decode cX11_servedBy 22 = .ok (.iconst 2, 1) := by decide +kernel
theorem dX11_servedBy_23 : decode cX11_servedBy 23 = .ok (.if_icmp .ne 17, 3) := by decide +kernel
theorem dX11_servedBy_26 : decode cX11_servedBy 26 = .ok (.aload_n 0, 1) := by decide +kernel
theorem dX11_servedBy_27 : decode cX11_servedBy 27 = .ok (.getfield 7, 3) := by decide +kernel
theorem dX11_servedBy_30 : decode cX11_servedBy 30 = .ok (.bipush 34, 2) := by decide +kernel
theorem dX11_servedBy_32 : decode cX11_servedBy 32 = .ok (.iaload, 1) := by decide +kernel
theorem dX11_servedBy_33 : decode cX11_servedBy 33 = .ok (.iconst 3, 1) := by decide +kernel
theorem dX11_servedBy_34 : decode cX11_servedBy 34 = .ok (.if_icmp .eq 16, 3) := by decide +kernel
theorem dX11_servedBy_37 : decode cX11_servedBy 37 = .ok (.goto 11, 3) := by decide +kernel
theorem dX11_servedBy_40 : decode cX11_servedBy 40 = .ok (.aload_n 0, 1) := by decide +kernel
theorem dX11_servedBy_41 : decode cX11_servedBy 41 = .ok (.iload_n 2, 1) := by decide +kernel
theorem dX11_servedBy_42 : decode cX11_servedBy 42 = .ok (.invokevirtual 260, 3) := by decide +kernel
theorem dX11_servedBy_45 : decode cX11_servedBy 45 = .ok (.ifCond .ne 5, 3) := by decide +kernel
theorem dX11_servedBy_48 : decode cX11_servedBy 48 = .ok (.iconst (-1), 1) := by decide +kernel
theorem dX11_servedBy_49 : decode cX11_servedBy 49 = .ok (.ireturn, 1) := by decide +kernel
theorem dX11_servedBy_50 : decode cX11_servedBy 50 = .ok (.aload_n 0, 1) := by decide +kernel
theorem dX11_servedBy_51 : decode cX11_servedBy 51 = .ok (.getfield 7, 3) := by decide +kernel
theorem dX11_servedBy_54 : decode cX11_servedBy 54 = .ok (.aload_n 0, 1) := by decide +kernel
theorem dX11_servedBy_55 : decode cX11_servedBy 55 = .ok (.getfield 13, 3) := by decide +kernel
theorem dX11_servedBy_58 : decode cX11_servedBy 58 = .ok (.invokestatic 403, 3) := by decide +kernel
theorem dX11_servedBy_61 : decode cX11_servedBy 61 = .ok (.iload_n 2, 1) := by decide +kernel
theorem dX11_servedBy_62 : decode cX11_servedBy 62 = .ok (.iconst 2, 1) := by decide +kernel
theorem dX11_servedBy_63 : decode cX11_servedBy 63 = .ok (.if_icmp .ge 13, 3) := by decide +kernel
theorem dX11_servedBy_66 : decode cX11_servedBy 66 = .ok (.aload_n 0, 1) := by decide +kernel
theorem dX11_servedBy_67 : decode cX11_servedBy 67 = .ok (.getfield 7, 3) := by decide +kernel
theorem dX11_servedBy_70 : decode cX11_servedBy 70 = .ok (.bipush 34, 2) := by decide +kernel
theorem dX11_servedBy_72 : decode cX11_servedBy 72 = .ok (.iconst 1, 1) := by decide +kernel
theorem dX11_servedBy_73 : decode cX11_servedBy 73 = .ok (.iload_n 2, 1) := by decide +kernel
theorem dX11_servedBy_74 : decode cX11_servedBy 74 = .ok (.ishl, 1) := by decide +kernel
theorem dX11_servedBy_75 : decode cX11_servedBy 75 = .ok (.iastore, 1) := by decide +kernel
theorem dX11_servedBy_76 : decode cX11_servedBy 76 = .ok (.aload_n 0, 1) := by decide +kernel
theorem dX11_servedBy_77 : decode cX11_servedBy 77 = .ok (.iload_n 1, 1) := by decide +kernel
theorem dX11_servedBy_78 : decode cX11_servedBy 78 = .ok (.invokevirtual 400, 3) := by decide +kernel
theorem dX11_servedBy_81 : decode cX11_servedBy 81 = .ok (.aload_n 0, 1) := by decide +kernel
theorem dX11_servedBy_82 : decode cX11_servedBy 82 = .ok (.getfield 13, 3) := by decide +kernel
theorem dX11_servedBy_85 : decode cX11_servedBy 85 = .ok (.aload_n 0, 1) := by decide +kernel
theorem dX11_servedBy_86 : decode cX11_servedBy 86 = .ok (.getfield 7, 3) := by decide +kernel
theorem dX11_servedBy_89 : decode cX11_servedBy 89 = .ok (.invokestatic 403, 3) := by decide +kernel
theorem dX11_servedBy_92 : decode cX11_servedBy 92 = .ok (.aload_n 0, 1) := by decide +kernel
theorem dX11_servedBy_93 : decode cX11_servedBy 93 = .ok (.getfield 371, 3) := by decide +kernel
theorem dX11_servedBy_96 : decode cX11_servedBy 96 = .ok (.ireturn, 1) := by decide +kernel
theorem dX11_servedFirst_0 : decode cX11_servedFirst 0 = .ok (.aload_n 0, 1) := by decide +kernel
theorem dX11_servedFirst_1 : decode cX11_servedFirst 1 = .ok (.getfield 7, 3) := by decide +kernel
theorem dX11_servedFirst_4 : decode cX11_servedFirst 4 = .ok (.aload_n 0, 1) := by decide +kernel
theorem dX11_servedFirst_5 : decode cX11_servedFirst 5 = .ok (.getfield 13, 3) := by decide +kernel
theorem dX11_servedFirst_8 : decode cX11_servedFirst 8 = .ok (.invokestatic 403, 3) := by decide +kernel
theorem dX11_servedFirst_11 : decode cX11_servedFirst 11 = .ok (.aload_n 0, 1) := by decide +kernel
theorem dX11_servedFirst_12 : decode cX11_servedFirst 12 = .ok (.iload_n 1, 1) := by decide +kernel
theorem dX11_servedFirst_13 : decode cX11_servedFirst 13 = .ok (.putfield 135, 3) := by decide +kernel
theorem dX11_servedFirst_16 : decode cX11_servedFirst 16 = .ok (.aload_n 0, 1) := by decide +kernel
theorem dX11_servedFirst_17 : decode cX11_servedFirst 17 = .ok (.iload_n 2, 1) := by decide +kernel
theorem dX11_servedFirst_18 : decode cX11_servedFirst 18 = .ok (.invokevirtual 400, 3) := by decide +kernel
theorem dX11_servedFirst_21 : decode cX11_servedFirst 21 = .ok (.aload_n 0, 1) := by decide +kernel
theorem dX11_servedFirst_22 : decode cX11_servedFirst 22 = .ok (.iconst (-1), 1) := by decide +kernel
theorem dX11_servedFirst_23 : decode cX11_servedFirst 23 = .ok (.putfield 135, 3) := by decide +kernel
theorem dX11_servedFirst_26 : decode cX11_servedFirst 26 = .ok (.aload_n 0, 1) := by decide +kernel
theorem dX11_servedFirst_27 : decode cX11_servedFirst 27 = .ok (.getfield 13, 3) := by decide +kernel
theorem dX11_servedFirst_30 : decode cX11_servedFirst 30 = .ok (.aload_n 0, 1) := by decide +kernel
theorem dX11_servedFirst_31 : decode cX11_servedFirst 31 = .ok (.getfield 7, 3) := by decide +kernel
theorem dX11_servedFirst_34 : decode cX11_servedFirst 34 = .ok (.invokestatic 403, 3) := by decide +kernel
theorem dX11_servedFirst_37 : decode cX11_servedFirst 37 = .ok (.aload_n 0, 1) := by decide +kernel
theorem dX11_servedFirst_38 : decode cX11_servedFirst 38 = .ok (.getfield 371, 3) := by decide +kernel
theorem dX11_servedFirst_41 : decode cX11_servedFirst 41 = .ok (.ireturn, 1) := by decide +kernel
theorem dX11_servedIn_0 : decode cX11_servedIn 0 = .ok (.aload_n 0, 1) := by decide +kernel
theorem dX11_servedIn_1 : decode cX11_servedIn 1 = .ok (.getfield 7, 3) := by decide +kernel
theorem dX11_servedIn_4 : decode cX11_servedIn 4 = .ok (.aload_n 0, 1) := by decide +kernel
theorem dX11_servedIn_5 : decode cX11_servedIn 5 = .ok (.getfield 13, 3) := by decide +kernel
theorem dX11_servedIn_8 : decode cX11_servedIn 8 = .ok (.invokestatic 403, 3) := by decide +kernel
theorem dX11_servedIn_11 : decode cX11_servedIn 11 = .ok (.aload_n 0, 1) := by decide +kernel
theorem dX11_servedIn_12 : decode cX11_servedIn 12 = .ok (.invokevirtual 391, 3) := by decide +kernel
theorem dX11_servedIn_15 : decode cX11_servedIn 15 = .ok (.iconst 0, 1) := by decide +kernel
theorem dX11_servedIn_16 : decode cX11_servedIn 16 = .ok (.istore 4, 2) := by decide +kernel
theorem dX11_servedIn_18 : decode cX11_servedIn 18 = .ok (.iload 4, 2) := by decide +kernel
theorem dX11_servedIn_20 : decode cX11_servedIn 20 = .ok (.iload_n 2, 1) := by decide +kernel
theorem dX11_servedIn_21 : decode cX11_servedIn 21 = .ok (.if_icmp .ge 66, 3) := by decide +kernel
theorem dX11_servedIn_24 : decode cX11_servedIn 24 = .ok (.aload_n 0, 1) := by decide +kernel
theorem dX11_servedIn_25 : decode cX11_servedIn 25 = .ok (.getfield 7, 3) := by decide +kernel
theorem dX11_servedIn_28 : decode cX11_servedIn 28 = .ok (.bipush 37, 2) := by decide +kernel
theorem dX11_servedIn_30 : decode cX11_servedIn 30 = .ok (.iaload, 1) := by decide +kernel
theorem dX11_servedIn_31 : decode cX11_servedIn 31 = .ok (.sipush 9999, 3) := by decide +kernel
theorem dX11_servedIn_34 : decode cX11_servedIn 34 = .ok (.if_icmp .ge 53, 3) := by decide +kernel
theorem dX11_servedIn_37 : decode cX11_servedIn 37 = .ok (.iload_n 1, 1) := by decide +kernel
theorem dX11_servedIn_38 : decode cX11_servedIn 38 = .ok (.ifCond .ne 15, 3) := by decide +kernel
theorem dX11_servedIn_41 : decode cX11_servedIn 41 = .ok (.aload_n 0, 1) := by decide +kernel
theorem dX11_servedIn_42 : decode cX11_servedIn 42 = .ok (.iconst 0, 1) := by decide +kernel
theorem dX11_servedIn_43 : decode cX11_servedIn 43 = .ok (.iload_n 3, 1) := by decide +kernel
theorem dX11_servedIn_44 : decode cX11_servedIn 44 = .ok (.iload_n 2, 1) := by decide +kernel
theorem dX11_servedIn_45 : decode cX11_servedIn 45 = .ok (.iload 4, 2) := by decide +kernel
theorem dX11_servedIn_47 : decode cX11_servedIn 47 = .ok (.invokestatic 428, 3) := by decide +kernel
theorem dX11_servedIn_50 : decode cX11_servedIn 50 = .ok (.invokevirtual 345, 3) := by decide +kernel
theorem dX11_servedIn_53 : decode cX11_servedIn 53 = .ok (.aload_n 0, 1) := by decide +kernel
theorem dX11_servedIn_54 : decode cX11_servedIn 54 = .ok (.iconst 1, 1) := by decide +kernel
theorem dX11_servedIn_55 : decode cX11_servedIn 55 = .ok (.iload_n 1, 1) := by decide +kernel
theorem dX11_servedIn_56 : decode cX11_servedIn 56 = .ok (.isub, 1) := by decide +kernel
theorem dX11_servedIn_57 : decode cX11_servedIn 57 = .ok (.invokevirtual 394, 3) := by decide +kernel
theorem dX11_servedIn_60 : decode cX11_servedIn 60 = .ok (.iload_n 1, 1) := by decide +kernel
theorem dX11_servedIn_61 : decode cX11_servedIn 61 = .ok (.iconst 1, 1) := by decide +kernel
theorem dX11_servedIn_62 : decode cX11_servedIn 62 = .ok (.if_icmp .ne 15, 3) := by decide +kernel
theorem dX11_servedIn_65 : decode cX11_servedIn 65 = .ok (.aload_n 0, 1) := by decide +kernel
theorem dX11_servedIn_66 : decode cX11_servedIn 66 = .ok (.iconst 1, 1) := by decide +kernel
theorem dX11_servedIn_67 : decode cX11_servedIn 67 = .ok (.iload_n 3, 1) := by decide +kernel
theorem dX11_servedIn_68 : decode cX11_servedIn 68 = .ok (.iload_n 2, 1) := by decide +kernel
theorem dX11_servedIn_69 : decode cX11_servedIn 69 = .ok (.iload 4, 2) := by decide +kernel
theorem dX11_servedIn_71 : decode cX11_servedIn 71 = .ok (.invokestatic 428, 3) := by decide +kernel
theorem dX11_servedIn_74 : decode cX11_servedIn 74 = .ok (.invokevirtual 345, 3) := by decide +kernel
theorem dX11_servedIn_77 : decode cX11_servedIn 77 = .ok (.aload_n 0, 1) := by decide +kernel
theorem dX11_servedIn_78 : decode cX11_servedIn 78 = .ok (.invokevirtual 397, 3) := by decide +kernel
theorem dX11_servedIn_81 : decode cX11_servedIn 81 = .ok (.iinc 4 1, 3) := by decide +kernel
theorem dX11_servedIn_84 : decode cX11_servedIn 84 = .ok (.goto (-66), 3) := by decide +kernel
theorem dX11_servedIn_87 : decode cX11_servedIn 87 = .ok (.aload_n 0, 1) := by decide +kernel
theorem dX11_servedIn_88 : decode cX11_servedIn 88 = .ok (.getfield 13, 3) := by decide +kernel
theorem dX11_servedIn_91 : decode cX11_servedIn 91 = .ok (.aload_n 0, 1) := by decide +kernel
theorem dX11_servedIn_92 : decode cX11_servedIn 92 = .ok (.getfield 7, 3) := by decide +kernel
theorem dX11_servedIn_95 : decode cX11_servedIn 95 = .ok (.invokestatic 403, 3) := by decide +kernel
theorem dX11_servedIn_98 : decode cX11_servedIn 98 = .ok (.aload_n 0, 1) := by decide +kernel
theorem dX11_servedIn_99 : decode cX11_servedIn 99 = .ok (.getfield 371, 3) := by decide +kernel
theorem dX11_servedIn_102 : decode cX11_servedIn 102 = .ok (.ireturn, 1) := by decide +kernel
theorem dX11_shade_0 : decode cX11_shade 0 = .ok (.iload_n 1, 1) := by decide +kernel
theorem dX11_shade_1 : decode cX11_shade 1 = .ok (.iload_n 2, 1) := by decide +kernel
theorem dX11_shade_2 : decode cX11_shade 2 = .ok (.invokestatic 161, 3) := by decide +kernel
theorem dX11_shade_5 : decode cX11_shade 5 = .ok (.ifCond .ne 5, 3) := by decide +kernel
theorem dX11_shade_8 : decode cX11_shade 8 = .ok (.iconst (-1), 1) := by decide +kernel
theorem dX11_shade_9 : decode cX11_shade 9 = .ok (.ireturn, 1) := by decide +kernel
theorem dX11_shade_10 : decode cX11_shade 10 = .ok (.aload_n 0, 1) := by decide +kernel
theorem dX11_shade_11 : decode cX11_shade 11 = .ok (.aload_n 0, 1) := by decide +kernel
theorem dX11_shade_12 : decode cX11_shade 12 = .ok (.getfield 7, 3) := by decide +kernel
theorem dX11_shade_15 : decode cX11_shade 15 = .ok (.bipush 37, 2) := by decide +kernel
theorem dX11_shade_17 : decode cX11_shade 17 = .ok (.iaload, 1) := by decide +kernel
theorem dX11_shade_18 : decode cX11_shade 18 = .ok (.iconst 0, 1) := by decide +kernel
theorem dX11_shade_19 : decode cX11_shade 19 = .ok (.invokevirtual 381, 3) := by decide +kernel
theorem dX11_shade_22 : decode cX11_shade 22 = .ok (.aload_n 0, 1) := by decide +kernel
theorem dX11_shade_23 : decode cX11_shade 23 = .ok (.getfield 89, 3) := by decide +kernel
theorem dX11_shade_26 : decode cX11_shade 26 = .ok (.bipush 10, 2) := by decide +kernel
theorem dX11_shade_28 : decode cX11_shade 28 = .ok (.iload_n 2, 1) := by decide +kernel
theorem dX11_shade_29 : decode cX11_shade 29 = .ok (.imul, 1) := by decide +kernel
theorem dX11_shade_30 : decode cX11_shade 30 = .ok (.iload_n 1, 1) := by decide +kernel
theorem dX11_shade_31 : decode cX11_shade 31 = .ok (.iadd, 1) := by decide +kernel
theorem dX11_shade_32 : decode cX11_shade 32 = .ok (.iaload, 1) := by decide +kernel
theorem dX11_shade_33 : decode cX11_shade 33 = .ok (.ireturn, 1) := by decide +kernel
theorem dX11_shadesGo_0 : decode cX11_shadesGo 0 = .ok (.aload_n 0, 1) := by decide +kernel
theorem dX11_shadesGo_1 : decode cX11_shadesGo 1 = .ok (.invokevirtual 375, 3) := by decide +kernel
theorem dX11_shadesGo_4 : decode cX11_shadesGo 4 = .ok (.istore_n 1, 1) := by decide +kernel
theorem dX11_shadesGo_5 : decode cX11_shadesGo 5 = .ok (.aload_n 0, 1) := by decide +kernel
theorem dX11_shadesGo_6 : decode cX11_shadesGo 6 = .ok (.aload_n 0, 1) := by decide +kernel
theorem dX11_shadesGo_7 : decode cX11_shadesGo 7 = .ok (.getfield 7, 3) := by decide +kernel
theorem dX11_shadesGo_10 : decode cX11_shadesGo 10 = .ok (.bipush 37, 2) := by decide +kernel
theorem dX11_shadesGo_12 : decode cX11_shadesGo 12 = .ok (.iaload, 1) := by decide +kernel
theorem dX11_shadesGo_13 : decode cX11_shadesGo 13 = .ok (.invokevirtual 317, 3) := by decide +kernel
theorem dX11_shadesGo_16 : decode cX11_shadesGo 16 = .ok (.iload_n 1, 1) := by decide +kernel
theorem dX11_shadesGo_17 : decode cX11_shadesGo 17 = .ok (.aload_n 0, 1) := by decide +kernel
theorem dX11_shadesGo_18 : decode cX11_shadesGo 18 = .ok (.bipush 99, 2) := by decide +kernel
theorem dX11_shadesGo_20 : decode cX11_shadesGo 20 = .ok (.bipush 10, 2) := by decide +kernel
theorem dX11_shadesGo_22 : decode cX11_shadesGo 22 = .ok (.invokevirtual 320, 3) := by decide +kernel
theorem dX11_shadesGo_25 : decode cX11_shadesGo 25 = .ok (.if_icmp .ge 7, 3) := by decide +kernel
theorem dX11_shadesGo_28 : decode cX11_shadesGo 28 = .ok (.iconst 1, 1) := by decide +kernel
theorem dX11_shadesGo_29 : decode cX11_shadesGo 29 = .ok (.goto 4, 3) := by decide +kernel
theorem dX11_shadesGo_32 : decode cX11_shadesGo 32 = .ok (.iconst 0, 1) := by decide +kernel
theorem dX11_shadesGo_33 : decode cX11_shadesGo 33 = .ok (.istore_n 2, 1) := by decide +kernel
theorem dX11_shadesGo_34 : decode cX11_shadesGo 34 = .ok (.aload_n 0, 1) := by decide +kernel
theorem dX11_shadesGo_35 : decode cX11_shadesGo 35 = .ok (.aload_n 0, 1) := by decide +kernel
theorem dX11_shadesGo_36 : decode cX11_shadesGo 36 = .ok (.getfield 378, 3) := by decide +kernel
theorem dX11_shadesGo_39 : decode cX11_shadesGo 39 = .ok (.iload_n 2, 1) := by decide +kernel
theorem dX11_shadesGo_40 : decode cX11_shadesGo 40 = .ok (.ifCond .eq 7, 3) := by decide +kernel
theorem dX11_shadesGo_43 : decode cX11_shadesGo 43 = .ok (.iconst 1, 1) := by decide +kernel
theorem dX11_shadesGo_44 : decode cX11_shadesGo 44 = .ok (.goto 4, 3) := by decide +kernel
theorem dX11_shadesGo_47 : decode cX11_shadesGo 47 = .ok (.iconst 0, 1) := by decide +kernel
theorem dX11_shadesGo_48 : decode cX11_shadesGo 48 = .ok (.iadd, 1) := by decide +kernel
theorem dX11_shadesGo_49 : decode cX11_shadesGo 49 = .ok (.putfield 378, 3) := by decide +kernel
theorem dX11_shadesGo_52 : decode cX11_shadesGo 52 = .ok (.aload_n 0, 1) := by decide +kernel
theorem dX11_shadesGo_53 : decode cX11_shadesGo 53 = .ok (.aload_n 0, 1) := by decide +kernel
theorem dX11_shadesGo_54 : decode cX11_shadesGo 54 = .ok (.getfield 7, 3) := by decide +kernel
theorem dX11_shadesGo_57 : decode cX11_shadesGo 57 = .ok (.bipush 37, 2) := by decide +kernel
theorem dX11_shadesGo_59 : decode cX11_shadesGo 59 = .ok (.iaload, 1) := by decide +kernel
theorem dX11_shadesGo_60 : decode cX11_shadesGo 60 = .ok (.iload_n 2, 1) := by decide +kernel
theorem dX11_shadesGo_61 : decode cX11_shadesGo 61 = .ok (.invokevirtual 381, 3) := by decide +kernel
theorem dX11_shadesGo_64 : decode cX11_shadesGo 64 = .ok (.aload_n 0, 1) := by decide +kernel
theorem dX11_shadesGo_65 : decode cX11_shadesGo 65 = .ok (.aload_n 0, 1) := by decide +kernel
theorem dX11_shadesGo_66 : decode cX11_shadesGo 66 = .ok (.getfield 7, 3) := by decide +kernel
theorem dX11_shadesGo_69 : decode cX11_shadesGo 69 = .ok (.bipush 37, 2) := by decide +kernel
theorem dX11_shadesGo_71 : decode cX11_shadesGo 71 = .ok (.iaload, 1) := by decide +kernel
theorem dX11_shadesGo_72 : decode cX11_shadesGo 72 = .ok (.invokevirtual 339, 3) := by decide +kernel
theorem dX11_shadesGo_75 : decode cX11_shadesGo 75 = .ok (.istore_n 3, 1) := by decide +kernel
theorem dX11_shadesGo_76 : decode cX11_shadesGo 76 = .ok (.iconst 0, 1) := by decide +kernel
theorem dX11_shadesGo_77 : decode cX11_shadesGo 77 = .ok (.istore 4, 2) := by decide +kernel
theorem dX11_shadesGo_79 : decode cX11_shadesGo 79 = .ok (.iload 4, 2) := by decide +kernel
theorem dX11_shadesGo_81 : decode cX11_shadesGo 81 = .ok (.bipush 100, 2) := by decide +kernel
theorem dX11_shadesGo_83 : decode cX11_shadesGo 83 = .ok (.if_icmp .ge 17, 3) := by decide +kernel
theorem dX11_shadesGo_86 : decode cX11_shadesGo 86 = .ok (.aload_n 0, 1) := by decide +kernel
theorem dX11_shadesGo_87 : decode cX11_shadesGo 87 = .ok (.getfield 101, 3) := by decide +kernel
theorem dX11_shadesGo_90 : decode cX11_shadesGo 90 = .ok (.iload 4, 2) := by decide +kernel
theorem dX11_shadesGo_92 : decode cX11_shadesGo 92 = .ok (.iconst 0, 1) := by decide +kernel
theorem dX11_shadesGo_93 : decode cX11_shadesGo 93 = .ok (.bastore, 1) := by decide +kernel
theorem dX11_shadesGo_94 : decode cX11_shadesGo 94 = .ok (.iinc 4 1, 3) := by decide +kernel
theorem dX11_shadesGo_97 : decode cX11_shadesGo 97 = .ok (.goto (-18), 3) := by decide +kernel
theorem dX11_shadesGo_100 : decode cX11_shadesGo 100 = .ok (.aload_n 0, 1) := by decide +kernel
theorem dX11_shadesGo_101 : decode cX11_shadesGo 101 = .ok (.invokevirtual 385, 3) := by decide +kernel
theorem dX11_shadesGo_104 : decode cX11_shadesGo 104 = .ok (.istore 4, 2) := by decide +kernel
theorem dX11_shadesGo_106 : decode cX11_shadesGo 106 = .ok (.iconst 0, 1) := by decide +kernel
theorem dX11_shadesGo_107 : decode cX11_shadesGo 107 = .ok (.istore 5, 2) := by decide +kernel
theorem dX11_shadesGo_109 : decode cX11_shadesGo 109 = .ok (.iload 5, 2) := by decide +kernel
theorem dX11_shadesGo_111 : decode cX11_shadesGo 111 = .ok (.iload 4, 2) := by decide +kernel
theorem dX11_shadesGo_113 : decode cX11_shadesGo 113 = .ok (.if_icmp .ge 21, 3) := by decide +kernel
theorem dX11_shadesGo_116 : decode cX11_shadesGo 116 = .ok (.aload_n 0, 1) := by decide +kernel
theorem dX11_shadesGo_117 : decode cX11_shadesGo 117 = .ok (.aload_n 0, 1) := by decide +kernel
theorem dX11_shadesGo_118 : decode cX11_shadesGo 118 = .ok (.getfield 95, 3) := by decide +kernel
theorem dX11_shadesGo_121 : decode cX11_shadesGo 121 = .ok (.iload 5, 2) := by decide +kernel
theorem dX11_shadesGo_123 : decode cX11_shadesGo 123 = .ok (.iaload, 1) := by decide +kernel
theorem dX11_shadesGo_124 : decode cX11_shadesGo 124 = .ok (.iload_n 3, 1) := by decide +kernel
theorem dX11_shadesGo_125 : decode cX11_shadesGo 125 = .ok (.invokevirtual 388, 3) := by decide +kernel
theorem dX11_shadesGo_128 : decode cX11_shadesGo 128 = .ok (.iinc 5 1, 3) := by decide +kernel
theorem dX11_shadesGo_131 : decode cX11_shadesGo 131 = .ok (.goto (-22), 3) := by decide +kernel
theorem dX11_shadesGo_134 : decode cX11_shadesGo 134 = .ok (.aload_n 0, 1) := by decide +kernel
theorem dX11_shadesGo_135 : decode cX11_shadesGo 135 = .ok (.getfield 7, 3) := by decide +kernel
theorem dX11_shadesGo_138 : decode cX11_shadesGo 138 = .ok (.bipush 37, 2) := by decide +kernel
theorem dX11_shadesGo_140 : decode cX11_shadesGo 140 = .ok (.aload_n 0, 1) := by decide +kernel
theorem dX11_shadesGo_141 : decode cX11_shadesGo 141 = .ok (.getfield 7, 3) := by decide +kernel
theorem dX11_shadesGo_144 : decode cX11_shadesGo 144 = .ok (.bipush 37, 2) := by decide +kernel
theorem dX11_shadesGo_146 : decode cX11_shadesGo 146 = .ok (.iaload, 1) := by decide +kernel
theorem dX11_shadesGo_147 : decode cX11_shadesGo 147 = .ok (.iconst 1, 1) := by decide +kernel
theorem dX11_shadesGo_148 : decode cX11_shadesGo 148 = .ok (.iadd, 1) := by decide +kernel
theorem dX11_shadesGo_149 : decode cX11_shadesGo 149 = .ok (.iastore, 1) := by decide +kernel
theorem dX11_shadesGo_150 : decode cX11_shadesGo 150 = .ok (.return_, 1) := by decide +kernel
theorem dX11_stepIn_0 : decode cX11_stepIn 0 = .ok (.iload_n 0, 1) := by decide +kernel
theorem dX11_stepIn_1 : decode cX11_stepIn 1 = .ok (.istore_n 3, 1) := by decide +kernel
theorem dX11_stepIn_2 : decode cX11_stepIn 2 = .ok (.iload_n 1, 1) := by decide +kernel
theorem dX11_stepIn_3 : decode cX11_stepIn 3 = .ok (.iconst 1, 1) := by decide +kernel
theorem dX11_stepIn_4 : decode cX11_stepIn 4 = .ok (.isub, 1) := by decide +kernel
theorem dX11_stepIn_5 : decode cX11_stepIn 5 = .ok (.istore 4, 2) := by decide +kernel
theorem dX11_stepIn_7 : decode cX11_stepIn 7 = .ok (.iload 4, 2) := by decide +kernel
theorem dX11_stepIn_9 : decode cX11_stepIn 9 = .ok (.iload_n 2, 1) := by decide +kernel
theorem dX11_stepIn_10 : decode cX11_stepIn 10 = .ok (.if_icmp .le 13, 3) := by decide +kernel
theorem dX11_stepIn_13 : decode cX11_stepIn 13 = .ok (.iload_n 3, 1) := by decide +kernel
theorem dX11_stepIn_14 : decode cX11_stepIn 14 = .ok (.iconst 5, 1) := by decide +kernel
theorem dX11_stepIn_15 : decode cX11_stepIn 15 = .ok (.idiv, 1) := by decide +kernel
theorem dX11_stepIn_16 : decode cX11_stepIn 16 = .ok (.istore_n 3, 1) := by decide +kernel
theorem dX11_stepIn_17 : decode cX11_stepIn 17 = .ok (.iinc 4 (-1), 3) := by decide +kernel
theorem dX11_stepIn_20 : decode cX11_stepIn 20 = .ok (.goto (-13), 3) := by decide +kernel
theorem dX11_stepIn_23 : decode cX11_stepIn 23 = .ok (.iconst 2, 1) := by decide +kernel
theorem dX11_stepIn_24 : decode cX11_stepIn 24 = .ok (.iload_n 3, 1) := by decide +kernel
theorem dX11_stepIn_25 : decode cX11_stepIn 25 = .ok (.iconst 5, 1) := by decide +kernel
theorem dX11_stepIn_26 : decode cX11_stepIn 26 = .ok (.irem, 1) := by decide +kernel
theorem dX11_stepIn_27 : decode cX11_stepIn 27 = .ok (.imul, 1) := by decide +kernel
theorem dX11_stepIn_28 : decode cX11_stepIn 28 = .ok (.ireturn, 1) := by decide +kernel
theorem dX11_tried_0 : decode cX11_tried 0 = .ok (.iload_n 2, 1) := by decide +kernel
theorem dX11_tried_1 : decode cX11_tried 1 = .ok (.iconst 0, 1) := by decide +kernel
theorem dX11_tried_2 : decode cX11_tried 2 = .ok (.iconst 5, 1) := by decide +kernel
theorem dX11_tried_3 : decode cX11_tried 3 = .ok (.invokestatic 150, 3) := by decide +kernel
theorem dX11_tried_6 : decode cX11_tried 6 = .ok (.ifCond .ne 47, 3) := by decide +kernel
theorem dX11_tried_9 : decode cX11_tried 9 = .ok (.iload_n 2, 1) := by decide +kernel
theorem dX11_tried_10 : decode cX11_tried 10 = .ok (.bipush 10, 2) := by decide +kernel
theorem dX11_tried_12 : decode cX11_tried 12 = .ok (.bipush 29, 2) := by decide +kernel
theorem dX11_tried_14 : decode cX11_tried 14 = .ok (.invokestatic 150, 3) := by decide +kernel
theorem dX11_tried_17 : decode cX11_tried 17 = .ok (.ifCond .eq 14, 3) := by decide +kernel
theorem dX11_tried_20 : decode cX11_tried 20 = .ok (.aload_n 0, 1) := by decide +kernel
theorem dX11_tried_21 : decode cX11_tried 21 = .ok (.iload_n 2, 1) := by decide +kernel
theorem dX11_tried_22 : decode cX11_tried 22 = .ok (.bipush 10, 2) := by decide +kernel
theorem dX11_tried_24 : decode cX11_tried 24 = .ok (.irem, 1) := by decide +kernel
theorem dX11_tried_25 : decode cX11_tried 25 = .ok (.invokevirtual 146, 3) := by decide +kernel
theorem dX11_tried_28 : decode cX11_tried 28 = .ok (.ifCond .ne 25, 3) := by decide +kernel
theorem dX11_tried_31 : decode cX11_tried 31 = .ok (.iload_n 2, 1) := by decide +kernel
theorem dX11_tried_32 : decode cX11_tried 32 = .ok (.bipush 30, 2) := by decide +kernel
theorem dX11_tried_34 : decode cX11_tried 34 = .ok (.bipush 31, 2) := by decide +kernel
theorem dX11_tried_36 : decode cX11_tried 36 = .ok (.invokestatic 150, 3) := by decide +kernel
theorem dX11_tried_39 : decode cX11_tried 39 = .ok (.ifCond .eq 18, 3) := by decide +kernel
theorem dX11_tried_42 : decode cX11_tried 42 = .ok (.aload_n 0, 1) := by decide +kernel
theorem dX11_tried_43 : decode cX11_tried 43 = .ok (.iload_n 2, 1) := by decide +kernel
theorem dX11_tried_44 : decode cX11_tried 44 = .ok (.bipush 30, 2) := by decide +kernel
theorem dX11_tried_46 : decode cX11_tried 46 = .ok (.isub, 1) := by decide +kernel
theorem dX11_tried_47 : decode cX11_tried 47 = .ok (.invokevirtual 260, 3) := by decide +kernel
theorem dX11_tried_50 : decode cX11_tried 50 = .ok (.ifCond .eq 7, 3) := by decide +kernel
theorem dX11_tried_53 : decode cX11_tried 53 = .ok (.iconst 1, 1) := by decide +kernel
theorem dX11_tried_54 : decode cX11_tried 54 = .ok (.goto 4, 3) := by decide +kernel
theorem dX11_tried_57 : decode cX11_tried 57 = .ok (.iconst 0, 1) := by decide +kernel
theorem dX11_tried_58 : decode cX11_tried 58 = .ok (.istore_n 3, 1) := by decide +kernel
theorem dX11_tried_59 : decode cX11_tried 59 = .ok (.iload_n 1, 1) := by decide +kernel
theorem dX11_tried_60 : decode cX11_tried 60 = .ok (.iconst 1, 1) := by decide +kernel
theorem dX11_tried_61 : decode cX11_tried 61 = .ok (.bipush 120, 2) := by decide +kernel
theorem dX11_tried_63 : decode cX11_tried 63 = .ok (.invokestatic 150, 3) := by decide +kernel
theorem dX11_tried_66 : decode cX11_tried 66 = .ok (.ifCond .eq 7, 3) := by decide +kernel
theorem dX11_tried_69 : decode cX11_tried 69 = .ok (.iload_n 3, 1) := by decide +kernel
theorem dX11_tried_70 : decode cX11_tried 70 = .ok (.ifCond .ne 5, 3) := by decide +kernel
theorem dX11_tried_73 : decode cX11_tried 73 = .ok (.iconst (-1), 1) := by decide +kernel
theorem dX11_tried_74 : decode cX11_tried 74 = .ok (.ireturn, 1) := by decide +kernel
theorem dX11_tried_75 : decode cX11_tried 75 = .ok (.aload_n 0, 1) := by decide +kernel
theorem dX11_tried_76 : decode cX11_tried 76 = .ok (.getfield 7, 3) := by decide +kernel
theorem dX11_tried_79 : decode cX11_tried 79 = .ok (.aload_n 0, 1) := by decide +kernel
theorem dX11_tried_80 : decode cX11_tried 80 = .ok (.getfield 13, 3) := by decide +kernel
theorem dX11_tried_83 : decode cX11_tried 83 = .ok (.invokestatic 403, 3) := by decide +kernel
theorem dX11_tried_86 : decode cX11_tried 86 = .ok (.aload_n 0, 1) := by decide +kernel
theorem dX11_tried_87 : decode cX11_tried 87 = .ok (.iload_n 1, 1) := by decide +kernel
theorem dX11_tried_88 : decode cX11_tried 88 = .ok (.invokevirtual 400, 3) := by decide +kernel
theorem dX11_tried_91 : decode cX11_tried 91 = .ok (.iload_n 2, 1) := by decide +kernel
theorem dX11_tried_92 : decode cX11_tried 92 = .ok (.tableswitch 108 0 5 #[40, 49, 58, 81, 90, 99], 40) := by decide +kernel
theorem dX11_tried_132 : decode cX11_tried 132 = .ok (.aload_n 0, 1) := by decide +kernel
theorem dX11_tried_133 : decode cX11_tried 133 = .ok (.getfield 371, 3) := by decide +kernel
theorem dX11_tried_136 : decode cX11_tried 136 = .ok (.istore 4, 2) := by decide +kernel
theorem dX11_tried_138 : decode cX11_tried 138 = .ok (.goto 116, 3) := by decide +kernel
theorem dX11_tried_141 : decode cX11_tried 141 = .ok (.aload_n 0, 1) := by decide +kernel
theorem dX11_tried_142 : decode cX11_tried 142 = .ok (.getfield 365, 3) := by decide +kernel
theorem dX11_tried_145 : decode cX11_tried 145 = .ok (.istore 4, 2) := by decide +kernel
theorem dX11_tried_147 : decode cX11_tried 147 = .ok (.goto 107, 3) := by decide +kernel
theorem dX11_tried_150 : decode cX11_tried 150 = .ok (.aload_n 0, 1) := by decide +kernel
theorem dX11_tried_151 : decode cX11_tried 151 = .ok (.getfield 7, 3) := by decide +kernel
theorem dX11_tried_154 : decode cX11_tried 154 = .ok (.bipush 36, 2) := by decide +kernel
theorem dX11_tried_156 : decode cX11_tried 156 = .ok (.iaload, 1) := by decide +kernel
theorem dX11_tried_157 : decode cX11_tried 157 = .ok (.aload_n 0, 1) := by decide +kernel
theorem dX11_tried_158 : decode cX11_tried 158 = .ok (.getfield 7, 3) := by decide +kernel
theorem dX11_tried_161 : decode cX11_tried 161 = .ok (.bipush 35, 2) := by decide +kernel
theorem dX11_tried_163 : decode cX11_tried 163 = .ok (.iaload, 1) := by decide +kernel
theorem dX11_tried_164 : decode cX11_tried 164 = .ok (.iand, 1) := by decide +kernel
theorem dX11_tried_165 : decode cX11_tried 165 = .ok (.invokestatic 407, 3) := by decide +kernel
theorem dX11_tried_168 : decode cX11_tried 168 = .ok (.istore 4, 2) := by decide +kernel
theorem dX11_tried_170 : decode cX11_tried 170 = .ok (.goto 84, 3) := by decide +kernel
theorem dX11_tried_173 : decode cX11_tried 173 = .ok (.aload_n 0, 1) := by decide +kernel
theorem dX11_tried_174 : decode cX11_tried 174 = .ok (.getfield 378, 3) := by decide +kernel
theorem dX11_tried_177 : decode cX11_tried 177 = .ok (.istore 4, 2) := by decide +kernel
theorem dX11_tried_179 : decode cX11_tried 179 = .ok (.goto 75, 3) := by decide +kernel
theorem dX11_tried_182 : decode cX11_tried 182 = .ok (.aload_n 0, 1) := by decide +kernel
theorem dX11_tried_183 : decode cX11_tried 183 = .ok (.getfield 368, 3) := by decide +kernel
theorem dX11_tried_186 : decode cX11_tried 186 = .ok (.istore 4, 2) := by decide +kernel
theorem dX11_tried_188 : decode cX11_tried 188 = .ok (.goto 66, 3) := by decide +kernel
theorem dX11_tried_191 : decode cX11_tried 191 = .ok (.aload_n 0, 1) := by decide +kernel
theorem dX11_tried_192 : decode cX11_tried 192 = .ok (.invokevirtual 410, 3) := by decide +kernel
theorem dX11_tried_195 : decode cX11_tried 195 = .ok (.istore 4, 2) := by decide +kernel
theorem dX11_tried_197 : decode cX11_tried 197 = .ok (.goto 57, 3) := by decide +kernel
theorem dX11_tried_200 : decode cX11_tried 200 = .ok (.iload_n 2, 1) := by decide +kernel
theorem dX11_tried_201 : decode cX11_tried 201 = .ok (.bipush 20, 2) := by decide +kernel
theorem dX11_tried_203 : decode cX11_tried 203 = .ok (.if_icmp .ge 17, 3) := by decide +kernel
theorem dX11_tried_206 : decode cX11_tried 206 = .ok (.aload_n 0, 1) := by decide +kernel
theorem dX11_tried_207 : decode cX11_tried 207 = .ok (.getfield 7, 3) := by decide +kernel
theorem dX11_tried_210 : decode cX11_tried 210 = .ok (.iconst 4, 1) := by decide +kernel
theorem dX11_tried_211 : decode cX11_tried 211 = .ok (.iload_n 2, 1) := by decide +kernel
theorem dX11_tried_212 : decode cX11_tried 212 = .ok (.iadd, 1) := by decide +kernel
theorem dX11_tried_213 : decode cX11_tried 213 = .ok (.bipush 10, 2) := by decide +kernel
theorem dX11_tried_215 : decode cX11_tried 215 = .ok (.isub, 1) := by decide +kernel
theorem dX11_tried_216 : decode cX11_tried 216 = .ok (.iaload, 1) := by decide +kernel
theorem dX11_tried_217 : decode cX11_tried 217 = .ok (.goto 35, 3) := by decide +kernel
theorem dX11_tried_220 : decode cX11_tried 220 = .ok (.iload_n 2, 1) := by decide +kernel
theorem dX11_tried_221 : decode cX11_tried 221 = .ok (.bipush 30, 2) := by decide +kernel
theorem dX11_tried_223 : decode cX11_tried 223 = .ok (.if_icmp .ge 18, 3) := by decide +kernel
theorem dX11_tried_226 : decode cX11_tried 226 = .ok (.aload_n 0, 1) := by decide +kernel
theorem dX11_tried_227 : decode cX11_tried 227 = .ok (.getfield 7, 3) := by decide +kernel
theorem dX11_tried_230 : decode cX11_tried 230 = .ok (.bipush 14, 2) := by decide +kernel
theorem dX11_tried_232 : decode cX11_tried 232 = .ok (.iload_n 2, 1) := by decide +kernel
theorem dX11_tried_233 : decode cX11_tried 233 = .ok (.iadd, 1) := by decide +kernel
theorem dX11_tried_234 : decode cX11_tried 234 = .ok (.bipush 20, 2) := by decide +kernel
theorem dX11_tried_236 : decode cX11_tried 236 = .ok (.isub, 1) := by decide +kernel
theorem dX11_tried_237 : decode cX11_tried 237 = .ok (.iaload, 1) := by decide +kernel
theorem dX11_tried_238 : decode cX11_tried 238 = .ok (.goto 14, 3) := by decide +kernel
theorem dX11_tried_241 : decode cX11_tried 241 = .ok (.aload_n 0, 1) := by decide +kernel
theorem dX11_tried_242 : decode cX11_tried 242 = .ok (.getfield 7, 3) := by decide +kernel
theorem dX11_tried_245 : decode cX11_tried 245 = .ok (.iconst 0, 1) := by decide +kernel
theorem dX11_tried_246 : decode cX11_tried 246 = .ok (.iload_n 2, 1) := by decide +kernel
theorem dX11_tried_247 : decode cX11_tried 247 = .ok (.iadd, 1) := by decide +kernel
theorem dX11_tried_248 : decode cX11_tried 248 = .ok (.bipush 30, 2) := by decide +kernel
theorem dX11_tried_250 : decode cX11_tried 250 = .ok (.isub, 1) := by decide +kernel
theorem dX11_tried_251 : decode cX11_tried 251 = .ok (.iaload, 1) := by decide +kernel
theorem dX11_tried_252 : decode cX11_tried 252 = .ok (.istore 4, 2) := by decide +kernel
theorem dX11_tried_254 : decode cX11_tried 254 = .ok (.aload_n 0, 1) := by decide +kernel
theorem dX11_tried_255 : decode cX11_tried 255 = .ok (.getfield 13, 3) := by decide +kernel
theorem dX11_tried_258 : decode cX11_tried 258 = .ok (.aload_n 0, 1) := by decide +kernel
theorem dX11_tried_259 : decode cX11_tried 259 = .ok (.getfield 7, 3) := by decide +kernel
theorem dX11_tried_262 : decode cX11_tried 262 = .ok (.invokestatic 403, 3) := by decide +kernel
theorem dX11_tried_265 : decode cX11_tried 265 = .ok (.iload 4, 2) := by decide +kernel
theorem dX11_tried_267 : decode cX11_tried 267 = .ok (.ireturn, 1) := by decide +kernel
theorem dX11_undo_0 : decode cX11_undo 0 = .ok (.aload_n 0, 1) := by decide +kernel
theorem dX11_undo_1 : decode cX11_undo 1 = .ok (.getfield 266, 3) := by decide +kernel
theorem dX11_undo_4 : decode cX11_undo 4 = .ok (.ifCond .ne 5, 3) := by decide +kernel
theorem dX11_undo_7 : decode cX11_undo 7 = .ok (.iconst 0, 1) := by decide +kernel
theorem dX11_undo_8 : decode cX11_undo 8 = .ok (.ireturn, 1) := by decide +kernel
theorem dX11_undo_9 : decode cX11_undo 9 = .ok (.aload_n 0, 1) := by decide +kernel
theorem dX11_undo_10 : decode cX11_undo 10 = .ok (.getfield 16, 3) := by decide +kernel
theorem dX11_undo_13 : decode cX11_undo 13 = .ok (.aload_n 0, 1) := by decide +kernel
theorem dX11_undo_14 : decode cX11_undo 14 = .ok (.getfield 7, 3) := by decide +kernel
theorem dX11_undo_17 : decode cX11_undo 17 = .ok (.invokestatic 403, 3) := by decide +kernel
theorem dX11_undo_20 : decode cX11_undo 20 = .ok (.aload_n 0, 1) := by decide +kernel
theorem dX11_undo_21 : decode cX11_undo 21 = .ok (.getfield 129, 3) := by decide +kernel
theorem dX11_undo_24 : decode cX11_undo 24 = .ok (.aload_n 0, 1) := by decide +kernel
theorem dX11_undo_25 : decode cX11_undo 25 = .ok (.getfield 132, 3) := by decide +kernel
theorem dX11_undo_28 : decode cX11_undo 28 = .ok (.aload_n 0, 1) := by decide +kernel
theorem dX11_undo_29 : decode cX11_undo 29 = .ok (.getfield 25, 3) := by decide +kernel
theorem dX11_undo_32 : decode cX11_undo 32 = .ok (.aload_n 0, 1) := by decide +kernel
theorem dX11_undo_33 : decode cX11_undo 33 = .ok (.getfield 28, 3) := by decide +kernel
theorem dX11_undo_36 : decode cX11_undo 36 = .ok (.invokestatic 453, 3) := by decide +kernel
theorem dX11_undo_39 : decode cX11_undo 39 = .ok (.iconst 1, 1) := by decide +kernel
theorem dX11_undo_40 : decode cX11_undo 40 = .ok (.ireturn, 1) := by decide +kernel


