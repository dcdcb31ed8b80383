theorem st_X11_48 (h0 : Nat) (σ : xS) (k : Nat) (a : Int) : xobj h0 (xU σ k 48 a) k 11 = (xobj h0 σ k 11).set 48 (.int (xJ a)) := by simp [xobj, xU]
theorem ln_X11_48 (h0 : Nat) (σ : xS) (k : Nat) : 48 < (xobj h0 σ k 11).length := by simp [xobj]
theorem st_X11_58 (h0 : Nat) (σ : xS) (k : Nat) (a : Int) : xobj h0 (xU σ k 58 a) k 11 = (xobj h0 σ k 11).set 58 (.int (xJ a)) := by simp [xobj, xU]
theorem ln_X11_58 (h0 : Nat) (σ : xS) (k : Nat) : 58 < (xobj h0 σ k 11).length := by simp [xobj]
theorem cf_X11_begins : xCF yX11_begins cX11_begins 1 none 0 := ⟨xq 1544 (by decide +kernel) rfl, xq 179 (by decide +kernel) rfl, by decide +kernel⟩
theorem cf_X11_bits : xCF yX11_bits cX11_bits 3 (some .int) 1 := ⟨xq 1651 (by decide +kernel) rfl, xq 179 (by decide +kernel) rfl, by decide +kernel⟩
theorem cf_X11_copies : xCF yX11_copies cX11_copies 3 none 2 := ⟨xq 1648 (by decide +kernel) rfl, xq 179 (by decide +kernel) rfl, by decide +kernel⟩
theorem cf_X11_copiesWalks : xCF yX11_copiesWalks cX11_copiesWalks 5 none 4 := ⟨xq 1765 (by decide +kernel) rfl, xq 179 (by decide +kernel) rfl, by decide +kernel⟩
theorem cf_X11_draws : xCF yX11_draws cX11_draws 1 (some .int) 0 := ⟨xq 1569 (by decide +kernel) rfl, xq 179 (by decide +kernel) rfl, by decide +kernel⟩
theorem cf_X11_freeMany : xCF yX11_freeMany cX11_freeMany 3 (some .int) 0 := ⟨xq 1655 (by decide +kernel) rfl, xq 179 (by decide +kernel) rfl, by decide +kernel⟩
theorem cf_X11_goesFew : xCF yX11_goesFew cX11_goesFew 7 none 1 := ⟨xq 1690 (by decide +kernel) rfl, xq 179 (by decide +kernel) rfl, by decide +kernel⟩
theorem cf_X11_isFree : xCF yX11_isFree cX11_isFree 3 (some .boolean) 1 := ⟨xq 1709 (by decide +kernel) rfl, xq 179 (by decide +kernel) rfl, by decide +kernel⟩
theorem cf_X11_lampSet : xCF yX11_lampSet cX11_lampSet 3 (some .int) 0 := ⟨xq 1785 (by decide +kernel) rfl, xq 179 (by decide +kernel) rfl, by decide +kernel⟩
theorem cf_X11_laysDark : xCF yX11_laysDark cX11_laysDark 4 none 1 := ⟨xq 1725 (by decide +kernel) rfl, xq 179 (by decide +kernel) rfl, by decide +kernel⟩
theorem cf_X11_laysOrder : xCF yX11_laysOrder cX11_laysOrder 4 (some .int) 0 := ⟨xq 1617 (by decide +kernel) rfl, xq 179 (by decide +kernel) rfl, by decide +kernel⟩
theorem cf_X11_laysReach : xCF yX11_laysReach cX11_laysReach 3 none 0 := ⟨xq 1675 (by decide +kernel) rfl, xq 179 (by decide +kernel) rfl, by decide +kernel⟩
theorem cf_X11_laysShades : xCF yX11_laysShades cX11_laysShades 4 none 2 := ⟨xq 1589 (by decide +kernel) rfl, xq 179 (by decide +kernel) rfl, by decide +kernel⟩
theorem cf_X11_laysSteps : xCF yX11_laysSteps cX11_laysSteps 3 none 0 := ⟨xq 1686 (by decide +kernel) rfl, xq 179 (by decide +kernel) rfl, by decide +kernel⟩
theorem cf_X11_max : xCF yX11_max cX11_max 2 (some .int) 2 := ⟨xq 1678 (by decide +kernel) rfl, xq 179 (by decide +kernel) rfl, by decide +kernel⟩
theorem cf_X11_minutesGo : xCF yX11_minutesGo cX11_minutesGo 3 none 1 := ⟨xq 1540 (by decide +kernel) rfl, xq 179 (by decide +kernel) rfl, by decide +kernel⟩
theorem cf_X11_mostAtOnce : xCF yX11_mostAtOnce cX11_mostAtOnce 4 (some .int) 0 := ⟨xq 1671 (by decide +kernel) rfl, xq 179 (by decide +kernel) rfl, by decide +kernel⟩
theorem cf_X11_owedAll : xCF yX11_owedAll cX11_owedAll 3 (some .int) 0 := ⟨xq 1789 (by decide +kernel) rfl, xq 179 (by decide +kernel) rfl, by decide +kernel⟩
theorem cf_X11_servedFirst : xCF yX11_servedFirst cX11_servedFirst 3 (some .int) 2 := ⟨xq 1717 (by decide +kernel) rfl, xq 179 (by decide +kernel) rfl, by decide +kernel⟩
theorem cf_X11_servedIn : xCF yX11_servedIn cX11_servedIn 5 (some .int) 3 := ⟨xq 1698 (by decide +kernel) rfl, xq 179 (by decide +kernel) rfl, by decide +kernel⟩
theorem cf_X11_servesOf : xCF yX11_servesOf cX11_servesOf 5 none 2 := ⟨xq 1630 (by decide +kernel) rfl, xq 179 (by decide +kernel) rfl, by decide +kernel⟩
theorem cf_X11_shadesGo : xCF yX11_shadesGo cX11_shadesGo 6 none 0 := ⟨xq 1565 (by decide +kernel) rfl, xq 179 (by decide +kernel) rfl, by decide +kernel⟩
theorem cf_X11_stepIn : xCF yX11_stepIn cX11_stepIn 5 (some .int) 3 := ⟨xq 1701 (by decide +kernel) rfl, xq 179 (by decide +kernel) rfl, by decide +kernel⟩
theorem cf_X11_walksOn : xCF yX11_walksOn cX11_walksOn 3 none 1 := ⟨xq 1548 (by decide +kernel) rfl, xq 179 (by decide +kernel) rfl, by decide +kernel⟩
theorem wq130 : Cond.selects yX11_minutesGo.cls yX11_minutesGo yX11_minutesGo ∈ xTB := xq 130 (by decide +kernel) rfl
theorem wq131 : Cond.selects yX11_begins.cls yX11_begins yX11_begins ∈ xTB := xq 131 (by decide +kernel) rfl
theorem wq132 : Cond.selects yX11_walksOn.cls yX11_walksOn yX11_walksOn ∈ xTB := xq 132 (by decide +kernel) rfl
theorem wq134 : Cond.selects yX11_shadesGo.cls yX11_shadesGo yX11_shadesGo ∈ xTB := xq 134 (by decide +kernel) rfl
theorem wq135 : Cond.selects yX11_draws.cls yX11_draws yX11_draws ∈ xTB := xq 135 (by decide +kernel) rfl
theorem wq139 : Cond.selects yX11_laysShades.cls yX11_laysShades yX11_laysShades ∈ xTB := xq 139 (by decide +kernel) rfl
theorem wq146 : Cond.selects yX11_laysOrder.cls yX11_laysOrder yX11_laysOrder ∈ xTB := xq 146 (by decide +kernel) rfl
theorem wq149 : Cond.selects yX11_servesOf.cls yX11_servesOf yX11_servesOf ∈ xTB := xq 149 (by decide +kernel) rfl
theorem wq152 : Cond.selects yX11_freeMany.cls yX11_freeMany yX11_freeMany ∈ xTB := xq 152 (by decide +kernel) rfl
theorem wq153 : Cond.selects yX11_mostAtOnce.cls yX11_mostAtOnce yX11_mostAtOnce ∈ xTB := xq 153 (by decide +kernel) rfl
theorem wq154 : Cond.selects yX11_laysReach.cls yX11_laysReach yX11_laysReach ∈ xTB := xq 154 (by decide +kernel) rfl
theorem wq155 : Cond.selects yX11_laysSteps.cls yX11_laysSteps yX11_laysSteps ∈ xTB := xq 155 (by decide +kernel) rfl
theorem wq156 : Cond.selects yX11_goesFew.cls yX11_goesFew yX11_goesFew ∈ xTB := xq 156 (by decide +kernel) rfl
theorem wq157 : Cond.selects yX11_servedIn.cls yX11_servedIn yX11_servedIn ∈ xTB := xq 157 (by decide +kernel) rfl
theorem wq158 : Cond.selects yX11_isFree.cls yX11_isFree yX11_isFree ∈ xTB := xq 158 (by decide +kernel) rfl
theorem wq159 : Cond.selects yX11_servedFirst.cls yX11_servedFirst yX11_servedFirst ∈ xTB := xq 159 (by decide +kernel) rfl
theorem wq160 : Cond.selects yX11_laysDark.cls yX11_laysDark yX11_laysDark ∈ xTB := xq 160 (by decide +kernel) rfl
theorem wq165 : Cond.selects yX11_lampSet.cls yX11_lampSet yX11_lampSet ∈ xTB := xq 165 (by decide +kernel) rfl
theorem wq166 : Cond.selects yX11_owedAll.cls yX11_owedAll yX11_owedAll ∈ xTB := xq 166 (by decide +kernel) rfl
theorem wq1186 : Cond.fieldLink "ShadowCourtModel" (13) "ShadowCourtModel" "aside" "[I" ∈ xTB := xq 1186 (by decide +kernel) rfl
theorem wq1187 : Cond.fieldLink "ShadowCourtModel" (16) "ShadowCourtModel" "kept" "[I" ∈ xTB := xq 1187 (by decide +kernel) rfl
theorem wq1235 : Cond.fieldLink "ShadowCourtModel" (105) "ShadowCourtModel" "canStand" "[Z" ∈ xTB := xq 1235 (by decide +kernel) rfl
theorem wq1236 : Cond.fieldLink "ShadowCourtModel" (108) "ShadowCourtModel" "reachOf" "[I" ∈ xTB := xq 1236 (by decide +kernel) rfl
theorem wq1237 : Cond.fieldLink "ShadowCourtModel" (111) "ShadowCourtModel" "fewOf" "[I" ∈ xTB := xq 1237 (by decide +kernel) rfl
theorem wq1238 : Cond.fieldLink "ShadowCourtModel" (114) "ShadowCourtModel" "fewThen" "[I" ∈ xTB := xq 1238 (by decide +kernel) rfl
theorem wq1239 : Cond.fieldLink "ShadowCourtModel" (117) "ShadowCourtModel" "stepsFrom" "[I" ∈ xTB := xq 1239 (by decide +kernel) rfl
theorem wq1240 : Cond.fieldLink "ShadowCourtModel" (120) "ShadowCourtModel" "darkOf" "[I" ∈ xTB := xq 1240 (by decide +kernel) rfl
theorem wq1243 : Cond.fieldLink "ShadowCourtModel" (266) "ShadowCourtModel" "isKept" "Z" ∈ xTB := xq 1243 (by decide +kernel) rfl
theorem wq1244 : Cond.fieldLink "ShadowCourtModel" (129) "ShadowCourtModel" "keptMany" "[I" ∈ xTB := xq 1244 (by decide +kernel) rfl
theorem wq1245 : Cond.fieldLink "ShadowCourtModel" (132) "ShadowCourtModel" "keptStep" "[B" ∈ xTB := xq 1245 (by decide +kernel) rfl
theorem wq1537 : Cond.methodLink "ShadowCourtModel" (400) yX11_minutesGo ∈ xTB := xq 1537 (by decide +kernel) rfl
theorem wq1539 : Cond.instanceMethod yX11_minutesGo ∈ xTB := xq 1539 (by decide +kernel) rfl
theorem wq1541 : Cond.methodLink "ShadowCourtModel" (391) yX11_begins ∈ xTB := xq 1541 (by decide +kernel) rfl
theorem wq1543 : Cond.instanceMethod yX11_begins ∈ xTB := xq 1543 (by decide +kernel) rfl
theorem wq1545 : Cond.methodLink "ShadowCourtModel" (394) yX11_walksOn ∈ xTB := xq 1545 (by decide +kernel) rfl
theorem wq1547 : Cond.instanceMethod yX11_walksOn ∈ xTB := xq 1547 (by decide +kernel) rfl
theorem wq1562 : Cond.methodLink "ShadowCourtModel" (397) yX11_shadesGo ∈ xTB := xq 1562 (by decide +kernel) rfl
theorem wq1564 : Cond.instanceMethod yX11_shadesGo ∈ xTB := xq 1564 (by decide +kernel) rfl
theorem wq1566 : Cond.methodLink "ShadowCourtModel" (375) yX11_draws ∈ xTB := xq 1566 (by decide +kernel) rfl
theorem wq1568 : Cond.instanceMethod yX11_draws ∈ xTB := xq 1568 (by decide +kernel) rfl
theorem wq1586 : Cond.methodLink "ShadowCourtModel" (381) yX11_laysShades ∈ xTB := xq 1586 (by decide +kernel) rfl
theorem wq1588 : Cond.instanceMethod yX11_laysShades ∈ xTB := xq 1588 (by decide +kernel) rfl
theorem wq1614 : Cond.methodLink "ShadowCourtModel" (385) yX11_laysOrder ∈ xTB := xq 1614 (by decide +kernel) rfl
theorem wq1616 : Cond.instanceMethod yX11_laysOrder ∈ xTB := xq 1616 (by decide +kernel) rfl
theorem wq1627 : Cond.methodLink "ShadowCourtModel" (388) yX11_servesOf ∈ xTB := xq 1627 (by decide +kernel) rfl
theorem wq1629 : Cond.instanceMethod yX11_servesOf ∈ xTB := xq 1629 (by decide +kernel) rfl
theorem wq1646 : Cond.methodLink "ShadowCourtModel" (403) yX11_copies ∈ xTB := xq 1646 (by decide +kernel) rfl
theorem wq1647 : Cond.static yX11_copies ∈ xTB := xq 1647 (by decide +kernel) rfl
theorem wq1649 : Cond.methodLink "ShadowCourtModel" (407) yX11_bits ∈ xTB := xq 1649 (by decide +kernel) rfl
theorem wq1650 : Cond.static yX11_bits ∈ xTB := xq 1650 (by decide +kernel) rfl
theorem wq1652 : Cond.methodLink "ShadowCourtModel" (410) yX11_freeMany ∈ xTB := xq 1652 (by decide +kernel) rfl
theorem wq1654 : Cond.instanceMethod yX11_freeMany ∈ xTB := xq 1654 (by decide +kernel) rfl
theorem wq1668 : Cond.methodLink "ShadowCourtModel" (419) yX11_mostAtOnce ∈ xTB := xq 1668 (by decide +kernel) rfl
theorem wq1670 : Cond.instanceMethod yX11_mostAtOnce ∈ xTB := xq 1670 (by decide +kernel) rfl
theorem wq1672 : Cond.methodLink "ShadowCourtModel" (413) yX11_laysReach ∈ xTB := xq 1672 (by decide +kernel) rfl
theorem wq1674 : Cond.instanceMethod yX11_laysReach ∈ xTB := xq 1674 (by decide +kernel) rfl
theorem wq1676 : Cond.methodLink "ShadowCourtModel" (416) yX11_max ∈ xTB := xq 1676 (by decide +kernel) rfl
theorem wq1677 : Cond.static yX11_max ∈ xTB := xq 1677 (by decide +kernel) rfl
theorem wq1683 : Cond.methodLink "ShadowCourtModel" (422) yX11_laysSteps ∈ xTB := xq 1683 (by decide +kernel) rfl
theorem wq1685 : Cond.instanceMethod yX11_laysSteps ∈ xTB := xq 1685 (by decide +kernel) rfl
theorem wq1687 : Cond.methodLink "ShadowCourtModel" (425) yX11_goesFew ∈ xTB := xq 1687 (by decide +kernel) rfl
theorem wq1689 : Cond.instanceMethod yX11_goesFew ∈ xTB := xq 1689 (by decide +kernel) rfl
theorem wq1695 : Cond.methodLink "ShadowCourtModel" (431) yX11_servedIn ∈ xTB := xq 1695 (by decide +kernel) rfl
theorem wq1697 : Cond.instanceMethod yX11_servedIn ∈ xTB := xq 1697 (by decide +kernel) rfl
theorem wq1699 : Cond.methodLink "ShadowCourtModel" (428) yX11_stepIn ∈ xTB := xq 1699 (by decide +kernel) rfl
theorem wq1700 : Cond.static yX11_stepIn ∈ xTB := xq 1700 (by decide +kernel) rfl
theorem wq1706 : Cond.methodLink "ShadowCourtModel" (434) yX11_isFree ∈ xTB := xq 1706 (by decide +kernel) rfl
theorem wq1708 : Cond.instanceMethod yX11_isFree ∈ xTB := xq 1708 (by decide +kernel) rfl
theorem wq1714 : Cond.methodLink "ShadowCourtModel" (437) yX11_servedFirst ∈ xTB := xq 1714 (by decide +kernel) rfl
theorem wq1716 : Cond.instanceMethod yX11_servedFirst ∈ xTB := xq 1716 (by decide +kernel) rfl
theorem wq1722 : Cond.methodLink "ShadowCourtModel" (440) yX11_laysDark ∈ xTB := xq 1722 (by decide +kernel) rfl
theorem wq1724 : Cond.instanceMethod yX11_laysDark ∈ xTB := xq 1724 (by decide +kernel) rfl
theorem wq1758 : Cond.constant "ShadowCourtModel" (452) (65535) ∈ xTB := xq 1758 (by decide +kernel) rfl
theorem wq1763 : Cond.methodLink "ShadowCourtModel" (453) yX11_copiesWalks ∈ xTB := xq 1763 (by decide +kernel) rfl
theorem wq1764 : Cond.static yX11_copiesWalks ∈ xTB := xq 1764 (by decide +kernel) rfl
theorem wq1782 : Cond.methodLink "ShadowCourtModel" (460) yX11_lampSet ∈ xTB := xq 1782 (by decide +kernel) rfl
theorem wq1784 : Cond.instanceMethod yX11_lampSet ∈ xTB := xq 1784 (by decide +kernel) rfl
theorem wq1786 : Cond.methodLink "ShadowCourtModel" (463) yX11_owedAll ∈ xTB := xq 1786 (by decide +kernel) rfl
theorem wq1788 : Cond.instanceMethod yX11_owedAll ∈ xTB := xq 1788 (by decide +kernel) rfl
theorem dX11_atOnce_0 : decode cX11_atOnce 0 = .ok (.iload_n 1, 1) := by decide +kernel
theorem dX11_atOnce_1 : decode cX11_atOnce 1 = .ok (.iconst 0, 1) := by decide +kernel
theorem dX11_atOnce_2 : decode cX11_atOnce 2 = .ok (.iconst 2, 1) := by decide +kernel
theorem dX11_atOnce_3 : decode cX11_atOnce 3 = .ok (.invokestatic 150, 3) := by decide +kernel
theorem dX11_atOnce_6 : decode cX11_atOnce 6 = .ok (.ifCond .ne 5, 3) := by decide +kernel
theorem dX11_atOnce_9 : decode cX11_atOnce 9 = .ok (.iconst (-1), 1) := by decide +kernel
theorem dX11_atOnce_10 : decode cX11_atOnce 10 = .ok (.ireturn, 1) := by decide +kernel
theorem dX11_atOnce_11 : decode cX11_atOnce 11 = .ok (.aload_n 0, 1) := by decide +kernel
theorem dX11_atOnce_12 : decode cX11_atOnce 12 = .ok (.aload_n 0, 1) := by decide +kernel
theorem dX11_atOnce_13 : decode cX11_atOnce 13 = .ok (.getfield 7, 3) := by decide +kernel
theorem dX11_atOnce_16 : decode cX11_atOnce 16 = .ok (.bipush 37, 2) := by decide +kernel
theorem dX11_atOnce_18 : decode cX11_atOnce 18 = .ok (.iaload, 1) := by decide +kernel
theorem dX11_atOnce_19 : decode cX11_atOnce 19 = .ok (.iconst 0, 1) := by decide +kernel
theorem dX11_atOnce_20 : decode cX11_atOnce 20 = .ok (.invokevirtual 381, 3) := by decide +kernel
theorem dX11_atOnce_23 : decode cX11_atOnce 23 = .ok (.iload_n 1, 1) := by decide +kernel
theorem dX11_atOnce_24 : decode cX11_atOnce 24 = .ok (.ifCond .ne 8, 3) := by decide +kernel
theorem dX11_atOnce_27 : decode cX11_atOnce 27 = .ok (.aload_n 0, 1) := by decide +kernel
theorem dX11_atOnce_28 : decode cX11_atOnce 28 = .ok (.invokevirtual 419, 3) := by decide +kernel
theorem dX11_atOnce_31 : decode cX11_atOnce 31 = .ok (.ireturn, 1) := by decide +kernel
theorem dX11_atOnce_32 : decode cX11_atOnce 32 = .ok (.iconst 0, 1) := by decide +kernel
theorem dX11_atOnce_33 : decode cX11_atOnce 33 = .ok (.istore_n 2, 1) := by decide +kernel
theorem dX11_atOnce_34 : decode cX11_atOnce 34 = .ok (.iconst 0, 1) := by decide +kernel
theorem dX11_atOnce_35 : decode cX11_atOnce 35 = .ok (.istore_n 3, 1) := by decide +kernel
theorem dX11_atOnce_36 : decode cX11_atOnce 36 = .ok (.iload_n 3, 1) := by decide +kernel
theorem dX11_atOnce_37 : decode cX11_atOnce 37 = .ok (.bipush 100, 2) := by decide +kernel
theorem dX11_atOnce_39 : decode cX11_atOnce 39 = .ok (.if_icmp .ge 27, 3) := by decide +kernel
theorem dX11_atOnce_42 : decode cX11_atOnce 42 = .ok (.iload_n 2, 1) := by decide +kernel
theorem dX11_atOnce_43 : decode cX11_atOnce 43 = .ok (.aload_n 0, 1) := by decide +kernel
theorem dX11_atOnce_44 : decode cX11_atOnce 44 = .ok (.getfield 89, 3) := by decide +kernel
theorem dX11_atOnce_47 : decode cX11_atOnce 47 = .ok (.iload_n 3, 1) := by decide +kernel
theorem dX11_atOnce_48 : decode cX11_atOnce 48 = .ok (.iaload, 1) := by decide +kernel
theorem dX11_atOnce_49 : decode cX11_atOnce 49 = .ok (.iload_n 1, 1) := by decide +kernel
theorem dX11_atOnce_50 : decode cX11_atOnce 50 = .ok (.if_icmp .lt 7, 3) := by decide +kernel
theorem dX11_atOnce_53 : decode cX11_atOnce 53 = .ok (.iconst 1, 1) := by decide +kernel
theorem dX11_atOnce_54 : decode cX11_atOnce 54 = .ok (.goto 4, 3) := by decide +kernel
theorem dX11_atOnce_57 : decode cX11_atOnce 57 = .ok (.iconst 0, 1) := by decide +kernel
theorem dX11_atOnce_58 : decode cX11_atOnce 58 = .ok (.iadd, 1) := by decide +kernel
theorem dX11_atOnce_59 : decode cX11_atOnce 59 = .ok (.istore_n 2, 1) := by decide +kernel
theorem dX11_atOnce_60 : decode cX11_atOnce 60 = .ok (.iinc 3 1, 3) := by decide +kernel
theorem dX11_atOnce_63 : decode cX11_atOnce 63 = .ok (.goto (-27), 3) := by decide +kernel
theorem dX11_atOnce_66 : decode cX11_atOnce 66 = .ok (.iload_n 2, 1) := by decide +kernel
theorem dX11_atOnce_67 : decode cX11_atOnce 67 = .ok (.ireturn, 1) := by decide +kernel
theorem dX11_count_0 : decode cX11_count 0 = .ok (.iload_n 1, 1) := by decide +kernel
theorem dX11_count_1 : decode cX11_count 1 = .ok (.tableswitch 123 0 8 #[51, 59, 67, 75, 80, 85, 90, 95, 103], 51) := by decide +kernel
theorem dX11_count_52 : decode cX11_count 52 = .ok (.aload_n 0, 1) := by decide +kernel
theorem dX11_count_53 : decode cX11_count 53 = .ok (.getfield 7, 3) := by decide +kernel
theorem dX11_count_56 : decode cX11_count 56 = .ok (.bipush 37, 2) := by decide +kernel
theorem dX11_count_58 : decode cX11_count 58 = .ok (.iaload, 1) := by decide +kernel
theorem dX11_count_59 : decode cX11_count 59 = .ok (.ireturn, 1) := by decide +kernel
theorem dX11_count_60 : decode cX11_count 60 = .ok (.aload_n 0, 1) := by decide +kernel
theorem dX11_count_61 : decode cX11_count 61 = .ok (.getfield 7, 3) := by decide +kernel
theorem dX11_count_64 : decode cX11_count 64 = .ok (.bipush 34, 2) := by decide +kernel
theorem dX11_count_66 : decode cX11_count 66 = .ok (.iaload, 1) := by decide +kernel
theorem dX11_count_67 : decode cX11_count 67 = .ok (.ireturn, 1) := by decide +kernel
theorem dX11_count_68 : decode cX11_count 68 = .ok (.aload_n 0, 1) := by decide +kernel
theorem dX11_count_69 : decode cX11_count 69 = .ok (.getfield 7, 3) := by decide +kernel
theorem dX11_count_72 : decode cX11_count 72 = .ok (.bipush 35, 2) := by decide +kernel
theorem dX11_count_74 : decode cX11_count 74 = .ok (.iaload, 1) := by decide +kernel
theorem dX11_count_75 : decode cX11_count 75 = .ok (.ireturn, 1) := by decide +kernel
theorem dX11_count_76 : decode cX11_count 76 = .ok (.aload_n 0, 1) := by decide +kernel
theorem dX11_count_77 : decode cX11_count 77 = .ok (.invokevirtual 460, 3) := by decide +kernel
theorem dX11_count_80 : decode cX11_count 80 = .ok (.ireturn, 1) := by decide +kernel
theorem dX11_count_81 : decode cX11_count 81 = .ok (.aload_n 0, 1) := by decide +kernel
theorem dX11_count_82 : decode cX11_count 82 = .ok (.invokevirtual 463, 3) := by decide +kernel
theorem dX11_count_85 : decode cX11_count 85 = .ok (.ireturn, 1) := by decide +kernel
theorem dX11_count_86 : decode cX11_count 86 = .ok (.aload_n 0, 1) := by decide +kernel
theorem dX11_count_87 : decode cX11_count 87 = .ok (.getfield 306, 3) := by decide +kernel
theorem dX11_count_90 : decode cX11_count 90 = .ok (.ireturn, 1) := by decide +kernel
theorem dX11_count_91 : decode cX11_count 91 = .ok (.aload_n 0, 1) := by decide +kernel
theorem dX11_count_92 : decode cX11_count 92 = .ok (.getfield 164, 3) := by decide +kernel
theorem dX11_count_95 : decode cX11_count 95 = .ok (.ireturn, 1) := by decide +kernel
theorem dX11_count_96 : decode cX11_count 96 = .ok (.aload_n 0, 1) := by decide +kernel
theorem dX11_count_97 : decode cX11_count 97 = .ok (.getfield 7, 3) := by decide +kernel
theorem dX11_count_100 : decode cX11_count 100 = .ok (.bipush 38, 2) := by decide +kernel
theorem dX11_count_102 : decode cX11_count 102 = .ok (.iaload, 1) := by decide +kernel
theorem dX11_count_103 : decode cX11_count 103 = .ok (.ireturn, 1) := by decide +kernel
theorem dX11_count_104 : decode cX11_count 104 = .ok (.aload_n 0, 1) := by decide +kernel
theorem dX11_count_105 : decode cX11_count 105 = .ok (.aload_n 0, 1) := by decide +kernel
theorem dX11_count_106 : decode cX11_count 106 = .ok (.getfield 7, 3) := by decide +kernel
theorem dX11_count_109 : decode cX11_count 109 = .ok (.bipush 37, 2) := by decide +kernel
theorem dX11_count_111 : decode cX11_count 111 = .ok (.iaload, 1) := by decide +kernel
theorem dX11_count_112 : decode cX11_count 112 = .ok (.invokevirtual 339, 3) := by decide +kernel
theorem dX11_count_115 : decode cX11_count 115 = .ok (.ifCond .eq 7, 3) := by decide +kernel
theorem dX11_count_118 : decode cX11_count 118 = .ok (.iconst 1, 1) := by decide +kernel
theorem dX11_count_119 : decode cX11_count 119 = .ok (.goto 4, 3) := by decide +kernel
theorem dX11_count_122 : decode cX11_count 122 = .ok (.iconst 0, 1) := by decide +kernel
theorem dX11_count_123 : decode cX11_count 123 = .ok (.ireturn, 1) := by decide +kernel
theorem dX11_count_124 : decode cX11_count 124 = .ok (.iload_n 1, 1) := by decide +kernel
theorem dX11_count_125 : decode cX11_count 125 = .ok (.bipush 10, 2) := by decide +kernel
theorem dX11_count_127 : decode cX11_count 127 = .ok (.bipush 11, 2) := by decide +kernel
theorem dX11_count_129 : decode cX11_count 129 = .ok (.invokestatic 150, 3) := by decide +kernel
theorem dX11_count_132 : decode cX11_count 132 = .ok (.ifCond .eq 26, 3) := by decide +kernel
theorem dX11_count_135 : decode cX11_count 135 = .ok (.aload_n 0, 1) := by decide +kernel
theorem dX11_count_136 : decode cX11_count 136 = .ok (.iload_n 1, 1) := by decide +kernel
theorem dX11_count_137 : decode cX11_count 137 = .ok (.bipush 10, 2) := by decide +kernel
theorem dX11_count_139 : decode cX11_count 139 = .ok (.isub, 1) := by decide +kernel
theorem dX11_count_140 : decode cX11_count 140 = .ok (.invokevirtual 260, 3) := by decide +kernel
theorem dX11_count_143 : decode cX11_count 143 = .ok (.ifCond .eq 15, 3) := by decide +kernel
theorem dX11_count_146 : decode cX11_count 146 = .ok (.aload_n 0, 1) := by decide +kernel
theorem dX11_count_147 : decode cX11_count 147 = .ok (.getfield 7, 3) := by decide +kernel
theorem dX11_count_150 : decode cX11_count 150 = .ok (.iconst 0, 1) := by decide +kernel
theorem dX11_count_151 : decode cX11_count 151 = .ok (.iload_n 1, 1) := by decide +kernel
theorem dX11_count_152 : decode cX11_count 152 = .ok (.iadd, 1) := by decide +kernel
theorem dX11_count_153 : decode cX11_count 153 = .ok (.bipush 10, 2) := by decide +kernel
theorem dX11_count_155 : decode cX11_count 155 = .ok (.isub, 1) := by decide +kernel
theorem dX11_count_156 : decode cX11_count 156 = .ok (.iaload, 1) := by decide +kernel
theorem dX11_count_157 : decode cX11_count 157 = .ok (.ireturn, 1) := by decide +kernel
theorem dX11_count_158 : decode cX11_count 158 = .ok (.iload_n 1, 1) := by decide +kernel
theorem dX11_count_159 : decode cX11_count 159 = .ok (.bipush 20, 2) := by decide +kernel
theorem dX11_count_161 : decode cX11_count 161 = .ok (.bipush 21, 2) := by decide +kernel
theorem dX11_count_163 : decode cX11_count 163 = .ok (.invokestatic 150, 3) := by decide +kernel
theorem dX11_count_166 : decode cX11_count 166 = .ok (.ifCond .eq 25, 3) := by decide +kernel
theorem dX11_count_169 : decode cX11_count 169 = .ok (.aload_n 0, 1) := by decide +kernel
theorem dX11_count_170 : decode cX11_count 170 = .ok (.getfield 25, 3) := by decide +kernel
theorem dX11_count_173 : decode cX11_count 173 = .ok (.iload_n 1, 1) := by decide +kernel
theorem dX11_count_174 : decode cX11_count 174 = .ok (.bipush 20, 2) := by decide +kernel
theorem dX11_count_176 : decode cX11_count 176 = .ok (.isub, 1) := by decide +kernel
theorem dX11_count_177 : decode cX11_count 177 = .ok (.iaload, 1) := by decide +kernel
theorem dX11_count_178 : decode cX11_count 178 = .ok (.aload_n 0, 1) := by decide +kernel
theorem dX11_count_179 : decode cX11_count 179 = .ok (.getfield 7, 3) := by decide +kernel
theorem dX11_count_182 : decode cX11_count 182 = .ok (.iconst 2, 1) := by decide +kernel
theorem dX11_count_183 : decode cX11_count 183 = .ok (.iload_n 1, 1) := by decide +kernel
theorem dX11_count_184 : decode cX11_count 184 = .ok (.iadd, 1) := by decide +kernel
theorem dX11_count_185 : decode cX11_count 185 = .ok (.bipush 20, 2) := by decide +kernel
theorem dX11_count_187 : decode cX11_count 187 = .ok (.isub, 1) := by decide +kernel
theorem dX11_count_188 : decode cX11_count 188 = .ok (.iaload, 1) := by decide +kernel
theorem dX11_count_189 : decode cX11_count 189 = .ok (.isub, 1) := by decide +kernel
theorem dX11_count_190 : decode cX11_count 190 = .ok (.ireturn, 1) := by decide +kernel
theorem dX11_count_191 : decode cX11_count 191 = .ok (.iload_n 1, 1) := by decide +kernel
theorem dX11_count_192 : decode cX11_count 192 = .ok (.bipush 30, 2) := by decide +kernel
theorem dX11_count_194 : decode cX11_count 194 = .ok (.bipush 33, 2) := by decide +kernel
theorem dX11_count_196 : decode cX11_count 196 = .ok (.invokestatic 150, 3) := by decide +kernel
theorem dX11_count_199 : decode cX11_count 199 = .ok (.ifCond .eq 13, 3) := by decide +kernel
theorem dX11_count_202 : decode cX11_count 202 = .ok (.aload_n 0, 1) := by decide +kernel
theorem dX11_count_203 : decode cX11_count 203 = .ok (.getfield 22, 3) := by decide +kernel
theorem dX11_count_206 : decode cX11_count 206 = .ok (.iload_n 1, 1) := by decide +kernel
theorem dX11_count_207 : decode cX11_count 207 = .ok (.bipush 30, 2) := by decide +kernel
theorem dX11_count_209 : decode cX11_count 209 = .ok (.isub, 1) := by decide +kernel
theorem dX11_count_210 : decode cX11_count 210 = .ok (.iaload, 1) := by decide +kernel
theorem dX11_count_211 : decode cX11_count 211 = .ok (.ireturn, 1) := by decide +kernel
theorem dX11_count_212 : decode cX11_count 212 = .ok (.iload_n 1, 1) := by decide +kernel
theorem dX11_count_213 : decode cX11_count 213 = .ok (.bipush 100, 2) := by decide +kernel
theorem dX11_count_215 : decode cX11_count 215 = .ok (.sipush 199, 3) := by decide +kernel
theorem dX11_count_218 : decode cX11_count 218 = .ok (.invokestatic 150, 3) := by decide +kernel
theorem dX11_count_221 : decode cX11_count 221 = .ok (.ifCond .eq 15, 3) := by decide +kernel
theorem dX11_count_224 : decode cX11_count 224 = .ok (.aload_n 0, 1) := by decide +kernel
theorem dX11_count_225 : decode cX11_count 225 = .ok (.getfield 19, 3) := by decide +kernel
theorem dX11_count_228 : decode cX11_count 228 = .ok (.iload_n 1, 1) := by decide +kernel
theorem dX11_count_229 : decode cX11_count 229 = .ok (.bipush 100, 2) := by decide +kernel
theorem dX11_count_231 : decode cX11_count 231 = .ok (.isub, 1) := by decide +kernel
theorem dX11_count_232 : decode cX11_count 232 = .ok (.iaload, 1) := by decide +kernel
theorem dX11_count_233 : decode cX11_count 233 = .ok (.goto 4, 3) := by decide +kernel
theorem dX11_count_236 : decode cX11_count 236 = .ok (.iconst (-1), 1) := by decide +kernel
theorem dX11_count_237 : decode cX11_count 237 = .ok (.ireturn, 1) := by decide +kernel
theorem dX11_dark_0 : decode cX11_dark 0 = .ok (.iload_n 1, 1) := by decide +kernel
theorem dX11_dark_1 : decode cX11_dark 1 = .ok (.iconst 1, 1) := by decide +kernel
theorem dX11_dark_2 : decode cX11_dark 2 = .ok (.bipush 60, 2) := by decide +kernel
theorem dX11_dark_4 : decode cX11_dark 4 = .ok (.invokestatic 150, 3) := by decide +kernel
theorem dX11_dark_7 : decode cX11_dark 7 = .ok (.ifCond .eq 12, 3) := by decide +kernel
theorem dX11_dark_10 : decode cX11_dark 10 = .ok (.iload_n 2, 1) := by decide +kernel
theorem dX11_dark_11 : decode cX11_dark 11 = .ok (.iconst 0, 1) := by decide +kernel
theorem dX11_dark_12 : decode cX11_dark 12 = .ok (.iconst 2, 1) := by decide +kernel
theorem dX11_dark_13 : decode cX11_dark 13 = .ok (.invokestatic 150, 3) := by decide +kernel
theorem dX11_dark_16 : decode cX11_dark 16 = .ok (.ifCond .ne 5, 3) := by decide +kernel
theorem dX11_dark_19 : decode cX11_dark 19 = .ok (.iconst (-1), 1) := by decide +kernel
theorem dX11_dark_20 : decode cX11_dark 20 = .ok (.ireturn, 1) := by decide +kernel
theorem dX11_dark_21 : decode cX11_dark 21 = .ok (.aload_n 0, 1) := by decide +kernel
theorem dX11_dark_22 : decode cX11_dark 22 = .ok (.iload_n 1, 1) := by decide +kernel
theorem dX11_dark_23 : decode cX11_dark 23 = .ok (.invokevirtual 440, 3) := by decide +kernel
theorem dX11_dark_26 : decode cX11_dark 26 = .ok (.iconst 0, 1) := by decide +kernel
theorem dX11_dark_27 : decode cX11_dark 27 = .ok (.istore_n 3, 1) := by decide +kernel
theorem dX11_dark_28 : decode cX11_dark 28 = .ok (.bipush (-2), 2) := by decide +kernel
theorem dX11_dark_30 : decode cX11_dark 30 = .ok (.istore 4, 2) := by decide +kernel
theorem dX11_dark_32 : decode cX11_dark 32 = .ok (.iconst 0, 1) := by decide +kernel
theorem dX11_dark_33 : decode cX11_dark 33 = .ok (.istore 5, 2) := by decide +kernel
theorem dX11_dark_35 : decode cX11_dark 35 = .ok (.iload 5, 2) := by decide +kernel
theorem dX11_dark_37 : decode cX11_dark 37 = .ok (.bipush 100, 2) := by decide +kernel
theorem dX11_dark_39 : decode cX11_dark 39 = .ok (.if_icmp .ge 69, 3) := by decide +kernel
theorem dX11_dark_42 : decode cX11_dark 42 = .ok (.aload_n 0, 1) := by decide +kernel
theorem dX11_dark_43 : decode cX11_dark 43 = .ok (.getfield 19, 3) := by decide +kernel
theorem dX11_dark_46 : decode cX11_dark 46 = .ok (.iload 5, 2) := by decide +kernel
theorem dX11_dark_48 : decode cX11_dark 48 = .ok (.iaload, 1) := by decide +kernel
theorem dX11_dark_49 : decode cX11_dark 49 = .ok (.iconst 1, 1) := by decide +kernel
theorem dX11_dark_50 : decode cX11_dark 50 = .ok (.if_icmp .ne 6, 3) := by decide +kernel
theorem dX11_dark_53 : decode cX11_dark 53 = .ok (.goto 49, 3) := by decide +kernel
theorem dX11_dark_56 : decode cX11_dark 56 = .ok (.iload_n 3, 1) := by decide +kernel
theorem dX11_dark_57 : decode cX11_dark 57 = .ok (.aload_n 0, 1) := by decide +kernel
theorem dX11_dark_58 : decode cX11_dark 58 = .ok (.getfield 120, 3) := by decide +kernel
theorem dX11_dark_61 : decode cX11_dark 61 = .ok (.iload 5, 2) := by decide +kernel
theorem dX11_dark_63 : decode cX11_dark 63 = .ok (.iaload, 1) := by decide +kernel
theorem dX11_dark_64 : decode cX11_dark 64 = .ok (.ifCond .ne 7, 3) := by decide +kernel
theorem dX11_dark_67 : decode cX11_dark 67 = .ok (.iconst 1, 1) := by decide +kernel
theorem dX11_dark_68 : decode cX11_dark 68 = .ok (.goto 4, 3) := by decide +kernel
theorem dX11_dark_71 : decode cX11_dark 71 = .ok (.iconst 0, 1) := by decide +kernel
theorem dX11_dark_72 : decode cX11_dark 72 = .ok (.iadd, 1) := by decide +kernel
theorem dX11_dark_73 : decode cX11_dark 73 = .ok (.istore_n 3, 1) := by decide +kernel
theorem dX11_dark_74 : decode cX11_dark 74 = .ok (.iload 4, 2) := by decide +kernel
theorem dX11_dark_76 : decode cX11_dark 76 = .ok (.bipush (-2), 2) := by decide +kernel
theorem dX11_dark_78 : decode cX11_dark 78 = .ok (.if_icmp .eq 20, 3) := by decide +kernel
theorem dX11_dark_81 : decode cX11_dark 81 = .ok (.aload_n 0, 1) := by decide +kernel
theorem dX11_dark_82 : decode cX11_dark 82 = .ok (.getfield 120, 3) := by decide +kernel
theorem dX11_dark_85 : decode cX11_dark 85 = .ok (.iload 5, 2) := by decide +kernel
theorem dX11_dark_87 : decode cX11_dark 87 = .ok (.iaload, 1) := by decide +kernel
theorem dX11_dark_88 : decode cX11_dark 88 = .ok (.aload_n 0, 1) := by decide +kernel
theorem dX11_dark_89 : decode cX11_dark 89 = .ok (.getfield 120, 3) := by decide +kernel
theorem dX11_dark_92 : decode cX11_dark 92 = .ok (.iload 4, 2) := by decide +kernel
theorem dX11_dark_94 : decode cX11_dark 94 = .ok (.iaload, 1) := by decide +kernel
theorem dX11_dark_95 : decode cX11_dark 95 = .ok (.if_icmp .le 7, 3) := by decide +kernel
theorem dX11_dark_98 : decode cX11_dark 98 = .ok (.iload 5, 2) := by decide +kernel
theorem dX11_dark_100 : decode cX11_dark 100 = .ok (.istore 4, 2) := by decide +kernel
theorem dX11_dark_102 : decode cX11_dark 102 = .ok (.iinc 5 1, 3) := by decide +kernel
theorem dX11_dark_105 : decode cX11_dark 105 = .ok (.goto (-70), 3) := by decide +kernel
theorem dX11_dark_108 : decode cX11_dark 108 = .ok (.iload_n 2, 1) := by decide +kernel
theorem dX11_dark_109 : decode cX11_dark 109 = .ok (.ifCond .ne 7, 3) := by decide +kernel
theorem dX11_dark_112 : decode cX11_dark 112 = .ok (.iload_n 3, 1) := by decide +kernel
theorem dX11_dark_113 : decode cX11_dark 113 = .ok (.goto 31, 3) := by decide +kernel
theorem dX11_dark_116 : decode cX11_dark 116 = .ok (.iload_n 2, 1) := by decide +kernel
theorem dX11_dark_117 : decode cX11_dark 117 = .ok (.iconst 1, 1) := by decide +kernel
theorem dX11_dark_118 : decode cX11_dark 118 = .ok (.if_icmp .ne 8, 3) := by decide +kernel
theorem dX11_dark_121 : decode cX11_dark 121 = .ok (.iload 4, 2) := by decide +kernel
theorem dX11_dark_123 : decode cX11_dark 123 = .ok (.goto 21, 3) := by decide +kernel
theorem dX11_dark_126 : decode cX11_dark 126 = .ok (.iload 4, 2) := by decide +kernel
theorem dX11_dark_128 : decode cX11_dark 128 = .ok (.bipush (-2), 2) := by decide +kernel
theorem dX11_dark_130 : decode cX11_dark 130 = .ok (.if_icmp .ne 7, 3) := by decide +kernel
theorem dX11_dark_133 : decode cX11_dark 133 = .ok (.iconst 0, 1) := by decide +kernel
theorem dX11_dark_134 : decode cX11_dark 134 = .ok (.goto 10, 3) := by decide +kernel
theorem dX11_dark_137 : decode cX11_dark 137 = .ok (.aload_n 0, 1) := by decide +kernel
theorem dX11_dark_138 : decode cX11_dark 138 = .ok (.getfield 120, 3) := by decide +kernel
theorem dX11_dark_141 : decode cX11_dark 141 = .ok (.iload 4, 2) := by decide +kernel
theorem dX11_dark_143 : decode cX11_dark 143 = .ok (.iaload, 1) := by decide +kernel
theorem dX11_dark_144 : decode cX11_dark 144 = .ok (.ireturn, 1) := by decide +kernel
theorem dX11_felon_0 : decode cX11_felon 0 = .ok (.iload_n 1, 1) := by decide +kernel
theorem dX11_felon_1 : decode cX11_felon 1 = .ok (.bipush 10, 2) := by decide +kernel
theorem dX11_felon_3 : decode cX11_felon 3 = .ok (.invokestatic 139, 3) := by decide +kernel
theorem dX11_felon_6 : decode cX11_felon 6 = .ok (.ifCond .eq 36, 3) := by decide +kernel
theorem dX11_felon_9 : decode cX11_felon 9 = .ok (.iload_n 2, 1) := by decide +kernel
theorem dX11_felon_10 : decode cX11_felon 10 = .ok (.iload_n 3, 1) := by decide +kernel
theorem dX11_felon_11 : decode cX11_felon 11 = .ok (.invokestatic 161, 3) := by decide +kernel
theorem dX11_felon_14 : decode cX11_felon 14 = .ok (.ifCond .eq 28, 3) := by decide +kernel
theorem dX11_felon_17 : decode cX11_felon 17 = .ok (.aload_n 0, 1) := by decide +kernel
theorem dX11_felon_18 : decode cX11_felon 18 = .ok (.bipush 10, 2) := by decide +kernel
theorem dX11_felon_20 : decode cX11_felon 20 = .ok (.iload_n 3, 1) := by decide +kernel
theorem dX11_felon_21 : decode cX11_felon 21 = .ok (.imul, 1) := by decide +kernel
theorem dX11_felon_22 : decode cX11_felon 22 = .ok (.iload_n 2, 1) := by decide +kernel
theorem dX11_felon_23 : decode cX11_felon 23 = .ok (.iadd, 1) := by decide +kernel
theorem dX11_felon_24 : decode cX11_felon 24 = .ok (.invokevirtual 263, 3) := by decide +kernel
theorem dX11_felon_27 : decode cX11_felon 27 = .ok (.ifCond .eq 15, 3) := by decide +kernel
theorem dX11_felon_30 : decode cX11_felon 30 = .ok (.iload 4, 2) := by decide +kernel
theorem dX11_felon_32 : decode cX11_felon 32 = .ok (.iconst 0, 1) := by decide +kernel
theorem dX11_felon_33 : decode cX11_felon 33 = .ok (.sipush 999, 3) := by decide +kernel
theorem dX11_felon_36 : decode cX11_felon 36 = .ok (.invokestatic 150, 3) := by decide +kernel
theorem dX11_felon_39 : decode cX11_felon 39 = .ok (.ifCond .ne 5, 3) := by decide +kernel
theorem dX11_felon_42 : decode cX11_felon 42 = .ok (.iconst 0, 1) := by decide +kernel
theorem dX11_felon_43 : decode cX11_felon 43 = .ok (.ireturn, 1) := by decide +kernel
theorem dX11_felon_44 : decode cX11_felon 44 = .ok (.aload_n 0, 1) := by decide +kernel
theorem dX11_felon_45 : decode cX11_felon 45 = .ok (.getfield 7, 3) := by decide +kernel
theorem dX11_felon_48 : decode cX11_felon 48 = .ok (.bipush 35, 2) := by decide +kernel
theorem dX11_felon_50 : decode cX11_felon 50 = .ok (.aload_n 0, 1) := by decide +kernel
theorem dX11_felon_51 : decode cX11_felon 51 = .ok (.getfield 7, 3) := by decide +kernel
theorem dX11_felon_54 : decode cX11_felon 54 = .ok (.bipush 35, 2) := by decide +kernel
theorem dX11_felon_56 : decode cX11_felon 56 = .ok (.iaload, 1) := by decide +kernel
theorem dX11_felon_57 : decode cX11_felon 57 = .ok (.iconst 1, 1) := by decide +kernel
theorem dX11_felon_58 : decode cX11_felon 58 = .ok (.iload_n 1, 1) := by decide +kernel
theorem dX11_felon_59 : decode cX11_felon 59 = .ok (.ishl, 1) := by decide +kernel
theorem dX11_felon_60 : decode cX11_felon 60 = .ok (.ior, 1) := by decide +kernel
theorem dX11_felon_61 : decode cX11_felon 61 = .ok (.iastore, 1) := by decide +kernel
theorem dX11_felon_62 : decode cX11_felon 62 = .ok (.aload_n 0, 1) := by decide +kernel
theorem dX11_felon_63 : decode cX11_felon 63 = .ok (.getfield 7, 3) := by decide +kernel
theorem dX11_felon_66 : decode cX11_felon 66 = .ok (.bipush 36, 2) := by decide +kernel
theorem dX11_felon_68 : decode cX11_felon 68 = .ok (.aload_n 0, 1) := by decide +kernel
theorem dX11_felon_69 : decode cX11_felon 69 = .ok (.getfield 7, 3) := by decide +kernel
theorem dX11_felon_72 : decode cX11_felon 72 = .ok (.bipush 36, 2) := by decide +kernel
theorem dX11_felon_74 : decode cX11_felon 74 = .ok (.iaload, 1) := by decide +kernel
theorem dX11_felon_75 : decode cX11_felon 75 = .ok (.iconst 1, 1) := by decide +kernel
theorem dX11_felon_76 : decode cX11_felon 76 = .ok (.iload_n 1, 1) := by decide +kernel
theorem dX11_felon_77 : decode cX11_felon 77 = .ok (.ishl, 1) := by decide +kernel
theorem dX11_felon_78 : decode cX11_felon 78 = .ok (.iconst (-1), 1) := by decide +kernel
theorem dX11_felon_79 : decode cX11_felon 79 = .ok (.ixor, 1) := by decide +kernel
theorem dX11_felon_80 : decode cX11_felon 80 = .ok (.iand, 1) := by decide +kernel
theorem dX11_felon_81 : decode cX11_felon 81 = .ok (.iastore, 1) := by decide +kernel
theorem dX11_felon_82 : decode cX11_felon 82 = .ok (.aload_n 0, 1) := by decide +kernel
theorem dX11_felon_83 : decode cX11_felon 83 = .ok (.getfield 7, 3) := by decide +kernel
theorem dX11_felon_86 : decode cX11_felon 86 = .ok (.iconst 4, 1) := by decide +kernel
theorem dX11_felon_87 : decode cX11_felon 87 = .ok (.iload_n 1, 1) := by decide +kernel
theorem dX11_felon_88 : decode cX11_felon 88 = .ok (.iadd, 1) := by decide +kernel
theorem dX11_felon_89 : decode cX11_felon 89 = .ok (.bipush 10, 2) := by decide +kernel
theorem dX11_felon_91 : decode cX11_felon 91 = .ok (.iload_n 3, 1) := by decide +kernel
theorem dX11_felon_92 : decode cX11_felon 92 = .ok (.imul, 1) := by decide +kernel
theorem dX11_felon_93 : decode cX11_felon 93 = .ok (.iload_n 2, 1) := by decide +kernel
theorem dX11_felon_94 : decode cX11_felon 94 = .ok (.iadd, 1) := by decide +kernel
theorem dX11_felon_95 : decode cX11_felon 95 = .ok (.iastore, 1) := by decide +kernel
theorem dX11_felon_96 : decode cX11_felon 96 = .ok (.aload_n 0, 1) := by decide +kernel
theorem dX11_felon_97 : decode cX11_felon 97 = .ok (.getfield 7, 3) := by decide +kernel
theorem dX11_felon_100 : decode cX11_felon 100 = .ok (.bipush 14, 2) := by decide +kernel
theorem dX11_felon_102 : decode cX11_felon 102 = .ok (.iload_n 1, 1) := by decide +kernel
theorem dX11_felon_103 : decode cX11_felon 103 = .ok (.iadd, 1) := by decide +kernel
theorem dX11_felon_104 : decode cX11_felon 104 = .ok (.iload 4, 2) := by decide +kernel
theorem dX11_felon_106 : decode cX11_felon 106 = .ok (.iastore, 1) := by decide +kernel
theorem dX11_felon_107 : decode cX11_felon 107 = .ok (.aload_n 0, 1) := by decide +kernel
theorem dX11_felon_108 : decode cX11_felon 108 = .ok (.getfield 7, 3) := by decide +kernel
theorem dX11_felon_111 : decode cX11_felon 111 = .ok (.bipush 24, 2) := by decide +kernel
theorem dX11_felon_113 : decode cX11_felon 113 = .ok (.iload_n 1, 1) := by decide +kernel
theorem dX11_felon_114 : decode cX11_felon 114 = .ok (.iadd, 1) := by decide +kernel
theorem dX11_felon_115 : decode cX11_felon 115 = .ok (.iconst 0, 1) := by decide +kernel
theorem dX11_felon_116 : decode cX11_felon 116 = .ok (.iastore, 1) := by decide +kernel
theorem dX11_felon_117 : decode cX11_felon 117 = .ok (.iconst 1, 1) := by decide +kernel
theorem dX11_felon_118 : decode cX11_felon 118 = .ok (.ireturn, 1) := by decide +kernel
theorem dX11_felonIs_0 : decode cX11_felonIs 0 = .ok (.aload_n 0, 1) := by decide +kernel
theorem dX11_felonIs_1 : decode cX11_felonIs 1 = .ok (.iload_n 1, 1) := by decide +kernel
theorem dX11_felonIs_2 : decode cX11_felonIs 2 = .ok (.invokevirtual 146, 3) := by decide +kernel
theorem dX11_felonIs_5 : decode cX11_felonIs 5 = .ok (.ifCond .ne 5, 3) := by decide +kernel
theorem dX11_felonIs_8 : decode cX11_felonIs 8 = .ok (.iconst (-1), 1) := by decide +kernel
theorem dX11_felonIs_9 : decode cX11_felonIs 9 = .ok (.ireturn, 1) := by decide +kernel
theorem dX11_felonIs_10 : decode cX11_felonIs 10 = .ok (.iload_n 2, 1) := by decide +kernel
theorem dX11_felonIs_11 : decode cX11_felonIs 11 = .ok (.tableswitch 121 0 5 #[37, 46, 56, 66, 86, 95], 37) := by decide +kernel
theorem dX11_felonIs_48 : decode cX11_felonIs 48 = .ok (.aload_n 0, 1) := by decide +kernel
theorem dX11_felonIs_49 : decode cX11_felonIs 49 = .ok (.getfield 7, 3) := by decide +kernel
theorem dX11_felonIs_52 : decode cX11_felonIs 52 = .ok (.iconst 4, 1) := by decide +kernel
theorem dX11_felonIs_53 : decode cX11_felonIs 53 = .ok (.iload_n 1, 1) := by decide +kernel
theorem dX11_felonIs_54 : decode cX11_felonIs 54 = .ok (.iadd, 1) := by decide +kernel
theorem dX11_felonIs_55 : decode cX11_felonIs 55 = .ok (.iaload, 1) := by decide +kernel
theorem dX11_felonIs_56 : decode cX11_felonIs 56 = .ok (.ireturn, 1) := by decide +kernel
theorem dX11_felonIs_57 : decode cX11_felonIs 57 = .ok (.aload_n 0, 1) := by decide +kernel
theorem dX11_felonIs_58 : decode cX11_felonIs 58 = .ok (.getfield 7, 3) := by decide +kernel
theorem dX11_felonIs_61 : decode cX11_felonIs 61 = .ok (.bipush 14, 2) := by decide +kernel
theorem dX11_felonIs_63 : decode cX11_felonIs 63 = .ok (.iload_n 1, 1) := by decide +kernel
theorem dX11_felonIs_64 : decode cX11_felonIs 64 = .ok (.iadd, 1) := by decide +kernel
theorem dX11_felonIs_65 : decode cX11_felonIs 65 = .ok (.iaload, 1) := by decide +kernel
theorem dX11_felonIs_66 : decode cX11_felonIs 66 = .ok (.ireturn, 1) := by decide +kernel
theorem dX11_felonIs_67 : decode cX11_felonIs 67 = .ok (.aload_n 0, 1) := by decide +kernel
theorem dX11_felonIs_68 : decode cX11_felonIs 68 = .ok (.getfield 7, 3) := by decide +kernel
theorem dX11_felonIs_71 : decode cX11_felonIs 71 = .ok (.bipush 24, 2) := by decide +kernel
theorem dX11_felonIs_73 : decode cX11_felonIs 73 = .ok (.iload_n 1, 1) := by decide +kernel
theorem dX11_felonIs_74 : decode cX11_felonIs 74 = .ok (.iadd, 1) := by decide +kernel
theorem dX11_felonIs_75 : decode cX11_felonIs 75 = .ok (.iaload, 1) := by decide +kernel
theorem dX11_felonIs_76 : decode cX11_felonIs 76 = .ok (.ireturn, 1) := by decide +kernel
theorem dX11_felonIs_77 : decode cX11_felonIs 77 = .ok (.aload_n 0, 1) := by decide +kernel
theorem dX11_felonIs_78 : decode cX11_felonIs 78 = .ok (.getfield 7, 3) := by decide +kernel
theorem dX11_felonIs_81 : decode cX11_felonIs 81 = .ok (.bipush 36, 2) := by decide +kernel
theorem dX11_felonIs_83 : decode cX11_felonIs 83 = .ok (.iaload, 1) := by decide +kernel
theorem dX11_felonIs_84 : decode cX11_felonIs 84 = .ok (.iload_n 1, 1) := by decide +kernel
theorem dX11_felonIs_85 : decode cX11_felonIs 85 = .ok (.invokestatic 143, 3) := by decide +kernel
theorem dX11_felonIs_88 : decode cX11_felonIs 88 = .ok (.ifCond .eq 7, 3) := by decide +kernel
theorem dX11_felonIs_91 : decode cX11_felonIs 91 = .ok (.iconst 1, 1) := by decide +kernel
theorem dX11_felonIs_92 : decode cX11_felonIs 92 = .ok (.goto 4, 3) := by decide +kernel
theorem dX11_felonIs_95 : decode cX11_felonIs 95 = .ok (.iconst 0, 1) := by decide +kernel
theorem dX11_felonIs_96 : decode cX11_felonIs 96 = .ok (.ireturn, 1) := by decide +kernel
theorem dX11_felonIs_97 : decode cX11_felonIs 97 = .ok (.aload_n 0, 1) := by decide +kernel
theorem dX11_felonIs_98 : decode cX11_felonIs 98 = .ok (.bipush 118, 2) := by decide +kernel
theorem dX11_felonIs_100 : decode cX11_felonIs 100 = .ok (.iconst 3, 1) := by decide +kernel
theorem dX11_felonIs_101 : decode cX11_felonIs 101 = .ok (.iload_n 1, 1) := by decide +kernel
theorem dX11_felonIs_102 : decode cX11_felonIs 102 = .ok (.invokevirtual 352, 3) := by decide +kernel
theorem dX11_felonIs_105 : decode cX11_felonIs 105 = .ok (.ireturn, 1) := by decide +kernel
theorem dX11_felonIs_106 : decode cX11_felonIs 106 = .ok (.aload_n 0, 1) := by decide +kernel
theorem dX11_felonIs_107 : decode cX11_felonIs 107 = .ok (.aload_n 0, 1) := by decide +kernel
theorem dX11_felonIs_108 : decode cX11_felonIs 108 = .ok (.getfield 7, 3) := by decide +kernel
theorem dX11_felonIs_111 : decode cX11_felonIs 111 = .ok (.bipush 37, 2) := by decide +kernel
theorem dX11_felonIs_113 : decode cX11_felonIs 113 = .ok (.iaload, 1) := by decide +kernel
theorem dX11_felonIs_114 : decode cX11_felonIs 114 = .ok (.iconst 0, 1) := by decide +kernel
theorem dX11_felonIs_115 : decode cX11_felonIs 115 = .ok (.invokevirtual 381, 3) := by decide +kernel
theorem dX11_felonIs_118 : decode cX11_felonIs 118 = .ok (.aload_n 0, 1) := by decide +kernel
theorem dX11_felonIs_119 : decode cX11_felonIs 119 = .ok (.getfield 89, 3) := by decide +kernel
theorem dX11_felonIs_122 : decode cX11_felonIs 122 = .ok (.aload_n 0, 1) := by decide +kernel
theorem dX11_felonIs_123 : decode cX11_felonIs 123 = .ok (.getfield 7, 3) := by decide +kernel
theorem dX11_felonIs_126 : decode cX11_felonIs 126 = .ok (.iconst 4, 1) := by decide +kernel
theorem dX11_felonIs_127 : decode cX11_felonIs 127 = .ok (.iload_n 1, 1) := by decide +kernel
theorem dX11_felonIs_128 : decode cX11_felonIs 128 = .ok (.iadd, 1) := by decide +kernel
theorem dX11_felonIs_129 : decode cX11_felonIs 129 = .ok (.iaload, 1) := by decide +kernel
theorem dX11_felonIs_130 : decode cX11_felonIs 130 = .ok (.iaload, 1) := by decide +kernel
theorem dX11_felonIs_131 : decode cX11_felonIs 131 = .ok (.ireturn, 1) := by decide +kernel
theorem dX11_felonIs_132 : decode cX11_felonIs 132 = .ok (.iconst (-1), 1) := by decide +kernel
theorem dX11_felonIs_133 : decode cX11_felonIs 133 = .ok (.ireturn, 1) := by decide +kernel
theorem dX11_fewest_0 : decode cX11_fewest 0 = .ok (.aload_n 0, 1) := by decide +kernel
theorem dX11_fewest_1 : decode cX11_fewest 1 = .ok (.iload_n 1, 1) := by decide +kernel
theorem dX11_fewest_2 : decode cX11_fewest 2 = .ok (.invokevirtual 146, 3) := by decide +kernel
theorem dX11_fewest_5 : decode cX11_fewest 5 = .ok (.ifCond .eq 22, 3) := by decide +kernel
theorem dX11_fewest_8 : decode cX11_fewest 8 = .ok (.iload_n 2, 1) := by decide +kernel
theorem dX11_fewest_9 : decode cX11_fewest 9 = .ok (.iconst 1, 1) := by decide +kernel
theorem dX11_fewest_10 : decode cX11_fewest 10 = .ok (.bipush 30, 2) := by decide +kernel
theorem dX11_fewest_12 : decode cX11_fewest 12 = .ok (.invokestatic 150, 3) := by decide +kernel
theorem dX11_fewest_15 : decode cX11_fewest 15 = .ok (.ifCond .eq 12, 3) := by decide +kernel
theorem dX11_fewest_18 : decode cX11_fewest 18 = .ok (.iload_n 3, 1) := by decide +kernel
theorem dX11_fewest_19 : decode cX11_fewest 19 = .ok (.iconst 1, 1) := by decide +kernel
theorem dX11_fewest_20 : decode cX11_fewest 20 = .ok (.iload_n 2, 1) := by decide +kernel
theorem dX11_fewest_21 : decode cX11_fewest 21 = .ok (.invokestatic 150, 3) := by decide +kernel
theorem dX11_fewest_24 : decode cX11_fewest 24 = .ok (.ifCond .ne 5, 3) := by decide +kernel
theorem dX11_fewest_27 : decode cX11_fewest 27 = .ok (.iconst (-1), 1) := by decide +kernel
theorem dX11_fewest_28 : decode cX11_fewest 28 = .ok (.ireturn, 1) := by decide +kernel
theorem dX11_fewest_29 : decode cX11_fewest 29 = .ok (.aload_n 0, 1) := by decide +kernel
theorem dX11_fewest_30 : decode cX11_fewest 30 = .ok (.getfield 7, 3) := by decide +kernel
theorem dX11_fewest_33 : decode cX11_fewest 33 = .ok (.aload_n 0, 1) := by decide +kernel
theorem dX11_fewest_34 : decode cX11_fewest 34 = .ok (.getfield 13, 3) := by decide +kernel
theorem dX11_fewest_37 : decode cX11_fewest 37 = .ok (.invokestatic 403, 3) := by decide +kernel
theorem dX11_fewest_40 : decode cX11_fewest 40 = .ok (.aload_n 0, 1) := by decide +kernel
theorem dX11_fewest_41 : decode cX11_fewest 41 = .ok (.invokevirtual 422, 3) := by decide +kernel
theorem dX11_fewest_44 : decode cX11_fewest 44 = .ok (.iconst 0, 1) := by decide +kernel
theorem dX11_fewest_45 : decode cX11_fewest 45 = .ok (.istore 4, 2) := by decide +kernel
theorem dX11_fewest_47 : decode cX11_fewest 47 = .ok (.iload 4, 2) := by decide +kernel
theorem dX11_fewest_49 : decode cX11_fewest 49 = .ok (.sipush 3100, 3) := by decide +kernel
theorem dX11_fewest_52 : decode cX11_fewest 52 = .ok (.if_icmp .ge 39, 3) := by decide +kernel
theorem dX11_fewest_55 : decode cX11_fewest 55 = .ok (.aload_n 0, 1) := by decide +kernel
theorem dX11_fewest_56 : decode cX11_fewest 56 = .ok (.getfield 111, 3) := by decide +kernel
theorem dX11_fewest_59 : decode cX11_fewest 59 = .ok (.iload 4, 2) := by decide +kernel
theorem dX11_fewest_61 : decode cX11_fewest 61 = .ok (.iload 4, 2) := by decide +kernel
theorem dX11_fewest_63 : decode cX11_fewest 63 = .ok (.bipush 31, 2) := by decide +kernel
theorem dX11_fewest_65 : decode cX11_fewest 65 = .ok (.aload_n 0, 1) := by decide +kernel
theorem dX11_fewest_66 : decode cX11_fewest 66 = .ok (.getfield 7, 3) := by decide +kernel
theorem dX11_fewest_69 : decode cX11_fewest 69 = .ok (.iconst 4, 1) := by decide +kernel
theorem dX11_fewest_70 : decode cX11_fewest 70 = .ok (.iload_n 1, 1) := by decide +kernel
theorem dX11_fewest_71 : decode cX11_fewest 71 = .ok (.iadd, 1) := by decide +kernel
theorem dX11_fewest_72 : decode cX11_fewest 72 = .ok (.iaload, 1) := by decide +kernel
theorem dX11_fewest_73 : decode cX11_fewest 73 = .ok (.imul, 1) := by decide +kernel
theorem dX11_fewest_74 : decode cX11_fewest 74 = .ok (.if_icmp .ne 7, 3) := by decide +kernel
theorem dX11_fewest_77 : decode cX11_fewest 77 = .ok (.iconst 0, 1) := by decide +kernel
theorem dX11_fewest_78 : decode cX11_fewest 78 = .ok (.goto 6, 3) := by decide +kernel
theorem dX11_fewest_81 : decode cX11_fewest 81 = .ok (.ldc_w 348, 3) := by decide +kernel
theorem dX11_fewest_84 : decode cX11_fewest 84 = .ok (.iastore, 1) := by decide +kernel
theorem dX11_fewest_85 : decode cX11_fewest 85 = .ok (.iinc 4 1, 3) := by decide +kernel
theorem dX11_fewest_88 : decode cX11_fewest 88 = .ok (.goto (-41), 3) := by decide +kernel
theorem dX11_fewest_91 : decode cX11_fewest 91 = .ok (.iconst 0, 1) := by decide +kernel
theorem dX11_fewest_92 : decode cX11_fewest 92 = .ok (.istore 4, 2) := by decide +kernel
theorem dX11_fewest_94 : decode cX11_fewest 94 = .ok (.iload 4, 2) := by decide +kernel
theorem dX11_fewest_96 : decode cX11_fewest 96 = .ok (.iload_n 2, 1) := by decide +kernel
theorem dX11_fewest_97 : decode cX11_fewest 97 = .ok (.if_icmp .ge 68, 3) := by decide +kernel
theorem dX11_fewest_100 : decode cX11_fewest 100 = .ok (.aload_n 0, 1) := by decide +kernel
theorem dX11_fewest_101 : decode cX11_fewest 101 = .ok (.iconst 0, 1) := by decide +kernel
theorem dX11_fewest_102 : decode cX11_fewest 102 = .ok (.invokevirtual 394, 3) := by decide +kernel
theorem dX11_fewest_105 : decode cX11_fewest 105 = .ok (.aload_n 0, 1) := by decide +kernel
theorem dX11_fewest_106 : decode cX11_fewest 106 = .ok (.iconst 1, 1) := by decide +kernel
theorem dX11_fewest_107 : decode cX11_fewest 107 = .ok (.invokevirtual 394, 3) := by decide +kernel
theorem dX11_fewest_110 : decode cX11_fewest 110 = .ok (.aload_n 0, 1) := by decide +kernel
theorem dX11_fewest_111 : decode cX11_fewest 111 = .ok (.invokevirtual 333, 3) := by decide +kernel
theorem dX11_fewest_114 : decode cX11_fewest 114 = .ok (.iconst 0, 1) := by decide +kernel
theorem dX11_fewest_115 : decode cX11_fewest 115 = .ok (.istore 5, 2) := by decide +kernel
theorem dX11_fewest_117 : decode cX11_fewest 117 = .ok (.iload 5, 2) := by decide +kernel
theorem dX11_fewest_119 : decode cX11_fewest 119 = .ok (.iconst 2, 1) := by decide +kernel
theorem dX11_fewest_120 : decode cX11_fewest 120 = .ok (.if_icmp .ge 34, 3) := by decide +kernel
theorem dX11_fewest_123 : decode cX11_fewest 123 = .ok (.aload_n 0, 1) := by decide +kernel
theorem dX11_fewest_124 : decode cX11_fewest 124 = .ok (.iload 5, 2) := by decide +kernel
theorem dX11_fewest_126 : decode cX11_fewest 126 = .ok (.invokevirtual 260, 3) := by decide +kernel
theorem dX11_fewest_129 : decode cX11_fewest 129 = .ok (.ifCond .eq 19, 3) := by decide +kernel
theorem dX11_fewest_132 : decode cX11_fewest 132 = .ok (.aload_n 0, 1) := by decide +kernel
theorem dX11_fewest_133 : decode cX11_fewest 133 = .ok (.iload 5, 2) := by decide +kernel
theorem dX11_fewest_135 : decode cX11_fewest 135 = .ok (.aload_n 0, 1) := by decide +kernel
theorem dX11_fewest_136 : decode cX11_fewest 136 = .ok (.getfield 13, 3) := by decide +kernel
theorem dX11_fewest_139 : decode cX11_fewest 139 = .ok (.bipush 37, 2) := by decide +kernel
theorem dX11_fewest_141 : decode cX11_fewest 141 = .ok (.iaload, 1) := by decide +kernel
theorem dX11_fewest_142 : decode cX11_fewest 142 = .ok (.iload 4, 2) := by decide +kernel
theorem dX11_fewest_144 : decode cX11_fewest 144 = .ok (.iadd, 1) := by decide +kernel
theorem dX11_fewest_145 : decode cX11_fewest 145 = .ok (.invokevirtual 336, 3) := by decide +kernel
theorem dX11_fewest_148 : decode cX11_fewest 148 = .ok (.iinc 5 1, 3) := by decide +kernel
theorem dX11_fewest_151 : decode cX11_fewest 151 = .ok (.goto (-34), 3) := by decide +kernel
theorem dX11_fewest_154 : decode cX11_fewest 154 = .ok (.aload_n 0, 1) := by decide +kernel
theorem dX11_fewest_155 : decode cX11_fewest 155 = .ok (.iload_n 3, 1) := by decide +kernel
theorem dX11_fewest_156 : decode cX11_fewest 156 = .ok (.invokevirtual 425, 3) := by decide +kernel
theorem dX11_fewest_159 : decode cX11_fewest 159 = .ok (.iinc 4 1, 3) := by decide +kernel
theorem dX11_fewest_162 : decode cX11_fewest 162 = .ok (.goto (-68), 3) := by decide +kernel
theorem dX11_fewest_165 : decode cX11_fewest 165 = .ok (.aload_n 0, 1) := by decide +kernel
theorem dX11_fewest_166 : decode cX11_fewest 166 = .ok (.getfield 13, 3) := by decide +kernel
theorem dX11_fewest_169 : decode cX11_fewest 169 = .ok (.aload_n 0, 1) := by decide +kernel
theorem dX11_fewest_170 : decode cX11_fewest 170 = .ok (.getfield 7, 3) := by decide +kernel
theorem dX11_fewest_173 : decode cX11_fewest 173 = .ok (.invokestatic 403, 3) := by decide +kernel
theorem dX11_fewest_176 : decode cX11_fewest 176 = .ok (.ldc_w 348, 3) := by decide +kernel
theorem dX11_fewest_179 : decode cX11_fewest 179 = .ok (.istore 4, 2) := by decide +kernel
theorem dX11_fewest_181 : decode cX11_fewest 181 = .ok (.iconst 0, 1) := by decide +kernel
theorem dX11_fewest_182 : decode cX11_fewest 182 = .ok (.istore 5, 2) := by decide +kernel
theorem dX11_fewest_184 : decode cX11_fewest 184 = .ok (.iload 5, 2) := by decide +kernel
theorem dX11_fewest_186 : decode cX11_fewest 186 = .ok (.bipush 100, 2) := by decide +kernel
theorem dX11_fewest_188 : decode cX11_fewest 188 = .ok (.if_icmp .ge 28, 3) := by decide +kernel
theorem dX11_fewest_191 : decode cX11_fewest 191 = .ok (.iload 4, 2) := by decide +kernel
theorem dX11_fewest_193 : decode cX11_fewest 193 = .ok (.aload_n 0, 1) := by decide +kernel
theorem dX11_fewest_194 : decode cX11_fewest 194 = .ok (.getfield 111, 3) := by decide +kernel
theorem dX11_fewest_197 : decode cX11_fewest 197 = .ok (.bipush 31, 2) := by decide +kernel
theorem dX11_fewest_199 : decode cX11_fewest 199 = .ok (.iload 5, 2) := by decide +kernel
theorem dX11_fewest_201 : decode cX11_fewest 201 = .ok (.imul, 1) := by decide +kernel
theorem dX11_fewest_202 : decode cX11_fewest 202 = .ok (.iload_n 3, 1) := by decide +kernel
theorem dX11_fewest_203 : decode cX11_fewest 203 = .ok (.iadd, 1) := by decide +kernel
theorem dX11_fewest_204 : decode cX11_fewest 204 = .ok (.iaload, 1) := by decide +kernel
theorem dX11_fewest_205 : decode cX11_fewest 205 = .ok (.invokestatic 362, 3) := by decide +kernel
theorem dX11_fewest_208 : decode cX11_fewest 208 = .ok (.istore 4, 2) := by decide +kernel
theorem dX11_fewest_210 : decode cX11_fewest 210 = .ok (.iinc 5 1, 3) := by decide +kernel
theorem dX11_fewest_213 : decode cX11_fewest 213 = .ok (.goto (-29), 3) := by decide +kernel
theorem dX11_fewest_216 : decode cX11_fewest 216 = .ok (.iload 4, 2) := by decide +kernel
theorem dX11_fewest_218 : decode cX11_fewest 218 = .ok (.ldc_w 348, 3) := by decide +kernel
theorem dX11_fewest_221 : decode cX11_fewest 221 = .ok (.if_icmp .ne 8, 3) := by decide +kernel
theorem dX11_fewest_224 : decode cX11_fewest 224 = .ok (.bipush (-2), 2) := by decide +kernel
theorem dX11_fewest_226 : decode cX11_fewest 226 = .ok (.goto 5, 3) := by decide +kernel
theorem dX11_fewest_229 : decode cX11_fewest 229 = .ok (.iload 4, 2) := by decide +kernel
theorem dX11_fewest_231 : decode cX11_fewest 231 = .ok (.ireturn, 1) := by decide +kernel
theorem dX11_first_0 : decode cX11_first 0 = .ok (.iload_n 1, 1) := by decide +kernel
theorem dX11_first_1 : decode cX11_first 1 = .ok (.iconst 1, 1) := by decide +kernel
theorem dX11_first_2 : decode cX11_first 2 = .ok (.bipush 60, 2) := by decide +kernel
theorem dX11_first_4 : decode cX11_first 4 = .ok (.invokestatic 150, 3) := by decide +kernel
theorem dX11_first_7 : decode cX11_first 7 = .ok (.ifCond .eq 12, 3) := by decide +kernel
theorem dX11_first_10 : decode cX11_first 10 = .ok (.iload_n 2, 1) := by decide +kernel
theorem dX11_first_11 : decode cX11_first 11 = .ok (.iconst 0, 1) := by decide +kernel
theorem dX11_first_12 : decode cX11_first 12 = .ok (.iconst 1, 1) := by decide +kernel
theorem dX11_first_13 : decode cX11_first 13 = .ok (.invokestatic 150, 3) := by decide +kernel
theorem dX11_first_16 : decode cX11_first 16 = .ok (.ifCond .ne 5, 3) := by decide +kernel
theorem dX11_first_19 : decode cX11_first 19 = .ok (.iconst (-1), 1) := by decide +kernel
theorem dX11_first_20 : decode cX11_first 20 = .ok (.ireturn, 1) := by decide +kernel
theorem dX11_first_21 : decode cX11_first 21 = .ok (.bipush (-2), 2) := by decide +kernel
theorem dX11_first_23 : decode cX11_first 23 = .ok (.istore_n 3, 1) := by decide +kernel
theorem dX11_first_24 : decode cX11_first 24 = .ok (.aload_n 0, 1) := by decide +kernel
theorem dX11_first_25 : decode cX11_first 25 = .ok (.iconst (-1), 1) := by decide +kernel
theorem dX11_first_26 : decode cX11_first 26 = .ok (.iload_n 1, 1) := by decide +kernel
theorem dX11_first_27 : decode cX11_first 27 = .ok (.invokevirtual 437, 3) := by decide +kernel
theorem dX11_first_30 : decode cX11_first 30 = .ok (.istore 4, 2) := by decide +kernel
theorem dX11_first_32 : decode cX11_first 32 = .ok (.iconst 0, 1) := by decide +kernel
theorem dX11_first_33 : decode cX11_first 33 = .ok (.istore 5, 2) := by decide +kernel
theorem dX11_first_35 : decode cX11_first 35 = .ok (.iload 5, 2) := by decide +kernel
theorem dX11_first_37 : decode cX11_first 37 = .ok (.bipush 10, 2) := by decide +kernel
theorem dX11_first_39 : decode cX11_first 39 = .ok (.if_icmp .ge 47, 3) := by decide +kernel
theorem dX11_first_42 : decode cX11_first 42 = .ok (.aload_n 0, 1) := by decide +kernel
theorem dX11_first_43 : decode cX11_first 43 = .ok (.iload 5, 2) := by decide +kernel
theorem dX11_first_45 : decode cX11_first 45 = .ok (.invokevirtual 349, 3) := by decide +kernel
theorem dX11_first_48 : decode cX11_first 48 = .ok (.ifCond .ne 6, 3) := by decide +kernel
theorem dX11_first_51 : decode cX11_first 51 = .ok (.goto 29, 3) := by decide +kernel
theorem dX11_first_54 : decode cX11_first 54 = .ok (.aload_n 0, 1) := by decide +kernel
theorem dX11_first_55 : decode cX11_first 55 = .ok (.iload 5, 2) := by decide +kernel
theorem dX11_first_57 : decode cX11_first 57 = .ok (.iload_n 1, 1) := by decide +kernel
theorem dX11_first_58 : decode cX11_first 58 = .ok (.invokevirtual 437, 3) := by decide +kernel
theorem dX11_first_61 : decode cX11_first 61 = .ok (.istore 6, 2) := by decide +kernel
theorem dX11_first_63 : decode cX11_first 63 = .ok (.iload 6, 2) := by decide +kernel
theorem dX11_first_65 : decode cX11_first 65 = .ok (.iload 4, 2) := by decide +kernel
theorem dX11_first_67 : decode cX11_first 67 = .ok (.if_icmp .gt 6, 3) := by decide +kernel
theorem dX11_first_70 : decode cX11_first 70 = .ok (.goto 10, 3) := by decide +kernel
theorem dX11_first_73 : decode cX11_first 73 = .ok (.iload 6, 2) := by decide +kernel
theorem dX11_first_75 : decode cX11_first 75 = .ok (.istore 4, 2) := by decide +kernel
theorem dX11_first_77 : decode cX11_first 77 = .ok (.iload 5, 2) := by decide +kernel
theorem dX11_first_79 : decode cX11_first 79 = .ok (.istore_n 3, 1) := by decide +kernel
theorem dX11_first_80 : decode cX11_first 80 = .ok (.iinc 5 1, 3) := by decide +kernel
theorem dX11_first_83 : decode cX11_first 83 = .ok (.goto (-48), 3) := by decide +kernel
theorem dX11_first_86 : decode cX11_first 86 = .ok (.iload_n 2, 1) := by decide +kernel
theorem dX11_first_87 : decode cX11_first 87 = .ok (.ifCond .ne 7, 3) := by decide +kernel
theorem dX11_first_90 : decode cX11_first 90 = .ok (.iload_n 3, 1) := by decide +kernel
theorem dX11_first_91 : decode cX11_first 91 = .ok (.goto 5, 3) := by decide +kernel
theorem dX11_first_94 : decode cX11_first 94 = .ok (.iload 4, 2) := by decide +kernel
theorem dX11_first_96 : decode cX11_first 96 = .ok (.ireturn, 1) := by decide +kernel
theorem dX11_goesFew_0 : decode cX11_goesFew 0 = .ok (.iconst 0, 1) := by decide +kernel
theorem dX11_goesFew_1 : decode cX11_goesFew 1 = .ok (.istore_n 2, 1) := by decide +kernel
theorem dX11_goesFew_2 : decode cX11_goesFew 2 = .ok (.iload_n 2, 1) := by decide +kernel
theorem dX11_goesFew_3 : decode cX11_goesFew 3 = .ok (.sipush 3100, 3) := by decide +kernel
theorem dX11_goesFew_6 : decode cX11_goesFew 6 = .ok (.if_icmp .ge 18, 3) := by decide +kernel
theorem dX11_goesFew_9 : decode cX11_goesFew 9 = .ok (.aload_n 0, 1) := by decide +kernel
theorem dX11_goesFew_10 : decode cX11_goesFew 10 = .ok (.getfield 114, 3) := by decide +kernel
theorem dX11_goesFew_13 : decode cX11_goesFew 13 = .ok (.iload_n 2, 1) := by decide +kernel
theorem dX11_goesFew_14 : decode cX11_goesFew 14 = .ok (.ldc_w 348, 3) := by decide +kernel
theorem dX11_goesFew_17 : decode cX11_goesFew 17 = .ok (.iastore, 1) := by decide +kernel
theorem dX11_goesFew_18 : decode cX11_goesFew 18 = .ok (.iinc 2 1, 3) := by decide +kernel
theorem dX11_goesFew_21 : decode cX11_goesFew 21 = .ok (.goto (-19), 3) := by decide +kernel
theorem dX11_goesFew_24 : decode cX11_goesFew 24 = .ok (.iconst 0, 1) := by decide +kernel
theorem dX11_goesFew_25 : decode cX11_goesFew 25 = .ok (.istore_n 2, 1) := by decide +kernel
theorem dX11_goesFew_26 : decode cX11_goesFew 26 = .ok (.iload_n 2, 1) := by decide +kernel
theorem dX11_goesFew_27 : decode cX11_goesFew 27 = .ok (.bipush 100, 2) := by decide +kernel
theorem dX11_goesFew_29 : decode cX11_goesFew 29 = .ok (.if_icmp .ge 124, 3) := by decide +kernel
theorem dX11_goesFew_32 : decode cX11_goesFew 32 = .ok (.iconst 0, 1) := by decide +kernel
theorem dX11_goesFew_33 : decode cX11_goesFew 33 = .ok (.istore_n 3, 1) := by decide +kernel
theorem dX11_goesFew_34 : decode cX11_goesFew 34 = .ok (.iload_n 3, 1) := by decide +kernel
theorem dX11_goesFew_35 : decode cX11_goesFew 35 = .ok (.bipush 100, 2) := by decide +kernel
theorem dX11_goesFew_37 : decode cX11_goesFew 37 = .ok (.if_icmp .ge 110, 3) := by decide +kernel
theorem dX11_goesFew_40 : decode cX11_goesFew 40 = .ok (.aload_n 0, 1) := by decide +kernel
theorem dX11_goesFew_41 : decode cX11_goesFew 41 = .ok (.getfield 117, 3) := by decide +kernel
theorem dX11_goesFew_44 : decode cX11_goesFew 44 = .ok (.bipush 100, 2) := by decide +kernel
theorem dX11_goesFew_46 : decode cX11_goesFew 46 = .ok (.iload_n 2, 1) := by decide +kernel
theorem dX11_goesFew_47 : decode cX11_goesFew 47 = .ok (.imul, 1) := by decide +kernel
theorem dX11_goesFew_48 : decode cX11_goesFew 48 = .ok (.iload_n 3, 1) := by decide +kernel
theorem dX11_goesFew_49 : decode cX11_goesFew 49 = .ok (.iadd, 1) := by decide +kernel
theorem dX11_goesFew_50 : decode cX11_goesFew 50 = .ok (.iaload, 1) := by decide +kernel
theorem dX11_goesFew_51 : decode cX11_goesFew 51 = .ok (.istore 4, 2) := by decide +kernel
theorem dX11_goesFew_53 : decode cX11_goesFew 53 = .ok (.iconst 0, 1) := by decide +kernel
theorem dX11_goesFew_54 : decode cX11_goesFew 54 = .ok (.istore 5, 2) := by decide +kernel
theorem dX11_goesFew_56 : decode cX11_goesFew 56 = .ok (.iload 5, 2) := by decide +kernel
theorem dX11_goesFew_58 : decode cX11_goesFew 58 = .ok (.iload_n 1, 1) := by decide +kernel
theorem dX11_goesFew_59 : decode cX11_goesFew 59 = .ok (.if_icmp .gt 82, 3) := by decide +kernel
theorem dX11_goesFew_62 : decode cX11_goesFew 62 = .ok (.iload 4, 2) := by decide +kernel
theorem dX11_goesFew_64 : decode cX11_goesFew 64 = .ok (.ldc_w 348, 3) := by decide +kernel
theorem dX11_goesFew_67 : decode cX11_goesFew 67 = .ok (.if_icmp .ge 74, 3) := by decide +kernel
theorem dX11_goesFew_70 : decode cX11_goesFew 70 = .ok (.iload_n 1, 1) := by decide +kernel
theorem dX11_goesFew_71 : decode cX11_goesFew 71 = .ok (.iload 5, 2) := by decide +kernel
theorem dX11_goesFew_73 : decode cX11_goesFew 73 = .ok (.aload_n 0, 1) := by decide +kernel
theorem dX11_goesFew_74 : decode cX11_goesFew 74 = .ok (.getfield 89, 3) := by decide +kernel
theorem dX11_goesFew_77 : decode cX11_goesFew 77 = .ok (.iload_n 3, 1) := by decide +kernel
theorem dX11_goesFew_78 : decode cX11_goesFew 78 = .ok (.iaload, 1) := by decide +kernel
theorem dX11_goesFew_79 : decode cX11_goesFew 79 = .ok (.ifCond .le 7, 3) := by decide +kernel
theorem dX11_goesFew_82 : decode cX11_goesFew 82 = .ok (.iconst 1, 1) := by decide +kernel
theorem dX11_goesFew_83 : decode cX11_goesFew 83 = .ok (.goto 4, 3) := by decide +kernel
theorem dX11_goesFew_86 : decode cX11_goesFew 86 = .ok (.iconst 0, 1) := by decide +kernel
theorem dX11_goesFew_87 : decode cX11_goesFew 87 = .ok (.iadd, 1) := by decide +kernel
theorem dX11_goesFew_88 : decode cX11_goesFew 88 = .ok (.invokestatic 362, 3) := by decide +kernel
theorem dX11_goesFew_91 : decode cX11_goesFew 91 = .ok (.istore 6, 2) := by decide +kernel
theorem dX11_goesFew_93 : decode cX11_goesFew 93 = .ok (.aload_n 0, 1) := by decide +kernel
theorem dX11_goesFew_94 : decode cX11_goesFew 94 = .ok (.getfield 114, 3) := by decide +kernel
theorem dX11_goesFew_97 : decode cX11_goesFew 97 = .ok (.bipush 31, 2) := by decide +kernel
theorem dX11_goesFew_99 : decode cX11_goesFew 99 = .ok (.iload_n 3, 1) := by decide +kernel
theorem dX11_goesFew_100 : decode cX11_goesFew 100 = .ok (.imul, 1) := by decide +kernel
theorem dX11_goesFew_101 : decode cX11_goesFew 101 = .ok (.iload 6, 2) := by decide +kernel
theorem dX11_goesFew_103 : decode cX11_goesFew 103 = .ok (.iadd, 1) := by decide +kernel
theorem dX11_goesFew_104 : decode cX11_goesFew 104 = .ok (.aload_n 0, 1) := by decide +kernel
theorem dX11_goesFew_105 : decode cX11_goesFew 105 = .ok (.getfield 114, 3) := by decide +kernel
theorem dX11_goesFew_108 : decode cX11_goesFew 108 = .ok (.bipush 31, 2) := by decide +kernel
theorem dX11_goesFew_110 : decode cX11_goesFew 110 = .ok (.iload_n 3, 1) := by decide +kernel
theorem dX11_goesFew_111 : decode cX11_goesFew 111 = .ok (.imul, 1) := by decide +kernel
theorem dX11_goesFew_112 : decode cX11_goesFew 112 = .ok (.iload 6, 2) := by decide +kernel
theorem dX11_goesFew_114 : decode cX11_goesFew 114 = .ok (.iadd, 1) := by decide +kernel
theorem dX11_goesFew_115 : decode cX11_goesFew 115 = .ok (.iaload, 1) := by decide +kernel
theorem dX11_goesFew_116 : decode cX11_goesFew 116 = .ok (.aload_n 0, 1) := by decide +kernel
theorem dX11_goesFew_117 : decode cX11_goesFew 117 = .ok (.getfield 111, 3) := by decide +kernel
theorem dX11_goesFew_120 : decode cX11_goesFew 120 = .ok (.bipush 31, 2) := by decide +kernel
theorem dX11_goesFew_122 : decode cX11_goesFew 122 = .ok (.iload_n 2, 1) := by decide +kernel
theorem dX11_goesFew_123 : decode cX11_goesFew 123 = .ok (.imul, 1) := by decide +kernel
theorem dX11_goesFew_124 : decode cX11_goesFew 124 = .ok (.iload 5, 2) := by decide +kernel
theorem dX11_goesFew_126 : decode cX11_goesFew 126 = .ok (.iadd, 1) := by decide +kernel
theorem dX11_goesFew_127 : decode cX11_goesFew 127 = .ok (.iaload, 1) := by decide +kernel
theorem dX11_goesFew_128 : decode cX11_goesFew 128 = .ok (.iload 4, 2) := by decide +kernel
theorem dX11_goesFew_130 : decode cX11_goesFew 130 = .ok (.iadd, 1) := by decide +kernel
theorem dX11_goesFew_131 : decode cX11_goesFew 131 = .ok (.invokestatic 362, 3) := by decide +kernel
theorem dX11_goesFew_134 : decode cX11_goesFew 134 = .ok (.iastore, 1) := by decide +kernel
theorem dX11_goesFew_135 : decode cX11_goesFew 135 = .ok (.iinc 5 1, 3) := by decide +kernel
theorem dX11_goesFew_138 : decode cX11_goesFew 138 = .ok (.goto (-82), 3) := by decide +kernel
theorem dX11_goesFew_141 : decode cX11_goesFew 141 = .ok (.iinc 3 1, 3) := by decide +kernel
theorem dX11_goesFew_144 : decode cX11_goesFew 144 = .ok (.goto (-110), 3) := by decide +kernel
theorem dX11_goesFew_147 : decode cX11_goesFew 147 = .ok (.iinc 2 1, 3) := by decide +kernel
theorem dX11_goesFew_150 : decode cX11_goesFew 150 = .ok (.goto (-124), 3) := by decide +kernel
theorem dX11_goesFew_153 : decode cX11_goesFew 153 = .ok (.iconst 0, 1) := by decide +kernel
theorem dX11_goesFew_154 : decode cX11_goesFew 154 = .ok (.istore_n 2, 1) := by decide +kernel
theorem dX11_goesFew_155 : decode cX11_goesFew 155 = .ok (.iload_n 2, 1) := by decide +kernel
theorem dX11_goesFew_156 : decode cX11_goesFew 156 = .ok (.sipush 3100, 3) := by decide +kernel
theorem dX11_goesFew_159 : decode cX11_goesFew 159 = .ok (.if_icmp .ge 27, 3) := by decide +kernel
theorem dX11_goesFew_162 : decode cX11_goesFew 162 = .ok (.aload_n 0, 1) := by decide +kernel
theorem dX11_goesFew_163 : decode cX11_goesFew 163 = .ok (.getfield 111, 3) := by decide +kernel
theorem dX11_goesFew_166 : decode cX11_goesFew 166 = .ok (.iload_n 2, 1) := by decide +kernel
theorem dX11_goesFew_167 : decode cX11_goesFew 167 = .ok (.ldc_w 348, 3) := by decide +kernel
theorem dX11_goesFew_170 : decode cX11_goesFew 170 = .ok (.aload_n 0, 1) := by decide +kernel
theorem dX11_goesFew_171 : decode cX11_goesFew 171 = .ok (.getfield 114, 3) := by decide +kernel
theorem dX11_goesFew_174 : decode cX11_goesFew 174 = .ok (.iload_n 2, 1) := by decide +kernel
theorem dX11_goesFew_175 : decode cX11_goesFew 175 = .ok (.iaload, 1) := by decide +kernel
theorem dX11_goesFew_176 : decode cX11_goesFew 176 = .ok (.invokestatic 362, 3) := by decide +kernel
theorem dX11_goesFew_179 : decode cX11_goesFew 179 = .ok (.iastore, 1) := by decide +kernel
theorem dX11_goesFew_180 : decode cX11_goesFew 180 = .ok (.iinc 2 1, 3) := by decide +kernel
theorem dX11_goesFew_183 : decode cX11_goesFew 183 = .ok (.goto (-28), 3) := by decide +kernel
theorem dX11_goesFew_186 : decode cX11_goesFew 186 = .ok (.return_, 1) := by decide +kernel
theorem dX11_home_0 : decode cX11_home 0 = .ok (.aload_n 0, 1) := by decide +kernel
theorem dX11_home_1 : decode cX11_home 1 = .ok (.iload_n 1, 1) := by decide +kernel
theorem dX11_home_2 : decode cX11_home 2 = .ok (.invokevirtual 260, 3) := by decide +kernel
theorem dX11_home_5 : decode cX11_home 5 = .ok (.ifCond .eq 29, 3) := by decide +kernel
theorem dX11_home_8 : decode cX11_home 8 = .ok (.iload_n 2, 1) := by decide +kernel
theorem dX11_home_9 : decode cX11_home 9 = .ok (.iconst 1, 1) := by decide +kernel
theorem dX11_home_10 : decode cX11_home 10 = .ok (.iconst 5, 1) := by decide +kernel
theorem dX11_home_11 : decode cX11_home 11 = .ok (.invokestatic 150, 3) := by decide +kernel
theorem dX11_home_14 : decode cX11_home 14 = .ok (.ifCond .eq 20, 3) := by decide +kernel
theorem dX11_home_17 : decode cX11_home 17 = .ok (.iload_n 3, 1) := by decide +kernel
theorem dX11_home_18 : decode cX11_home 18 = .ok (.bipush 10, 2) := by decide +kernel
theorem dX11_home_20 : decode cX11_home 20 = .ok (.if_icmp .eq 16, 3) := by decide +kernel
theorem dX11_home_23 : decode cX11_home 23 = .ok (.iload_n 3, 1) := by decide +kernel
theorem dX11_home_24 : decode cX11_home 24 = .ok (.iconst 0, 1) := by decide +kernel
theorem dX11_home_25 : decode cX11_home 25 = .ok (.iload_n 2, 1) := by decide +kernel
theorem dX11_home_26 : decode cX11_home 26 = .ok (.iconst 1, 1) := by decide +kernel
theorem dX11_home_27 : decode cX11_home 27 = .ok (.isub, 1) := by decide +kernel
theorem dX11_home_28 : decode cX11_home 28 = .ok (.invokestatic 150, 3) := by decide +kernel
theorem dX11_home_31 : decode cX11_home 31 = .ok (.ifCond .ne 5, 3) := by decide +kernel
theorem dX11_home_34 : decode cX11_home 34 = .ok (.iconst (-1), 1) := by decide +kernel
theorem dX11_home_35 : decode cX11_home 35 = .ok (.ireturn, 1) := by decide +kernel
theorem dX11_home_36 : decode cX11_home 36 = .ok (.iconst 1, 1) := by decide +kernel
theorem dX11_home_37 : decode cX11_home 37 = .ok (.istore 4, 2) := by decide +kernel
theorem dX11_home_39 : decode cX11_home 39 = .ok (.iconst 0, 1) := by decide +kernel
theorem dX11_home_40 : decode cX11_home 40 = .ok (.istore 5, 2) := by decide +kernel
theorem dX11_home_42 : decode cX11_home 42 = .ok (.iload 5, 2) := by decide +kernel
theorem dX11_home_44 : decode cX11_home 44 = .ok (.iload_n 2, 1) := by decide +kernel
theorem dX11_home_45 : decode cX11_home 45 = .ok (.if_icmp .ge 15, 3) := by decide +kernel
theorem dX11_home_48 : decode cX11_home 48 = .ok (.iload 4, 2) := by decide +kernel
theorem dX11_home_50 : decode cX11_home 50 = .ok (.iconst 5, 1) := by decide +kernel
theorem dX11_home_51 : decode cX11_home 51 = .ok (.imul, 1) := by decide +kernel
theorem dX11_home_52 : decode cX11_home 52 = .ok (.istore 4, 2) := by decide +kernel
theorem dX11_home_54 : decode cX11_home 54 = .ok (.iinc 5 1, 3) := by decide +kernel
theorem dX11_home_57 : decode cX11_home 57 = .ok (.goto (-15), 3) := by decide +kernel
theorem dX11_home_60 : decode cX11_home 60 = .ok (.iconst (-1), 1) := by decide +kernel
theorem dX11_home_61 : decode cX11_home 61 = .ok (.istore 5, 2) := by decide +kernel
theorem dX11_home_63 : decode cX11_home 63 = .ok (.iconst (-1), 1) := by decide +kernel
theorem dX11_home_64 : decode cX11_home 64 = .ok (.istore 6, 2) := by decide +kernel
theorem dX11_home_66 : decode cX11_home 66 = .ok (.iconst 0, 1) := by decide +kernel
theorem dX11_home_67 : decode cX11_home 67 = .ok (.istore 7, 2) := by decide +kernel
theorem dX11_home_69 : decode cX11_home 69 = .ok (.iload 7, 2) := by decide +kernel
theorem dX11_home_71 : decode cX11_home 71 = .ok (.iload 4, 2) := by decide +kernel
theorem dX11_home_73 : decode cX11_home 73 = .ok (.if_icmp .ge 37, 3) := by decide +kernel
theorem dX11_home_76 : decode cX11_home 76 = .ok (.aload_n 0, 1) := by decide +kernel
theorem dX11_home_77 : decode cX11_home 77 = .ok (.iload_n 1, 1) := by decide +kernel
theorem dX11_home_78 : decode cX11_home 78 = .ok (.iload_n 2, 1) := by decide +kernel
theorem dX11_home_79 : decode cX11_home 79 = .ok (.iload 7, 2) := by decide +kernel
theorem dX11_home_81 : decode cX11_home 81 = .ok (.invokevirtual 431, 3) := by decide +kernel
theorem dX11_home_84 : decode cX11_home 84 = .ok (.istore 8, 2) := by decide +kernel
theorem dX11_home_86 : decode cX11_home 86 = .ok (.iload 8, 2) := by decide +kernel
theorem dX11_home_88 : decode cX11_home 88 = .ok (.iload 6, 2) := by decide +kernel
theorem dX11_home_90 : decode cX11_home 90 = .ok (.if_icmp .gt 6, 3) := by decide +kernel
theorem dX11_home_93 : decode cX11_home 93 = .ok (.goto 11, 3) := by decide +kernel
theorem dX11_home_96 : decode cX11_home 96 = .ok (.iload 8, 2) := by decide +kernel
theorem dX11_home_98 : decode cX11_home 98 = .ok (.istore 6, 2) := by decide +kernel
theorem dX11_home_100 : decode cX11_home 100 = .ok (.iload 7, 2) := by decide +kernel
theorem dX11_home_102 : decode cX11_home 102 = .ok (.istore 5, 2) := by decide +kernel
theorem dX11_home_104 : decode cX11_home 104 = .ok (.iinc 7 1, 3) := by decide +kernel
theorem dX11_home_107 : decode cX11_home 107 = .ok (.goto (-38), 3) := by decide +kernel
theorem dX11_home_110 : decode cX11_home 110 = .ok (.iload_n 3, 1) := by decide +kernel
theorem dX11_home_111 : decode cX11_home 111 = .ok (.bipush 10, 2) := by decide +kernel
theorem dX11_home_113 : decode cX11_home 113 = .ok (.if_icmp .ne 8, 3) := by decide +kernel
theorem dX11_home_116 : decode cX11_home 116 = .ok (.iload 6, 2) := by decide +kernel
theorem dX11_home_118 : decode cX11_home 118 = .ok (.goto 12, 3) := by decide +kernel
theorem dX11_home_121 : decode cX11_home 121 = .ok (.iload 5, 2) := by decide +kernel
theorem dX11_home_123 : decode cX11_home 123 = .ok (.iload_n 2, 1) := by decide +kernel
theorem dX11_home_124 : decode cX11_home 124 = .ok (.iload_n 3, 1) := by decide +kernel
theorem dX11_home_125 : decode cX11_home 125 = .ok (.invokestatic 428, 3) := by decide +kernel
theorem dX11_home_128 : decode cX11_home 128 = .ok (.iconst 2, 1) := by decide +kernel
theorem dX11_home_129 : decode cX11_home 129 = .ok (.idiv, 1) := by decide +kernel
theorem dX11_home_130 : decode cX11_home 130 = .ok (.ireturn, 1) := by decide +kernel
theorem dX11_hung_0 : decode cX11_hung 0 = .ok (.iload_n 1, 1) := by decide +kernel
theorem dX11_hung_1 : decode cX11_hung 1 = .ok (.iconst 0, 1) := by decide +kernel
theorem dX11_hung_2 : decode cX11_hung 2 = .ok (.iconst 1, 1) := by decide +kernel
theorem dX11_hung_3 : decode cX11_hung 3 = .ok (.invokestatic 150, 3) := by decide +kernel
theorem dX11_hung_6 : decode cX11_hung 6 = .ok (.ifCond .ne 5, 3) := by decide +kernel
theorem dX11_hung_9 : decode cX11_hung 9 = .ok (.iconst (-1), 1) := by decide +kernel
theorem dX11_hung_10 : decode cX11_hung 10 = .ok (.ireturn, 1) := by decide +kernel
theorem dX11_hung_11 : decode cX11_hung 11 = .ok (.bipush (-2), 2) := by decide +kernel
theorem dX11_hung_13 : decode cX11_hung 13 = .ok (.istore_n 2, 1) := by decide +kernel
theorem dX11_hung_14 : decode cX11_hung 14 = .ok (.iconst (-1), 1) := by decide +kernel
theorem dX11_hung_15 : decode cX11_hung 15 = .ok (.istore_n 3, 1) := by decide +kernel
theorem dX11_hung_16 : decode cX11_hung 16 = .ok (.iconst 0, 1) := by decide +kernel
theorem dX11_hung_17 : decode cX11_hung 17 = .ok (.istore 4, 2) := by decide +kernel
theorem dX11_hung_19 : decode cX11_hung 19 = .ok (.iload 4, 2) := by decide +kernel
theorem dX11_hung_21 : decode cX11_hung 21 = .ok (.bipush 100, 2) := by decide +kernel
theorem dX11_hung_23 : decode cX11_hung 23 = .ok (.if_icmp .ge 115, 3) := by decide +kernel
theorem dX11_hung_26 : decode cX11_hung 26 = .ok (.aload_n 0, 1) := by decide +kernel
theorem dX11_hung_27 : decode cX11_hung 27 = .ok (.iload 4, 2) := by decide +kernel
theorem dX11_hung_29 : decode cX11_hung 29 = .ok (.invokevirtual 434, 3) := by decide +kernel
theorem dX11_hung_32 : decode cX11_hung 32 = .ok (.ifCond .ne 6, 3) := by decide +kernel
theorem dX11_hung_35 : decode cX11_hung 35 = .ok (.goto 97, 3) := by decide +kernel
theorem dX11_hung_38 : decode cX11_hung 38 = .ok (.aload_n 0, 1) := by decide +kernel
theorem dX11_hung_39 : decode cX11_hung 39 = .ok (.invokevirtual 333, 3) := by decide +kernel
theorem dX11_hung_42 : decode cX11_hung 42 = .ok (.aload_n 0, 1) := by decide +kernel
theorem dX11_hung_43 : decode cX11_hung 43 = .ok (.invokevirtual 342, 3) := by decide +kernel
theorem dX11_hung_46 : decode cX11_hung 46 = .ok (.iconst 0, 1) := by decide +kernel
theorem dX11_hung_47 : decode cX11_hung 47 = .ok (.istore 5, 2) := by decide +kernel
theorem dX11_hung_49 : decode cX11_hung 49 = .ok (.iload 5, 2) := by decide +kernel
theorem dX11_hung_51 : decode cX11_hung 51 = .ok (.iconst 2, 1) := by decide +kernel
theorem dX11_hung_52 : decode cX11_hung 52 = .ok (.if_icmp .ge 26, 3) := by decide +kernel
theorem dX11_hung_55 : decode cX11_hung 55 = .ok (.aload_n 0, 1) := by decide +kernel
theorem dX11_hung_56 : decode cX11_hung 56 = .ok (.iload 5, 2) := by decide +kernel
theorem dX11_hung_58 : decode cX11_hung 58 = .ok (.invokevirtual 260, 3) := by decide +kernel
theorem dX11_hung_61 : decode cX11_hung 61 = .ok (.ifCond .eq 11, 3) := by decide +kernel
theorem dX11_hung_64 : decode cX11_hung 64 = .ok (.aload_n 0, 1) := by decide +kernel
theorem dX11_hung_65 : decode cX11_hung 65 = .ok (.iload 4, 2) := by decide +kernel
theorem dX11_hung_67 : decode cX11_hung 67 = .ok (.iload 5, 2) := by decide +kernel
theorem dX11_hung_69 : decode cX11_hung 69 = .ok (.invokevirtual 330, 3) := by decide +kernel
theorem dX11_hung_72 : decode cX11_hung 72 = .ok (.iinc 5 1, 3) := by decide +kernel
theorem dX11_hung_75 : decode cX11_hung 75 = .ok (.goto (-26), 3) := by decide +kernel
theorem dX11_hung_78 : decode cX11_hung 78 = .ok (.iconst 0, 1) := by decide +kernel
theorem dX11_hung_79 : decode cX11_hung 79 = .ok (.istore 5, 2) := by decide +kernel
theorem dX11_hung_81 : decode cX11_hung 81 = .ok (.iconst 0, 1) := by decide +kernel
theorem dX11_hung_82 : decode cX11_hung 82 = .ok (.istore 6, 2) := by decide +kernel
theorem dX11_hung_84 : decode cX11_hung 84 = .ok (.iload 6, 2) := by decide +kernel
theorem dX11_hung_86 : decode cX11_hung 86 = .ok (.bipush 100, 2) := by decide +kernel
theorem dX11_hung_88 : decode cX11_hung 88 = .ok (.if_icmp .ge 29, 3) := by decide +kernel
theorem dX11_hung_91 : decode cX11_hung 91 = .ok (.iload 5, 2) := by decide +kernel
theorem dX11_hung_93 : decode cX11_hung 93 = .ok (.aload_n 0, 1) := by decide +kernel
theorem dX11_hung_94 : decode cX11_hung 94 = .ok (.getfield 89, 3) := by decide +kernel
theorem dX11_hung_97 : decode cX11_hung 97 = .ok (.iload 6, 2) := by decide +kernel
theorem dX11_hung_99 : decode cX11_hung 99 = .ok (.iaload, 1) := by decide +kernel
theorem dX11_hung_100 : decode cX11_hung 100 = .ok (.ifCond .le 7, 3) := by decide +kernel
theorem dX11_hung_103 : decode cX11_hung 103 = .ok (.iconst 1, 1) := by decide +kernel
theorem dX11_hung_104 : decode cX11_hung 104 = .ok (.goto 4, 3) := by decide +kernel
theorem dX11_hung_107 : decode cX11_hung 107 = .ok (.iconst 0, 1) := by decide +kernel
theorem dX11_hung_108 : decode cX11_hung 108 = .ok (.iadd, 1) := by decide +kernel
theorem dX11_hung_109 : decode cX11_hung 109 = .ok (.istore 5, 2) := by decide +kernel
theorem dX11_hung_111 : decode cX11_hung 111 = .ok (.iinc 6 1, 3) := by decide +kernel
theorem dX11_hung_114 : decode cX11_hung 114 = .ok (.goto (-30), 3) := by decide +kernel
theorem dX11_hung_117 : decode cX11_hung 117 = .ok (.iload 5, 2) := by decide +kernel
theorem dX11_hung_119 : decode cX11_hung 119 = .ok (.iload_n 3, 1) := by decide +kernel
theorem dX11_hung_120 : decode cX11_hung 120 = .ok (.if_icmp .gt 6, 3) := by decide +kernel
theorem dX11_hung_123 : decode cX11_hung 123 = .ok (.goto 9, 3) := by decide +kernel
theorem dX11_hung_126 : decode cX11_hung 126 = .ok (.iload 5, 2) := by decide +kernel
theorem dX11_hung_128 : decode cX11_hung 128 = .ok (.istore_n 3, 1) := by decide +kernel
theorem dX11_hung_129 : decode cX11_hung 129 = .ok (.iload 4, 2) := by decide +kernel
theorem dX11_hung_131 : decode cX11_hung 131 = .ok (.istore_n 2, 1) := by decide +kernel
theorem dX11_hung_132 : decode cX11_hung 132 = .ok (.iinc 4 1, 3) := by decide +kernel
theorem dX11_hung_135 : decode cX11_hung 135 = .ok (.goto (-116), 3) := by decide +kernel
theorem dX11_hung_138 : decode cX11_hung 138 = .ok (.iload_n 1, 1) := by decide +kernel
theorem dX11_hung_139 : decode cX11_hung 139 = .ok (.ifCond .eq 9, 3) := by decide +kernel
theorem dX11_hung_142 : decode cX11_hung 142 = .ok (.iload_n 2, 1) := by decide +kernel
theorem dX11_hung_143 : decode cX11_hung 143 = .ok (.bipush (-2), 2) := by decide +kernel
theorem dX11_hung_145 : decode cX11_hung 145 = .ok (.if_icmp .ne 7, 3) := by decide +kernel
theorem dX11_hung_148 : decode cX11_hung 148 = .ok (.iload_n 2, 1) := by decide +kernel
theorem dX11_hung_149 : decode cX11_hung 149 = .ok (.goto 4, 3) := by decide +kernel
theorem dX11_hung_152 : decode cX11_hung 152 = .ok (.iload_n 3, 1) := by decide +kernel
theorem dX11_hung_153 : decode cX11_hung 153 = .ok (.ireturn, 1) := by decide +kernel
theorem dX11_isFree_0 : decode cX11_isFree 0 = .ok (.aload_n 0, 1) := by decide +kernel
theorem dX11_isFree_1 : decode cX11_isFree 1 = .ok (.getfield 19, 3) := by decide +kernel
theorem dX11_isFree_4 : decode cX11_isFree 4 = .ok (.iload_n 1, 1) := by decide +kernel
theorem dX11_isFree_5 : decode cX11_isFree 5 = .ok (.iaload, 1) := by decide +kernel
theorem dX11_isFree_6 : decode cX11_isFree 6 = .ok (.ifCond .eq 5, 3) := by decide +kernel
theorem dX11_isFree_9 : decode cX11_isFree 9 = .ok (.iconst 0, 1) := by decide +kernel
theorem dX11_isFree_10 : decode cX11_isFree 10 = .ok (.ireturn, 1) := by decide +kernel
theorem dX11_isFree_11 : decode cX11_isFree 11 = .ok (.iconst 0, 1) := by decide +kernel
theorem dX11_isFree_12 : decode cX11_isFree 12 = .ok (.istore_n 2, 1) := by decide +kernel
theorem dX11_isFree_13 : decode cX11_isFree 13 = .ok (.iload_n 2, 1) := by decide +kernel
theorem dX11_isFree_14 : decode cX11_isFree 14 = .ok (.iconst 2, 1) := by decide +kernel
theorem dX11_isFree_15 : decode cX11_isFree 15 = .ok (.if_icmp .ge 31, 3) := by decide +kernel
theorem dX11_isFree_18 : decode cX11_isFree 18 = .ok (.aload_n 0, 1) := by decide +kernel
theorem dX11_isFree_19 : decode cX11_isFree 19 = .ok (.iload_n 2, 1) := by decide +kernel
theorem dX11_isFree_20 : decode cX11_isFree 20 = .ok (.invokevirtual 260, 3) := by decide +kernel
theorem dX11_isFree_23 : decode cX11_isFree 23 = .ok (.ifCond .eq 17, 3) := by decide +kernel
theorem dX11_isFree_26 : decode cX11_isFree 26 = .ok (.aload_n 0, 1) := by decide +kernel
theorem dX11_isFree_27 : decode cX11_isFree 27 = .ok (.getfield 7, 3) := by decide +kernel
theorem dX11_isFree_30 : decode cX11_isFree 30 = .ok (.iconst 0, 1) := by decide +kernel
theorem dX11_isFree_31 : decode cX11_isFree 31 = .ok (.iload_n 2, 1) := by decide +kernel
theorem dX11_isFree_32 : decode cX11_isFree 32 = .ok (.iadd, 1) := by decide +kernel
theorem dX11_isFree_33 : decode cX11_isFree 33 = .ok (.iaload, 1) := by decide +kernel
theorem dX11_isFree_34 : decode cX11_isFree 34 = .ok (.iload_n 1, 1) := by decide +kernel
theorem dX11_isFree_35 : decode cX11_isFree 35 = .ok (.if_icmp .ne 5, 3) := by decide +kernel
theorem dX11_isFree_38 : decode cX11_isFree 38 = .ok (.iconst 0, 1) := by decide +kernel
theorem dX11_isFree_39 : decode cX11_isFree 39 = .ok (.ireturn, 1) := by decide +kernel
theorem dX11_isFree_40 : decode cX11_isFree 40 = .ok (.iinc 2 1, 3) := by decide +kernel
theorem dX11_isFree_43 : decode cX11_isFree 43 = .ok (.goto (-30), 3) := by decide +kernel
theorem dX11_isFree_46 : decode cX11_isFree 46 = .ok (.iconst 0, 1) := by decide +kernel
theorem dX11_isFree_47 : decode cX11_isFree 47 = .ok (.istore_n 2, 1) := by decide +kernel
theorem dX11_isFree_48 : decode cX11_isFree 48 = .ok (.iload_n 2, 1) := by decide +kernel
theorem dX11_isFree_49 : decode cX11_isFree 49 = .ok (.bipush 10, 2) := by decide +kernel
theorem dX11_isFree_51 : decode cX11_isFree 51 = .ok (.if_icmp .ge 31, 3) := by decide +kernel
theorem dX11_isFree_54 : decode cX11_isFree 54 = .ok (.aload_n 0, 1) := by decide +kernel
theorem dX11_isFree_55 : decode cX11_isFree 55 = .ok (.iload_n 2, 1) := by decide +kernel
theorem dX11_isFree_56 : decode cX11_isFree 56 = .ok (.invokevirtual 146, 3) := by decide +kernel
theorem dX11_isFree_59 : decode cX11_isFree 59 = .ok (.ifCond .eq 17, 3) := by decide +kernel
theorem dX11_isFree_62 : decode cX11_isFree 62 = .ok (.aload_n 0, 1) := by decide +kernel
theorem dX11_isFree_63 : decode cX11_isFree 63 = .ok (.getfield 7, 3) := by decide +kernel
theorem dX11_isFree_66 : decode cX11_isFree 66 = .ok (.iconst 4, 1) := by decide +kernel
theorem dX11_isFree_67 : decode cX11_isFree 67 = .ok (.iload_n 2, 1) := by decide +kernel
theorem dX11_isFree_68 : decode cX11_isFree 68 = .ok (.iadd, 1) := by decide +kernel
theorem dX11_isFree_69 : decode cX11_isFree 69 = .ok (.iaload, 1) := by decide +kernel
theorem dX11_isFree_70 : decode cX11_isFree 70 = .ok (.iload_n 1, 1) := by decide +kernel
theorem dX11_isFree_71 : decode cX11_isFree 71 = .ok (.if_icmp .ne 5, 3) := by decide +kernel
theorem dX11_isFree_74 : decode cX11_isFree 74 = .ok (.iconst 0, 1) := by decide +kernel
theorem dX11_isFree_75 : decode cX11_isFree 75 = .ok (.ireturn, 1) := by decide +kernel
theorem dX11_isFree_76 : decode cX11_isFree 76 = .ok (.iinc 2 1, 3) := by decide +kernel
theorem dX11_isFree_79 : decode cX11_isFree 79 = .ok (.goto (-31), 3) := by decide +kernel
theorem dX11_isFree_82 : decode cX11_isFree 82 = .ok (.iconst 0, 1) := by decide +kernel
theorem dX11_isFree_83 : decode cX11_isFree 83 = .ok (.istore_n 2, 1) := by decide +kernel
theorem dX11_isFree_84 : decode cX11_isFree 84 = .ok (.iload_n 2, 1) := by decide +kernel
theorem dX11_isFree_85 : decode cX11_isFree 85 = .ok (.iconst 4, 1) := by decide +kernel
theorem dX11_isFree_86 : decode cX11_isFree 86 = .ok (.if_icmp .ge 21, 3) := by decide +kernel
theorem dX11_isFree_89 : decode cX11_isFree 89 = .ok (.aload_n 0, 1) := by decide +kernel
theorem dX11_isFree_90 : decode cX11_isFree 90 = .ok (.getfield 22, 3) := by decide +kernel
theorem dX11_isFree_93 : decode cX11_isFree 93 = .ok (.iload_n 2, 1) := by decide +kernel
theorem dX11_isFree_94 : decode cX11_isFree 94 = .ok (.iaload, 1) := by decide +kernel
theorem dX11_isFree_95 : decode cX11_isFree 95 = .ok (.iload_n 1, 1) := by decide +kernel
theorem dX11_isFree_96 : decode cX11_isFree 96 = .ok (.if_icmp .ne 5, 3) := by decide +kernel
theorem dX11_isFree_99 : decode cX11_isFree 99 = .ok (.iconst 0, 1) := by decide +kernel
theorem dX11_isFree_100 : decode cX11_isFree 100 = .ok (.ireturn, 1) := by decide +kernel
theorem dX11_isFree_101 : decode cX11_isFree 101 = .ok (.iinc 2 1, 3) := by decide +kernel
theorem dX11_isFree_104 : decode cX11_isFree 104 = .ok (.goto (-20), 3) := by decide +kernel
theorem dX11_isFree_107 : decode cX11_isFree 107 = .ok (.iconst 1, 1) := by decide +kernel
theorem dX11_isFree_108 : decode cX11_isFree 108 = .ok (.ireturn, 1) := by decide +kernel
theorem dX11_judge_0 : decode cX11_judge 0 = .ok (.iload_n 1, 1) := by decide +kernel
theorem dX11_judge_1 : decode cX11_judge 1 = .ok (.iconst 2, 1) := by decide +kernel
theorem dX11_judge_2 : decode cX11_judge 2 = .ok (.invokestatic 139, 3) := by decide +kernel
theorem dX11_judge_5 : decode cX11_judge 5 = .ok (.ifCond .eq 24, 3) := by decide +kernel
theorem dX11_judge_8 : decode cX11_judge 8 = .ok (.iload_n 2, 1) := by decide +kernel
theorem dX11_judge_9 : decode cX11_judge 9 = .ok (.iload_n 3, 1) := by decide +kernel
theorem dX11_judge_10 : decode cX11_judge 10 = .ok (.invokestatic 161, 3) := by decide +kernel
theorem dX11_judge_13 : decode cX11_judge 13 = .ok (.ifCond .eq 16, 3) := by decide +kernel
theorem dX11_judge_16 : decode cX11_judge 16 = .ok (.aload_n 0, 1) := by decide +kernel
theorem dX11_judge_17 : decode cX11_judge 17 = .ok (.bipush 10, 2) := by decide +kernel
theorem dX11_judge_19 : decode cX11_judge 19 = .ok (.iload_n 3, 1) := by decide +kernel
theorem dX11_judge_20 : decode cX11_judge 20 = .ok (.imul, 1) := by decide +kernel
theorem dX11_judge_21 : decode cX11_judge 21 = .ok (.iload_n 2, 1) := by decide +kernel
theorem dX11_judge_22 : decode cX11_judge 22 = .ok (.iadd, 1) := by decide +kernel
theorem dX11_judge_23 : decode cX11_judge 23 = .ok (.invokevirtual 263, 3) := by decide +kernel
theorem dX11_judge_26 : decode cX11_judge 26 = .ok (.ifCond .ne 5, 3) := by decide +kernel
theorem dX11_judge_29 : decode cX11_judge 29 = .ok (.iconst 0, 1) := by decide +kernel
theorem dX11_judge_30 : decode cX11_judge 30 = .ok (.ireturn, 1) := by decide +kernel
theorem dX11_judge_31 : decode cX11_judge 31 = .ok (.aload_n 0, 1) := by decide +kernel
theorem dX11_judge_32 : decode cX11_judge 32 = .ok (.iconst 1, 1) := by decide +kernel
theorem dX11_judge_33 : decode cX11_judge 33 = .ok (.iload_n 1, 1) := by decide +kernel
theorem dX11_judge_34 : decode cX11_judge 34 = .ok (.isub, 1) := by decide +kernel
theorem dX11_judge_35 : decode cX11_judge 35 = .ok (.invokevirtual 260, 3) := by decide +kernel
theorem dX11_judge_38 : decode cX11_judge 38 = .ok (.ifCond .eq 22, 3) := by decide +kernel
theorem dX11_judge_41 : decode cX11_judge 41 = .ok (.aload_n 0, 1) := by decide +kernel
theorem dX11_judge_42 : decode cX11_judge 42 = .ok (.getfield 7, 3) := by decide +kernel
theorem dX11_judge_45 : decode cX11_judge 45 = .ok (.iconst 1, 1) := by decide +kernel
theorem dX11_judge_46 : decode cX11_judge 46 = .ok (.iload_n 1, 1) := by decide +kernel
theorem dX11_judge_47 : decode cX11_judge 47 = .ok (.isub, 1) := by decide +kernel
theorem dX11_judge_48 : decode cX11_judge 48 = .ok (.iaload, 1) := by decide +kernel
theorem dX11_judge_49 : decode cX11_judge 49 = .ok (.bipush 10, 2) := by decide +kernel
theorem dX11_judge_51 : decode cX11_judge 51 = .ok (.iload_n 3, 1) := by decide +kernel
theorem dX11_judge_52 : decode cX11_judge 52 = .ok (.imul, 1) := by decide +kernel
theorem dX11_judge_53 : decode cX11_judge 53 = .ok (.iload_n 2, 1) := by decide +kernel
theorem dX11_judge_54 : decode cX11_judge 54 = .ok (.iadd, 1) := by decide +kernel
theorem dX11_judge_55 : decode cX11_judge 55 = .ok (.if_icmp .ne 5, 3) := by decide +kernel
theorem dX11_judge_58 : decode cX11_judge 58 = .ok (.iconst 0, 1) := by decide +kernel
theorem dX11_judge_59 : decode cX11_judge 59 = .ok (.ireturn, 1) := by decide +kernel
theorem dX11_judge_60 : decode cX11_judge 60 = .ok (.aload_n 0, 1) := by decide +kernel
theorem dX11_judge_61 : decode cX11_judge 61 = .ok (.getfield 7, 3) := by decide +kernel
theorem dX11_judge_64 : decode cX11_judge 64 = .ok (.bipush 34, 2) := by decide +kernel
theorem dX11_judge_66 : decode cX11_judge 66 = .ok (.aload_n 0, 1) := by decide +kernel
theorem dX11_judge_67 : decode cX11_judge 67 = .ok (.getfield 7, 3) := by decide +kernel
theorem dX11_judge_70 : decode cX11_judge 70 = .ok (.bipush 34, 2) := by decide +kernel
theorem dX11_judge_72 : decode cX11_judge 72 = .ok (.iaload, 1) := by decide +kernel
theorem dX11_judge_73 : decode cX11_judge 73 = .ok (.iconst 1, 1) := by decide +kernel
theorem dX11_judge_74 : decode cX11_judge 74 = .ok (.iload_n 1, 1) := by decide +kernel
theorem dX11_judge_75 : decode cX11_judge 75 = .ok (.ishl, 1) := by decide +kernel
theorem dX11_judge_76 : decode cX11_judge 76 = .ok (.ior, 1) := by decide +kernel
theorem dX11_judge_77 : decode cX11_judge 77 = .ok (.iastore, 1) := by decide +kernel
theorem dX11_judge_78 : decode cX11_judge 78 = .ok (.aload_n 0, 1) := by decide +kernel
theorem dX11_judge_79 : decode cX11_judge 79 = .ok (.getfield 7, 3) := by decide +kernel
theorem dX11_judge_82 : decode cX11_judge 82 = .ok (.iconst 0, 1) := by decide +kernel
theorem dX11_judge_83 : decode cX11_judge 83 = .ok (.iload_n 1, 1) := by decide +kernel
theorem dX11_judge_84 : decode cX11_judge 84 = .ok (.iadd, 1) := by decide +kernel
theorem dX11_judge_85 : decode cX11_judge 85 = .ok (.bipush 10, 2) := by decide +kernel
theorem dX11_judge_87 : decode cX11_judge 87 = .ok (.iload_n 3, 1) := by decide +kernel
theorem dX11_judge_88 : decode cX11_judge 88 = .ok (.imul, 1) := by decide +kernel
theorem dX11_judge_89 : decode cX11_judge 89 = .ok (.iload_n 2, 1) := by decide +kernel
theorem dX11_judge_90 : decode cX11_judge 90 = .ok (.iadd, 1) := by decide +kernel
theorem dX11_judge_91 : decode cX11_judge 91 = .ok (.iastore, 1) := by decide +kernel
theorem dX11_judge_92 : decode cX11_judge 92 = .ok (.iconst 1, 1) := by decide +kernel
theorem dX11_judge_93 : decode cX11_judge 93 = .ok (.ireturn, 1) := by decide +kernel
theorem dX11_keep_0 : decode cX11_keep 0 = .ok (.aload_n 0, 1) := by decide +kernel
theorem dX11_keep_1 : decode cX11_keep 1 = .ok (.iconst 1, 1) := by decide +kernel
theorem dX11_keep_2 : decode cX11_keep 2 = .ok (.putfield 266, 3) := by decide +kernel
theorem dX11_keep_5 : decode cX11_keep 5 = .ok (.aload_n 0, 1) := by decide +kernel
theorem dX11_keep_6 : decode cX11_keep 6 = .ok (.getfield 7, 3) := by decide +kernel
theorem dX11_keep_9 : decode cX11_keep 9 = .ok (.aload_n 0, 1) := by decide +kernel
theorem dX11_keep_10 : decode cX11_keep 10 = .ok (.getfield 16, 3) := by decide +kernel
theorem dX11_keep_13 : decode cX11_keep 13 = .ok (.invokestatic 403, 3) := by decide +kernel
theorem dX11_keep_16 : decode cX11_keep 16 = .ok (.aload_n 0, 1) := by decide +kernel
theorem dX11_keep_17 : decode cX11_keep 17 = .ok (.getfield 25, 3) := by decide +kernel
theorem dX11_keep_20 : decode cX11_keep 20 = .ok (.aload_n 0, 1) := by decide +kernel
theorem dX11_keep_21 : decode cX11_keep 21 = .ok (.getfield 28, 3) := by decide +kernel
theorem dX11_keep_24 : decode cX11_keep 24 = .ok (.aload_n 0, 1) := by decide +kernel
theorem dX11_keep_25 : decode cX11_keep 25 = .ok (.getfield 129, 3) := by decide +kernel
theorem dX11_keep_28 : decode cX11_keep 28 = .ok (.aload_n 0, 1) := by decide +kernel
theorem dX11_keep_29 : decode cX11_keep 29 = .ok (.getfield 132, 3) := by decide +kernel
theorem dX11_keep_32 : decode cX11_keep 32 = .ok (.invokestatic 453, 3) := by decide +kernel
theorem dX11_keep_35 : decode cX11_keep 35 = .ok (.aload_n 0, 1) := by decide +kernel
theorem dX11_keep_36 : decode cX11_keep 36 = .ok (.getfield 7, 3) := by decide +kernel
theorem dX11_keep_39 : decode cX11_keep 39 = .ok (.bipush 37, 2) := by decide +kernel
theorem dX11_keep_41 : decode cX11_keep 41 = .ok (.iaload, 1) := by decide +kernel
theorem dX11_keep_42 : decode cX11_keep 42 = .ok (.ireturn, 1) := by decide +kernel
theorem dX11_lamp_0 : decode cX11_lamp 0 = .ok (.iload_n 1, 1) := by decide +kernel
theorem dX11_lamp_1 : decode cX11_lamp 1 = .ok (.iconst 4, 1) := by decide +kernel
theorem dX11_lamp_2 : decode cX11_lamp 2 = .ok (.invokestatic 139, 3) := by decide +kernel
theorem dX11_lamp_5 : decode cX11_lamp 5 = .ok (.ifCond .ne 5, 3) := by decide +kernel
theorem dX11_lamp_8 : decode cX11_lamp 8 = .ok (.iconst 0, 1) := by decide +kernel
theorem dX11_lamp_9 : decode cX11_lamp 9 = .ok (.ireturn, 1) := by decide +kernel
theorem dX11_lamp_10 : decode cX11_lamp 10 = .ok (.iload_n 2, 1) := by decide +kernel
theorem dX11_lamp_11 : decode cX11_lamp 11 = .ok (.iconst (-1), 1) := by decide +kernel
theorem dX11_lamp_12 : decode cX11_lamp 12 = .ok (.if_icmp .eq 26, 3) := by decide +kernel
theorem dX11_lamp_15 : decode cX11_lamp 15 = .ok (.iload_n 2, 1) := by decide +kernel
theorem dX11_lamp_16 : decode cX11_lamp 16 = .ok (.iload_n 3, 1) := by decide +kernel
theorem dX11_lamp_17 : decode cX11_lamp 17 = .ok (.invokestatic 161, 3) := by decide +kernel
theorem dX11_lamp_20 : decode cX11_lamp 20 = .ok (.ifCond .eq 16, 3) := by decide +kernel
theorem dX11_lamp_23 : decode cX11_lamp 23 = .ok (.aload_n 0, 1) := by decide +kernel
theorem dX11_lamp_24 : decode cX11_lamp 24 = .ok (.bipush 10, 2) := by decide +kernel
theorem dX11_lamp_26 : decode cX11_lamp 26 = .ok (.iload_n 3, 1) := by decide +kernel
theorem dX11_lamp_27 : decode cX11_lamp 27 = .ok (.imul, 1) := by decide +kernel
theorem dX11_lamp_28 : decode cX11_lamp 28 = .ok (.iload_n 2, 1) := by decide +kernel
theorem dX11_lamp_29 : decode cX11_lamp 29 = .ok (.iadd, 1) := by decide +kernel
theorem dX11_lamp_30 : decode cX11_lamp 30 = .ok (.invokevirtual 263, 3) := by decide +kernel
theorem dX11_lamp_33 : decode cX11_lamp 33 = .ok (.ifCond .ne 5, 3) := by decide +kernel
theorem dX11_lamp_36 : decode cX11_lamp 36 = .ok (.iconst 0, 1) := by decide +kernel
theorem dX11_lamp_37 : decode cX11_lamp 37 = .ok (.ireturn, 1) := by decide +kernel
theorem dX11_lamp_38 : decode cX11_lamp 38 = .ok (.aload_n 0, 1) := by decide +kernel
theorem dX11_lamp_39 : decode cX11_lamp 39 = .ok (.getfield 22, 3) := by decide +kernel
theorem dX11_lamp_42 : decode cX11_lamp 42 = .ok (.iload_n 1, 1) := by decide +kernel
theorem dX11_lamp_43 : decode cX11_lamp 43 = .ok (.iload_n 2, 1) := by decide +kernel
theorem dX11_lamp_44 : decode cX11_lamp 44 = .ok (.iconst (-1), 1) := by decide +kernel
theorem dX11_lamp_45 : decode cX11_lamp 45 = .ok (.if_icmp .ne 7, 3) := by decide +kernel
theorem dX11_lamp_48 : decode cX11_lamp 48 = .ok (.iconst (-1), 1) := by decide +kernel
theorem dX11_lamp_49 : decode cX11_lamp 49 = .ok (.goto 9, 3) := by decide +kernel
theorem dX11_lamp_52 : decode cX11_lamp 52 = .ok (.bipush 10, 2) := by decide +kernel
theorem dX11_lamp_54 : decode cX11_lamp 54 = .ok (.iload_n 3, 1) := by decide +kernel
theorem dX11_lamp_55 : decode cX11_lamp 55 = .ok (.imul, 1) := by decide +kernel
theorem dX11_lamp_56 : decode cX11_lamp 56 = .ok (.iload_n 2, 1) := by decide +kernel
theorem dX11_lamp_57 : decode cX11_lamp 57 = .ok (.iadd, 1) := by decide +kernel
theorem dX11_lamp_58 : decode cX11_lamp 58 = .ok (.iastore, 1) := by decide +kernel
theorem dX11_lamp_59 : decode cX11_lamp 59 = .ok (.iconst 1, 1) := by decide +kernel
theorem dX11_lamp_60 : decode cX11_lamp 60 = .ok (.ireturn, 1) := by decide +kernel
theorem dX11_laysDark_0 : decode cX11_laysDark 0 = .ok (.iconst 0, 1) := by decide +kernel
theorem dX11_laysDark_1 : decode cX11_laysDark 1 = .ok (.istore_n 2, 1) := by decide +kernel
theorem dX11_laysDark_2 : decode cX11_laysDark 2 = .ok (.iload_n 2, 1) := by decide +kernel
theorem dX11_laysDark_3 : decode cX11_laysDark 3 = .ok (.bipush 100, 2) := by decide +kernel
theorem dX11_laysDark_5 : decode cX11_laysDark 5 = .ok (.if_icmp .ge 16, 3) := by decide +kernel
theorem dX11_laysDark_8 : decode cX11_laysDark 8 = .ok (.aload_n 0, 1) := by decide +kernel
theorem dX11_laysDark_9 : decode cX11_laysDark 9 = .ok (.getfield 120, 3) := by decide +kernel
theorem dX11_laysDark_12 : decode cX11_laysDark 12 = .ok (.iload_n 2, 1) := by decide +kernel
theorem dX11_laysDark_13 : decode cX11_laysDark 13 = .ok (.iconst 0, 1) := by decide +kernel
theorem dX11_laysDark_14 : decode cX11_laysDark 14 = .ok (.iastore, 1) := by decide +kernel
theorem dX11_laysDark_15 : decode cX11_laysDark 15 = .ok (.iinc 2 1, 3) := by decide +kernel
theorem dX11_laysDark_18 : decode cX11_laysDark 18 = .ok (.goto (-16), 3) := by decide +kernel
theorem dX11_laysDark_21 : decode cX11_laysDark 21 = .ok (.aload_n 0, 1) := by decide +kernel
theorem dX11_laysDark_22 : decode cX11_laysDark 22 = .ok (.getfield 7, 3) := by decide +kernel
theorem dX11_laysDark_25 : decode cX11_laysDark 25 = .ok (.aload_n 0, 1) := by decide +kernel
theorem dX11_laysDark_26 : decode cX11_laysDark 26 = .ok (.getfield 13, 3) := by decide +kernel
theorem dX11_laysDark_29 : decode cX11_laysDark 29 = .ok (.invokestatic 403, 3) := by decide +kernel
theorem dX11_laysDark_32 : decode cX11_laysDark 32 = .ok (.iconst 0, 1) := by decide +kernel
theorem dX11_laysDark_33 : decode cX11_laysDark 33 = .ok (.istore_n 2, 1) := by decide +kernel
theorem dX11_laysDark_34 : decode cX11_laysDark 34 = .ok (.iload_n 2, 1) := by decide +kernel
theorem dX11_laysDark_35 : decode cX11_laysDark 35 = .ok (.iload_n 1, 1) := by decide +kernel
theorem dX11_laysDark_36 : decode cX11_laysDark 36 = .ok (.if_icmp .ge 99, 3) := by decide +kernel
theorem dX11_laysDark_39 : decode cX11_laysDark 39 = .ok (.aload_n 0, 1) := by decide +kernel
theorem dX11_laysDark_40 : decode cX11_laysDark 40 = .ok (.iconst 0, 1) := by decide +kernel
theorem dX11_laysDark_41 : decode cX11_laysDark 41 = .ok (.invokevirtual 394, 3) := by decide +kernel
theorem dX11_laysDark_44 : decode cX11_laysDark 44 = .ok (.aload_n 0, 1) := by decide +kernel
theorem dX11_laysDark_45 : decode cX11_laysDark 45 = .ok (.iconst 1, 1) := by decide +kernel
theorem dX11_laysDark_46 : decode cX11_laysDark 46 = .ok (.invokevirtual 394, 3) := by decide +kernel
theorem dX11_laysDark_49 : decode cX11_laysDark 49 = .ok (.aload_n 0, 1) := by decide +kernel
theorem dX11_laysDark_50 : decode cX11_laysDark 50 = .ok (.invokevirtual 333, 3) := by decide +kernel
theorem dX11_laysDark_53 : decode cX11_laysDark 53 = .ok (.iconst 0, 1) := by decide +kernel
theorem dX11_laysDark_54 : decode cX11_laysDark 54 = .ok (.istore_n 3, 1) := by decide +kernel
theorem dX11_laysDark_55 : decode cX11_laysDark 55 = .ok (.iload_n 3, 1) := by decide +kernel
theorem dX11_laysDark_56 : decode cX11_laysDark 56 = .ok (.iconst 2, 1) := by decide +kernel
theorem dX11_laysDark_57 : decode cX11_laysDark 57 = .ok (.if_icmp .ge 31, 3) := by decide +kernel
theorem dX11_laysDark_60 : decode cX11_laysDark 60 = .ok (.aload_n 0, 1) := by decide +kernel
theorem dX11_laysDark_61 : decode cX11_laysDark 61 = .ok (.iload_n 3, 1) := by decide +kernel
theorem dX11_laysDark_62 : decode cX11_laysDark 62 = .ok (.invokevirtual 260, 3) := by decide +kernel
theorem dX11_laysDark_65 : decode cX11_laysDark 65 = .ok (.ifCond .eq 17, 3) := by decide +kernel
theorem dX11_laysDark_68 : decode cX11_laysDark 68 = .ok (.aload_n 0, 1) := by decide +kernel
theorem dX11_laysDark_69 : decode cX11_laysDark 69 = .ok (.iload_n 3, 1) := by decide +kernel
theorem dX11_laysDark_70 : decode cX11_laysDark 70 = .ok (.aload_n 0, 1) := by decide +kernel
theorem dX11_laysDark_71 : decode cX11_laysDark 71 = .ok (.getfield 13, 3) := by decide +kernel
theorem dX11_laysDark_74 : decode cX11_laysDark 74 = .ok (.bipush 37, 2) := by decide +kernel
theorem dX11_laysDark_76 : decode cX11_laysDark 76 = .ok (.iaload, 1) := by decide +kernel
theorem dX11_laysDark_77 : decode cX11_laysDark 77 = .ok (.iload_n 2, 1) := by decide +kernel
theorem dX11_laysDark_78 : decode cX11_laysDark 78 = .ok (.iadd, 1) := by decide +kernel
theorem dX11_laysDark_79 : decode cX11_laysDark 79 = .ok (.invokevirtual 336, 3) := by decide +kernel
theorem dX11_laysDark_82 : decode cX11_laysDark 82 = .ok (.iinc 3 1, 3) := by decide +kernel
theorem dX11_laysDark_85 : decode cX11_laysDark 85 = .ok (.goto (-30), 3) := by decide +kernel
theorem dX11_laysDark_88 : decode cX11_laysDark 88 = .ok (.iconst 0, 1) := by decide +kernel
theorem dX11_laysDark_89 : decode cX11_laysDark 89 = .ok (.istore_n 3, 1) := by decide +kernel
theorem dX11_laysDark_90 : decode cX11_laysDark 90 = .ok (.iload_n 3, 1) := by decide +kernel
theorem dX11_laysDark_91 : decode cX11_laysDark 91 = .ok (.bipush 100, 2) := by decide +kernel
theorem dX11_laysDark_93 : decode cX11_laysDark 93 = .ok (.if_icmp .ge 36, 3) := by decide +kernel
theorem dX11_laysDark_96 : decode cX11_laysDark 96 = .ok (.aload_n 0, 1) := by decide +kernel
theorem dX11_laysDark_97 : decode cX11_laysDark 97 = .ok (.getfield 120, 3) := by decide +kernel
theorem dX11_laysDark_100 : decode cX11_laysDark 100 = .ok (.iload_n 3, 1) := by decide +kernel
theorem dX11_laysDark_101 : decode cX11_laysDark 101 = .ok (.aload_n 0, 1) := by decide +kernel
theorem dX11_laysDark_102 : decode cX11_laysDark 102 = .ok (.getfield 120, 3) := by decide +kernel
theorem dX11_laysDark_105 : decode cX11_laysDark 105 = .ok (.iload_n 3, 1) := by decide +kernel
theorem dX11_laysDark_106 : decode cX11_laysDark 106 = .ok (.iaload, 1) := by decide +kernel
theorem dX11_laysDark_107 : decode cX11_laysDark 107 = .ok (.aload_n 0, 1) := by decide +kernel
theorem dX11_laysDark_108 : decode cX11_laysDark 108 = .ok (.getfield 89, 3) := by decide +kernel
theorem dX11_laysDark_111 : decode cX11_laysDark 111 = .ok (.iload_n 3, 1) := by decide +kernel
theorem dX11_laysDark_112 : decode cX11_laysDark 112 = .ok (.iaload, 1) := by decide +kernel
theorem dX11_laysDark_113 : decode cX11_laysDark 113 = .ok (.ifCond .le 7, 3) := by decide +kernel
theorem dX11_laysDark_116 : decode cX11_laysDark 116 = .ok (.iconst 1, 1) := by decide +kernel
theorem dX11_laysDark_117 : decode cX11_laysDark 117 = .ok (.goto 4, 3) := by decide +kernel
theorem dX11_laysDark_120 : decode cX11_laysDark 120 = .ok (.iconst 0, 1) := by decide +kernel
theorem dX11_laysDark_121 : decode cX11_laysDark 121 = .ok (.iadd, 1) := by decide +kernel
theorem dX11_laysDark_122 : decode cX11_laysDark 122 = .ok (.iastore, 1) := by decide +kernel
theorem dX11_laysDark_123 : decode cX11_laysDark 123 = .ok (.iinc 3 1, 3) := by decide +kernel
theorem dX11_laysDark_126 : decode cX11_laysDark 126 = .ok (.goto (-36), 3) := by decide +kernel
theorem dX11_laysDark_129 : decode cX11_laysDark 129 = .ok (.iinc 2 1, 3) := by decide +kernel
theorem dX11_laysDark_132 : decode cX11_laysDark 132 = .ok (.goto (-98), 3) := by decide +kernel
theorem dX11_laysDark_135 : decode cX11_laysDark 135 = .ok (.aload_n 0, 1) := by decide +kernel
theorem dX11_laysDark_136 : decode cX11_laysDark 136 = .ok (.getfield 13, 3) := by decide +kernel
theorem dX11_laysDark_139 : decode cX11_laysDark 139 = .ok (.aload_n 0, 1) := by decide +kernel
theorem dX11_laysDark_140 : decode cX11_laysDark 140 = .ok (.getfield 7, 3) := by decide +kernel
theorem dX11_laysDark_143 : decode cX11_laysDark 143 = .ok (.invokestatic 403, 3) := by decide +kernel
theorem dX11_laysDark_146 : decode cX11_laysDark 146 = .ok (.return_, 1) := by decide +kernel
theorem dX11_laysReach_0 : decode cX11_laysReach 0 = .ok (.iconst 0, 1) := by decide +kernel
theorem dX11_laysReach_1 : decode cX11_laysReach 1 = .ok (.istore_n 1, 1) := by decide +kernel
theorem dX11_laysReach_2 : decode cX11_laysReach 2 = .ok (.iload_n 1, 1) := by decide +kernel
theorem dX11_laysReach_3 : decode cX11_laysReach 3 = .ok (.bipush 100, 2) := by decide +kernel
theorem dX11_laysReach_5 : decode cX11_laysReach 5 = .ok (.if_icmp .ge 16, 3) := by decide +kernel
theorem dX11_laysReach_8 : decode cX11_laysReach 8 = .ok (.aload_n 0, 1) := by decide +kernel
theorem dX11_laysReach_9 : decode cX11_laysReach 9 = .ok (.getfield 108, 3) := by decide +kernel
theorem dX11_laysReach_12 : decode cX11_laysReach 12 = .ok (.iload_n 1, 1) := by decide +kernel
theorem dX11_laysReach_13 : decode cX11_laysReach 13 = .ok (.iconst 0, 1) := by decide +kernel
theorem dX11_laysReach_14 : decode cX11_laysReach 14 = .ok (.iastore, 1) := by decide +kernel
theorem dX11_laysReach_15 : decode cX11_laysReach 15 = .ok (.iinc 1 1, 3) := by decide +kernel
theorem dX11_laysReach_18 : decode cX11_laysReach 18 = .ok (.goto (-16), 3) := by decide +kernel
theorem dX11_laysReach_21 : decode cX11_laysReach 21 = .ok (.iconst 0, 1) := by decide +kernel
theorem dX11_laysReach_22 : decode cX11_laysReach 22 = .ok (.istore_n 1, 1) := by decide +kernel
theorem dX11_laysReach_23 : decode cX11_laysReach 23 = .ok (.iload_n 1, 1) := by decide +kernel
theorem dX11_laysReach_24 : decode cX11_laysReach 24 = .ok (.bipush 10, 2) := by decide +kernel
theorem dX11_laysReach_26 : decode cX11_laysReach 26 = .ok (.if_icmp .ge 83, 3) := by decide +kernel
theorem dX11_laysReach_29 : decode cX11_laysReach 29 = .ok (.aload_n 0, 1) := by decide +kernel
theorem dX11_laysReach_30 : decode cX11_laysReach 30 = .ok (.iload_n 1, 1) := by decide +kernel
theorem dX11_laysReach_31 : decode cX11_laysReach 31 = .ok (.invokevirtual 349, 3) := by decide +kernel
theorem dX11_laysReach_34 : decode cX11_laysReach 34 = .ok (.ifCond .ne 6, 3) := by decide +kernel
theorem dX11_laysReach_37 : decode cX11_laysReach 37 = .ok (.goto 66, 3) := by decide +kernel
theorem dX11_laysReach_40 : decode cX11_laysReach 40 = .ok (.aload_n 0, 1) := by decide +kernel
theorem dX11_laysReach_41 : decode cX11_laysReach 41 = .ok (.aload_n 0, 1) := by decide +kernel
theorem dX11_laysReach_42 : decode cX11_laysReach 42 = .ok (.getfield 7, 3) := by decide +kernel
theorem dX11_laysReach_45 : decode cX11_laysReach 45 = .ok (.iconst 4, 1) := by decide +kernel
theorem dX11_laysReach_46 : decode cX11_laysReach 46 = .ok (.iload_n 1, 1) := by decide +kernel
theorem dX11_laysReach_47 : decode cX11_laysReach 47 = .ok (.iadd, 1) := by decide +kernel
theorem dX11_laysReach_48 : decode cX11_laysReach 48 = .ok (.iaload, 1) := by decide +kernel
theorem dX11_laysReach_49 : decode cX11_laysReach 49 = .ok (.aload_n 0, 1) := by decide +kernel
theorem dX11_laysReach_50 : decode cX11_laysReach 50 = .ok (.bipush 118, 2) := by decide +kernel
theorem dX11_laysReach_52 : decode cX11_laysReach 52 = .ok (.iconst 3, 1) := by decide +kernel
theorem dX11_laysReach_53 : decode cX11_laysReach 53 = .ok (.iload_n 1, 1) := by decide +kernel
theorem dX11_laysReach_54 : decode cX11_laysReach 54 = .ok (.invokevirtual 352, 3) := by decide +kernel
theorem dX11_laysReach_57 : decode cX11_laysReach 57 = .ok (.iconst 0, 1) := by decide +kernel
theorem dX11_laysReach_58 : decode cX11_laysReach 58 = .ok (.invokevirtual 355, 3) := by decide +kernel
theorem dX11_laysReach_61 : decode cX11_laysReach 61 = .ok (.iconst 0, 1) := by decide +kernel
theorem dX11_laysReach_62 : decode cX11_laysReach 62 = .ok (.istore_n 2, 1) := by decide +kernel
theorem dX11_laysReach_63 : decode cX11_laysReach 63 = .ok (.iload_n 2, 1) := by decide +kernel
theorem dX11_laysReach_64 : decode cX11_laysReach 64 = .ok (.bipush 100, 2) := by decide +kernel
theorem dX11_laysReach_66 : decode cX11_laysReach 66 = .ok (.if_icmp .ge 37, 3) := by decide +kernel
theorem dX11_laysReach_69 : decode cX11_laysReach 69 = .ok (.aload_n 0, 1) := by decide +kernel
theorem dX11_laysReach_70 : decode cX11_laysReach 70 = .ok (.getfield 92, 3) := by decide +kernel
theorem dX11_laysReach_73 : decode cX11_laysReach 73 = .ok (.iload_n 2, 1) := by decide +kernel
theorem dX11_laysReach_74 : decode cX11_laysReach 74 = .ok (.iaload, 1) := by decide +kernel
theorem dX11_laysReach_75 : decode cX11_laysReach 75 = .ok (.ldc_w 348, 3) := by decide +kernel
theorem dX11_laysReach_78 : decode cX11_laysReach 78 = .ok (.if_icmp .ge 19, 3) := by decide +kernel
theorem dX11_laysReach_81 : decode cX11_laysReach 81 = .ok (.aload_n 0, 1) := by decide +kernel
theorem dX11_laysReach_82 : decode cX11_laysReach 82 = .ok (.getfield 108, 3) := by decide +kernel
theorem dX11_laysReach_85 : decode cX11_laysReach 85 = .ok (.iload_n 2, 1) := by decide +kernel
theorem dX11_laysReach_86 : decode cX11_laysReach 86 = .ok (.aload_n 0, 1) := by decide +kernel
theorem dX11_laysReach_87 : decode cX11_laysReach 87 = .ok (.getfield 108, 3) := by decide +kernel
theorem dX11_laysReach_90 : decode cX11_laysReach 90 = .ok (.iload_n 2, 1) := by decide +kernel
theorem dX11_laysReach_91 : decode cX11_laysReach 91 = .ok (.iaload, 1) := by decide +kernel
theorem dX11_laysReach_92 : decode cX11_laysReach 92 = .ok (.iconst 1, 1) := by decide +kernel
theorem dX11_laysReach_93 : decode cX11_laysReach 93 = .ok (.iload_n 1, 1) := by decide +kernel
theorem dX11_laysReach_94 : decode cX11_laysReach 94 = .ok (.ishl, 1) := by decide +kernel
theorem dX11_laysReach_95 : decode cX11_laysReach 95 = .ok (.ior, 1) := by decide +kernel
theorem dX11_laysReach_96 : decode cX11_laysReach 96 = .ok (.iastore, 1) := by decide +kernel
theorem dX11_laysReach_97 : decode cX11_laysReach 97 = .ok (.iinc 2 1, 3) := by decide +kernel
theorem dX11_laysReach_100 : decode cX11_laysReach 100 = .ok (.goto (-37), 3) := by decide +kernel
theorem dX11_laysReach_103 : decode cX11_laysReach 103 = .ok (.iinc 1 1, 3) := by decide +kernel
theorem dX11_laysReach_106 : decode cX11_laysReach 106 = .ok (.goto (-83), 3) := by decide +kernel
theorem dX11_laysReach_109 : decode cX11_laysReach 109 = .ok (.return_, 1) := by decide +kernel
theorem dX11_laysSteps_0 : decode cX11_laysSteps 0 = .ok (.iconst 0, 1) := by decide +kernel
theorem dX11_laysSteps_1 : decode cX11_laysSteps 1 = .ok (.istore_n 1, 1) := by decide +kernel
theorem dX11_laysSteps_2 : decode cX11_laysSteps 2 = .ok (.iload_n 1, 1) := by decide +kernel
theorem dX11_laysSteps_3 : decode cX11_laysSteps 3 = .ok (.bipush 100, 2) := by decide +kernel
theorem dX11_laysSteps_5 : decode cX11_laysSteps 5 = .ok (.if_icmp .ge 47, 3) := by decide +kernel
theorem dX11_laysSteps_8 : decode cX11_laysSteps 8 = .ok (.aload_n 0, 1) := by decide +kernel
theorem dX11_laysSteps_9 : decode cX11_laysSteps 9 = .ok (.iload_n 1, 1) := by decide +kernel
theorem dX11_laysSteps_10 : decode cX11_laysSteps 10 = .ok (.iconst 3, 1) := by decide +kernel
theorem dX11_laysSteps_11 : decode cX11_laysSteps 11 = .ok (.iconst 1, 1) := by decide +kernel
theorem dX11_laysSteps_12 : decode cX11_laysSteps 12 = .ok (.invokevirtual 355, 3) := by decide +kernel
theorem dX11_laysSteps_15 : decode cX11_laysSteps 15 = .ok (.iconst 0, 1) := by decide +kernel
theorem dX11_laysSteps_16 : decode cX11_laysSteps 16 = .ok (.istore_n 2, 1) := by decide +kernel
theorem dX11_laysSteps_17 : decode cX11_laysSteps 17 = .ok (.iload_n 2, 1) := by decide +kernel
theorem dX11_laysSteps_18 : decode cX11_laysSteps 18 = .ok (.bipush 100, 2) := by decide +kernel
theorem dX11_laysSteps_20 : decode cX11_laysSteps 20 = .ok (.if_icmp .ge 26, 3) := by decide +kernel
theorem dX11_laysSteps_23 : decode cX11_laysSteps 23 = .ok (.aload_n 0, 1) := by decide +kernel
theorem dX11_laysSteps_24 : decode cX11_laysSteps 24 = .ok (.getfield 117, 3) := by decide +kernel
theorem dX11_laysSteps_27 : decode cX11_laysSteps 27 = .ok (.bipush 100, 2) := by decide +kernel
theorem dX11_laysSteps_29 : decode cX11_laysSteps 29 = .ok (.iload_n 1, 1) := by decide +kernel
theorem dX11_laysSteps_30 : decode cX11_laysSteps 30 = .ok (.imul, 1) := by decide +kernel
theorem dX11_laysSteps_31 : decode cX11_laysSteps 31 = .ok (.iload_n 2, 1) := by decide +kernel
theorem dX11_laysSteps_32 : decode cX11_laysSteps 32 = .ok (.iadd, 1) := by decide +kernel
theorem dX11_laysSteps_33 : decode cX11_laysSteps 33 = .ok (.aload_n 0, 1) := by decide +kernel
theorem dX11_laysSteps_34 : decode cX11_laysSteps 34 = .ok (.getfield 92, 3) := by decide +kernel
theorem dX11_laysSteps_37 : decode cX11_laysSteps 37 = .ok (.iload_n 2, 1) := by decide +kernel
theorem dX11_laysSteps_38 : decode cX11_laysSteps 38 = .ok (.iaload, 1) := by decide +kernel
theorem dX11_laysSteps_39 : decode cX11_laysSteps 39 = .ok (.iastore, 1) := by decide +kernel
theorem dX11_laysSteps_40 : decode cX11_laysSteps 40 = .ok (.iinc 2 1, 3) := by decide +kernel
theorem dX11_laysSteps_43 : decode cX11_laysSteps 43 = .ok (.goto (-26), 3) := by decide +kernel
theorem dX11_laysSteps_46 : decode cX11_laysSteps 46 = .ok (.iinc 1 1, 3) := by decide +kernel
theorem dX11_laysSteps_49 : decode cX11_laysSteps 49 = .ok (.goto (-47), 3) := by decide +kernel
theorem dX11_laysSteps_52 : decode cX11_laysSteps 52 = .ok (.return_, 1) := by decide +kernel
theorem dX11_minutes_0 : decode cX11_minutes 0 = .ok (.iload_n 1, 1) := by decide +kernel
theorem dX11_minutes_1 : decode cX11_minutes 1 = .ok (.iconst 1, 1) := by decide +kernel
theorem dX11_minutes_2 : decode cX11_minutes 2 = .ok (.bipush 120, 2) := by decide +kernel
theorem dX11_minutes_4 : decode cX11_minutes 4 = .ok (.invokestatic 150, 3) := by decide +kernel
theorem dX11_minutes_7 : decode cX11_minutes 7 = .ok (.ifCond .ne 5, 3) := by decide +kernel
theorem dX11_minutes_10 : decode cX11_minutes 10 = .ok (.iconst (-1), 1) := by decide +kernel
theorem dX11_minutes_11 : decode cX11_minutes 11 = .ok (.ireturn, 1) := by decide +kernel
theorem dX11_minutes_12 : decode cX11_minutes 12 = .ok (.aload_n 0, 1) := by decide +kernel
theorem dX11_minutes_13 : decode cX11_minutes 13 = .ok (.iload_n 1, 1) := by decide +kernel
theorem dX11_minutes_14 : decode cX11_minutes 14 = .ok (.invokevirtual 400, 3) := by decide +kernel
theorem dX11_minutes_17 : decode cX11_minutes 17 = .ok (.aload_n 0, 1) := by decide +kernel
theorem dX11_minutes_18 : decode cX11_minutes 18 = .ok (.getfield 371, 3) := by decide +kernel
theorem dX11_minutes_21 : decode cX11_minutes 21 = .ok (.ireturn, 1) := by decide +kernel
theorem dX11_minutesGo_0 : decode cX11_minutesGo 0 = .ok (.aload_n 0, 1) := by decide +kernel
theorem dX11_minutesGo_1 : decode cX11_minutesGo 1 = .ok (.invokevirtual 391, 3) := by decide +kernel
theorem dX11_minutesGo_4 : decode cX11_minutesGo 4 = .ok (.iconst 0, 1) := by decide +kernel
theorem dX11_minutesGo_5 : decode cX11_minutesGo 5 = .ok (.istore_n 2, 1) := by decide +kernel
theorem dX11_minutesGo_6 : decode cX11_minutesGo 6 = .ok (.iload_n 2, 1) := by decide +kernel
theorem dX11_minutesGo_7 : decode cX11_minutesGo 7 = .ok (.iload_n 1, 1) := by decide +kernel
theorem dX11_minutesGo_8 : decode cX11_minutesGo 8 = .ok (.if_icmp .ge 36, 3) := by decide +kernel
theorem dX11_minutesGo_11 : decode cX11_minutesGo 11 = .ok (.aload_n 0, 1) := by decide +kernel
theorem dX11_minutesGo_12 : decode cX11_minutesGo 12 = .ok (.getfield 7, 3) := by decide +kernel
theorem dX11_minutesGo_15 : decode cX11_minutesGo 15 = .ok (.bipush 37, 2) := by decide +kernel
theorem dX11_minutesGo_17 : decode cX11_minutesGo 17 = .ok (.iaload, 1) := by decide +kernel
theorem dX11_minutesGo_18 : decode cX11_minutesGo 18 = .ok (.sipush 9999, 3) := by decide +kernel
theorem dX11_minutesGo_21 : decode cX11_minutesGo 21 = .ok (.if_icmp .ge 23, 3) := by decide +kernel
theorem dX11_minutesGo_24 : decode cX11_minutesGo 24 = .ok (.aload_n 0, 1) := by decide +kernel
theorem dX11_minutesGo_25 : decode cX11_minutesGo 25 = .ok (.iconst 0, 1) := by decide +kernel
theorem dX11_minutesGo_26 : decode cX11_minutesGo 26 = .ok (.invokevirtual 394, 3) := by decide +kernel
theorem dX11_minutesGo_29 : decode cX11_minutesGo 29 = .ok (.aload_n 0, 1) := by decide +kernel
theorem dX11_minutesGo_30 : decode cX11_minutesGo 30 = .ok (.iconst 1, 1) := by decide +kernel
theorem dX11_minutesGo_31 : decode cX11_minutesGo 31 = .ok (.invokevirtual 394, 3) := by decide +kernel
theorem dX11_minutesGo_34 : decode cX11_minutesGo 34 = .ok (.aload_n 0, 1) := by decide +kernel
theorem dX11_minutesGo_35 : decode cX11_minutesGo 35 = .ok (.invokevirtual 397, 3) := by decide +kernel
theorem dX11_minutesGo_38 : decode cX11_minutesGo 38 = .ok (.iinc 2 1, 3) := by decide +kernel
theorem dX11_minutesGo_41 : decode cX11_minutesGo 41 = .ok (.goto (-35), 3) := by decide +kernel
theorem dX11_minutesGo_44 : decode cX11_minutesGo 44 = .ok (.return_, 1) := by decide +kernel
theorem dX11_mostAtOnce_0 : decode cX11_mostAtOnce 0 = .ok (.aload_n 0, 1) := by decide +kernel
theorem dX11_mostAtOnce_1 : decode cX11_mostAtOnce 1 = .ok (.invokevirtual 413, 3) := by decide +kernel
theorem dX11_mostAtOnce_4 : decode cX11_mostAtOnce 4 = .ok (.iconst 0, 1) := by decide +kernel
theorem dX11_mostAtOnce_5 : decode cX11_mostAtOnce 5 = .ok (.istore_n 1, 1) := by decide +kernel
theorem dX11_mostAtOnce_6 : decode cX11_mostAtOnce 6 = .ok (.iload_n 1, 1) := by decide +kernel
theorem dX11_mostAtOnce_7 : decode cX11_mostAtOnce 7 = .ok (.sipush 1024, 3) := by decide +kernel
theorem dX11_mostAtOnce_10 : decode cX11_mostAtOnce 10 = .ok (.if_icmp .ge 24, 3) := by decide +kernel
theorem dX11_mostAtOnce_13 : decode cX11_mostAtOnce 13 = .ok (.aload_n 0, 1) := by decide +kernel
theorem dX11_mostAtOnce_14 : decode cX11_mostAtOnce 14 = .ok (.getfield 105, 3) := by decide +kernel
theorem dX11_mostAtOnce_17 : decode cX11_mostAtOnce 17 = .ok (.iload_n 1, 1) := by decide +kernel
theorem dX11_mostAtOnce_18 : decode cX11_mostAtOnce 18 = .ok (.iload_n 1, 1) := by decide +kernel
theorem dX11_mostAtOnce_19 : decode cX11_mostAtOnce 19 = .ok (.ifCond .ne 7, 3) := by decide +kernel
theorem dX11_mostAtOnce_22 : decode cX11_mostAtOnce 22 = .ok (.iconst 1, 1) := by decide +kernel
theorem dX11_mostAtOnce_23 : decode cX11_mostAtOnce 23 = .ok (.goto 4, 3) := by decide +kernel
theorem dX11_mostAtOnce_26 : decode cX11_mostAtOnce 26 = .ok (.iconst 0, 1) := by decide +kernel
theorem dX11_mostAtOnce_27 : decode cX11_mostAtOnce 27 = .ok (.bastore, 1) := by decide +kernel
theorem dX11_mostAtOnce_28 : decode cX11_mostAtOnce 28 = .ok (.iinc 1 1, 3) := by decide +kernel
theorem dX11_mostAtOnce_31 : decode cX11_mostAtOnce 31 = .ok (.goto (-25), 3) := by decide +kernel
theorem dX11_mostAtOnce_34 : decode cX11_mostAtOnce 34 = .ok (.iconst 0, 1) := by decide +kernel
theorem dX11_mostAtOnce_35 : decode cX11_mostAtOnce 35 = .ok (.istore_n 1, 1) := by decide +kernel
theorem dX11_mostAtOnce_36 : decode cX11_mostAtOnce 36 = .ok (.iload_n 1, 1) := by decide +kernel
theorem dX11_mostAtOnce_37 : decode cX11_mostAtOnce 37 = .ok (.bipush 100, 2) := by decide +kernel
theorem dX11_mostAtOnce_39 : decode cX11_mostAtOnce 39 = .ok (.if_icmp .ge 90, 3) := by decide +kernel
theorem dX11_mostAtOnce_42 : decode cX11_mostAtOnce 42 = .ok (.aload_n 0, 1) := by decide +kernel
theorem dX11_mostAtOnce_43 : decode cX11_mostAtOnce 43 = .ok (.getfield 89, 3) := by decide +kernel
theorem dX11_mostAtOnce_46 : decode cX11_mostAtOnce 46 = .ok (.iload_n 1, 1) := by decide +kernel
theorem dX11_mostAtOnce_47 : decode cX11_mostAtOnce 47 = .ok (.iaload, 1) := by decide +kernel
theorem dX11_mostAtOnce_48 : decode cX11_mostAtOnce 48 = .ok (.ifCond .ne 6, 3) := by decide +kernel
theorem dX11_mostAtOnce_51 : decode cX11_mostAtOnce 51 = .ok (.goto 72, 3) := by decide +kernel
theorem dX11_mostAtOnce_54 : decode cX11_mostAtOnce 54 = .ok (.sipush 1023, 3) := by decide +kernel
theorem dX11_mostAtOnce_57 : decode cX11_mostAtOnce 57 = .ok (.istore_n 2, 1) := by decide +kernel
theorem dX11_mostAtOnce_58 : decode cX11_mostAtOnce 58 = .ok (.iload_n 2, 1) := by decide +kernel
theorem dX11_mostAtOnce_59 : decode cX11_mostAtOnce 59 = .ok (.ifCond .lt 64, 3) := by decide +kernel
theorem dX11_mostAtOnce_62 : decode cX11_mostAtOnce 62 = .ok (.iconst 0, 1) := by decide +kernel
theorem dX11_mostAtOnce_63 : decode cX11_mostAtOnce 63 = .ok (.istore_n 3, 1) := by decide +kernel
theorem dX11_mostAtOnce_64 : decode cX11_mostAtOnce 64 = .ok (.iload_n 3, 1) := by decide +kernel
theorem dX11_mostAtOnce_65 : decode cX11_mostAtOnce 65 = .ok (.bipush 10, 2) := by decide +kernel
theorem dX11_mostAtOnce_67 : decode cX11_mostAtOnce 67 = .ok (.if_icmp .ge 50, 3) := by decide +kernel
theorem dX11_mostAtOnce_70 : decode cX11_mostAtOnce 70 = .ok (.aload_n 0, 1) := by decide +kernel
theorem dX11_mostAtOnce_71 : decode cX11_mostAtOnce 71 = .ok (.getfield 105, 3) := by decide +kernel
theorem dX11_mostAtOnce_74 : decode cX11_mostAtOnce 74 = .ok (.iload_n 2, 1) := by decide +kernel
theorem dX11_mostAtOnce_75 : decode cX11_mostAtOnce 75 = .ok (.baload, 1) := by decide +kernel
theorem dX11_mostAtOnce_76 : decode cX11_mostAtOnce 76 = .ok (.ifCond .eq 41, 3) := by decide +kernel
theorem dX11_mostAtOnce_79 : decode cX11_mostAtOnce 79 = .ok (.iload_n 2, 1) := by decide +kernel
theorem dX11_mostAtOnce_80 : decode cX11_mostAtOnce 80 = .ok (.iload_n 3, 1) := by decide +kernel
theorem dX11_mostAtOnce_81 : decode cX11_mostAtOnce 81 = .ok (.invokestatic 143, 3) := by decide +kernel
theorem dX11_mostAtOnce_84 : decode cX11_mostAtOnce 84 = .ok (.ifCond .ne 27, 3) := by decide +kernel
theorem dX11_mostAtOnce_87 : decode cX11_mostAtOnce 87 = .ok (.aload_n 0, 1) := by decide +kernel
theorem dX11_mostAtOnce_88 : decode cX11_mostAtOnce 88 = .ok (.getfield 108, 3) := by decide +kernel
theorem dX11_mostAtOnce_91 : decode cX11_mostAtOnce 91 = .ok (.iload_n 1, 1) := by decide +kernel
theorem dX11_mostAtOnce_92 : decode cX11_mostAtOnce 92 = .ok (.iaload, 1) := by decide +kernel
theorem dX11_mostAtOnce_93 : decode cX11_mostAtOnce 93 = .ok (.iload_n 3, 1) := by decide +kernel
theorem dX11_mostAtOnce_94 : decode cX11_mostAtOnce 94 = .ok (.invokestatic 143, 3) := by decide +kernel
theorem dX11_mostAtOnce_97 : decode cX11_mostAtOnce 97 = .ok (.ifCond .eq 14, 3) := by decide +kernel
theorem dX11_mostAtOnce_100 : decode cX11_mostAtOnce 100 = .ok (.aload_n 0, 1) := by decide +kernel
theorem dX11_mostAtOnce_101 : decode cX11_mostAtOnce 101 = .ok (.getfield 105, 3) := by decide +kernel
theorem dX11_mostAtOnce_104 : decode cX11_mostAtOnce 104 = .ok (.iload_n 2, 1) := by decide +kernel
theorem dX11_mostAtOnce_105 : decode cX11_mostAtOnce 105 = .ok (.iconst 1, 1) := by decide +kernel
theorem dX11_mostAtOnce_106 : decode cX11_mostAtOnce 106 = .ok (.iload_n 3, 1) := by decide +kernel
theorem dX11_mostAtOnce_107 : decode cX11_mostAtOnce 107 = .ok (.ishl, 1) := by decide +kernel
theorem dX11_mostAtOnce_108 : decode cX11_mostAtOnce 108 = .ok (.ior, 1) := by decide +kernel
theorem dX11_mostAtOnce_109 : decode cX11_mostAtOnce 109 = .ok (.iconst 1, 1) := by decide +kernel
theorem dX11_mostAtOnce_110 : decode cX11_mostAtOnce 110 = .ok (.bastore, 1) := by decide +kernel
theorem dX11_mostAtOnce_111 : decode cX11_mostAtOnce 111 = .ok (.iinc 3 1, 3) := by decide +kernel
theorem dX11_mostAtOnce_114 : decode cX11_mostAtOnce 114 = .ok (.goto (-50), 3) := by decide +kernel
theorem dX11_mostAtOnce_117 : decode cX11_mostAtOnce 117 = .ok (.iinc 2 (-1), 3) := by decide +kernel
theorem dX11_mostAtOnce_120 : decode cX11_mostAtOnce 120 = .ok (.goto (-62), 3) := by decide +kernel
theorem dX11_mostAtOnce_123 : decode cX11_mostAtOnce 123 = .ok (.iinc 1 1, 3) := by decide +kernel
theorem dX11_mostAtOnce_126 : decode cX11_mostAtOnce 126 = .ok (.goto (-90), 3) := by decide +kernel
theorem dX11_mostAtOnce_129 : decode cX11_mostAtOnce 129 = .ok (.iconst 0, 1) := by decide +kernel
theorem dX11_mostAtOnce_130 : decode cX11_mostAtOnce 130 = .ok (.istore_n 1, 1) := by decide +kernel
theorem dX11_mostAtOnce_131 : decode cX11_mostAtOnce 131 = .ok (.iconst 0, 1) := by decide +kernel
theorem dX11_mostAtOnce_132 : decode cX11_mostAtOnce 132 = .ok (.istore_n 2, 1) := by decide +kernel
theorem dX11_mostAtOnce_133 : decode cX11_mostAtOnce 133 = .ok (.iload_n 2, 1) := by decide +kernel
theorem dX11_mostAtOnce_134 : decode cX11_mostAtOnce 134 = .ok (.sipush 1024, 3) := by decide +kernel
theorem dX11_mostAtOnce_137 : decode cX11_mostAtOnce 137 = .ok (.if_icmp .ge 27, 3) := by decide +kernel
theorem dX11_mostAtOnce_140 : decode cX11_mostAtOnce 140 = .ok (.aload_n 0, 1) := by decide +kernel
theorem dX11_mostAtOnce_141 : decode cX11_mostAtOnce 141 = .ok (.getfield 105, 3) := by decide +kernel
theorem dX11_mostAtOnce_144 : decode cX11_mostAtOnce 144 = .ok (.iload_n 2, 1) := by decide +kernel
theorem dX11_mostAtOnce_145 : decode cX11_mostAtOnce 145 = .ok (.baload, 1) := by decide +kernel
theorem dX11_mostAtOnce_146 : decode cX11_mostAtOnce 146 = .ok (.ifCond .eq 12, 3) := by decide +kernel
theorem dX11_mostAtOnce_149 : decode cX11_mostAtOnce 149 = .ok (.iload_n 1, 1) := by decide +kernel
theorem dX11_mostAtOnce_150 : decode cX11_mostAtOnce 150 = .ok (.iload_n 2, 1) := by decide +kernel
theorem dX11_mostAtOnce_151 : decode cX11_mostAtOnce 151 = .ok (.invokestatic 407, 3) := by decide +kernel
theorem dX11_mostAtOnce_154 : decode cX11_mostAtOnce 154 = .ok (.invokestatic 416, 3) := by decide +kernel
theorem dX11_mostAtOnce_157 : decode cX11_mostAtOnce 157 = .ok (.istore_n 1, 1) := by decide +kernel
theorem dX11_mostAtOnce_158 : decode cX11_mostAtOnce 158 = .ok (.iinc 2 1, 3) := by decide +kernel
theorem dX11_mostAtOnce_161 : decode cX11_mostAtOnce 161 = .ok (.goto (-28), 3) := by decide +kernel
theorem dX11_mostAtOnce_164 : decode cX11_mostAtOnce 164 = .ok (.iload_n 1, 1) := by decide +kernel
theorem dX11_mostAtOnce_165 : decode cX11_mostAtOnce 165 = .ok (.ireturn, 1) := by decide +kernel
theorem dX11_seed_0 : decode cX11_seed 0 = .ok (.iload_n 1, 1) := by decide +kernel
theorem dX11_seed_1 : decode cX11_seed 1 = .ok (.iconst 0, 1) := by decide +kernel
theorem dX11_seed_2 : decode cX11_seed 2 = .ok (.ldc_w 452, 3) := by decide +kernel
theorem dX11_seed_5 : decode cX11_seed 5 = .ok (.invokestatic 150, 3) := by decide +kernel
theorem dX11_seed_8 : decode cX11_seed 8 = .ok (.ifCond .ne 5, 3) := by decide +kernel
theorem dX11_seed_11 : decode cX11_seed 11 = .ok (.iconst 0, 1) := by decide +kernel
theorem dX11_seed_12 : decode cX11_seed 12 = .ok (.ireturn, 1) := by decide +kernel
theorem dX11_seed_13 : decode cX11_seed 13 = .ok (.aload_n 0, 1) := by decide +kernel
theorem dX11_seed_14 : decode cX11_seed 14 = .ok (.getfield 7, 3) := by decide +kernel
theorem dX11_seed_17 : decode cX11_seed 17 = .ok (.bipush 38, 2) := by decide +kernel
theorem dX11_seed_19 : decode cX11_seed 19 = .ok (.iload_n 1, 1) := by decide +kernel
theorem dX11_seed_20 : decode cX11_seed 20 = .ok (.iastore, 1) := by decide +kernel
theorem dX11_seed_21 : decode cX11_seed 21 = .ok (.iconst 1, 1) := by decide +kernel
theorem dX11_seed_22 : decode cX11_seed 22 = .ok (.ireturn, 1) := by decide +kernel
theorem dX11_servedBy_0 : decode cX11_servedBy 0 = .ok (.iload_n 1, 1) := by decide +kernel
theorem dX11_servedBy_1 : decode cX11_servedBy 1 = .ok (.iconst 1, 1) := by decide +kernel
theorem dX11_servedBy_2 : decode cX11_servedBy 2 = .ok (.bipush 60, 2) := by decide +kernel
theorem dX11_servedBy_4 : decode cX11_servedBy 4 = .ok (.invokestatic 150, 3) := by decide +kernel
theorem dX11_servedBy_7 : decode cX11_servedBy 7 = .ok (.ifCond .eq 12, 3) := by decide +kernel
theorem dX11_servedBy_10 : decode cX11_servedBy 10 = .ok (.iload_n 2, 1) := by decide +kernel
theorem dX11_servedBy_11 : decode cX11_servedBy 11 = .ok (.iconst 0, 1) := by decide +kernel
theorem dX11_servedBy_12 : decode cX11_servedBy 12 = .ok (.iconst 2, 1) := by decide +kernel
theorem dX11_servedBy_13 : decode cX11_servedBy 13 = .ok (.invokestatic 150, 3) := by decide +kernel
theorem dX11_servedBy_16 : decode cX11_servedBy 16 = .ok (.ifCond .ne 5, 3) := by decide +kernel
theorem dX11_servedBy_19 : decode cX11_servedBy 19 = .ok (.iconst (-1), 1) := by decide +kernel
theorem dX11_servedBy_20 : decode cX11_servedBy 20 = .ok (.ireturn, 1) := by decide +kernel
theorem dX11_servedBy_21 : decode cX11_servedBy 21 = .ok (.iload_n 2, 1) := by decide +kernel
theorem dX11_servedBy_22 : decode cX11_servedBy 22 = .ok (.iconst 2, 1) := by decide +kernel
theorem dX11_servedBy_23 : decode cX11_servedBy 23 = .ok (.if_icmp .ne 17, 3) := by decide +kernel
theorem dX11_servedBy_26 : decode cX11_servedBy 26 = .ok (.aload_n 0, 1) := by decide +kernel
theorem dX11_servedBy_27 : decode cX11_servedBy 27 = .ok (.getfield 7, 3) := by decide +kernel
theorem dX11_servedBy_30 : decode cX11_servedBy 30 = .ok (.bipush 34, 2) := by decide +kernel
theorem dX11_servedBy_32 : decode cX11_servedBy 32 = .ok (.iaload, 1) := by decide +kernel
theorem dX11_servedBy_33 : decode cX11_servedBy 33 = .ok (.iconst 3, 1) := by decide +kernel
theorem dX11_servedBy_34 : decode cX11_servedBy 34 = .ok (.if_icmp .eq 16, 3) := by decide +kernel
theorem dX11_servedBy_37 : decode cX11_servedBy 37 = .ok (.goto 11, 3) := by decide +kernel
theorem dX11_servedBy_40 : decode cX11_servedBy 40 = .ok (.aload_n 0, 1) := by decide +kernel
theorem dX11_servedBy_41 : decode cX11_servedBy 41 = .ok (.iload_n 2, 1) := by decide +kernel
theorem dX11_servedBy_42 : decode cX11_servedBy 42 = .ok (.invokevirtual 260, 3) := by decide +kernel
theorem dX11_servedBy_45 : decode cX11_servedBy 45 = .ok (.ifCond .ne 5, 3) := by decide +kernel
theorem dX11_servedBy_48 : decode cX11_servedBy 48 = .ok (.iconst (-1), 1) := by decide +kernel
theorem dX11_servedBy_49 : decode cX11_servedBy 49 = .ok (.ireturn, 1) := by decide +kernel
theorem dX11_servedBy_50 : decode cX11_servedBy 50 = .ok (.aload_n 0, 1) := by decide +kernel
theorem dX11_servedBy_51 : decode cX11_servedBy 51 = .ok (.getfield 7, 3) := by decide +kernel
theorem dX11_servedBy_54 : decode cX11_servedBy 54 = .ok (.aload_n 0, 1) := by decide +kernel
theorem dX11_servedBy_55 : decode cX11_servedBy 55 = .ok (.getfield 13, 3) := by decide +kernel
theorem dX11_servedBy_58 : decode cX11_servedBy 58 = .ok (.invokestatic 403, 3) := by decide +kernel
theorem dX11_servedBy_61 : decode cX11_servedBy 61 = .ok (.iload_n 2, 1) := by decide +kernel
theorem dX11_servedBy_62 : decode cX11_servedBy 62 = .ok (.iconst 2, 1) := by decide +kernel
theorem dX11_servedBy_63 : decode cX11_servedBy 63 = .ok (.if_icmp .ge 13, 3) := by decide +kernel
theorem dX11_servedBy_66 : decode cX11_servedBy 66 = .ok (.aload_n 0, 1) := by decide +kernel
theorem dX11_servedBy_67 : decode cX11_servedBy 67 = .ok (.getfield 7, 3) := by decide +kernel
theorem dX11_servedBy_70 : decode cX11_servedBy 70 = .ok (.bipush 34, 2) := by decide +kernel
theorem dX11_servedBy_72 : decode cX11_servedBy 72 = .ok (.iconst 1, 1) := by decide +kernel
theorem dX11_servedBy_73 : decode cX11_servedBy 73 = .ok (.iload_n 2, 1) := by decide +kernel
theorem dX11_servedBy_74 : decode cX11_servedBy 74 = .ok (.ishl, 1) := by decide +kernel
theorem dX11_servedBy_75 : decode cX11_servedBy 75 = .ok (.iastore, 1) := by decide +kernel
theorem dX11_servedBy_76 : decode cX11_servedBy 76 = .ok (.aload_n 0, 1) := by decide +kernel
theorem dX11_servedBy_77 : decode cX11_servedBy 77 = .ok (.iload_n 1, 1) := by decide +kernel
theorem dX11_servedBy_78 : decode cX11_servedBy 78 = .ok (.invokevirtual 400, 3) := by decide +kernel
theorem dX11_servedBy_81 : decode cX11_servedBy 81 = .ok (.aload_n 0, 1) := by decide +kernel
theorem dX11_servedBy_82 : decode cX11_servedBy 82 = .ok (.getfield 13, 3) := by decide +kernel
theorem dX11_servedBy_85 : decode cX11_servedBy 85 = .ok (.aload_n 0, 1) := by decide +kernel
theorem dX11_servedBy_86 : decode cX11_servedBy 86 = .ok (.getfield 7, 3) := by decide +kernel
theorem dX11_servedBy_89 : decode cX11_servedBy 89 = .ok (.invokestatic 403, 3) := by decide +kernel
theorem dX11_servedBy_92 : decode cX11_servedBy 92 = .ok (.aload_n 0, 1) := by decide +kernel
theorem dX11_servedBy_93 : decode cX11_servedBy 93 = .ok (.getfield 371, 3) := by decide +kernel
theorem dX11_servedBy_96 : decode cX11_servedBy 96 = .ok (.ireturn, 1) := by decide +kernel
theorem dX11_servedFirst_0 : decode cX11_servedFirst 0 = .ok (.aload_n 0, 1) := by decide +kernel
theorem dX11_servedFirst_1 : decode cX11_servedFirst 1 = .ok (.getfield 7, 3) := by decide +kernel
theorem dX11_servedFirst_4 : decode cX11_servedFirst 4 = .ok (.aload_n 0, 1) := by decide +kernel
theorem dX11_servedFirst_5 : decode cX11_servedFirst 5 = .ok (.getfield 13, 3) := by decide +kernel
theorem dX11_servedFirst_8 : decode cX11_servedFirst 8 = .ok (.invokestatic 403, 3) := by decide +kernel
theorem dX11_servedFirst_11 : decode cX11_servedFirst 11 = .ok (.aload_n 0, 1) := by decide +kernel
theorem dX11_servedFirst_12 : decode cX11_servedFirst 12 = .ok (.iload_n 1, 1) := by decide +kernel
theorem dX11_servedFirst_13 : decode cX11_servedFirst 13 = .ok (.putfield 135, 3) := by decide +kernel
theorem dX11_servedFirst_16 : decode cX11_servedFirst 16 = .ok (.aload_n 0, 1) := by decide +kernel
theorem dX11_servedFirst_17 : decode cX11_servedFirst 17 = .ok (.iload_n 2, 1) := by decide +kernel
theorem dX11_servedFirst_18 : decode cX11_servedFirst 18 = .ok (.invokevirtual 400, 3) := by decide +kernel
theorem dX11_servedFirst_21 : decode cX11_servedFirst 21 = .ok (.aload_n 0, 1) := by decide +kernel
theorem dX11_servedFirst_22 : decode cX11_servedFirst 22 = .ok (.iconst (-1), 1) := by decide +kernel
theorem dX11_servedFirst_23 : decode cX11_servedFirst 23 = .ok (.putfield 135, 3) := by decide +kernel
theorem dX11_servedFirst_26 : decode cX11_servedFirst 26 = .ok (.aload_n 0, 1) := by decide +kernel
theorem dX11_servedFirst_27 : decode cX11_servedFirst 27 = .ok (.getfield 13, 3) := by decide +kernel
theorem dX11_servedFirst_30 : decode cX11_servedFirst 30 = .ok (.aload_n 0, 1) := by decide +kernel
theorem dX11_servedFirst_31 : decode cX11_servedFirst 31 = .ok (.getfield 7, 3) := by decide +kernel
theorem dX11_servedFirst_34 : decode cX11_servedFirst 34 = .ok (.invokestatic 403, 3) := by decide +kernel
theorem dX11_servedFirst_37 : decode cX11_servedFirst 37 = .ok (.aload_n 0, 1) := by decide +kernel
theorem dX11_servedFirst_38 : decode cX11_servedFirst 38 = .ok (.getfield 371, 3) := by decide +kernel
theorem dX11_servedFirst_41 : decode cX11_servedFirst 41 = .ok (.ireturn, 1) := by decide +kernel
theorem dX11_servedIn_0 : decode cX11_servedIn 0 = .ok (.aload_n 0, 1) := by decide +kernel
theorem dX11_servedIn_1 : decode cX11_servedIn 1 = .ok (.getfield 7, 3) := by decide +kernel
theorem dX11_servedIn_4 : decode cX11_servedIn 4 = .ok (.aload_n 0, 1) := by decide +kernel
theorem dX11_servedIn_5 : decode cX11_servedIn 5 = .ok (.getfield 13, 3) := by decide +kernel
theorem dX11_servedIn_8 : decode cX11_servedIn 8 = .ok (.invokestatic 403, 3) := by decide +kernel
theorem dX11_servedIn_11 : decode cX11_servedIn 11 = .ok (.aload_n 0, 1) := by decide +kernel
theorem dX11_servedIn_12 : decode cX11_servedIn 12 = .ok (.invokevirtual 391, 3) := by decide +kernel
theorem dX11_servedIn_15 : decode cX11_servedIn 15 = .ok (.iconst 0, 1) := by decide +kernel
theorem dX11_servedIn_16 : decode cX11_servedIn 16 = .ok (.istore 4, 2) := by decide +kernel
theorem dX11_servedIn_18 : decode cX11_servedIn 18 = .ok (.iload 4, 2) := by decide +kernel
theorem dX11_servedIn_20 : decode cX11_servedIn 20 = .ok (.iload_n 2, 1) := by decide +kernel
theorem dX11_servedIn_21 : decode cX11_servedIn 21 = .ok (.if_icmp .ge 66, 3) := by decide +kernel
theorem dX11_servedIn_24 : decode cX11_servedIn 24 = .ok (.aload_n 0, 1) := by decide +kernel
theorem dX11_servedIn_25 : decode cX11_servedIn 25 = .ok (.getfield 7, 3) := by decide +kernel
theorem dX11_servedIn_28 : decode cX11_servedIn 28 = .ok (.bipush 37, 2) := by decide +kernel
theorem dX11_servedIn_30 : decode cX11_servedIn 30 = .ok (.iaload, 1) := by decide +kernel
theorem dX11_servedIn_31 : decode cX11_servedIn 31 = .ok (.sipush 9999, 3) := by decide +kernel
theorem dX11_servedIn_34 : decode cX11_servedIn 34 = .ok (.if_icmp .ge 53, 3) := by decide +kernel
theorem dX11_servedIn_37 : decode cX11_servedIn 37 = .ok (.iload_n 1, 1) := by decide +kernel
theorem dX11_servedIn_38 : decode cX11_servedIn 38 = .ok (.ifCond .ne 15, 3) := by decide +kernel
theorem dX11_servedIn_41 : decode cX11_servedIn 41 = .ok (.aload_n 0, 1) := by decide +kernel
theorem dX11_servedIn_42 : decode cX11_servedIn 42 = .ok (.iconst 0, 1) := by decide +kernel
theorem dX11_servedIn_43 : decode cX11_servedIn 43 = .ok (.iload_n 3, 1) := by decide +kernel
theorem dX11_servedIn_44 : decode cX11_servedIn 44 = .ok (.iload_n 2, 1) := by decide +kernel
theorem dX11_servedIn_45 : decode cX11_servedIn 45 = .ok (.iload 4, 2) := by decide +kernel
theorem dX11_servedIn_47 : decode cX11_servedIn 47 = .ok (.invokestatic 428, 3) := by decide +kernel
theorem dX11_servedIn_50 : decode cX11_servedIn 50 = .ok (.invokevirtual 345, 3) := by decide +kernel
theorem dX11_servedIn_53 : decode cX11_servedIn 53 = .ok (.aload_n 0, 1) := by decide +kernel
theorem dX11_servedIn_54 : decode cX11_servedIn 54 = .ok (.iconst 1, 1) := by decide +kernel
theorem dX11_servedIn_55 : decode cX11_servedIn 55 = .ok (.iload_n 1, 1) := by decide +kernel
theorem dX11_servedIn_56 : decode cX11_servedIn 56 = .ok (.isub, 1) := by decide +kernel
theorem dX11_servedIn_57 : decode cX11_servedIn 57 = .ok (.invokevirtual 394, 3) := by decide +kernel
theorem dX11_servedIn_60 : decode cX11_servedIn 60 = .ok (.iload_n 1, 1) := by decide +kernel
theorem dX11_servedIn_61 : decode cX11_servedIn 61 = .ok (.iconst 1, 1) := by decide +kernel
theorem dX11_servedIn_62 : decode cX11_servedIn 62 = .ok (.if_icmp .ne 15, 3) := by decide +kernel
theorem dX11_servedIn_65 : decode cX11_servedIn 65 = .ok (.aload_n 0, 1) := by decide +kernel
theorem dX11_servedIn_66 : decode cX11_servedIn 66 = .ok (.iconst 1, 1) := by decide +kernel
theorem dX11_servedIn_67 : decode cX11_servedIn 67 = .ok (.iload_n 3, 1) := by decide +kernel
theorem dX11_servedIn_68 : decode cX11_servedIn 68 = .ok (.iload_n 2, 1) := by decide +kernel
theorem dX11_servedIn_69 : decode cX11_servedIn 69 = .ok (.iload 4, 2) := by decide +kernel
theorem dX11_servedIn_71 : decode cX11_servedIn 71 = .ok (.invokestatic 428, 3) := by decide +kernel
theorem dX11_servedIn_74 : decode cX11_servedIn 74 = .ok (.invokevirtual 345, 3) := by decide +kernel
theorem dX11_servedIn_77 : decode cX11_servedIn 77 = .ok (.aload_n 0, 1) := by decide +kernel
theorem dX11_servedIn_78 : decode cX11_servedIn 78 = .ok (.invokevirtual 397, 3) := by decide +kernel
theorem dX11_servedIn_81 : decode cX11_servedIn 81 = .ok (.iinc 4 1, 3) := by decide +kernel
theorem dX11_servedIn_84 : decode cX11_servedIn 84 = .ok (.goto (-66), 3) := by decide +kernel
theorem dX11_servedIn_87 : decode cX11_servedIn 87 = .ok (.aload_n 0, 1) := by decide +kernel
theorem dX11_servedIn_88 : decode cX11_servedIn 88 = .ok (.getfield 13, 3) := by decide +kernel
theorem dX11_servedIn_91 : decode cX11_servedIn 91 = .ok (.aload_n 0, 1) := by decide +kernel
theorem dX11_servedIn_92 : decode cX11_servedIn 92 = .ok (.getfield 7, 3) := by decide +kernel
theorem dX11_servedIn_95 : decode cX11_servedIn 95 = .ok (.invokestatic 403, 3) := by decide +kernel
theorem dX11_servedIn_98 : decode cX11_servedIn 98 = .ok (.aload_n 0, 1) := by decide +kernel
theorem dX11_servedIn_99 : decode cX11_servedIn 99 = .ok (.getfield 371, 3) := by decide +kernel
theorem dX11_servedIn_102 : decode cX11_servedIn 102 = .ok (.ireturn, 1) := by decide +kernel
theorem dX11_shade_0 : decode cX11_shade 0 = .ok (.iload_n 1, 1) := by decide +kernel
theorem dX11_shade_1 : decode cX11_shade 1 = .ok (.iload_n 2, 1) := by decide +kernel
theorem dX11_shade_2 : decode cX11_shade 2 = .ok (.invokestatic 161, 3) := by decide +kernel
theorem dX11_shade_5 : decode cX11_shade 5 = .ok (.ifCond .ne 5, 3) := by decide +kernel
theorem dX11_shade_8 : decode cX11_shade 8 = .ok (.iconst (-1), 1) := by decide +kernel
theorem dX11_shade_9 : decode cX11_shade 9 = .ok (.ireturn, 1) := by decide +kernel
theorem dX11_shade_10 : decode cX11_shade 10 = .ok (.aload_n 0, 1) := by decide +kernel
theorem dX11_shade_11 : decode cX11_shade 11 = .ok (.aload_n 0, 1) := by decide +kernel
theorem dX11_shade_12 : decode cX11_shade 12 = .ok (.getfield 7, 3) := by decide +kernel
theorem dX11_shade_15 : decode cX11_shade 15 = .ok (.bipush 37, 2) := by decide +kernel
theorem dX11_shade_17 : decode cX11_shade 17 = .ok (.iaload, 1) := by decide +kernel
theorem dX11_shade_18 : decode cX11_shade 18 = .ok (.iconst 0, 1) := by decide +kernel
theorem dX11_shade_19 : decode cX11_shade 19 = .ok (.invokevirtual 381, 3) := by decide +kernel
theorem dX11_shade_22 : decode cX11_shade 22 = .ok (.aload_n 0, 1) := by decide +kernel
theorem dX11_shade_23 : decode cX11_shade 23 = .ok (.getfield 89, 3) := by decide +kernel
theorem dX11_shade_26 : decode cX11_shade 26 = .ok (.bipush 10, 2) := by decide +kernel
theorem dX11_shade_28 : decode cX11_shade 28 = .ok (.iload_n 2, 1) := by decide +kernel
theorem dX11_shade_29 : decode cX11_shade 29 = .ok (.imul, 1) := by decide +kernel
theorem dX11_shade_30 : decode cX11_shade 30 = .ok (.iload_n 1, 1) := by decide +kernel
theorem dX11_shade_31 : decode cX11_shade 31 = .ok (.iadd, 1) := by decide +kernel
theorem dX11_shade_32 : decode cX11_shade 32 = .ok (.iaload, 1) := by decide +kernel
theorem dX11_shade_33 : decode cX11_shade 33 = .ok (.ireturn, 1) := by decide +kernel
theorem dX11_shadesGo_0 : decode cX11_shadesGo 0 = .ok (.aload_n 0, 1) := by decide +kernel
theorem dX11_shadesGo_1 : decode cX11_shadesGo 1 = .ok (.invokevirtual 375, 3) := by decide +kernel
theorem dX11_shadesGo_4 : decode cX11_shadesGo 4 = .ok (.istore_n 1, 1) := by decide +kernel
theorem dX11_shadesGo_5 : decode cX11_shadesGo 5 = .ok (.aload_n 0, 1) := by decide +kernel
theorem dX11_shadesGo_6 : decode cX11_shadesGo 6 = .ok (.aload_n 0, 1) := by decide +kernel
theorem dX11_shadesGo_7 : decode cX11_shadesGo 7 = .ok (.getfield 7, 3) := by decide +kernel
theorem dX11_shadesGo_10 : decode cX11_shadesGo 10 = .ok (.bipush 37, 2) := by decide +kernel
theorem dX11_shadesGo_12 : decode cX11_shadesGo 12 = .ok (.iaload, 1) := by decide +kernel
theorem dX11_shadesGo_13 : decode cX11_shadesGo 13 = .ok (.invokevirtual 317, 3) := by decide +kernel
theorem dX11_shadesGo_16 : decode cX11_shadesGo 16 = .ok (.iload_n 1, 1) := by decide +kernel
theorem dX11_shadesGo_17 : decode cX11_shadesGo 17 = .ok (.aload_n 0, 1) := by decide +kernel
theorem dX11_shadesGo_18 : decode cX11_shadesGo 18 = .ok (.bipush 99, 2) := by decide +kernel
theorem dX11_shadesGo_20 : decode cX11_shadesGo 20 = .ok (.bipush 10, 2) := by decide +kernel
theorem dX11_shadesGo_22 : decode cX11_shadesGo 22 = .ok (.invokevirtual 320, 3) := by decide +kernel
theorem dX11_shadesGo_25 : decode cX11_shadesGo 25 = .ok (.if_icmp .ge 7, 3) := by decide +kernel
theorem dX11_shadesGo_28 : decode cX11_shadesGo 28 = .ok (.iconst 1, 1) := by decide +kernel
theorem dX11_shadesGo_29 : decode cX11_shadesGo 29 = .ok (.goto 4, 3) := by decide +kernel
theorem dX11_shadesGo_32 : decode cX11_shadesGo 32 = .ok (.iconst 0, 1) := by decide +kernel
theorem dX11_shadesGo_33 : decode cX11_shadesGo 33 = .ok (.istore_n 2, 1) := by decide +kernel
theorem dX11_shadesGo_34 : decode cX11_shadesGo 34 = .ok (.aload_n 0, 1) := by decide +kernel
theorem dX11_shadesGo_35 : decode cX11_shadesGo 35 = .ok (.aload_n 0, 1) := by decide +kernel
theorem dX11_shadesGo_36 : decode cX11_shadesGo 36 = .ok (.getfield 378, 3) := by decide +kernel
theorem dX11_shadesGo_39 : decode cX11_shadesGo 39 = .ok (.iload_n 2, 1) := by decide +kernel
theorem dX11_shadesGo_40 : decode cX11_shadesGo 40 = .ok (.ifCond .eq 7, 3) := by decide +kernel
theorem dX11_shadesGo_43 : decode cX11_shadesGo 43 = .ok (.iconst 1, 1) := by decide +kernel
theorem dX11_shadesGo_44 : decode cX11_shadesGo 44 = .ok (.goto 4, 3) := by decide +kernel
theorem dX11_shadesGo_47 : decode cX11_shadesGo 47 = .ok (.iconst 0, 1) := by decide +kernel
theorem dX11_shadesGo_48 : decode cX11_shadesGo 48 = .ok (.iadd, 1) := by decide +kernel
theorem dX11_shadesGo_49 : decode cX11_shadesGo 49 = .ok (.putfield 378, 3) := by decide +kernel
theorem dX11_shadesGo_52 : decode cX11_shadesGo 52 = .ok (.aload_n 0, 1) := by decide +kernel
theorem dX11_shadesGo_53 : decode cX11_shadesGo 53 = .ok (.aload_n 0, 1) := by decide +kernel
theorem dX11_shadesGo_54 : decode cX11_shadesGo 54 = .ok (.getfield 7, 3) := by decide +kernel
theorem dX11_shadesGo_57 : decode cX11_shadesGo 57 = .ok (.bipush 37, 2) := by decide +kernel
theorem dX11_shadesGo_59 : decode cX11_shadesGo 59 = .ok (.iaload, 1) := by decide +kernel
theorem dX11_shadesGo_60 : decode cX11_shadesGo 60 = .ok (.iload_n 2, 1) := by decide +kernel
theorem dX11_shadesGo_61 : decode cX11_shadesGo 61 = .ok (.invokevirtual 381, 3) := by decide +kernel
theorem dX11_shadesGo_64 : decode cX11_shadesGo 64 = .ok (.aload_n 0, 1) := by decide +kernel
theorem dX11_shadesGo_65 : decode cX11_shadesGo 65 = .ok (.aload_n 0, 1) := by decide +kernel
theorem dX11_shadesGo_66 : decode cX11_shadesGo 66 = .ok (.getfield 7, 3) := by decide +kernel
theorem dX11_shadesGo_69 : decode cX11_shadesGo 69 = .ok (.bipush 37, 2) := by decide +kernel
theorem dX11_shadesGo_71 : decode cX11_shadesGo 71 = .ok (.iaload, 1) := by decide +kernel
theorem dX11_shadesGo_72 : decode cX11_shadesGo 72 = .ok (.invokevirtual 339, 3) := by decide +kernel
theorem dX11_shadesGo_75 : decode cX11_shadesGo 75 = .ok (.istore_n 3, 1) := by decide +kernel
theorem dX11_shadesGo_76 : decode cX11_shadesGo 76 = .ok (.iconst 0, 1) := by decide +kernel
theorem dX11_shadesGo_77 : decode cX11_shadesGo 77 = .ok (.istore 4, 2) := by decide +kernel
theorem dX11_shadesGo_79 : decode cX11_shadesGo 79 = .ok (.iload 4, 2) := by decide +kernel
theorem dX11_shadesGo_81 : decode cX11_shadesGo 81 = .ok (.bipush 100, 2) := by decide +kernel
theorem dX11_shadesGo_83 : decode cX11_shadesGo 83 = .ok (.if_icmp .ge 17, 3) := by decide +kernel
theorem dX11_shadesGo_86 : decode cX11_shadesGo 86 = .ok (.aload_n 0, 1) := by decide +kernel
theorem dX11_shadesGo_87 : decode cX11_shadesGo 87 = .ok (.getfield 101, 3) := by decide +kernel
theorem dX11_shadesGo_90 : decode cX11_shadesGo 90 = .ok (.iload 4, 2) := by decide +kernel
theorem dX11_shadesGo_92 : decode cX11_shadesGo 92 = .ok (.iconst 0, 1) := by decide +kernel
theorem dX11_shadesGo_93 : decode cX11_shadesGo 93 = .ok (.bastore, 1) := by decide +kernel
theorem dX11_shadesGo_94 : decode cX11_shadesGo 94 = .ok (.iinc 4 1, 3) := by decide +kernel
theorem dX11_shadesGo_97 : decode cX11_shadesGo 97 = .ok (.goto (-18), 3) := by decide +kernel
theorem dX11_shadesGo_100 : decode cX11_shadesGo 100 = .ok (.aload_n 0, 1) := by decide +kernel
theorem dX11_shadesGo_101 : decode cX11_shadesGo 101 = .ok (.invokevirtual 385, 3) := by decide +kernel
theorem dX11_shadesGo_104 : decode cX11_shadesGo 104 = .ok (.istore 4, 2) := by decide +kernel
theorem dX11_shadesGo_106 : decode cX11_shadesGo 106 = .ok (.iconst 0, 1) := by decide +kernel
theorem dX11_shadesGo_107 : decode cX11_shadesGo 107 = .ok (.istore 5, 2) := by decide +kernel
theorem dX11_shadesGo_109 : decode cX11_shadesGo 109 = .ok (.iload 5, 2) := by decide +kernel
theorem dX11_shadesGo_111 : decode cX11_shadesGo 111 = .ok (.iload 4, 2) := by decide +kernel
theorem dX11_shadesGo_113 : decode cX11_shadesGo 113 = .ok (.if_icmp .ge 21, 3) := by decide +kernel
theorem dX11_shadesGo_116 : decode cX11_shadesGo 116 = .ok (.aload_n 0, 1) := by decide +kernel
theorem dX11_shadesGo_117 : decode cX11_shadesGo 117 = .ok (.aload_n 0, 1) := by decide +kernel
theorem dX11_shadesGo_118 : decode cX11_shadesGo 118 = .ok (.getfield 95, 3) := by decide +kernel
theorem dX11_shadesGo_121 : decode cX11_shadesGo 121 = .ok (.iload 5, 2) := by decide +kernel
theorem dX11_shadesGo_123 : decode cX11_shadesGo 123 = .ok (.iaload, 1) := by decide +kernel
theorem dX11_shadesGo_124 : decode cX11_shadesGo 124 = .ok (.iload_n 3, 1) := by decide +kernel
theorem dX11_shadesGo_125 : decode cX11_shadesGo 125 = .ok (.invokevirtual 388, 3) := by decide +kernel
theorem dX11_shadesGo_128 : decode cX11_shadesGo 128 = .ok (.iinc 5 1, 3) := by decide +kernel
theorem dX11_shadesGo_131 : decode cX11_shadesGo 131 = .ok (.goto (-22), 3) := by decide +kernel
theorem dX11_shadesGo_134 : decode cX11_shadesGo 134 = .ok (.aload_n 0, 1) := by decide +kernel
theorem dX11_shadesGo_135 : decode cX11_shadesGo 135 = .ok (.getfield 7, 3) := by decide +kernel
theorem dX11_shadesGo_138 : decode cX11_shadesGo 138 = .ok (.bipush 37, 2) := by decide +kernel
theorem dX11_shadesGo_140 : decode cX11_shadesGo 140 = .ok (.aload_n 0, 1) := by decide +kernel
theorem dX11_shadesGo_141 : decode cX11_shadesGo 141 = .ok (.getfield 7, 3) := by decide +kernel
theorem dX11_shadesGo_144 : decode cX11_shadesGo 144 = .ok (.bipush 37, 2) := by decide +kernel
theorem dX11_shadesGo_146 : decode cX11_shadesGo 146 = .ok (.iaload, 1) := by decide +kernel
theorem dX11_shadesGo_147 : decode cX11_shadesGo 147 = .ok (.iconst 1, 1) := by decide +kernel
theorem dX11_shadesGo_148 : decode cX11_shadesGo 148 = .ok (.iadd, 1) := by decide +kernel
theorem dX11_shadesGo_149 : decode cX11_shadesGo 149 = .ok (.iastore, 1) := by decide +kernel
theorem dX11_shadesGo_150 : decode cX11_shadesGo 150 = .ok (.return_, 1) := by decide +kernel
theorem dX11_stepIn_0 : decode cX11_stepIn 0 = .ok (.iload_n 0, 1) := by decide +kernel
theorem dX11_stepIn_1 : decode cX11_stepIn 1 = .ok (.istore_n 3, 1) := by decide +kernel
theorem dX11_stepIn_2 : decode cX11_stepIn 2 = .ok (.iload_n 1, 1) := by decide +kernel
theorem dX11_stepIn_3 : decode cX11_stepIn 3 = .ok (.iconst 1, 1) := by decide +kernel
theorem dX11_stepIn_4 : decode cX11_stepIn 4 = .ok (.isub, 1) := by decide +kernel
theorem dX11_stepIn_5 : decode cX11_stepIn 5 = .ok (.istore 4, 2) := by decide +kernel
theorem dX11_stepIn_7 : decode cX11_stepIn 7 = .ok (.iload 4, 2) := by decide +kernel
theorem dX11_stepIn_9 : decode cX11_stepIn 9 = .ok (.iload_n 2, 1) := by decide +kernel
theorem dX11_stepIn_10 : decode cX11_stepIn 10 = .ok (.if_icmp .le 13, 3) := by decide +kernel
theorem dX11_stepIn_13 : decode cX11_stepIn 13 = .ok (.iload_n 3, 1) := by decide +kernel
theorem dX11_stepIn_14 : decode cX11_stepIn 14 = .ok (.iconst 5, 1) := by decide +kernel
theorem dX11_stepIn_15 : decode cX11_stepIn 15 = .ok (.idiv, 1) := by decide +kernel
theorem dX11_stepIn_16 : decode cX11_stepIn 16 = .ok (.istore_n 3, 1) := by decide +kernel
theorem dX11_stepIn_17 : decode cX11_stepIn 17 = .ok (.iinc 4 (-1), 3) := by decide +kernel
theorem dX11_stepIn_20 : decode cX11_stepIn 20 = .ok (.goto (-13), 3) := by decide +kernel
theorem dX11_stepIn_23 : decode cX11_stepIn 23 = .ok (.iconst 2, 1) := by decide +kernel
theorem dX11_stepIn_24 : decode cX11_stepIn 24 = .ok (.iload_n 3, 1) := by decide +kernel
theorem dX11_stepIn_25 : decode cX11_stepIn 25 = .ok (.iconst 5, 1) := by decide +kernel
theorem dX11_stepIn_26 : decode cX11_stepIn 26 = .ok (.irem, 1) := by decide +kernel
theorem dX11_stepIn_27 : decode cX11_stepIn 27 = .ok (.imul, 1) := by decide +kernel
theorem dX11_stepIn_28 : decode cX11_stepIn 28 = .ok (.ireturn, 1) := by decide +kernel
theorem dX11_tried_0 : decode cX11_tried 0 = .ok (.iload_n 2, 1) := by decide +kernel
theorem dX11_tried_1 : decode cX11_tried 1 = .ok (.iconst 0, 1) := by decide +kernel
theorem dX11_tried_2 : decode cX11_tried 2 = .ok (.iconst 5, 1) := by decide +kernel
theorem dX11_tried_3 : decode cX11_tried 3 = .ok (.invokestatic 150, 3) := by decide +kernel
theorem dX11_tried_6 : decode cX11_tried 6 = .ok (.ifCond .ne 47, 3) := by decide +kernel
theorem dX11_tried_9 : decode cX11_tried 9 = .ok (.iload_n 2, 1) := by decide +kernel
theorem dX11_tried_10 : decode cX11_tried 10 = .ok (.bipush 10, 2) := by decide +kernel
theorem dX11_tried_12 : decode cX11_tried 12 = .ok (.bipush 29, 2) := by decide +kernel
theorem dX11_tried_14 : decode cX11_tried 14 = .ok (.invokestatic 150, 3) := by decide +kernel
theorem dX11_tried_17 : decode cX11_tried 17 = .ok (.ifCond .eq 14, 3) := by decide +kernel
theorem dX11_tried_20 : decode cX11_tried 20 = .ok (.aload_n 0, 1) := by decide +kernel
theorem dX11_tried_21 : decode cX11_tried 21 = .ok (.iload_n 2, 1) := by decide +kernel
theorem dX11_tried_22 : decode cX11_tried 22 = .ok (.bipush 10, 2) := by decide +kernel
theorem dX11_tried_24 : decode cX11_tried 24 = .ok (.irem, 1) := by decide +kernel
theorem dX11_tried_25 : decode cX11_tried 25 = .ok (.invokevirtual 146, 3) := by decide +kernel
theorem dX11_tried_28 : decode cX11_tried 28 = .ok (.ifCond .ne 25, 3) := by decide +kernel
theorem dX11_tried_31 : decode cX11_tried 31 = .ok (.iload_n 2, 1) := by decide +kernel
theorem dX11_tried_32 : decode cX11_tried 32 = .ok (.bipush 30, 2) := by decide +kernel
theorem dX11_tried_34 : decode cX11_tried 34 = .ok (.bipush 31, 2) := by decide +kernel
theorem dX11_tried_36 : decode cX11_tried 36 = .ok (.invokestatic 150, 3) := by decide +kernel
theorem dX11_tried_39 : decode cX11_tried 39 = .ok (.ifCond .eq 18, 3) := by decide +kernel
theorem dX11_tried_42 : decode cX11_tried 42 = .ok (.aload_n 0, 1) := by decide +kernel
theorem dX11_tried_43 : decode cX11_tried 43 = .ok (.iload_n 2, 1) := by decide +kernel
theorem dX11_tried_44 : decode cX11_tried 44 = .ok (.bipush 30, 2) := by decide +kernel
theorem dX11_tried_46 : decode cX11_tried 46 = .ok (.isub, 1) := by decide +kernel
theorem dX11_tried_47 : decode cX11_tried 47 = .ok (.invokevirtual 260, 3) := by decide +kernel
theorem dX11_tried_50 : decode cX11_tried 50 = .ok (.ifCond .eq 7, 3) := by decide +kernel
theorem dX11_tried_53 : decode cX11_tried 53 = .ok (.iconst 1, 1) := by decide +kernel
theorem dX11_tried_54 : decode cX11_tried 54 = .ok (.goto 4, 3) := by decide +kernel
theorem dX11_tried_57 : decode cX11_tried 57 = .ok (.iconst 0, 1) := by decide +kernel
theorem dX11_tried_58 : decode cX11_tried 58 = .ok (.istore_n 3, 1) := by decide +kernel
theorem dX11_tried_59 : decode cX11_tried 59 = .ok (.iload_n 1, 1) := by decide +kernel
theorem dX11_tried_60 : decode cX11_tried 60 = .ok (.iconst 1, 1) := by decide +kernel
theorem dX11_tried_61 : decode cX11_tried 61 = .ok (.bipush 120, 2) := by decide +kernel
theorem dX11_tried_63 : decode cX11_tried 63 = .ok (.invokestatic 150, 3) := by decide +kernel
theorem dX11_tried_66 : decode cX11_tried 66 = .ok (.ifCond .eq 7, 3) := by decide +kernel
theorem dX11_tried_69 : decode cX11_tried 69 = .ok (.iload_n 3, 1) := by decide +kernel
theorem dX11_tried_70 : decode cX11_tried 70 = .ok (.ifCond .ne 5, 3) := by decide +kernel
theorem dX11_tried_73 : decode cX11_tried 73 = .ok (.iconst (-1), 1) := by decide +kernel
theorem dX11_tried_74 : decode cX11_tried 74 = .ok (.ireturn, 1) := by decide +kernel
theorem dX11_tried_75 : decode cX11_tried 75 = .ok (.aload_n 0, 1) := by decide +kernel
theorem dX11_tried_76 : decode cX11_tried 76 = .ok (.getfield 7, 3) := by decide +kernel
theorem dX11_tried_79 : decode cX11_tried 79 = .ok (.aload_n 0, 1) := by decide +kernel
theorem dX11_tried_80 : decode cX11_tried 80 = .ok (.getfield 13, 3) := by decide +kernel
theorem dX11_tried_83 : decode cX11_tried 83 = .ok (.invokestatic 403, 3) := by decide +kernel
theorem dX11_tried_86 : decode cX11_tried 86 = .ok (.aload_n 0, 1) := by decide +kernel
theorem dX11_tried_87 : decode cX11_tried 87 = .ok (.iload_n 1, 1) := by decide +kernel
theorem dX11_tried_88 : decode cX11_tried 88 = .ok (.invokevirtual 400, 3) := by decide +kernel
theorem dX11_tried_91 : decode cX11_tried 91 = .ok (.iload_n 2, 1) := by decide +kernel
theorem dX11_tried_92 : decode cX11_tried 92 = .ok (.tableswitch 108 0 5 #[40, 49, 58, 81, 90, 99], 40) := by decide +kernel
theorem dX11_tried_132 : decode cX11_tried 132 = .ok (.aload_n 0, 1) := by decide +kernel
theorem dX11_tried_133 : decode cX11_tried 133 = .ok (.getfield 371, 3) := by decide +kernel
theorem dX11_tried_136 : decode cX11_tried 136 = .ok (.istore 4, 2) := by decide +kernel
theorem dX11_tried_138 : decode cX11_tried 138 = .ok (.goto 116, 3) := by decide +kernel
theorem dX11_tried_141 : decode cX11_tried 141 = .ok (.aload_n 0, 1) := by decide +kernel
theorem dX11_tried_142 : decode cX11_tried 142 = .ok (.getfield 365, 3) := by decide +kernel
theorem dX11_tried_145 : decode cX11_tried 145 = .ok (.istore 4, 2) := by decide +kernel
theorem dX11_tried_147 : decode cX11_tried 147 = .ok (.goto 107, 3) := by decide +kernel
theorem dX11_tried_150 : decode cX11_tried 150 = .ok (.aload_n 0, 1) := by decide +kernel
theorem dX11_tried_151 : decode cX11_tried 151 = .ok (.getfield 7, 3) := by decide +kernel
theorem dX11_tried_154 : decode cX11_tried 154 = .ok (.bipush 36, 2) := by decide +kernel
theorem dX11_tried_156 : decode cX11_tried 156 = .ok (.iaload, 1) := by decide +kernel
theorem dX11_tried_157 : decode cX11_tried 157 = .ok (.aload_n 0, 1) := by decide +kernel
theorem dX11_tried_158 : decode cX11_tried 158 = .ok (.getfield 7, 3) := by decide +kernel
theorem dX11_tried_161 : decode cX11_tried 161 = .ok (.bipush 35, 2) := by decide +kernel
theorem dX11_tried_163 : decode cX11_tried 163 = .ok (.iaload, 1) := by decide +kernel
theorem dX11_tried_164 : decode cX11_tried 164 = .ok (.iand, 1) := by decide +kernel
theorem dX11_tried_165 : decode cX11_tried 165 = .ok (.invokestatic 407, 3) := by decide +kernel
theorem dX11_tried_168 : decode cX11_tried 168 = .ok (.istore 4, 2) := by decide +kernel
theorem dX11_tried_170 : decode cX11_tried 170 = .ok (.goto 84, 3) := by decide +kernel
theorem dX11_tried_173 : decode cX11_tried 173 = .ok (.aload_n 0, 1) := by decide +kernel
theorem dX11_tried_174 : decode cX11_tried 174 = .ok (.getfield 378, 3) := by decide +kernel
theorem dX11_tried_177 : decode cX11_tried 177 = .ok (.istore 4, 2) := by decide +kernel
theorem dX11_tried_179 : decode cX11_tried 179 = .ok (.goto 75, 3) := by decide +kernel
theorem dX11_tried_182 : decode cX11_tried 182 = .ok (.aload_n 0, 1) := by decide +kernel
theorem dX11_tried_183 : decode cX11_tried 183 = .ok (.getfield 368, 3) := by decide +kernel
theorem dX11_tried_186 : decode cX11_tried 186 = .ok (.istore 4, 2) := by decide +kernel
theorem dX11_tried_188 : decode cX11_tried 188 = .ok (.goto 66, 3) := by decide +kernel
theorem dX11_tried_191 : decode cX11_tried 191 = .ok (.aload_n 0, 1) := by decide +kernel
theorem dX11_tried_192 : decode cX11_tried 192 = .ok (.invokevirtual 410, 3) := by decide +kernel
theorem dX11_tried_195 : decode cX11_tried 195 = .ok (.istore 4, 2) := by decide +kernel
theorem dX11_tried_197 : decode cX11_tried 197 = .ok (.goto 57, 3) := by decide +kernel
theorem dX11_tried_200 : decode cX11_tried 200 = .ok (.iload_n 2, 1) := by decide +kernel
theorem dX11_tried_201 : decode cX11_tried 201 = .ok (.bipush 20, 2) := by decide +kernel
theorem dX11_tried_203 : decode cX11_tried 203 = .ok (.if_icmp .ge 17, 3) := by decide +kernel
theorem dX11_tried_206 : decode cX11_tried 206 = .ok (.aload_n 0, 1) := by decide +kernel
theorem dX11_tried_207 : decode cX11_tried 207 = .ok (.getfield 7, 3) := by decide +kernel
theorem dX11_tried_210 : decode cX11_tried 210 = .ok (.iconst 4, 1) := by decide +kernel
theorem dX11_tried_211 : decode cX11_tried 211 = .ok (.iload_n 2, 1) := by decide +kernel
theorem dX11_tried_212 : decode cX11_tried 212 = .ok (.iadd, 1) := by decide +kernel
theorem dX11_tried_213 : decode cX11_tried 213 = .ok (.bipush 10, 2) := by decide +kernel
theorem dX11_tried_215 : decode cX11_tried 215 = .ok (.isub, 1) := by decide +kernel
theorem dX11_tried_216 : decode cX11_tried 216 = .ok (.iaload, 1) := by decide +kernel
theorem dX11_tried_217 : decode cX11_tried 217 = .ok (.goto 35, 3) := by decide +kernel
theorem dX11_tried_220 : decode cX11_tried 220 = .ok (.iload_n 2, 1) := by decide +kernel
theorem dX11_tried_221 : decode cX11_tried 221 = .ok (.bipush 30, 2) := by decide +kernel
theorem dX11_tried_223 : decode cX11_tried 223 = .ok (.if_icmp .ge 18, 3) := by decide +kernel
theorem dX11_tried_226 : decode cX11_tried 226 = .ok (.aload_n 0, 1) := by decide +kernel
theorem dX11_tried_227 : decode cX11_tried 227 = .ok (.getfield 7, 3) := by decide +kernel
theorem dX11_tried_230 : decode cX11_tried 230 = .ok (.bipush 14, 2) := by decide +kernel
theorem dX11_tried_232 : decode cX11_tried 232 = .ok (.iload_n 2, 1) := by decide +kernel
theorem dX11_tried_233 : decode cX11_tried 233 = .ok (.iadd, 1) := by decide +kernel
theorem dX11_tried_234 : decode cX11_tried 234 = .ok (.bipush 20, 2) := by decide +kernel
theorem dX11_tried_236 : decode cX11_tried 236 = .ok (.isub, 1) := by decide +kernel
theorem dX11_tried_237 : decode cX11_tried 237 = .ok (.iaload, 1) := by decide +kernel
theorem dX11_tried_238 : decode cX11_tried 238 = .ok (.goto 14, 3) := by decide +kernel
theorem dX11_tried_241 : decode cX11_tried 241 = .ok (.aload_n 0, 1) := by decide +kernel
theorem dX11_tried_242 : decode cX11_tried 242 = .ok (.getfield 7, 3) := by decide +kernel
theorem dX11_tried_245 : decode cX11_tried 245 = .ok (.iconst 0, 1) := by decide +kernel
theorem dX11_tried_246 : decode cX11_tried 246 = .ok (.iload_n 2, 1) := by decide +kernel
theorem dX11_tried_247 : decode cX11_tried 247 = .ok (.iadd, 1) := by decide +kernel
theorem dX11_tried_248 : decode cX11_tried 248 = .ok (.bipush 30, 2) := by decide +kernel
theorem dX11_tried_250 : decode cX11_tried 250 = .ok (.isub, 1) := by decide +kernel
theorem dX11_tried_251 : decode cX11_tried 251 = .ok (.iaload, 1) := by decide +kernel
theorem dX11_tried_252 : decode cX11_tried 252 = .ok (.istore 4, 2) := by decide +kernel
theorem dX11_tried_254 : decode cX11_tried 254 = .ok (.aload_n 0, 1) := by decide +kernel
theorem dX11_tried_255 : decode cX11_tried 255 = .ok (.getfield 13, 3) := by decide +kernel
theorem dX11_tried_258 : decode cX11_tried 258 = .ok (.aload_n 0, 1) := by decide +kernel
theorem dX11_tried_259 : decode cX11_tried 259 = .ok (.getfield 7, 3) := by decide +kernel
theorem dX11_tried_262 : decode cX11_tried 262 = .ok (.invokestatic 403, 3) := by decide +kernel
theorem dX11_tried_265 : decode cX11_tried 265 = .ok (.iload 4, 2) := by decide +kernel
theorem dX11_tried_267 : decode cX11_tried 267 = .ok (.ireturn, 1) := by decide +kernel
theorem dX11_undo_0 : decode cX11_undo 0 = .ok (.aload_n 0, 1) := by decide +kernel
theorem dX11_undo_1 : decode cX11_undo 1 = .ok (.getfield 266, 3) := by decide +kernel
theorem dX11_undo_4 : decode cX11_undo 4 = .ok (.ifCond .ne 5, 3) := by decide +kernel
theorem dX11_undo_7 : decode cX11_undo 7 = .ok (.iconst 0, 1) := by decide +kernel
theorem dX11_undo_8 : decode cX11_undo 8 = .ok (.ireturn, 1) := by decide +kernel
theorem dX11_undo_9 : decode cX11_undo 9 = .ok (.aload_n 0, 1) := by decide +kernel
theorem dX11_undo_10 : decode cX11_undo 10 = .ok (.getfield 16, 3) := by decide +kernel
theorem dX11_undo_13 : decode cX11_undo 13 = .ok (.aload_n 0, 1) := by decide +kernel
theorem dX11_undo_14 : decode cX11_undo 14 = .ok (.getfield 7, 3) := by decide +kernel
theorem dX11_undo_17 : decode cX11_undo 17 = .ok (.invokestatic 403, 3) := by decide +kernel
theorem dX11_undo_20 : decode cX11_undo 20 = .ok (.aload_n 0, 1) := by decide +kernel
theorem dX11_undo_21 : decode cX11_undo 21 = .ok (.getfield 129, 3) := by decide +kernel
theorem dX11_undo_24 : decode cX11_undo 24 = .ok (.aload_n 0, 1) := by decide +kernel
theorem dX11_undo_25 : decode cX11_undo 25 = .ok (.getfield 132, 3) := by decide +kernel
theorem dX11_undo_28 : decode cX11_undo 28 = .ok (.aload_n 0, 1) := by decide +kernel
theorem dX11_undo_29 : decode cX11_undo 29 = .ok (.getfield 25, 3) := by decide +kernel
theorem dX11_undo_32 : decode cX11_undo 32 = .ok (.aload_n 0, 1) := by decide +kernel
theorem dX11_undo_33 : decode cX11_undo 33 = .ok (.getfield 28, 3) := by decide +kernel
theorem dX11_undo_36 : decode cX11_undo 36 = .ok (.invokestatic 453, 3) := by decide +kernel
theorem dX11_undo_39 : decode cX11_undo 39 = .ok (.iconst 1, 1) := by decide +kernel
theorem dX11_undo_40 : decode cX11_undo 40 = .ok (.ireturn, 1) := by decide +kernel


set_option maxHeartbeats 4000000 in
set_option maxRecDepth 100000 in
theorem c_X11_shadesGo (l : Launch) (D : va_G) (g : xG) (T : Nat × Nat × Nat) (h0 : Nat) (s0 : xS) (hσ : xRR s0) (hz : s0 269 37 < 9999) (p0 : IMn s0) (p1 : IMk s0) (p2 : IMo s0) : Met l yX11_shadesGo (xws yX11_shadesGo cX11_shadesGo 6 none) { frames := 7, cells := 0, slots := 0, locals := 162 } (xP [.ref (h0 + 268)] D g T h0 s0) (xQv D g h0 (fun τ => xFr (fun k => k = 268 ∨ k = 269 ∨ k = 293 ∨ k = 294 ∨ k = 295 ∨ k = 296 ∨ k = 297 ∨ k = 298 ∨ k = 299) s0 τ ∧ (((IMn τ) ∧ (IMk τ) ∧ (IMo τ) ∧ (τ 268 8 = s0 268 8) ∧ (τ 268 58 = s0 268 58) ∧ True) ∧ (τ 269 37 = s0 269 37 + 1)))) 0 0 (xA h0) := by
  refine x_met hσ (by decide) (Nat.le_of_ble_eq_true rfl) ?_
  intro p e s m args below meth c hx hb hr hml hown hT hlk hnm hE hW ls hl
  have hl : lv_has ls 6 [(0, .ref (h0 + 268))] := hl
  obtain ⟨Q, eQ⟩ : ∃ Q, Q = MQ below (xQv D g h0 (fun τ => xFr (fun k => k = 268 ∨ k = 269 ∨ k = 293 ∨ k = 294 ∨ k = 295 ∨ k = 296 ∨ k = 297 ∨ k = 298 ∨ k = 299) s0 τ ∧ (((IMn τ) ∧ (IMk τ) ∧ (IMo τ) ∧ (τ 268 8 = s0 268 8) ∧ (τ 268 58 = s0 268 58) ∧ True) ∧ (τ 269 37 = s0 269 37 + 1)))) args s 0 0 (xA h0) := ⟨_, rfl⟩
  rw [← eQ]
  generalize hHe : ([] : List Loc) = locs at hW ⊢
  obtain ⟨H, eH⟩ : ∃ H, H = s.heap := ⟨_, rfl⟩
  rw [← eH] at hW ⊢
  have hF : xFr (fun k => k = 268 ∨ k = 269 ∨ k = 293 ∨ k = 294 ∨ k = 295 ∨ k = 296 ∨ k = 297 ∨ k = 298 ∨ k = 299) s0 s0 := xFr.rf
  have k268_8 : s0 268 8 = s0 268 8 := rfl
  have k268_58 : s0 268 58 = s0 268 58 := rfl
  have k269_37 : s0 269 37 = s0 269 37 := rfl
  refine x_aload_n hx hb hl 0 rfl dX11_shadesGo_0 rfl ?_
  refine x_goi (x_runV (As := []) hx hb hml hown hT hE hW hl.1 (Or.inl (by decide)) (so_268 h0 g _) rfl cf_X11_draws wq1568 wq135 wq1566 (c_X11_draws l D g T h0 s0 hW.2.1 p0 p1 p2) ⟨rfl, rfl, ⟨by decide, by decide⟩, ⟨by decide, by decide⟩⟩ rfl rfl (Nat.le_of_ble_eq_true rfl) dX11_shadesGo_1) hW (fun x1 s2 H locs rx1 hp3 hW => ?_)
  obtain ⟨fs2, hp3⟩ := hp3
  have hF4 := hF.call fs2 (fun k h => by omega)
  have q5 : s2 268 8 = s0 268 8 := (congrFun (fs2 _ (by omega)) _).trans k268_8
  have q6 : s2 268 58 = s0 268 58 := (congrFun (fs2 _ (by omega)) _).trans k268_58
  have ghp3 := hp3.2
  refine lv_istore_n (lv' := [(1, .int (xJ x1)), (0, .ref (h0 + 268))]) hx hb dX11_shadesGo_4 rfl hl (by decide) rfl (fun ls hl => ?_)
  refine x_aload_n hx hb hl 1 rfl dX11_shadesGo_5 rfl ?_
  refine x_aload_n hx hb hl 1 rfl dX11_shadesGo_6 rfl ?_
  refine x_get (j := 0) (v := .ref (h0 + 269)) hx hb hown hT hE hW cls_X11 (Or.inl (by decide)) (so_268 h0 g _) (by decide) rfl wq1185 dX11_shadesGo_7 ?_
  refine x_bipush hx hb dX11_shadesGo_10 (by decide) ?_
  refine x_iald hx hb hE hW (Or.inl (by decide)) (sa_269 h0 g _) ⟨by decide, by decide⟩ (by decide) dX11_shadesGo_12 ?_
  refine x_rd hW (fun x7 ex7 rx7 => ?_)
  have bx7 : 0 ≤ x7 ∧ x7 ≤ 9999 := by rw [ex7]; exact (IMn.n1 hp3.1.1).2.2.2.1
  have fx7 : x7 = s0 269 37 := ex7.trans (hp3.1.2.2.2.1.trans k269_37)
  refine x_gov (x_runV (As := [.int (xJ x7)]) hx hb hml hown hT hE hW hl.1 (Or.inl (by decide)) (so_268 h0 g _) rfl cf_X11_feels wq1573 wq136 wq1571 (c_X11_feels l D g T h0 s2 hW.2.1 x7 rx7 hp3.1.1 hp3.1.2.1 hp3.1.2.2.1) ⟨rfl, rfl, ⟨by decide, by decide⟩, ⟨by decide, by decide⟩⟩ rfl rfl (Nat.le_of_ble_eq_true rfl) dX11_shadesGo_13) hW (fun s9 H locs hp10 hW => ?_)
  obtain ⟨fs9, hp10⟩ := hp10
  have hF11 := hF4.call fs9 (fun k h => by omega)
  have q12 : s9 268 8 = s0 268 8 := (congrFun (fs9 _ (by omega)) _).trans q5
  have q13 : s9 268 58 = s0 268 58 := (congrFun (fs9 _ (by omega)) _).trans q6
  have q14 : s9 269 37 = s0 269 37 := (congrFun (fs9 _ (by omega)) _).trans (hp3.1.2.2.2.1.trans k269_37)
  have ghp10 := hp10.2
  refine x_iload_n hx hb hl 0 rfl dX11_shadesGo_16 rfl ?_
  refine x_aload_n hx hb hl 1 rfl dX11_shadesGo_17 rfl ?_
  refine x_bipush hx hb dX11_shadesGo_18 (by decide) ?_
  refine x_bipush hx hb dX11_shadesGo_20 (by decide) ?_
  refine x_goi (x_runV (As := [.int (xJ 99), .int (xJ 10)]) hx hb hml hown hT hE hW hl.1 (Or.inl (by decide)) (so_268 h0 g _) rfl cf_X11_byLaw wq1577 wq137 wq1575 (c_X11_byLaw l D g T h0 s9 hW.2.1 99 (by decide) 10 (by decide) hp10.1.1 hp10.1.2.1 hp10.1.2.2.1) ⟨rfl, rfl, ⟨by decide, by decide⟩, ⟨by decide, by decide⟩⟩ rfl rfl (Nat.le_of_ble_eq_true rfl) dX11_shadesGo_22) hW (fun x15 s16 H locs rx15 hp17 hW => ?_)
  obtain ⟨fs16, hp17⟩ := hp17
  have hF18 := hF11.call fs16 (fun k h => by omega)
  have q19 : s16 268 8 = s0 268 8 := (congrFun (fs16 _ (by omega)) _).trans q12
  have q20 : s16 268 58 = s0 268 58 := (congrFun (fs16 _ (by omega)) _).trans q13
  have q21 : s16 269 37 = s0 269 37 := (congrFun (fs16 _ (by omega)) _).trans q14
  have ghp17 := hp17.2
  have J33 : ∀ (t0_33 : Int) (ls : Array Slot), (xR t0_33) → (t0_33 = 0 ∨ t0_33 = 1) → lv_has ls 6 [(0, .ref (h0 + 268))] → W p l e { frames := 7, cells := 0, slots := 0, locals := 162 } s m args below meth c H locs 0 0 Q (F0 m 33 ls [.int (xJ t0_33)]) := by
    intro t0_33 ls rt0_33 v33_0  hl
    refine lv_istore_n (lv' := [(2, .int (xJ t0_33)), (0, .ref (h0 + 268))]) hx hb dX11_shadesGo_33 rfl hl (by decide) rfl (fun ls hl => ?_)
    refine x_aload_n hx hb hl 1 rfl dX11_shadesGo_34 rfl ?_
    refine x_aload_n hx hb hl 1 rfl dX11_shadesGo_35 rfl ?_
    refine x_get (j := 43) (v := .int (xJ (s16 268 43))) hx hb hown hT hE hW cls_X11 (Or.inl (by decide)) (so_268 h0 g _) (by decide) rfl wq1228 dX11_shadesGo_36 ?_
    refine x_rd hW (fun x22 ex22 rx22 => ?_)
    refine x_iload_n hx hb hl 0 rfl dX11_shadesGo_39 rfl ?_
    have J48 : ∀ (t0_48 : Int) (ls : Array Slot), (xR t0_48) → lv_has ls 6 [(0, .ref (h0 + 268)), (2, .int (xJ t0_33))] → W p l e { frames := 7, cells := 0, slots := 0, locals := 162 } s m args below meth c H locs 0 0 Q (F0 m 48 ls [.int (xJ t0_48), .int (xJ x22), .ref (h0 + 268)]) := by
      intro t0_48 ls rt0_48  hl
      refine x_iadd hx hb dX11_shadesGo_48 ?_
      refine x_any (fun x23 rx23 => ?_)
      refine x_put (j := 43) hx hb hown hT hE hW cls_X11 (by decide) (fun σ => so_268 h0 g σ) (by decide) (st_X11_43 h0 s16 268 x23) (ln_X11_43 h0 _ _) wq1228 rfl rfl rfl rx23 dX11_shadesGo_49 (fun H locs s24 es24 hW => ?_)
      have q25 : s24 268 8 = s0 268 8 := (show s24 268 8 = s16 268 8 from by rw [es24, xU_j _ _ (by decide)]).trans q19
      have q26 : s24 268 58 = s0 268 58 := (show s24 268 58 = s16 268 58 from by rw [es24, xU_j _ _ (by decide)]).trans q20
      have q27 : s24 269 37 = s0 269 37 := (show s24 269 37 = s16 269 37 from by rw [es24, xU_k _ _ _ (by omega)]).trans q21
      have q28 : IMn s24 := by rw [es24]; exact IMn_268 hp17.1.1 (by omega)
      have q29 : IMk s24 := by rw [es24]; exact IMk_268 hp17.1.2.1 (by omega)
      have q30 : IMo s24 := by rw [es24]; exact IMo_o (by unfold suIMo; omega) hp17.1.2.2.1
      have hF31 := hF18.put es24 (by omega)
      refine x_aload_n hx hb hl 0 rfl dX11_shadesGo_52 rfl ?_
      refine x_aload_n hx hb hl 0 rfl dX11_shadesGo_53 rfl ?_
      refine x_get (j := 0) (v := .ref (h0 + 269)) hx hb hown hT hE hW cls_X11 (Or.inl (by decide)) (so_268 h0 g _) (by decide) rfl wq1185 dX11_shadesGo_54 ?_
      refine x_bipush hx hb dX11_shadesGo_57 (by decide) ?_
      refine x_iald hx hb hE hW (Or.inl (by decide)) (sa_269 h0 g _) ⟨by decide, by decide⟩ (by decide) dX11_shadesGo_59 ?_
      refine x_rd hW (fun x32 ex32 rx32 => ?_)
      have bx32 : 0 ≤ x32 ∧ x32 ≤ 9999 := by rw [ex32]; exact (IMn.n1 q28).2.2.2.1
      have fx32 : x32 = s0 269 37 := ex32.trans q27
      refine x_iload_n hx hb hl 1 rfl dX11_shadesGo_60 rfl ?_
      refine x_gov (x_runV (As := [.int (xJ x32), .int (xJ t0_33)]) hx hb hml hown hT hE hW hl.1 (Or.inl (by decide)) (so_268 h0 g _) rfl cf_X11_laysShades wq1588 wq139 wq1586 (c_X11_laysShades l D g T h0 s24 hW.2.1 x32 rx32 t0_33 rt0_33 q28 q29 q30) ⟨rfl, rfl, ⟨by decide, by decide⟩, ⟨by decide, by decide⟩⟩ rfl rfl (Nat.le_of_ble_eq_true rfl) dX11_shadesGo_61) hW (fun s34 H locs hp35 hW => ?_)
      obtain ⟨fs34, hp35⟩ := hp35
      have hF36 := hF31.call fs34 (fun k h => by omega)
      have q37 : s34 268 8 = s0 268 8 := (congrFun (fs34 _ (by omega)) _).trans q25
      have q38 : s34 268 58 = s0 268 58 := (congrFun (fs34 _ (by omega)) _).trans q26
      have q39 : s34 269 37 = s0 269 37 := (congrFun (fs34 _ (by omega)) _).trans q27
      have ghp35 := hp35.2
      refine x_aload_n hx hb hl 0 rfl dX11_shadesGo_64 rfl ?_
      refine x_aload_n hx hb hl 0 rfl dX11_shadesGo_65 rfl ?_
      refine x_get (j := 0) (v := .ref (h0 + 269)) hx hb hown hT hE hW cls_X11 (Or.inl (by decide)) (so_268 h0 g _) (by decide) rfl wq1185 dX11_shadesGo_66 ?_
      refine x_bipush hx hb dX11_shadesGo_69 (by decide) ?_
      refine x_iald hx hb hE hW (Or.inl (by decide)) (sa_269 h0 g _) ⟨by decide, by decide⟩ (by decide) dX11_shadesGo_71 ?_
      refine x_rd hW (fun x40 ex40 rx40 => ?_)
      have bx40 : 0 ≤ x40 ∧ x40 ≤ 9999 := by rw [ex40]; exact (IMn.n1 hp35.1.1).2.2.2.1
      have fx40 : x40 = s0 269 37 := ex40.trans q39
      refine x_goi (x_runV (As := [.int (xJ x40)]) hx hb hml hown hT hE hW hl.1 (Or.inl (by decide)) (so_268 h0 g _) rfl cf_X11_isNight wq1604 wq143 wq1602 (c_X11_isNight l D g T h0 s34 hW.2.1 x40 rx40 hp35.1.1 hp35.1.2.1 hp35.1.2.2.1) ⟨rfl, rfl, ⟨by decide, by decide⟩, ⟨by decide, by decide⟩⟩ rfl rfl (Nat.le_of_ble_eq_true rfl) dX11_shadesGo_72) hW (fun x41 s42 H locs rx41 hp43 hW => ?_)
      obtain ⟨fs42, hp43⟩ := hp43
      have hF44 := hF36.call fs42 (fun k h => by omega)
      have q45 : s42 268 8 = s0 268 8 := (congrFun (fs42 _ (by omega)) _).trans q37
      have q46 : s42 268 58 = s0 268 58 := (congrFun (fs42 _ (by omega)) _).trans q38
      have q47 : s42 269 37 = s0 269 37 := (congrFun (fs42 _ (by omega)) _).trans q39
      have ghp43 := hp43.2
      refine lv_istore_n (lv' := [(3, .int (xJ x41)), (0, .ref (h0 + 268)), (2, .int (xJ t0_33))]) hx hb dX11_shadesGo_75 rfl hl (by decide) rfl (fun ls hl => ?_)
      refine x_iconst hx hb dX11_shadesGo_76 ?_
      refine lv_istore (lv' := [(4, .int (xJ 0)), (3, .int (xJ x41)), (0, .ref (h0 + 268)), (2, .int (xJ t0_33))]) hx hb dX11_shadesGo_77 hl (by decide) rfl (fun ls hl => ?_)
      have L79 : ∀ (fu : Nat) (i4_79 : Int) (s_79 : xS) (H : Heap) (locs : List Loc) (ls : Array Slot), (xR i4_79) → (xFr (fun k => k = 268 ∨ k = 269 ∨ k = 293 ∨ k = 294 ∨ k = 295 ∨ k = 296 ∨ k = 297 ∨ k = 298 ∨ k = 299) s0 s_79) → (s_79 268 8 = s0 268 8) → (s_79 268 58 = s0 268 58) → (s_79 269 37 = s0 269 37) → (IMn s_79) → (IMk s_79) → (IMo s_79) → (0 ≤ i4_79) → (i4_79 ≤ 100) → (100 + 1 - i4_79).toNat < fu → xW D g h0 s H locs s_79 → lv_has ls 6 [(0, .ref (h0 + 268)), (3, .int (xJ x41)), (4, .int (xJ i4_79))] → W p l e { frames := 7, cells := 0, slots := 0, locals := 162 } s m args below meth c H locs 0 0 Q (F0 m 79 ls []) := by
        intro fu
        induction fu with
        | zero => intro i4_79 s_79 H locs ls ri4_79 hF_79 q79_0 q79_1 q79_2 q79_3 q79_4 q79_5 v79_0 v79_1 hm; exact absurd hm (Nat.not_lt_zero _)
        | succ fu ih79 =>
          intro i4_79 s_79 H locs ls ri4_79 hF_79 q79_0 q79_1 q79_2 q79_3 q79_4 q79_5 v79_0 v79_1 hm hW hl
          refine x_iload hx hb hl 2 rfl dX11_shadesGo_79 ?_
          refine x_bipush hx hb dX11_shadesGo_81 (by decide) ?_
          refine x_icmp_ge (tgt := 100) hx hb ri4_79 (by decide) dX11_shadesGo_83 (by decide) (fun c48 => ?_) (fun c48 => ?_)
          · skip
            refine x_aload_n hx hb hl 0 rfl dX11_shadesGo_100 rfl ?_
            refine x_goi (x_runV (As := []) hx hb hml hown hT hE hW hl.1 (Or.inl (by decide)) (so_268 h0 g _) rfl cf_X11_laysOrder wq1616 wq146 wq1614 (c_X11_laysOrder l D g T h0 s_79 hW.2.1 q79_3 q79_4 q79_5) ⟨rfl, rfl, ⟨by decide, by decide⟩, ⟨by decide, by decide⟩⟩ rfl rfl (Nat.le_of_ble_eq_true rfl) dX11_shadesGo_101) hW (fun x49 s50 H locs rx49 hp51 hW => ?_)
            obtain ⟨fs50, hp51⟩ := hp51
            have hF52 := hF_79.call fs50 (fun k h => by omega)
            have q53 : s50 268 8 = s0 268 8 := (congrFun (fs50 _ (by omega)) _).trans q79_0
            have q54 : s50 268 58 = s0 268 58 := (congrFun (fs50 _ (by omega)) _).trans q79_1
            have q55 : s50 269 37 = s0 269 37 := (congrFun (fs50 _ (by omega)) _).trans q79_2
            have ghp51 := hp51.2
            refine lv_istore (lv' := [(4, .int (xJ x49)), (0, .ref (h0 + 268)), (3, .int (xJ x41))]) hx hb dX11_shadesGo_104 hl (by decide) rfl (fun ls hl => ?_)
            refine x_iconst hx hb dX11_shadesGo_106 ?_
            refine lv_istore (lv' := [(5, .int (xJ 0)), (4, .int (xJ x49)), (0, .ref (h0 + 268)), (3, .int (xJ x41))]) hx hb dX11_shadesGo_107 hl (by decide) rfl (fun ls hl => ?_)
            have L109 : ∀ (fu : Nat) (i5_109 : Int) (s_109 : xS) (H : Heap) (locs : List Loc) (ls : Array Slot), (xR i5_109) → (xFr (fun k => k = 268 ∨ k = 269 ∨ k = 293 ∨ k = 294 ∨ k = 295 ∨ k = 296 ∨ k = 297 ∨ k = 298 ∨ k = 299) s0 s_109) → (s_109 268 8 = s0 268 8) → (s_109 268 58 = s0 268 58) → (s_109 269 37 = s0 269 37) → (IMn s_109) → (IMk s_109) → (IMo s_109) → (0 ≤ i5_109) → (x49 + 1 - i5_109).toNat < fu → xW D g h0 s H locs s_109 → lv_has ls 6 [(0, .ref (h0 + 268)), (3, .int (xJ x41)), (4, .int (xJ x49)), (5, .int (xJ i5_109))] → W p l e { frames := 7, cells := 0, slots := 0, locals := 162 } s m args below meth c H locs 0 0 Q (F0 m 109 ls []) := by
              intro fu
              induction fu with
              | zero => intro i5_109 s_109 H locs ls ri5_109 hF_109 q109_0 q109_1 q109_2 q109_3 q109_4 q109_5 v109_0 hm; exact absurd hm (Nat.not_lt_zero _)
              | succ fu ih109 =>
                intro i5_109 s_109 H locs ls ri5_109 hF_109 q109_0 q109_1 q109_2 q109_3 q109_4 q109_5 v109_0 hm hW hl
                refine x_iload hx hb hl 3 rfl dX11_shadesGo_109 ?_
                refine x_iload hx hb hl 2 rfl dX11_shadesGo_111 ?_
                refine x_icmp_ge (tgt := 134) hx hb ri5_109 rx49 dX11_shadesGo_113 (by decide) (fun c56 => ?_) (fun c56 => ?_)
                · skip
                  refine x_aload_n hx hb hl 0 rfl dX11_shadesGo_134 rfl ?_
                  refine x_get (j := 0) (v := .ref (h0 + 269)) hx hb hown hT hE hW cls_X11 (Or.inl (by decide)) (so_268 h0 g _) (by decide) rfl wq1185 dX11_shadesGo_135 ?_
                  refine x_bipush hx hb dX11_shadesGo_138 (by decide) ?_
                  refine x_aload_n hx hb hl 0 rfl dX11_shadesGo_140 rfl ?_
                  refine x_get (j := 0) (v := .ref (h0 + 269)) hx hb hown hT hE hW cls_X11 (Or.inl (by decide)) (so_268 h0 g _) (by decide) rfl wq1185 dX11_shadesGo_141 ?_
                  refine x_bipush hx hb dX11_shadesGo_144 (by decide) ?_
                  refine x_iald hx hb hE hW (Or.inl (by decide)) (sa_269 h0 g _) ⟨by decide, by decide⟩ (by decide) dX11_shadesGo_146 ?_
                  refine x_rd hW (fun x57 ex57 rx57 => ?_)
                  have bx57 : 0 ≤ x57 ∧ x57 ≤ 9999 := by rw [ex57]; exact (IMn.n1 q109_3).2.2.2.1
                  have fx57 : x57 = s0 269 37 := ex57.trans q109_2
                  refine x_iconst hx hb dX11_shadesGo_147 ?_
                  refine x_iadd hx hb dX11_shadesGo_148 ?_
                  refine x_iast hx hb hE hW (by decide) (fun σ => sa_269 h0 g σ) ⟨by decide, by decide⟩ (by decide) (by omega) dX11_shadesGo_149 (fun H locs s58 es58 hW => ?_)
                  have q59 : s58 268 8 = s0 268 8 := (show s58 268 8 = s_109 268 8 from by rw [es58, xU_k _ _ _ (by omega)]).trans q109_0
                  have q60 : s58 268 58 = s0 268 58 := (show s58 268 58 = s_109 268 58 from by rw [es58, xU_k _ _ _ (by omega)]).trans q109_1
                  have q61 : s58 269 37 = (x57 + 1) := by rw [es58, xU_s]
                  have q62 : IMn s58 := by rw [es58]; exact IMn_N269 q109_3 (by omega)
                  have q63 : IMk s58 := by rw [es58]; exact IMk_o (by unfold suIMk; omega) q109_4
                  have q64 : IMo s58 := by rw [es58]; exact IMo_o (by unfold suIMo; omega) q109_5
                  have hF65 := hF_109.put es58 (by omega)
                  rw [eQ]
                  exact x_vret hx hb hr hlk hW ⟨hF65, ⟨q62, q63, q64, q59, q60, trivial⟩, by omega⟩ dX11_shadesGo_150
                refine x_aload_n hx hb hl 0 rfl dX11_shadesGo_116 rfl ?_
                refine x_aload_n hx hb hl 0 rfl dX11_shadesGo_117 rfl ?_
                refine x_get (j := 46) (v := .ref (h0 + 297)) hx hb hown hT hE hW cls_X11 (Or.inl (by decide)) (so_268 h0 g _) (by decide) rfl wq1231 dX11_shadesGo_118 ?_
                refine x_iload hx hb hl 3 rfl dX11_shadesGo_121 ?_
                refine x_iald hx hb hE hW (Or.inl (by decide)) (sa_297 h0 g _) (by omega) (by decide) dX11_shadesGo_123 ?_
                refine x_rd hW (fun x66 ex66 rx66 => ?_)
                have bx66 : 0 ≤ x66 ∧ x66 ≤ 9 := by rw [ex66]; exact IMo.a q109_5 _ (by omega) (by omega)
                refine x_iload_n hx hb hl 1 rfl dX11_shadesGo_124 rfl ?_
                refine x_gov (x_runV (As := [.int (xJ x66), .int (xJ x41)]) hx hb hml hown hT hE hW hl.1 (Or.inl (by decide)) (so_268 h0 g _) rfl cf_X11_servesOf wq1629 wq149 wq1627 (c_X11_servesOf l D g T h0 s_109 hW.2.1 x66 rx66 x41 rx41 (by omega) q109_3 q109_4 q109_5) ⟨rfl, rfl, ⟨by decide, by decide⟩, ⟨by decide, by decide⟩⟩ rfl rfl (Nat.le_of_ble_eq_true rfl) dX11_shadesGo_125) hW (fun s68 H locs hp69 hW => ?_)
                obtain ⟨fs68, hp69⟩ := hp69
                have hF70 := hF_109.call fs68 (fun k h => by omega)
                have ghp69 := hp69.2
                refine x_iinc (lv' := [(5, .int (xJ (i5_109 + 1))), (0, .ref (h0 + 268)), (3, .int (xJ x41)), (4, .int (xJ x49))]) hx hb hl 3 rfl dX11_shadesGo_128 (by decide) rfl (fun ls hl => ?_)
                refine lv_goto (tgt := 109) hx hb dX11_shadesGo_131 (by decide) ?_
                exact ih109 (i5_109 + 1) s68 H locs ls (by omega) hF70 (hp69.1.2.2.2.1.trans q109_0) (hp69.1.2.2.2.2.1.trans q109_1) (hp69.1.2.2.2.2.2.1.trans q109_2) hp69.1.1 hp69.1.2.1 hp69.1.2.2.1 (by omega) (by omega) hW (lv_sub hl [1, 2, 3, 0] rfl)
            exact L109 ((x49 + 1 - 0 : Int).toNat + 1) 0 s50 H locs ls (by decide) hF52 q53 q54 q55 hp51.1.1 hp51.1.2.1 hp51.1.2.2.1 (by omega) (Nat.lt_succ_self _) hW (lv_sub hl [2, 3, 1, 0] rfl)
          refine x_aload_n hx hb hl 0 rfl dX11_shadesGo_86 rfl ?_
          refine x_get (j := 49) (v := .ref (h0 + 299)) hx hb hown hT hE hW cls_X11 (Or.inl (by decide)) (so_268 h0 g _) (by decide) rfl wq1234 dX11_shadesGo_87 ?_
          refine x_iload hx hb hl 2 rfl dX11_shadesGo_90 ?_
          refine x_iconst hx hb dX11_shadesGo_92 ?_
          refine x_zast hx hb hE hW (by decide) (fun σ => sa_299 h0 g σ) (by omega) (by decide) (by omega) dX11_shadesGo_93 (fun H locs s71 es71 hW => ?_)
          have q72 : s71 268 8 = s0 268 8 := (show s71 268 8 = s_79 268 8 from by rw [es71, xU_k _ _ _ (by omega)]).trans q79_0
          have q73 : s71 268 58 = s0 268 58 := (show s71 268 58 = s_79 268 58 from by rw [es71, xU_k _ _ _ (by omega)]).trans q79_1
          have q74 : s71 269 37 = s0 269 37 := (show s71 269 37 = s_79 269 37 from by rw [es71, xU_k _ _ _ (by omega)]).trans q79_2
          have q75 : IMn s71 := by rw [es71]; exact IMn_o (by unfold suIMn; omega) q79_3
          have q76 : IMk s71 := by rw [es71]; exact IMk_o (by unfold suIMk; omega) q79_4
          have q77 : IMo s71 := by rw [es71]; exact IMo_o (by unfold suIMo; omega) q79_5
          have hF78 := hF_79.put es71 (by omega)
          refine x_iinc (lv' := [(4, .int (xJ (i4_79 + 1))), (0, .ref (h0 + 268)), (3, .int (xJ x41))]) hx hb hl 2 rfl dX11_shadesGo_94 (by decide) rfl (fun ls hl => ?_)
          refine lv_goto (tgt := 79) hx hb dX11_shadesGo_97 (by decide) ?_
          exact ih79 (i4_79 + 1) s71 H locs ls (by omega) hF78 q72 q73 q74 q75 q76 q77 (by omega) (by omega) (by omega) hW (lv_sub hl [1, 2, 0] rfl)
      exact L79 ((100 + 1 - 0 : Int).toNat + 1) 0 s42 H locs ls (by decide) hF44 q45 q46 q47 hp43.1.1 hp43.1.2.1 hp43.1.2.2.1 (by omega) (by omega) (Nat.lt_succ_self _) hW (lv_sub hl [2, 1, 0] rfl)
    refine x_if_eq (tgt := 47) hx hb rt0_33 dX11_shadesGo_40 (by decide) (fun c79 => ?_) (fun c79 => ?_)
    · skip
      refine x_iconst hx hb dX11_shadesGo_47 ?_
      exact J48 0 ls (by decide)  (lv_sub hl [1, 0] rfl)
    refine x_iconst hx hb dX11_shadesGo_43 ?_
    refine lv_goto (tgt := 48) hx hb dX11_shadesGo_44 (by decide) ?_
    exact J48 1 ls (by decide)  (lv_sub hl [1, 0] rfl)
  refine x_icmp_ge (tgt := 32) hx hb rx1 rx15 dX11_shadesGo_25 (by decide) (fun c80 => ?_) (fun c80 => ?_)
  · skip
    refine x_iconst hx hb dX11_shadesGo_32 ?_
    exact J33 0 ls (by decide) (by omega)  (lv_sub hl [1] rfl)
  refine x_iconst hx hb dX11_shadesGo_28 ?_
  refine lv_goto (tgt := 33) hx hb dX11_shadesGo_29 (by decide) ?_
  exact J33 1 ls (by decide) (by omega)  (lv_sub hl [1] rfl)
set_option maxHeartbeats 4000000 in
set_option maxRecDepth 100000 in
theorem c_X11_felonIs (l : Launch) (D : va_G) (g : xG) (T : Nat × Nat × Nat) (h0 : Nat) (s0 : xS) (hσ : xRR s0) (f : Int) (rf : xR f) (x : Int) (rx : xR x) (p0 : IMn s0) (p1 : IMk s0) (p2 : IMo s0) : Met l yX11_felonIs (xws yX11_felonIs cX11_felonIs 3 (some .int)) { frames := 7, cells := 0, slots := 0, locals := 162 } (xP [.ref (h0 + 268), .int (xJ f), .int (xJ x)] D g T h0 s0) (xQi D g h0 (fun r τ => xFr (fun k => k = 293 ∨ k = 294 ∨ k = 295) s0 τ ∧ (((IMn τ) ∧ (IMk τ) ∧ (IMo τ) ∧ True) ∧ (True)))) 0 0 (xA h0) := by
  refine x_met hσ (by decide) (Nat.le_of_ble_eq_true rfl) ?_
  intro p e s m args below meth c hx hb hr hml hown hT hlk hnm hE hW ls hl
  have hl : lv_has ls 3 [(0, .ref (h0 + 268)), (1, .int (xJ f)), (2, .int (xJ x))] := hl
  obtain ⟨Q, eQ⟩ : ∃ Q, Q = MQ below (xQi D g h0 (fun r τ => xFr (fun k => k = 293 ∨ k = 294 ∨ k = 295) s0 τ ∧ (((IMn τ) ∧ (IMk τ) ∧ (IMo τ) ∧ True) ∧ (True)))) args s 0 0 (xA h0) := ⟨_, rfl⟩
  rw [← eQ]
  generalize hHe : ([] : List Loc) = locs at hW ⊢
  obtain ⟨H, eH⟩ : ∃ H, H = s.heap := ⟨_, rfl⟩
  rw [← eH] at hW ⊢
  have hF : xFr (fun k => k = 293 ∨ k = 294 ∨ k = 295) s0 s0 := xFr.rf
  have k268_8 : s0 268 8 = s0 268 8 := rfl
  have k268_58 : s0 268 58 = s0 268 58 := rfl
  refine x_aload_n hx hb hl 0 rfl dX11_felonIs_0 rfl ?_
  refine x_iload_n hx hb hl 1 rfl dX11_felonIs_1 rfl ?_
  refine x_goi (x_runV (As := [.int (xJ f)]) hx hb hml hown hT hE hW hl.1 (Or.inl (by decide)) (so_268 h0 g _) rfl cf_X11_isFelon wq1423 wq111 wq1421 (c_X11_isFelon l D g T h0 s0 hW.2.1 f rf p0 p1 p2) ⟨rfl, rfl, ⟨by decide, by decide⟩, ⟨by decide, by decide⟩⟩ rfl rfl (Nat.le_of_ble_eq_true rfl) dX11_felonIs_2) hW (fun x1 s2 H locs rx1 hp3 hW => ?_)
  obtain ⟨es2, hp3⟩ := hp3
  subst es2
  have ghp3 := hp3
  refine x_if_ne (tgt := 10) hx hb rx1 dX11_felonIs_5 (by decide) (fun c4 => ?_) (fun c4 => ?_)
  · skip
    refine x_iload_n hx hb hl 2 rfl dX11_felonIs_10 rfl ?_
    rcases (show (x < 0 ∨ 5 < x) ∨ x = 0 ∨ x = 1 ∨ x = 2 ∨ x = 3 ∨ x = 4 ∨ x = 5 from by omega) with c5 | c5 | c5 | c5 | c5 | c5 | c5
    · refine x_tabOut (tgt := 132) hx hb rx dX11_felonIs_11 c5 (by decide) ?_
      refine x_iconst hx hb dX11_felonIs_132 ?_
      rw [eQ]
      exact x_iret hx hb hr hlk hW (by decide) ⟨hF, ⟨p0, p1, p2, trivial⟩, trivial⟩ dX11_felonIs_133
    · refine x_tabIn (v := 0) (tgt := 48) hx hb rx c5 dX11_felonIs_11 (by decide) rfl (by decide) ?_
      refine x_aload_n hx hb hl 0 rfl dX11_felonIs_48 rfl ?_
      refine x_get (j := 0) (v := .ref (h0 + 269)) hx hb hown hT hE hW cls_X11 (Or.inl (by decide)) (so_268 h0 g _) (by decide) rfl wq1185 dX11_felonIs_49 ?_
      refine x_iconst hx hb dX11_felonIs_52 ?_
      refine x_iload_n hx hb hl 1 rfl dX11_felonIs_53 rfl ?_
      refine x_iadd hx hb dX11_felonIs_54 ?_
      refine x_iald hx hb hE hW (Or.inl (by decide)) (sa_269 h0 g _) (by omega) (by decide) dX11_felonIs_55 ?_
      refine x_rd hW (fun x6 ex6 rx6 => ?_)
      have bx6 : 0 ≤ x6 ∧ x6 ≤ 99 := by rw [ex6]; exact (IMn.n1 p0).2.2.1 _ (by omega) (by omega)
      rw [eQ]
      exact x_iret hx hb hr hlk hW rx6 ⟨hF, ⟨p0, p1, p2, trivial⟩, trivial⟩ dX11_felonIs_56
    · refine x_tabIn (v := 1) (tgt := 57) hx hb rx c5 dX11_felonIs_11 (by decide) rfl (by decide) ?_
      refine x_aload_n hx hb hl 0 rfl dX11_felonIs_57 rfl ?_
      refine x_get (j := 0) (v := .ref (h0 + 269)) hx hb hown hT hE hW cls_X11 (Or.inl (by decide)) (so_268 h0 g _) (by decide) rfl wq1185 dX11_felonIs_58 ?_
      refine x_bipush hx hb dX11_felonIs_61 (by decide) ?_
      refine x_iload_n hx hb hl 1 rfl dX11_felonIs_63 rfl ?_
      refine x_iadd hx hb dX11_felonIs_64 ?_
      refine x_iald hx hb hE hW (Or.inl (by decide)) (sa_269 h0 g _) (by omega) (by decide) dX11_felonIs_65 ?_
      refine x_rd hW (fun x7 ex7 rx7 => ?_)
      rw [eQ]
      exact x_iret hx hb hr hlk hW rx7 ⟨hF, ⟨p0, p1, p2, trivial⟩, trivial⟩ dX11_felonIs_66
    · refine x_tabIn (v := 2) (tgt := 67) hx hb rx c5 dX11_felonIs_11 (by decide) rfl (by decide) ?_
      refine x_aload_n hx hb hl 0 rfl dX11_felonIs_67 rfl ?_
      refine x_get (j := 0) (v := .ref (h0 + 269)) hx hb hown hT hE hW cls_X11 (Or.inl (by decide)) (so_268 h0 g _) (by decide) rfl wq1185 dX11_felonIs_68 ?_
      refine x_bipush hx hb dX11_felonIs_71 (by decide) ?_
      refine x_iload_n hx hb hl 1 rfl dX11_felonIs_73 rfl ?_
      refine x_iadd hx hb dX11_felonIs_74 ?_
      refine x_iald hx hb hE hW (Or.inl (by decide)) (sa_269 h0 g _) (by omega) (by decide) dX11_felonIs_75 ?_
      refine x_rd hW (fun x8 ex8 rx8 => ?_)
      rw [eQ]
      exact x_iret hx hb hr hlk hW rx8 ⟨hF, ⟨p0, p1, p2, trivial⟩, trivial⟩ dX11_felonIs_76
    · refine x_tabIn (v := 3) (tgt := 77) hx hb rx c5 dX11_felonIs_11 (by decide) rfl (by decide) ?_
      refine x_aload_n hx hb hl 0 rfl dX11_felonIs_77 rfl ?_
      refine x_get (j := 0) (v := .ref (h0 + 269)) hx hb hown hT hE hW cls_X11 (Or.inl (by decide)) (so_268 h0 g _) (by decide) rfl wq1185 dX11_felonIs_78 ?_
      refine x_bipush hx hb dX11_felonIs_81 (by decide) ?_
      refine x_iald hx hb hE hW (Or.inl (by decide)) (sa_269 h0 g _) ⟨by decide, by decide⟩ (by decide) dX11_felonIs_83 ?_
      refine x_rd hW (fun x9 ex9 rx9 => ?_)
      refine x_iload_n hx hb hl 1 rfl dX11_felonIs_84 rfl ?_
      refine x_goi (x_runS (As := [.int (xJ x9), .int (xJ f)]) hx hb hml hown hT hE hW hl.1 cf_X11_has wq1415 wq1414 (c_X11_has l D g T h0 s0 hW.2.1 x9 rx9 f rf) ⟨rfl, rfl, ⟨by decide, by decide⟩, ⟨by decide, by decide⟩⟩ rfl rfl (Nat.le_of_ble_eq_true rfl) dX11_felonIs_85) hW (fun x10 s11 H locs rx10 hp12 hW => ?_)
      obtain ⟨es11, hp12⟩ := hp12
      subst es11
      have ghp12 := hp12
      refine x_if_eq (tgt := 95) hx hb rx10 dX11_felonIs_88 (by decide) (fun c13 => ?_) (fun c13 => ?_)
      · skip
        refine x_iconst hx hb dX11_felonIs_95 ?_
        rw [eQ]
        exact x_iret hx hb hr hlk hW (by decide) ⟨hF, ⟨p0, p1, p2, trivial⟩, trivial⟩ dX11_felonIs_96
      refine x_iconst hx hb dX11_felonIs_91 ?_
      refine lv_goto (tgt := 96) hx hb dX11_felonIs_92 (by decide) ?_
      rw [eQ]
      exact x_iret hx hb hr hlk hW (by decide) ⟨hF, ⟨p0, p1, p2, trivial⟩, trivial⟩ dX11_felonIs_96
    · refine x_tabIn (v := 4) (tgt := 97) hx hb rx c5 dX11_felonIs_11 (by decide) rfl (by decide) ?_
      refine x_aload_n hx hb hl 0 rfl dX11_felonIs_97 rfl ?_
      refine x_bipush hx hb dX11_felonIs_98 (by decide) ?_
      refine x_iconst hx hb dX11_felonIs_100 ?_
      refine x_iload_n hx hb hl 1 rfl dX11_felonIs_101 rfl ?_
      refine x_goi (x_runV (As := [.int (xJ 118), .int (xJ 3), .int (xJ f)]) hx hb hml hown hT hE hW hl.1 (Or.inl (by decide)) (so_268 h0 g _) rfl cf_X11_byFelon wq1625 wq148 wq1623 (c_X11_byFelon l D g T h0 s0 hW.2.1 118 (by decide) 3 (by decide) f rf (by omega) p0 p1 p2) ⟨rfl, rfl, ⟨by decide, by decide⟩, ⟨by decide, by decide⟩⟩ rfl rfl (Nat.le_of_ble_eq_true rfl) dX11_felonIs_102) hW (fun x14 s15 H locs rx14 hp16 hW => ?_)
      obtain ⟨fs15, hp16⟩ := hp16
      have hF17 := hF.call fs15 (fun k h => by omega)
      have q18 : s15 268 8 = s0 268 8 := (congrFun (fs15 _ (by omega)) _).trans k268_8
      have q19 : s15 268 58 = s0 268 58 := (congrFun (fs15 _ (by omega)) _).trans k268_58
      have ghp16 := hp16.2
      rw [eQ]
      exact x_iret hx hb hr hlk hW rx14 ⟨hF17, ⟨hp16.1.1, hp16.1.2.1, hp16.1.2.2.1, trivial⟩, trivial⟩ dX11_felonIs_105
    · refine x_tabIn (v := 5) (tgt := 106) hx hb rx c5 dX11_felonIs_11 (by decide) rfl (by decide) ?_
      refine x_aload_n hx hb hl 0 rfl dX11_felonIs_106 rfl ?_
      refine x_aload_n hx hb hl 0 rfl dX11_felonIs_107 rfl ?_
      refine x_get (j := 0) (v := .ref (h0 + 269)) hx hb hown hT hE hW cls_X11 (Or.inl (by decide)) (so_268 h0 g _) (by decide) rfl wq1185 dX11_felonIs_108 ?_
      refine x_bipush hx hb dX11_felonIs_111 (by decide) ?_
      refine x_iald hx hb hE hW (Or.inl (by decide)) (sa_269 h0 g _) ⟨by decide, by decide⟩ (by decide) dX11_felonIs_113 ?_
      refine x_rd hW (fun x20 ex20 rx20 => ?_)
      have bx20 : 0 ≤ x20 ∧ x20 ≤ 9999 := by rw [ex20]; exact (IMn.n1 p0).2.2.2.1
      refine x_iconst hx hb dX11_felonIs_114 ?_
      refine x_gov (x_runV (As := [.int (xJ x20), .int (xJ 0)]) hx hb hml hown hT hE hW hl.1 (Or.inl (by decide)) (so_268 h0 g _) rfl cf_X11_laysShades wq1588 wq139 wq1586 (c_X11_laysShades l D g T h0 s0 hW.2.1 x20 rx20 0 (by decide) p0 p1 p2) ⟨rfl, rfl, ⟨by decide, by decide⟩, ⟨by decide, by decide⟩⟩ rfl rfl (Nat.le_of_ble_eq_true rfl) dX11_felonIs_115) hW (fun s22 H locs hp23 hW => ?_)
      obtain ⟨fs22, hp23⟩ := hp23
      have hF24 := hF.call fs22 (fun k h => by omega)
      have q25 : s22 268 8 = s0 268 8 := (congrFun (fs22 _ (by omega)) _).trans k268_8
      have q26 : s22 268 58 = s0 268 58 := (congrFun (fs22 _ (by omega)) _).trans k268_58
      have ghp23 := hp23.2
      refine x_aload_n hx hb hl 0 rfl dX11_felonIs_118 rfl ?_
      refine x_get (j := 40) (v := .ref (h0 + 295)) hx hb hown hT hE hW cls_X11 (Or.inl (by decide)) (so_268 h0 g _) (by decide) rfl wq1225 dX11_felonIs_119 ?_
      refine x_aload_n hx hb hl 0 rfl dX11_felonIs_122 rfl ?_
      refine x_get (j := 0) (v := .ref (h0 + 269)) hx hb hown hT hE hW cls_X11 (Or.inl (by decide)) (so_268 h0 g _) (by decide) rfl wq1185 dX11_felonIs_123 ?_
      refine x_iconst hx hb dX11_felonIs_126 ?_
      refine x_iload_n hx hb hl 1 rfl dX11_felonIs_127 rfl ?_
      refine x_iadd hx hb dX11_felonIs_128 ?_
      refine x_iald hx hb hE hW (Or.inl (by decide)) (sa_269 h0 g _) (by omega) (by decide) dX11_felonIs_129 ?_
      refine x_rd hW (fun x27 ex27 rx27 => ?_)
      have bx27 : 0 ≤ x27 ∧ x27 ≤ 99 := by rw [ex27]; exact (IMn.n1 hp23.1.1).2.2.1 _ (by omega) (by omega)
      refine x_iald hx hb hE hW (Or.inl (by decide)) (sa_295 h0 g _) (by omega) (by decide) dX11_felonIs_130 ?_
      refine x_rd hW (fun x28 ex28 rx28 => ?_)
      rw [eQ]
      exact x_iret hx hb hr hlk hW rx28 ⟨hF24, ⟨hp23.1.1, hp23.1.2.1, hp23.1.2.2.1, trivial⟩, trivial⟩ dX11_felonIs_131
  refine x_iconst hx hb dX11_felonIs_8 ?_
  rw [eQ]
  exact x_iret hx hb hr hlk hW (by decide) ⟨hF, ⟨p0, p1, p2, trivial⟩, trivial⟩ dX11_felonIs_9
set_option maxHeartbeats 4000000 in
set_option maxRecDepth 100000 in
theorem c_X11_shade (l : Launch) (D : va_G) (g : xG) (T : Nat × Nat × Nat) (h0 : Nat) (s0 : xS) (hσ : xRR s0) (x : Int) (rx : xR x) (y : Int) (ry : xR y) (p0 : IMn s0) (p1 : IMk s0) (p2 : IMo s0) : Met l yX11_shade (xws yX11_shade cX11_shade 3 (some .int)) { frames := 7, cells := 0, slots := 0, locals := 162 } (xP [.ref (h0 + 268), .int (xJ x), .int (xJ y)] D g T h0 s0) (xQi D g h0 (fun r τ => xFr (fun k => k = 293 ∨ k = 294 ∨ k = 295) s0 τ ∧ (((IMn τ) ∧ (IMk τ) ∧ (IMo τ) ∧ True) ∧ (True)))) 0 0 (xA h0) := by
  refine x_met hσ (by decide) (Nat.le_of_ble_eq_true rfl) ?_
  intro p e s m args below meth c hx hb hr hml hown hT hlk hnm hE hW ls hl
  have hl : lv_has ls 3 [(0, .ref (h0 + 268)), (1, .int (xJ x)), (2, .int (xJ y))] := hl
  obtain ⟨Q, eQ⟩ : ∃ Q, Q = MQ below (xQi D g h0 (fun r τ => xFr (fun k => k = 293 ∨ k = 294 ∨ k = 295) s0 τ ∧ (((IMn τ) ∧ (IMk τ) ∧ (IMo τ) ∧ True) ∧ (True)))) args s 0 0 (xA h0) := ⟨_, rfl⟩
  rw [← eQ]
  generalize hHe : ([] : List Loc) = locs at hW ⊢
  obtain ⟨H, eH⟩ : ∃ H, H = s.heap := ⟨_, rfl⟩
  rw [← eH] at hW ⊢
  have hF : xFr (fun k => k = 293 ∨ k = 294 ∨ k = 295) s0 s0 := xFr.rf
  have k268_8 : s0 268 8 = s0 268 8 := rfl
  have k268_58 : s0 268 58 = s0 268 58 := rfl
  refine x_iload_n hx hb hl 1 rfl dX11_shade_0 rfl ?_
  refine x_iload_n hx hb hl 2 rfl dX11_shade_1 rfl ?_
  refine x_goi (x_runS (As := [.int (xJ x), .int (xJ y)]) hx hb hml hown hT hE hW hl.1 cf_X11_isOn wq1430 wq1429 (c_X11_isOn l D g T h0 s0 hW.2.1 x rx y ry) ⟨rfl, rfl, ⟨by decide, by decide⟩, ⟨by decide, by decide⟩⟩ rfl rfl (Nat.le_of_ble_eq_true rfl) dX11_shade_2) hW (fun x1 s2 H locs rx1 hp3 hW => ?_)
  obtain ⟨es2, hp3⟩ := hp3
  subst es2
  have ghp3 := hp3
  refine x_if_ne (tgt := 10) hx hb rx1 dX11_shade_5 (by decide) (fun c4 => ?_) (fun c4 => ?_)
  · skip
    refine x_aload_n hx hb hl 0 rfl dX11_shade_10 rfl ?_
    refine x_aload_n hx hb hl 0 rfl dX11_shade_11 rfl ?_
    refine x_get (j := 0) (v := .ref (h0 + 269)) hx hb hown hT hE hW cls_X11 (Or.inl (by decide)) (so_268 h0 g _) (by decide) rfl wq1185 dX11_shade_12 ?_
    refine x_bipush hx hb dX11_shade_15 (by decide) ?_
    refine x_iald hx hb hE hW (Or.inl (by decide)) (sa_269 h0 g _) ⟨by decide, by decide⟩ (by decide) dX11_shade_17 ?_
    refine x_rd hW (fun x5 ex5 rx5 => ?_)
    have bx5 : 0 ≤ x5 ∧ x5 ≤ 9999 := by rw [ex5]; exact (IMn.n1 p0).2.2.2.1
    refine x_iconst hx hb dX11_shade_18 ?_
    refine x_gov (x_runV (As := [.int (xJ x5), .int (xJ 0)]) hx hb hml hown hT hE hW hl.1 (Or.inl (by decide)) (so_268 h0 g _) rfl cf_X11_laysShades wq1588 wq139 wq1586 (c_X11_laysShades l D g T h0 s0 hW.2.1 x5 rx5 0 (by decide) p0 p1 p2) ⟨rfl, rfl, ⟨by decide, by decide⟩, ⟨by decide, by decide⟩⟩ rfl rfl (Nat.le_of_ble_eq_true rfl) dX11_shade_19) hW (fun s7 H locs hp8 hW => ?_)
    obtain ⟨fs7, hp8⟩ := hp8
    have hF9 := hF.call fs7 (fun k h => by omega)
    have q10 : s7 268 8 = s0 268 8 := (congrFun (fs7 _ (by omega)) _).trans k268_8
    have q11 : s7 268 58 = s0 268 58 := (congrFun (fs7 _ (by omega)) _).trans k268_58
    have ghp8 := hp8.2
    refine x_aload_n hx hb hl 0 rfl dX11_shade_22 rfl ?_
    refine x_get (j := 40) (v := .ref (h0 + 295)) hx hb hown hT hE hW cls_X11 (Or.inl (by decide)) (so_268 h0 g _) (by decide) rfl wq1225 dX11_shade_23 ?_
    refine x_bipush hx hb dX11_shade_26 (by decide) ?_
    refine x_iload_n hx hb hl 2 rfl dX11_shade_28 rfl ?_
    refine x_imul hx hb dX11_shade_29 ?_
    refine x_iload_n hx hb hl 1 rfl dX11_shade_30 rfl ?_
    refine x_iadd hx hb dX11_shade_31 ?_
    refine x_iald hx hb hE hW (Or.inl (by decide)) (sa_295 h0 g _) (by omega) (by decide) dX11_shade_32 ?_
    refine x_rd hW (fun x12 ex12 rx12 => ?_)
    rw [eQ]
    exact x_iret hx hb hr hlk hW rx12 ⟨hF9, ⟨hp8.1.1, hp8.1.2.1, hp8.1.2.2.1, trivial⟩, trivial⟩ dX11_shade_33
  refine x_iconst hx hb dX11_shade_8 ?_
  rw [eQ]
  exact x_iret hx hb hr hlk hW (by decide) ⟨hF, ⟨p0, p1, p2, trivial⟩, trivial⟩ dX11_shade_9
set_option maxHeartbeats 4000000 in
set_option maxRecDepth 100000 in
theorem c_X11_laysReach (l : Launch) (D : va_G) (g : xG) (T : Nat × Nat × Nat) (h0 : Nat) (s0 : xS) (hσ : xRR s0) (p0 : IMn s0) (p1 : IMk s0) (p2 : IMo s0) : Met l yX11_laysReach (xws yX11_laysReach cX11_laysReach 3 none) { frames := 4, cells := 0, slots := 0, locals := 96 } (xP [.ref (h0 + 268)] D g T h0 s0) (xQv D g h0 (fun τ => xFr (fun k => k = 293 ∨ k = 294 ∨ k = 296 ∨ k = 301) s0 τ ∧ (((IMn τ) ∧ (IMk τ) ∧ (IMo τ) ∧ True) ∧ (True)))) 0 0 (xA h0) := by
  refine x_met hσ (by decide) (Nat.le_of_ble_eq_true rfl) ?_
  intro p e s m args below meth c hx hb hr hml hown hT hlk hnm hE hW ls hl
  have hl : lv_has ls 3 [(0, .ref (h0 + 268))] := hl
  obtain ⟨Q, eQ⟩ : ∃ Q, Q = MQ below (xQv D g h0 (fun τ => xFr (fun k => k = 293 ∨ k = 294 ∨ k = 296 ∨ k = 301) s0 τ ∧ (((IMn τ) ∧ (IMk τ) ∧ (IMo τ) ∧ True) ∧ (True)))) args s 0 0 (xA h0) := ⟨_, rfl⟩
  rw [← eQ]
  generalize hHe : ([] : List Loc) = locs at hW ⊢
  obtain ⟨H, eH⟩ : ∃ H, H = s.heap := ⟨_, rfl⟩
  rw [← eH] at hW ⊢
  have hF : xFr (fun k => k = 293 ∨ k = 294 ∨ k = 296 ∨ k = 301) s0 s0 := xFr.rf
  have k268_8 : s0 268 8 = s0 268 8 := rfl
  have k268_58 : s0 268 58 = s0 268 58 := rfl
  refine x_iconst hx hb dX11_laysReach_0 ?_
  refine lv_istore_n (lv' := [(1, .int (xJ 0)), (0, .ref (h0 + 268))]) hx hb dX11_laysReach_1 rfl hl (by decide) rfl (fun ls hl => ?_)
  have L2 : ∀ (fu : Nat) (i1_2 : Int) (s_2 : xS) (H : Heap) (locs : List Loc) (ls : Array Slot), (xR i1_2) → (xFr (fun k => k = 293 ∨ k = 294 ∨ k = 296 ∨ k = 301) s0 s_2) → (IMn s_2) → (IMk s_2) → (IMo s_2) → (s_2 268 8 = s0 268 8) → (s_2 268 58 = s0 268 58) → (0 ≤ i1_2) → (i1_2 ≤ 100) → (100 + 1 - i1_2).toNat < fu → xW D g h0 s H locs s_2 → lv_has ls 3 [(0, .ref (h0 + 268)), (1, .int (xJ i1_2))] → W p l e { frames := 4, cells := 0, slots := 0, locals := 96 } s m args below meth c H locs 0 0 Q (F0 m 2 ls []) := by
    intro fu
    induction fu with
    | zero => intro i1_2 s_2 H locs ls ri1_2 hF_2 q2_0 q2_1 q2_2 q2_3 q2_4 v2_0 v2_1 hm; exact absurd hm (Nat.not_lt_zero _)
    | succ fu ih2 =>
      intro i1_2 s_2 H locs ls ri1_2 hF_2 q2_0 q2_1 q2_2 q2_3 q2_4 v2_0 v2_1 hm hW hl
      refine x_iload_n hx hb hl 1 rfl dX11_laysReach_2 rfl ?_
      refine x_bipush hx hb dX11_laysReach_3 (by decide) ?_
      refine x_icmp_ge (tgt := 21) hx hb ri1_2 (by decide) dX11_laysReach_5 (by decide) (fun c1 => ?_) (fun c1 => ?_)
      · skip
        refine x_iconst hx hb dX11_laysReach_21 ?_
        refine lv_istore_n (lv' := [(1, .int (xJ 0)), (0, .ref (h0 + 268))]) hx hb dX11_laysReach_22 rfl hl (by decide) rfl (fun ls hl => ?_)
        have L23 : ∀ (fu : Nat) (i1_23 : Int) (s_23 : xS) (H : Heap) (locs : List Loc) (ls : Array Slot), (xR i1_23) → (xFr (fun k => k = 293 ∨ k = 294 ∨ k = 296 ∨ k = 301) s0 s_23) → (IMn s_23) → (IMk s_23) → (IMo s_23) → (s_23 268 8 = s0 268 8) → (s_23 268 58 = s0 268 58) → (0 ≤ i1_23) → (i1_23 ≤ 10) → (10 + 1 - i1_23).toNat < fu → xW D g h0 s H locs s_23 → lv_has ls 3 [(0, .ref (h0 + 268)), (1, .int (xJ i1_23))] → W p l e { frames := 4, cells := 0, slots := 0, locals := 96 } s m args below meth c H locs 0 0 Q (F0 m 23 ls []) := by
          intro fu
          induction fu with
          | zero => intro i1_23 s_23 H locs ls ri1_23 hF_23 q23_0 q23_1 q23_2 q23_3 q23_4 v23_0 v23_1 hm; exact absurd hm (Nat.not_lt_zero _)
          | succ fu ih23 =>
            intro i1_23 s_23 H locs ls ri1_23 hF_23 q23_0 q23_1 q23_2 q23_3 q23_4 v23_0 v23_1 hm hW hl
            refine x_iload_n hx hb hl 1 rfl dX11_laysReach_23 rfl ?_
            refine x_bipush hx hb dX11_laysReach_24 (by decide) ?_
            refine x_icmp_ge (tgt := 109) hx hb ri1_23 (by decide) dX11_laysReach_26 (by decide) (fun c2 => ?_) (fun c2 => ?_)
            · skip
              rw [eQ]
              exact x_vret hx hb hr hlk hW ⟨hF_23, ⟨q23_0, q23_1, q23_2, trivial⟩, trivial⟩ dX11_laysReach_109
            refine x_aload_n hx hb hl 0 rfl dX11_laysReach_29 rfl ?_
            refine x_iload_n hx hb hl 1 rfl dX11_laysReach_30 rfl ?_
            refine x_goi (x_runV (As := [.int (xJ i1_23)]) hx hb hml hown hT hE hW hl.1 (Or.inl (by decide)) (so_268 h0 g _) rfl cf_X11_owes wq1620 wq147 wq1618 (c_X11_owes l D g T h0 s_23 hW.2.1 i1_23 ri1_23 q23_0 q23_1 q23_2) ⟨rfl, rfl, ⟨by decide, by decide⟩, ⟨by decide, by decide⟩⟩ rfl rfl (Nat.le_of_ble_eq_true rfl) dX11_laysReach_31) hW (fun x3 s4 H locs rx3 hp5 hW => ?_)
            obtain ⟨es4, hp5⟩ := hp5
            subst es4
            have ghp5 := hp5
            refine x_if_ne (tgt := 40) hx hb rx3 dX11_laysReach_34 (by decide) (fun c6 => ?_) (fun c6 => ?_)
            · skip
              refine x_aload_n hx hb hl 0 rfl dX11_laysReach_40 rfl ?_
              refine x_aload_n hx hb hl 0 rfl dX11_laysReach_41 rfl ?_
              refine x_get (j := 0) (v := .ref (h0 + 269)) hx hb hown hT hE hW cls_X11 (Or.inl (by decide)) (so_268 h0 g _) (by decide) rfl wq1185 dX11_laysReach_42 ?_
              refine x_iconst hx hb dX11_laysReach_45 ?_
              refine x_iload_n hx hb hl 1 rfl dX11_laysReach_46 rfl ?_
              refine x_iadd hx hb dX11_laysReach_47 ?_
              refine x_iald hx hb hE hW (Or.inl (by decide)) (sa_269 h0 g _) (by omega) (by decide) dX11_laysReach_48 ?_
              refine x_rd hW (fun x7 ex7 rx7 => ?_)
              have bx7 : 0 ≤ x7 ∧ x7 ≤ 99 := by rw [ex7]; exact (IMn.n1 q23_0).2.2.1 _ (by omega) (by omega)
              refine x_aload_n hx hb hl 0 rfl dX11_laysReach_49 rfl ?_
              refine x_bipush hx hb dX11_laysReach_50 (by decide) ?_
              refine x_iconst hx hb dX11_laysReach_52 ?_
              refine x_iload_n hx hb hl 1 rfl dX11_laysReach_53 rfl ?_
              refine x_goi (x_runV (As := [.int (xJ 118), .int (xJ 3), .int (xJ i1_23)]) hx hb hml hown hT hE hW hl.1 (Or.inl (by decide)) (so_268 h0 g _) rfl cf_X11_byFelon wq1625 wq148 wq1623 (c_X11_byFelon l D g T h0 s_23 hW.2.1 118 (by decide) 3 (by decide) i1_23 ri1_23 (by omega) q23_0 q23_1 q23_2) ⟨rfl, rfl, ⟨by decide, by decide⟩, ⟨by decide, by decide⟩⟩ rfl rfl (Nat.le_of_ble_eq_true rfl) dX11_laysReach_54) hW (fun x8 s9 H locs rx8 hp10 hW => ?_)
              obtain ⟨fs9, hp10⟩ := hp10
              have hF11 := hF_23.call fs9 (fun k h => by omega)
              have q12 : s9 268 8 = s0 268 8 := (congrFun (fs9 _ (by omega)) _).trans q23_3
              have q13 : s9 268 58 = s0 268 58 := (congrFun (fs9 _ (by omega)) _).trans q23_4
              have ghp10 := hp10.2
              refine x_iconst hx hb dX11_laysReach_57 ?_
              refine x_gov (x_runV (As := [.int (xJ x7), .int (xJ x8), .int (xJ 0)]) hx hb hml hown hT hE hW hl.1 (Or.inl (by decide)) (so_268 h0 g _) rfl cf_X11_laysCosts wq1637 wq151 wq1635 (c_X11_laysCosts l D g T h0 s9 hW.2.1 x7 rx7 x8 rx8 0 (by decide) hp10.1.1 hp10.1.2.1 hp10.1.2.2.1) ⟨rfl, rfl, ⟨by decide, by decide⟩, ⟨by decide, by decide⟩⟩ rfl rfl (Nat.le_of_ble_eq_true rfl) dX11_laysReach_58) hW (fun s15 H locs hp16 hW => ?_)
              obtain ⟨fs15, hp16⟩ := hp16
              have hF17 := hF11.call fs15 (fun k h => by omega)
              have q18 : s15 268 8 = s0 268 8 := (congrFun (fs15 _ (by omega)) _).trans q12
              have q19 : s15 268 58 = s0 268 58 := (congrFun (fs15 _ (by omega)) _).trans q13
              have ghp16 := hp16.2
              refine x_iconst hx hb dX11_laysReach_61 ?_
              refine lv_istore_n (lv' := [(2, .int (xJ 0)), (0, .ref (h0 + 268)), (1, .int (xJ i1_23))]) hx hb dX11_laysReach_62 rfl hl (by decide) rfl (fun ls hl => ?_)
              have L63 : ∀ (fu : Nat) (i2_63 : Int) (s_63 : xS) (H : Heap) (locs : List Loc) (ls : Array Slot), (xR i2_63) → (xFr (fun k => k = 293 ∨ k = 294 ∨ k = 296 ∨ k = 301) s0 s_63) → (s_63 268 8 = s0 268 8) → (s_63 268 58 = s0 268 58) → (IMn s_63) → (IMk s_63) → (IMo s_63) → (0 ≤ i2_63) → (i2_63 ≤ 100) → (100 + 1 - i2_63).toNat < fu → xW D g h0 s H locs s_63 → lv_has ls 3 [(0, .ref (h0 + 268)), (1, .int (xJ i1_23)), (2, .int (xJ i2_63))] → W p l e { frames := 4, cells := 0, slots := 0, locals := 96 } s m args below meth c H locs 0 0 Q (F0 m 63 ls []) := by
                intro fu
                induction fu with
                | zero => intro i2_63 s_63 H locs ls ri2_63 hF_63 q63_0 q63_1 q63_2 q63_3 q63_4 v63_0 v63_1 hm; exact absurd hm (Nat.not_lt_zero _)
                | succ fu ih63 =>
                  intro i2_63 s_63 H locs ls ri2_63 hF_63 q63_0 q63_1 q63_2 q63_3 q63_4 v63_0 v63_1 hm hW hl
                  refine x_iload_n hx hb hl 2 rfl dX11_laysReach_63 rfl ?_
                  refine x_bipush hx hb dX11_laysReach_64 (by decide) ?_
                  refine x_icmp_ge (tgt := 103) hx hb ri2_63 (by decide) dX11_laysReach_66 (by decide) (fun c20 => ?_) (fun c20 => ?_)
                  · skip
                    refine x_iinc (lv' := [(1, .int (xJ (i1_23 + 1))), (0, .ref (h0 + 268)), (2, .int (xJ i2_63))]) hx hb hl 1 rfl dX11_laysReach_103 (by decide) rfl (fun ls hl => ?_)
                    refine lv_goto (tgt := 23) hx hb dX11_laysReach_106 (by decide) ?_
                    exact ih23 (i1_23 + 1) s_63 H locs ls (by omega) hF_63 q63_2 q63_3 q63_4 q63_0 q63_1 (by omega) (by omega) (by omega) hW (lv_sub hl [1, 0] rfl)
                  refine x_aload_n hx hb hl 0 rfl dX11_laysReach_69 rfl ?_
                  refine x_get (j := 45) (v := .ref (h0 + 296)) hx hb hown hT hE hW cls_X11 (Or.inl (by decide)) (so_268 h0 g _) (by decide) rfl wq1230 dX11_laysReach_70 ?_
                  refine x_iload_n hx hb hl 2 rfl dX11_laysReach_73 rfl ?_
                  refine x_iald hx hb hE hW (Or.inl (by decide)) (sa_296 h0 g _) (by omega) (by decide) dX11_laysReach_74 ?_
                  refine x_rd hW (fun x21 ex21 rx21 => ?_)
                  refine lv_ldcw (v := xJ 1000000000) hx hb hown (hT _ wq1622) dX11_laysReach_75 ?_
                  refine x_icmp_ge (tgt := 97) hx hb rx21 (by decide) dX11_laysReach_78 (by decide) (fun c22 => ?_) (fun c22 => ?_)
                  · skip
                    refine x_iinc (lv' := [(2, .int (xJ (i2_63 + 1))), (0, .ref (h0 + 268)), (1, .int (xJ i1_23))]) hx hb hl 2 rfl dX11_laysReach_97 (by decide) rfl (fun ls hl => ?_)
                    refine lv_goto (tgt := 63) hx hb dX11_laysReach_100 (by decide) ?_
                    exact ih63 (i2_63 + 1) s_63 H locs ls (by omega) hF_63 q63_0 q63_1 q63_2 q63_3 q63_4 (by omega) (by omega) (by omega) hW (lv_sub hl [1, 2, 0] rfl)
                  refine x_aload_n hx hb hl 0 rfl dX11_laysReach_81 rfl ?_
                  refine x_get (j := 51) (v := .ref (h0 + 301)) hx hb hown hT hE hW cls_X11 (Or.inl (by decide)) (so_268 h0 g _) (by decide) rfl wq1236 dX11_laysReach_82 ?_
                  refine x_iload_n hx hb hl 2 rfl dX11_laysReach_85 rfl ?_
                  refine x_aload_n hx hb hl 0 rfl dX11_laysReach_86 rfl ?_
                  refine x_get (j := 51) (v := .ref (h0 + 301)) hx hb hown hT hE hW cls_X11 (Or.inl (by decide)) (so_268 h0 g _) (by decide) rfl wq1236 dX11_laysReach_87 ?_
                  refine x_iload_n hx hb hl 2 rfl dX11_laysReach_90 rfl ?_
                  refine x_iald hx hb hE hW (Or.inl (by decide)) (sa_301 h0 g _) (by omega) (by decide) dX11_laysReach_91 ?_
                  refine x_rd hW (fun x23 ex23 rx23 => ?_)
                  refine x_iconst hx hb dX11_laysReach_92 ?_
                  refine x_iload_n hx hb hl 1 rfl dX11_laysReach_93 rfl ?_
                  refine lv_ishl hx hb dX11_laysReach_94 ?_
                  refine x_any (fun x24 rx24 => ?_)
                  refine lv_ior hx hb dX11_laysReach_95 ?_
                  refine x_any (fun x25 rx25 => ?_)
                  refine x_iast hx hb hE hW (by decide) (fun σ => sa_301 h0 g σ) (by omega) (by decide) rx25 dX11_laysReach_96 (fun H locs s26 es26 hW => ?_)
                  have q27 : s26 268 8 = s0 268 8 := (show s26 268 8 = s_63 268 8 from by rw [es26, xU_k _ _ _ (by omega)]).trans q63_0
                  have q28 : s26 268 58 = s0 268 58 := (show s26 268 58 = s_63 268 58 from by rw [es26, xU_k _ _ _ (by omega)]).trans q63_1
                  have q29 : IMn s26 := by rw [es26]; exact IMn_o (by unfold suIMn; omega) q63_2
                  have q30 : IMk s26 := by rw [es26]; exact IMk_o (by unfold suIMk; omega) q63_3
                  have q31 : IMo s26 := by rw [es26]; exact IMo_o (by unfold suIMo; omega) q63_4
                  have hF32 := hF_63.put es26 (by omega)
                  refine x_iinc (lv' := [(2, .int (xJ (i2_63 + 1))), (0, .ref (h0 + 268)), (1, .int (xJ i1_23))]) hx hb hl 2 rfl dX11_laysReach_97 (by decide) rfl (fun ls hl => ?_)
                  refine lv_goto (tgt := 63) hx hb dX11_laysReach_100 (by decide) ?_
                  exact ih63 (i2_63 + 1) s26 H locs ls (by omega) hF32 q27 q28 q29 q30 q31 (by omega) (by omega) (by omega) hW (lv_sub hl [1, 2, 0] rfl)
              exact L63 ((100 + 1 - 0 : Int).toNat + 1) 0 s15 H locs ls (by decide) hF17 q18 q19 hp16.1.1 hp16.1.2.1 hp16.1.2.2.1 (by omega) (by omega) (Nat.lt_succ_self _) hW (lv_sub hl [1, 2, 0] rfl)
            refine lv_goto (tgt := 103) hx hb dX11_laysReach_37 (by decide) ?_
            refine x_iinc (lv' := [(1, .int (xJ (i1_23 + 1))), (0, .ref (h0 + 268))]) hx hb hl 1 rfl dX11_laysReach_103 (by decide) rfl (fun ls hl => ?_)
            refine lv_goto (tgt := 23) hx hb dX11_laysReach_106 (by decide) ?_
            exact ih23 (i1_23 + 1) s_23 H locs ls (by omega) hF_23 q23_0 q23_1 q23_2 q23_3 q23_4 (by omega) (by omega) (by omega) hW (lv_sub hl [1, 0] rfl)
        exact L23 ((10 + 1 - 0 : Int).toNat + 1) 0 s_2 H locs ls (by decide) hF_2 q2_0 q2_1 q2_2 q2_3 q2_4 (by omega) (by omega) (Nat.lt_succ_self _) hW (lv_sub hl [1, 0] rfl)
      refine x_aload_n hx hb hl 0 rfl dX11_laysReach_8 rfl ?_
      refine x_get (j := 51) (v := .ref (h0 + 301)) hx hb hown hT hE hW cls_X11 (Or.inl (by decide)) (so_268 h0 g _) (by decide) rfl wq1236 dX11_laysReach_9 ?_
      refine x_iload_n hx hb hl 1 rfl dX11_laysReach_12 rfl ?_
      refine x_iconst hx hb dX11_laysReach_13 ?_
      refine x_iast hx hb hE hW (by decide) (fun σ => sa_301 h0 g σ) (by omega) (by decide) (by decide) dX11_laysReach_14 (fun H locs s33 es33 hW => ?_)
      have q34 : IMn s33 := by rw [es33]; exact IMn_o (by unfold suIMn; omega) q2_0
      have q35 : IMk s33 := by rw [es33]; exact IMk_o (by unfold suIMk; omega) q2_1
      have q36 : IMo s33 := by rw [es33]; exact IMo_o (by unfold suIMo; omega) q2_2
      have q37 : s33 268 8 = s0 268 8 := (show s33 268 8 = s_2 268 8 from by rw [es33, xU_k _ _ _ (by omega)]).trans q2_3
      have q38 : s33 268 58 = s0 268 58 := (show s33 268 58 = s_2 268 58 from by rw [es33, xU_k _ _ _ (by omega)]).trans q2_4
      have hF39 := hF_2.put es33 (by omega)
      refine x_iinc (lv' := [(1, .int (xJ (i1_2 + 1))), (0, .ref (h0 + 268))]) hx hb hl 1 rfl dX11_laysReach_15 (by decide) rfl (fun ls hl => ?_)
      refine lv_goto (tgt := 2) hx hb dX11_laysReach_18 (by decide) ?_
      exact ih2 (i1_2 + 1) s33 H locs ls (by omega) hF39 q34 q35 q36 q37 q38 (by omega) (by omega) (by omega) hW (lv_sub hl [1, 0] rfl)
  exact L2 ((100 + 1 - 0 : Int).toNat + 1) 0 s0 H locs ls (by decide) hF p0 p1 p2 k268_8 k268_58 (by omega) (by omega) (Nat.lt_succ_self _) hW (lv_sub hl [1, 0] rfl)
set_option maxHeartbeats 4000000 in
set_option maxRecDepth 100000 in
theorem c_X11_mostAtOnce (l : Launch) (D : va_G) (g : xG) (T : Nat × Nat × Nat) (h0 : Nat) (s0 : xS) (hσ : xRR s0) (p0 : IMn s0) (p1 : IMk s0) (p2 : IMo s0) : Met l yX11_mostAtOnce (xws yX11_mostAtOnce cX11_mostAtOnce 4 (some .int)) { frames := 5, cells := 0, slots := 0, locals := 118 } (xP [.ref (h0 + 268)] D g T h0 s0) (xQi D g h0 (fun r τ => xFr (fun k => k = 293 ∨ k = 294 ∨ k = 296 ∨ k = 300 ∨ k = 301) s0 τ ∧ (((IMn τ) ∧ (IMk τ) ∧ (IMo τ) ∧ True) ∧ (True)))) 0 0 (xA h0) := by
  refine x_met hσ (by decide) (Nat.le_of_ble_eq_true rfl) ?_
  intro p e s m args below meth c hx hb hr hml hown hT hlk hnm hE hW ls hl
  have hl : lv_has ls 4 [(0, .ref (h0 + 268))] := hl
  obtain ⟨Q, eQ⟩ : ∃ Q, Q = MQ below (xQi D g h0 (fun r τ => xFr (fun k => k = 293 ∨ k = 294 ∨ k = 296 ∨ k = 300 ∨ k = 301) s0 τ ∧ (((IMn τ) ∧ (IMk τ) ∧ (IMo τ) ∧ True) ∧ (True)))) args s 0 0 (xA h0) := ⟨_, rfl⟩
  rw [← eQ]
  generalize hHe : ([] : List Loc) = locs at hW ⊢
  obtain ⟨H, eH⟩ : ∃ H, H = s.heap := ⟨_, rfl⟩
  rw [← eH] at hW ⊢
  have hF : xFr (fun k => k = 293 ∨ k = 294 ∨ k = 296 ∨ k = 300 ∨ k = 301) s0 s0 := xFr.rf
  have k268_8 : s0 268 8 = s0 268 8 := rfl
  have k268_58 : s0 268 58 = s0 268 58 := rfl
  refine x_aload_n hx hb hl 0 rfl dX11_mostAtOnce_0 rfl ?_
  refine x_gov (x_runV (As := []) hx hb hml hown hT hE hW hl.1 (Or.inl (by decide)) (so_268 h0 g _) rfl cf_X11_laysReach wq1674 wq154 wq1672 (c_X11_laysReach l D g T h0 s0 hW.2.1 p0 p1 p2) ⟨rfl, rfl, ⟨by decide, by decide⟩, ⟨by decide, by decide⟩⟩ rfl rfl (Nat.le_of_ble_eq_true rfl) dX11_mostAtOnce_1) hW (fun s2 H locs hp3 hW => ?_)
  obtain ⟨fs2, hp3⟩ := hp3
  have hF4 := hF.call fs2 (fun k h => by omega)
  have q5 : s2 268 8 = s0 268 8 := (congrFun (fs2 _ (by omega)) _).trans k268_8
  have q6 : s2 268 58 = s0 268 58 := (congrFun (fs2 _ (by omega)) _).trans k268_58
  have ghp3 := hp3.2
  refine x_iconst hx hb dX11_mostAtOnce_4 ?_
  refine lv_istore_n (lv' := [(1, .int (xJ 0)), (0, .ref (h0 + 268))]) hx hb dX11_mostAtOnce_5 rfl hl (by decide) rfl (fun ls hl => ?_)
  have L6 : ∀ (fu : Nat) (i1_6 : Int) (s_6 : xS) (H : Heap) (locs : List Loc) (ls : Array Slot), (xR i1_6) → (xFr (fun k => k = 293 ∨ k = 294 ∨ k = 296 ∨ k = 300 ∨ k = 301) s0 s_6) → (s_6 268 8 = s0 268 8) → (s_6 268 58 = s0 268 58) → (IMn s_6) → (IMk s_6) → (IMo s_6) → (0 ≤ i1_6) → (i1_6 ≤ 1024) → (1024 + 1 - i1_6).toNat < fu → xW D g h0 s H locs s_6 → lv_has ls 4 [(0, .ref (h0 + 268)), (1, .int (xJ i1_6))] → W p l e { frames := 5, cells := 0, slots := 0, locals := 118 } s m args below meth c H locs 0 0 Q (F0 m 6 ls []) := by
    intro fu
    induction fu with
    | zero => intro i1_6 s_6 H locs ls ri1_6 hF_6 q6_0 q6_1 q6_2 q6_3 q6_4 v6_0 v6_1 hm; exact absurd hm (Nat.not_lt_zero _)
    | succ fu ih6 =>
      intro i1_6 s_6 H locs ls ri1_6 hF_6 q6_0 q6_1 q6_2 q6_3 q6_4 v6_0 v6_1 hm hW hl
      refine x_iload_n hx hb hl 1 rfl dX11_mostAtOnce_6 rfl ?_
      refine x_sipush hx hb dX11_mostAtOnce_7 (by decide) ?_
      refine x_icmp_ge (tgt := 34) hx hb ri1_6 (by decide) dX11_mostAtOnce_10 (by decide) (fun c7 => ?_) (fun c7 => ?_)
      · skip
        refine x_iconst hx hb dX11_mostAtOnce_34 ?_
        refine lv_istore_n (lv' := [(1, .int (xJ 0)), (0, .ref (h0 + 268))]) hx hb dX11_mostAtOnce_35 rfl hl (by decide) rfl (fun ls hl => ?_)
        have L36 : ∀ (fu : Nat) (i1_36 : Int) (s_36 : xS) (H : Heap) (locs : List Loc) (ls : Array Slot), (xR i1_36) → (xFr (fun k => k = 293 ∨ k = 294 ∨ k = 296 ∨ k = 300 ∨ k = 301) s0 s_36) → (s_36 268 8 = s0 268 8) → (s_36 268 58 = s0 268 58) → (IMn s_36) → (IMk s_36) → (IMo s_36) → (0 ≤ i1_36) → (i1_36 ≤ 100) → (100 + 1 - i1_36).toNat < fu → xW D g h0 s H locs s_36 → lv_has ls 4 [(0, .ref (h0 + 268)), (1, .int (xJ i1_36))] → W p l e { frames := 5, cells := 0, slots := 0, locals := 118 } s m args below meth c H locs 0 0 Q (F0 m 36 ls []) := by
          intro fu
          induction fu with
          | zero => intro i1_36 s_36 H locs ls ri1_36 hF_36 q36_0 q36_1 q36_2 q36_3 q36_4 v36_0 v36_1 hm; exact absurd hm (Nat.not_lt_zero _)
          | succ fu ih36 =>
            intro i1_36 s_36 H locs ls ri1_36 hF_36 q36_0 q36_1 q36_2 q36_3 q36_4 v36_0 v36_1 hm hW hl
            refine x_iload_n hx hb hl 1 rfl dX11_mostAtOnce_36 rfl ?_
            refine x_bipush hx hb dX11_mostAtOnce_37 (by decide) ?_
            refine x_icmp_ge (tgt := 129) hx hb ri1_36 (by decide) dX11_mostAtOnce_39 (by decide) (fun c8 => ?_) (fun c8 => ?_)
            · skip
              refine x_iconst hx hb dX11_mostAtOnce_129 ?_
              refine lv_istore_n (lv' := [(1, .int (xJ 0)), (0, .ref (h0 + 268))]) hx hb dX11_mostAtOnce_130 rfl hl (by decide) rfl (fun ls hl => ?_)
              refine x_iconst hx hb dX11_mostAtOnce_131 ?_
              refine lv_istore_n (lv' := [(2, .int (xJ 0)), (1, .int (xJ 0)), (0, .ref (h0 + 268))]) hx hb dX11_mostAtOnce_132 rfl hl (by decide) rfl (fun ls hl => ?_)
              have L133 : ∀ (fu : Nat) (i1_133 : Int) (i2_133 : Int) (H : Heap) (locs : List Loc) (ls : Array Slot), (xR i1_133) → (xR i2_133) → (0 ≤ i2_133) → (i2_133 ≤ 1024) → (1024 + 1 - i2_133).toNat < fu → xW D g h0 s H locs s_36 → lv_has ls 4 [(0, .ref (h0 + 268)), (1, .int (xJ i1_133)), (2, .int (xJ i2_133))] → W p l e { frames := 5, cells := 0, slots := 0, locals := 118 } s m args below meth c H locs 0 0 Q (F0 m 133 ls []) := by
                intro fu
                induction fu with
                | zero => intro i1_133 i2_133 H locs ls ri1_133 ri2_133 v133_0 v133_1 hm; exact absurd hm (Nat.not_lt_zero _)
                | succ fu ih133 =>
                  intro i1_133 i2_133 H locs ls ri1_133 ri2_133 v133_0 v133_1 hm hW hl
                  refine x_iload_n hx hb hl 2 rfl dX11_mostAtOnce_133 rfl ?_
                  refine x_sipush hx hb dX11_mostAtOnce_134 (by decide) ?_
                  refine x_icmp_ge (tgt := 164) hx hb ri2_133 (by decide) dX11_mostAtOnce_137 (by decide) (fun c9 => ?_) (fun c9 => ?_)
                  · skip
                    refine x_iload_n hx hb hl 1 rfl dX11_mostAtOnce_164 rfl ?_
                    rw [eQ]
                    exact x_iret hx hb hr hlk hW ri1_133 ⟨hF_36, ⟨q36_2, q36_3, q36_4, trivial⟩, trivial⟩ dX11_mostAtOnce_165
                  refine x_aload_n hx hb hl 0 rfl dX11_mostAtOnce_140 rfl ?_
                  refine x_get (j := 50) (v := .ref (h0 + 300)) hx hb hown hT hE hW cls_X11 (Or.inl (by decide)) (so_268 h0 g _) (by decide) rfl wq1235 dX11_mostAtOnce_141 ?_
                  refine x_iload_n hx hb hl 2 rfl dX11_mostAtOnce_144 rfl ?_
                  refine x_zald hx hb hE hW (Or.inl (by decide)) (sa_300 h0 g _) (by omega) (by decide) dX11_mostAtOnce_145 ?_
                  refine x_rd hW (fun x10 ex10 rx10 => ?_)
                  refine x_if_eq (tgt := 158) hx hb rx10 dX11_mostAtOnce_146 (by decide) (fun c11 => ?_) (fun c11 => ?_)
                  · skip
                    refine x_iinc (lv' := [(2, .int (xJ (i2_133 + 1))), (0, .ref (h0 + 268)), (1, .int (xJ i1_133))]) hx hb hl 2 rfl dX11_mostAtOnce_158 (by decide) rfl (fun ls hl => ?_)
                    refine lv_goto (tgt := 133) hx hb dX11_mostAtOnce_161 (by decide) ?_
                    exact ih133 i1_133 (i2_133 + 1) H locs ls ri1_133 (by omega) (by omega) (by omega) (by omega) hW (lv_sub hl [1, 2, 0] rfl)
                  refine x_iload_n hx hb hl 1 rfl dX11_mostAtOnce_149 rfl ?_
                  refine x_iload_n hx hb hl 2 rfl dX11_mostAtOnce_150 rfl ?_
                  refine x_goi (x_runS (As := [.int (xJ i2_133)]) hx hb hml hown hT hE hW hl.1 cf_X11_bits wq1650 wq1649 (c_X11_bits l D g T h0 s_36 hW.2.1 i2_133 ri2_133) ⟨rfl, rfl, ⟨by decide, by decide⟩, ⟨by decide, by decide⟩⟩ rfl rfl (Nat.le_of_ble_eq_true rfl) dX11_mostAtOnce_151) hW (fun x12 s13 H locs rx12 hp14 hW => ?_)
                  obtain ⟨es13, hp14⟩ := hp14
                  subst es13
                  have ghp14 := hp14
                  refine x_goi (x_runS (As := [.int (xJ i1_133), .int (xJ x12)]) hx hb hml hown hT hE hW hl.1 cf_X11_max wq1677 wq1676 (c_X11_max l D g T h0 s_36 hW.2.1 i1_133 ri1_133 x12 rx12) ⟨rfl, rfl, ⟨by decide, by decide⟩, ⟨by decide, by decide⟩⟩ rfl rfl (Nat.le_of_ble_eq_true rfl) dX11_mostAtOnce_154) hW (fun x15 s16 H locs rx15 hp17 hW => ?_)
                  obtain ⟨es16, hp17⟩ := hp17
                  subst es16
                  have ghp17 := hp17
                  refine lv_istore_n (lv' := [(1, .int (xJ x15)), (0, .ref (h0 + 268)), (2, .int (xJ i2_133))]) hx hb dX11_mostAtOnce_157 rfl hl (by decide) rfl (fun ls hl => ?_)
                  refine x_iinc (lv' := [(2, .int (xJ (i2_133 + 1))), (1, .int (xJ x15)), (0, .ref (h0 + 268))]) hx hb hl 2 rfl dX11_mostAtOnce_158 (by decide) rfl (fun ls hl => ?_)
                  refine lv_goto (tgt := 133) hx hb dX11_mostAtOnce_161 (by decide) ?_
                  exact ih133 x15 (i2_133 + 1) H locs ls rx15 (by omega) (by omega) (by omega) (by omega) hW (lv_sub hl [2, 1, 0] rfl)
              exact L133 ((1024 + 1 - 0 : Int).toNat + 1) 0 0 H locs ls (by decide) (by decide) (by omega) (by omega) (Nat.lt_succ_self _) hW (lv_sub hl [2, 1, 0] rfl)
            refine x_aload_n hx hb hl 0 rfl dX11_mostAtOnce_42 rfl ?_
            refine x_get (j := 40) (v := .ref (h0 + 295)) hx hb hown hT hE hW cls_X11 (Or.inl (by decide)) (so_268 h0 g _) (by decide) rfl wq1225 dX11_mostAtOnce_43 ?_
            refine x_iload_n hx hb hl 1 rfl dX11_mostAtOnce_46 rfl ?_
            refine x_iald hx hb hE hW (Or.inl (by decide)) (sa_295 h0 g _) (by omega) (by decide) dX11_mostAtOnce_47 ?_
            refine x_rd hW (fun x18 ex18 rx18 => ?_)
            refine x_if_ne (tgt := 54) hx hb rx18 dX11_mostAtOnce_48 (by decide) (fun c19 => ?_) (fun c19 => ?_)
            · skip
              refine x_sipush hx hb dX11_mostAtOnce_54 (by decide) ?_
              refine lv_istore_n (lv' := [(2, .int (xJ 1023)), (0, .ref (h0 + 268)), (1, .int (xJ i1_36))]) hx hb dX11_mostAtOnce_57 rfl hl (by decide) rfl (fun ls hl => ?_)
              have L58 : ∀ (fu : Nat) (i2_58 : Int) (s_58 : xS) (H : Heap) (locs : List Loc) (ls : Array Slot), (xR i2_58) → (xFr (fun k => k = 293 ∨ k = 294 ∨ k = 296 ∨ k = 300 ∨ k = 301) s0 s_58) → (s_58 268 8 = s0 268 8) → (s_58 268 58 = s0 268 58) → (IMn s_58) → (IMk s_58) → (IMo s_58) → (-1 ≤ i2_58 ∧ i2_58 ≤ 1023) → (i2_58 + 1).toNat < fu → xW D g h0 s H locs s_58 → lv_has ls 4 [(0, .ref (h0 + 268)), (1, .int (xJ i1_36)), (2, .int (xJ i2_58))] → W p l e { frames := 5, cells := 0, slots := 0, locals := 118 } s m args below meth c H locs 0 0 Q (F0 m 58 ls []) := by
                intro fu
                induction fu with
                | zero => intro i2_58 s_58 H locs ls ri2_58 hF_58 q58_0 q58_1 q58_2 q58_3 q58_4 v58_0 hm; exact absurd hm (Nat.not_lt_zero _)
                | succ fu ih58 =>
                  intro i2_58 s_58 H locs ls ri2_58 hF_58 q58_0 q58_1 q58_2 q58_3 q58_4 v58_0 hm hW hl
                  refine x_iload_n hx hb hl 2 rfl dX11_mostAtOnce_58 rfl ?_
                  refine x_if_lt (tgt := 123) hx hb ri2_58 dX11_mostAtOnce_59 (by decide) (fun c20 => ?_) (fun c20 => ?_)
                  · skip
                    refine x_iinc (lv' := [(1, .int (xJ (i1_36 + 1))), (0, .ref (h0 + 268)), (2, .int (xJ i2_58))]) hx hb hl 1 rfl dX11_mostAtOnce_123 (by decide) rfl (fun ls hl => ?_)
                    refine lv_goto (tgt := 36) hx hb dX11_mostAtOnce_126 (by decide) ?_
                    exact ih36 (i1_36 + 1) s_58 H locs ls (by omega) hF_58 q58_0 q58_1 q58_2 q58_3 q58_4 (by omega) (by omega) (by omega) hW (lv_sub hl [1, 0] rfl)
                  refine x_iconst hx hb dX11_mostAtOnce_62 ?_
                  refine lv_istore_n (lv' := [(3, .int (xJ 0)), (0, .ref (h0 + 268)), (1, .int (xJ i1_36)), (2, .int (xJ i2_58))]) hx hb dX11_mostAtOnce_63 rfl hl (by decide) rfl (fun ls hl => ?_)
                  have L64 : ∀ (fu : Nat) (i3_64 : Int) (s_64 : xS) (H : Heap) (locs : List Loc) (ls : Array Slot), (xR i3_64) → (xFr (fun k => k = 293 ∨ k = 294 ∨ k = 296 ∨ k = 300 ∨ k = 301) s0 s_64) → (s_64 268 8 = s0 268 8) → (s_64 268 58 = s0 268 58) → (IMn s_64) → (IMk s_64) → (IMo s_64) → (0 ≤ i3_64) → (i3_64 ≤ 10) → (10 + 1 - i3_64).toNat < fu → xW D g h0 s H locs s_64 → lv_has ls 4 [(0, .ref (h0 + 268)), (1, .int (xJ i1_36)), (2, .int (xJ i2_58)), (3, .int (xJ i3_64))] → W p l e { frames := 5, cells := 0, slots := 0, locals := 118 } s m args below meth c H locs 0 0 Q (F0 m 64 ls []) := by
                    intro fu
                    induction fu with
                    | zero => intro i3_64 s_64 H locs ls ri3_64 hF_64 q64_0 q64_1 q64_2 q64_3 q64_4 v64_0 v64_1 hm; exact absurd hm (Nat.not_lt_zero _)
                    | succ fu ih64 =>
                      intro i3_64 s_64 H locs ls ri3_64 hF_64 q64_0 q64_1 q64_2 q64_3 q64_4 v64_0 v64_1 hm hW hl
                      refine x_iload_n hx hb hl 3 rfl dX11_mostAtOnce_64 rfl ?_
                      refine x_bipush hx hb dX11_mostAtOnce_65 (by decide) ?_
                      refine x_icmp_ge (tgt := 117) hx hb ri3_64 (by decide) dX11_mostAtOnce_67 (by decide) (fun c21 => ?_) (fun c21 => ?_)
                      · skip
                        refine x_iinc (lv' := [(2, .int (xJ (i2_58 + (-1)))), (0, .ref (h0 + 268)), (1, .int (xJ i1_36)), (3, .int (xJ i3_64))]) hx hb hl 2 rfl dX11_mostAtOnce_117 (by decide) rfl (fun ls hl => ?_)
                        refine lv_goto (tgt := 58) hx hb dX11_mostAtOnce_120 (by decide) ?_
                        exact ih58 (i2_58 + (-1)) s_64 H locs ls (by omega) hF_64 q64_0 q64_1 q64_2 q64_3 q64_4 (by omega) (by omega) hW (lv_sub hl [1, 2, 0] rfl)
                      refine x_aload_n hx hb hl 0 rfl dX11_mostAtOnce_70 rfl ?_
                      refine x_get (j := 50) (v := .ref (h0 + 300)) hx hb hown hT hE hW cls_X11 (Or.inl (by decide)) (so_268 h0 g _) (by decide) rfl wq1235 dX11_mostAtOnce_71 ?_
                      refine x_iload_n hx hb hl 2 rfl dX11_mostAtOnce_74 rfl ?_
                      refine x_zald hx hb hE hW (Or.inl (by decide)) (sa_300 h0 g _) (by omega) (by decide) dX11_mostAtOnce_75 ?_
                      refine x_rd hW (fun x22 ex22 rx22 => ?_)
                      refine x_if_eq (tgt := 117) hx hb rx22 dX11_mostAtOnce_76 (by decide) (fun c23 => ?_) (fun c23 => ?_)
                      · skip
                        refine x_iinc (lv' := [(2, .int (xJ (i2_58 + (-1)))), (0, .ref (h0 + 268)), (1, .int (xJ i1_36)), (3, .int (xJ i3_64))]) hx hb hl 2 rfl dX11_mostAtOnce_117 (by decide) rfl (fun ls hl => ?_)
                        refine lv_goto (tgt := 58) hx hb dX11_mostAtOnce_120 (by decide) ?_
                        exact ih58 (i2_58 + (-1)) s_64 H locs ls (by omega) hF_64 q64_0 q64_1 q64_2 q64_3 q64_4 (by omega) (by omega) hW (lv_sub hl [1, 2, 0] rfl)
                      refine x_iload_n hx hb hl 2 rfl dX11_mostAtOnce_79 rfl ?_
                      refine x_iload_n hx hb hl 3 rfl dX11_mostAtOnce_80 rfl ?_
                      refine x_goi (x_runS (As := [.int (xJ i2_58), .int (xJ i3_64)]) hx hb hml hown hT hE hW hl.1 cf_X11_has wq1415 wq1414 (c_X11_has l D g T h0 s_64 hW.2.1 i2_58 ri2_58 i3_64 ri3_64) ⟨rfl, rfl, ⟨by decide, by decide⟩, ⟨by decide, by decide⟩⟩ rfl rfl (Nat.le_of_ble_eq_true rfl) dX11_mostAtOnce_81) hW (fun x24 s25 H locs rx24 hp26 hW => ?_)
                      obtain ⟨es25, hp26⟩ := hp26
                      subst es25
                      have ghp26 := hp26
                      refine x_if_ne (tgt := 111) hx hb rx24 dX11_mostAtOnce_84 (by decide) (fun c27 => ?_) (fun c27 => ?_)
                      · skip
                        refine x_iinc (lv' := [(3, .int (xJ (i3_64 + 1))), (0, .ref (h0 + 268)), (1, .int (xJ i1_36)), (2, .int (xJ i2_58))]) hx hb hl 3 rfl dX11_mostAtOnce_111 (by decide) rfl (fun ls hl => ?_)
                        refine lv_goto (tgt := 64) hx hb dX11_mostAtOnce_114 (by decide) ?_
                        exact ih64 (i3_64 + 1) s_64 H locs ls (by omega) hF_64 q64_0 q64_1 q64_2 q64_3 q64_4 (by omega) (by omega) (by omega) hW (lv_sub hl [1, 2, 3, 0] rfl)
                      refine x_aload_n hx hb hl 0 rfl dX11_mostAtOnce_87 rfl ?_
                      refine x_get (j := 51) (v := .ref (h0 + 301)) hx hb hown hT hE hW cls_X11 (Or.inl (by decide)) (so_268 h0 g _) (by decide) rfl wq1236 dX11_mostAtOnce_88 ?_
                      refine x_iload_n hx hb hl 1 rfl dX11_mostAtOnce_91 rfl ?_
                      refine x_iald hx hb hE hW (Or.inl (by decide)) (sa_301 h0 g _) (by omega) (by decide) dX11_mostAtOnce_92 ?_
                      refine x_rd hW (fun x28 ex28 rx28 => ?_)
                      refine x_iload_n hx hb hl 3 rfl dX11_mostAtOnce_93 rfl ?_
                      refine x_goi (x_runS (As := [.int (xJ x28), .int (xJ i3_64)]) hx hb hml hown hT hE hW hl.1 cf_X11_has wq1415 wq1414 (c_X11_has l D g T h0 s_64 hW.2.1 x28 rx28 i3_64 ri3_64) ⟨rfl, rfl, ⟨by decide, by decide⟩, ⟨by decide, by decide⟩⟩ rfl rfl (Nat.le_of_ble_eq_true rfl) dX11_mostAtOnce_94) hW (fun x29 s30 H locs rx29 hp31 hW => ?_)
                      obtain ⟨es30, hp31⟩ := hp31
                      subst es30
                      have ghp31 := hp31
                      refine x_if_eq (tgt := 111) hx hb rx29 dX11_mostAtOnce_97 (by decide) (fun c32 => ?_) (fun c32 => ?_)
                      · skip
                        refine x_iinc (lv' := [(3, .int (xJ (i3_64 + 1))), (0, .ref (h0 + 268)), (1, .int (xJ i1_36)), (2, .int (xJ i2_58))]) hx hb hl 3 rfl dX11_mostAtOnce_111 (by decide) rfl (fun ls hl => ?_)
                        refine lv_goto (tgt := 64) hx hb dX11_mostAtOnce_114 (by decide) ?_
                        exact ih64 (i3_64 + 1) s_64 H locs ls (by omega) hF_64 q64_0 q64_1 q64_2 q64_3 q64_4 (by omega) (by omega) (by omega) hW (lv_sub hl [1, 2, 3, 0] rfl)
                      refine x_aload_n hx hb hl 0 rfl dX11_mostAtOnce_100 rfl ?_
                      refine x_get (j := 50) (v := .ref (h0 + 300)) hx hb hown hT hE hW cls_X11 (Or.inl (by decide)) (so_268 h0 g _) (by decide) rfl wq1235 dX11_mostAtOnce_101 ?_
                      refine x_iload_n hx hb hl 2 rfl dX11_mostAtOnce_104 rfl ?_
                      refine x_iconst hx hb dX11_mostAtOnce_105 ?_
                      refine x_iload_n hx hb hl 3 rfl dX11_mostAtOnce_106 rfl ?_
                      refine x_shl1 hx hb (by omega) dX11_mostAtOnce_107 (fun x33 ex33 bx33 => ?_)
                      refine x_ior10 hx hb (by omega) (by rw [ex33]; exact p2_lt (by omega)) dX11_mostAtOnce_108 (fun x34 bx34 => ?_)
                      refine x_iconst hx hb dX11_mostAtOnce_109 ?_
                      refine x_zast hx hb hE hW (by decide) (fun σ => sa_300 h0 g σ) (by omega) (by decide) (by omega) dX11_mostAtOnce_110 (fun H locs s35 es35 hW => ?_)
                      have q36 : s35 268 8 = s0 268 8 := (show s35 268 8 = s_64 268 8 from by rw [es35, xU_k _ _ _ (by omega)]).trans q64_0
                      have q37 : s35 268 58 = s0 268 58 := (show s35 268 58 = s_64 268 58 from by rw [es35, xU_k _ _ _ (by omega)]).trans q64_1
                      have q38 : IMn s35 := by rw [es35]; exact IMn_o (by unfold suIMn; omega) q64_2
                      have q39 : IMk s35 := by rw [es35]; exact IMk_o (by unfold suIMk; omega) q64_3
                      have q40 : IMo s35 := by rw [es35]; exact IMo_o (by unfold suIMo; omega) q64_4
                      have hF41 := hF_64.put es35 (by omega)
                      refine x_iinc (lv' := [(3, .int (xJ (i3_64 + 1))), (0, .ref (h0 + 268)), (1, .int (xJ i1_36)), (2, .int (xJ i2_58))]) hx hb hl 3 rfl dX11_mostAtOnce_111 (by decide) rfl (fun ls hl => ?_)
                      refine lv_goto (tgt := 64) hx hb dX11_mostAtOnce_114 (by decide) ?_
                      exact ih64 (i3_64 + 1) s35 H locs ls (by omega) hF41 q36 q37 q38 q39 q40 (by omega) (by omega) (by omega) hW (lv_sub hl [1, 2, 3, 0] rfl)
                  exact L64 ((10 + 1 - 0 : Int).toNat + 1) 0 s_58 H locs ls (by decide) hF_58 q58_0 q58_1 q58_2 q58_3 q58_4 (by omega) (by omega) (Nat.lt_succ_self _) hW (lv_sub hl [1, 2, 3, 0] rfl)
              exact L58 ((1023 + 1 : Int).toNat + 1) 1023 s_36 H locs ls (by decide) hF_36 q36_0 q36_1 q36_2 q36_3 q36_4 (by omega) (Nat.lt_succ_self _) hW (lv_sub hl [1, 2, 0] rfl)
            refine lv_goto (tgt := 123) hx hb dX11_mostAtOnce_51 (by decide) ?_
            refine x_iinc (lv' := [(1, .int (xJ (i1_36 + 1))), (0, .ref (h0 + 268))]) hx hb hl 1 rfl dX11_mostAtOnce_123 (by decide) rfl (fun ls hl => ?_)
            refine lv_goto (tgt := 36) hx hb dX11_mostAtOnce_126 (by decide) ?_
            exact ih36 (i1_36 + 1) s_36 H locs ls (by omega) hF_36 q36_0 q36_1 q36_2 q36_3 q36_4 (by omega) (by omega) (by omega) hW (lv_sub hl [1, 0] rfl)
        exact L36 ((100 + 1 - 0 : Int).toNat + 1) 0 s_6 H locs ls (by decide) hF_6 q6_0 q6_1 q6_2 q6_3 q6_4 (by omega) (by omega) (Nat.lt_succ_self _) hW (lv_sub hl [1, 0] rfl)
      refine x_aload_n hx hb hl 0 rfl dX11_mostAtOnce_13 rfl ?_
      refine x_get (j := 50) (v := .ref (h0 + 300)) hx hb hown hT hE hW cls_X11 (Or.inl (by decide)) (so_268 h0 g _) (by decide) rfl wq1235 dX11_mostAtOnce_14 ?_
      refine x_iload_n hx hb hl 1 rfl dX11_mostAtOnce_17 rfl ?_
      refine x_iload_n hx hb hl 1 rfl dX11_mostAtOnce_18 rfl ?_
      refine x_if_ne (tgt := 26) hx hb ri1_6 dX11_mostAtOnce_19 (by decide) (fun c42 => ?_) (fun c42 => ?_)
      · skip
        refine x_iconst hx hb dX11_mostAtOnce_26 ?_
        refine x_zast hx hb hE hW (by decide) (fun σ => sa_300 h0 g σ) (by omega) (by decide) (by omega) dX11_mostAtOnce_27 (fun H locs s43 es43 hW => ?_)
        have q44 : s43 268 8 = s0 268 8 := (show s43 268 8 = s_6 268 8 from by rw [es43, xU_k _ _ _ (by omega)]).trans q6_0
        have q45 : s43 268 58 = s0 268 58 := (show s43 268 58 = s_6 268 58 from by rw [es43, xU_k _ _ _ (by omega)]).trans q6_1
        have q46 : IMn s43 := by rw [es43]; exact IMn_o (by unfold suIMn; omega) q6_2
        have q47 : IMk s43 := by rw [es43]; exact IMk_o (by unfold suIMk; omega) q6_3
        have q48 : IMo s43 := by rw [es43]; exact IMo_o (by unfold suIMo; omega) q6_4
        have hF49 := hF_6.put es43 (by omega)
        refine x_iinc (lv' := [(1, .int (xJ (i1_6 + 1))), (0, .ref (h0 + 268))]) hx hb hl 1 rfl dX11_mostAtOnce_28 (by decide) rfl (fun ls hl => ?_)
        refine lv_goto (tgt := 6) hx hb dX11_mostAtOnce_31 (by decide) ?_
        exact ih6 (i1_6 + 1) s43 H locs ls (by omega) hF49 q44 q45 q46 q47 q48 (by omega) (by omega) (by omega) hW (lv_sub hl [1, 0] rfl)
      refine x_iconst hx hb dX11_mostAtOnce_22 ?_
      refine lv_goto (tgt := 27) hx hb dX11_mostAtOnce_23 (by decide) ?_
      refine x_zast hx hb hE hW (by decide) (fun σ => sa_300 h0 g σ) (by omega) (by decide) (by omega) dX11_mostAtOnce_27 (fun H locs s50 es50 hW => ?_)
      have q51 : s50 268 8 = s0 268 8 := (show s50 268 8 = s_6 268 8 from by rw [es50, xU_k _ _ _ (by omega)]).trans q6_0
      have q52 : s50 268 58 = s0 268 58 := (show s50 268 58 = s_6 268 58 from by rw [es50, xU_k _ _ _ (by omega)]).trans q6_1
      have q53 : IMn s50 := by rw [es50]; exact IMn_o (by unfold suIMn; omega) q6_2
      have q54 : IMk s50 := by rw [es50]; exact IMk_o (by unfold suIMk; omega) q6_3
      have q55 : IMo s50 := by rw [es50]; exact IMo_o (by unfold suIMo; omega) q6_4
      have hF56 := hF_6.put es50 (by omega)
      refine x_iinc (lv' := [(1, .int (xJ (i1_6 + 1))), (0, .ref (h0 + 268))]) hx hb hl 1 rfl dX11_mostAtOnce_28 (by decide) rfl (fun ls hl => ?_)
      refine lv_goto (tgt := 6) hx hb dX11_mostAtOnce_31 (by decide) ?_
      exact ih6 (i1_6 + 1) s50 H locs ls (by omega) hF56 q51 q52 q53 q54 q55 (by omega) (by omega) (by omega) hW (lv_sub hl [1, 0] rfl)
  exact L6 ((1024 + 1 - 0 : Int).toNat + 1) 0 s2 H locs ls (by decide) hF4 q5 q6 hp3.1.1 hp3.1.2.1 hp3.1.2.2.1 (by omega) (by omega) (Nat.lt_succ_self _) hW (lv_sub hl [1, 0] rfl)
set_option maxHeartbeats 4000000 in
set_option maxRecDepth 100000 in
theorem c_X11_atOnce (l : Launch) (D : va_G) (g : xG) (T : Nat × Nat × Nat) (h0 : Nat) (s0 : xS) (hσ : xRR s0) (x : Int) (rx : xR x) (p0 : IMn s0) (p1 : IMk s0) (p2 : IMo s0) : Met l yX11_atOnce (xws yX11_atOnce cX11_atOnce 4 (some .int)) { frames := 7, cells := 0, slots := 0, locals := 162 } (xP [.ref (h0 + 268), .int (xJ x)] D g T h0 s0) (xQi D g h0 (fun r τ => xFr (fun k => k = 293 ∨ k = 294 ∨ k = 295 ∨ k = 296 ∨ k = 300 ∨ k = 301) s0 τ ∧ (((IMn τ) ∧ (IMk τ) ∧ (IMo τ) ∧ True) ∧ (True)))) 0 0 (xA h0) := by
  refine x_met hσ (by decide) (Nat.le_of_ble_eq_true rfl) ?_
  intro p e s m args below meth c hx hb hr hml hown hT hlk hnm hE hW ls hl
  have hl : lv_has ls 4 [(0, .ref (h0 + 268)), (1, .int (xJ x))] := hl
  obtain ⟨Q, eQ⟩ : ∃ Q, Q = MQ below (xQi D g h0 (fun r τ => xFr (fun k => k = 293 ∨ k = 294 ∨ k = 295 ∨ k = 296 ∨ k = 300 ∨ k = 301) s0 τ ∧ (((IMn τ) ∧ (IMk τ) ∧ (IMo τ) ∧ True) ∧ (True)))) args s 0 0 (xA h0) := ⟨_, rfl⟩
  rw [← eQ]
  generalize hHe : ([] : List Loc) = locs at hW ⊢
  obtain ⟨H, eH⟩ : ∃ H, H = s.heap := ⟨_, rfl⟩
  rw [← eH] at hW ⊢
  have hF : xFr (fun k => k = 293 ∨ k = 294 ∨ k = 295 ∨ k = 296 ∨ k = 300 ∨ k = 301) s0 s0 := xFr.rf
  have k268_8 : s0 268 8 = s0 268 8 := rfl
  have k268_58 : s0 268 58 = s0 268 58 := rfl
  refine x_iload_n hx hb hl 1 rfl dX11_atOnce_0 rfl ?_
  refine x_iconst hx hb dX11_atOnce_1 ?_
  refine x_iconst hx hb dX11_atOnce_2 ?_
  refine x_goi (x_runS (As := [.int (xJ x), .int (xJ 0), .int (xJ 2)]) hx hb hml hown hT hE hW hl.1 cf_X11_in wq1383 wq1382 (c_X11_in l D g T h0 s0 hW.2.1 x rx 0 (by decide) 2 (by decide)) ⟨rfl, rfl, ⟨by decide, by decide⟩, ⟨by decide, by decide⟩⟩ rfl rfl (Nat.le_of_ble_eq_true rfl) dX11_atOnce_3) hW (fun x1 s2 H locs rx1 hp3 hW => ?_)
  obtain ⟨es2, hp3⟩ := hp3
  subst es2
  have ghp3 := hp3
  refine x_if_ne (tgt := 11) hx hb rx1 dX11_atOnce_6 (by decide) (fun c4 => ?_) (fun c4 => ?_)
  · skip
    refine x_aload_n hx hb hl 0 rfl dX11_atOnce_11 rfl ?_
    refine x_aload_n hx hb hl 0 rfl dX11_atOnce_12 rfl ?_
    refine x_get (j := 0) (v := .ref (h0 + 269)) hx hb hown hT hE hW cls_X11 (Or.inl (by decide)) (so_268 h0 g _) (by decide) rfl wq1185 dX11_atOnce_13 ?_
    refine x_bipush hx hb dX11_atOnce_16 (by decide) ?_
    refine x_iald hx hb hE hW (Or.inl (by decide)) (sa_269 h0 g _) ⟨by decide, by decide⟩ (by decide) dX11_atOnce_18 ?_
    refine x_rd hW (fun x5 ex5 rx5 => ?_)
    have bx5 : 0 ≤ x5 ∧ x5 ≤ 9999 := by rw [ex5]; exact (IMn.n1 p0).2.2.2.1
    refine x_iconst hx hb dX11_atOnce_19 ?_
    refine x_gov (x_runV (As := [.int (xJ x5), .int (xJ 0)]) hx hb hml hown hT hE hW hl.1 (Or.inl (by decide)) (so_268 h0 g _) rfl cf_X11_laysShades wq1588 wq139 wq1586 (c_X11_laysShades l D g T h0 s0 hW.2.1 x5 rx5 0 (by decide) p0 p1 p2) ⟨rfl, rfl, ⟨by decide, by decide⟩, ⟨by decide, by decide⟩⟩ rfl rfl (Nat.le_of_ble_eq_true rfl) dX11_atOnce_20) hW (fun s7 H locs hp8 hW => ?_)
    obtain ⟨fs7, hp8⟩ := hp8
    have hF9 := hF.call fs7 (fun k h => by omega)
    have q10 : s7 268 8 = s0 268 8 := (congrFun (fs7 _ (by omega)) _).trans k268_8
    have q11 : s7 268 58 = s0 268 58 := (congrFun (fs7 _ (by omega)) _).trans k268_58
    have ghp8 := hp8.2
    refine x_iload_n hx hb hl 1 rfl dX11_atOnce_23 rfl ?_
    refine x_if_ne (tgt := 32) hx hb rx dX11_atOnce_24 (by decide) (fun c12 => ?_) (fun c12 => ?_)
    · skip
      refine x_iconst hx hb dX11_atOnce_32 ?_
      refine lv_istore_n (lv' := [(2, .int (xJ 0)), (0, .ref (h0 + 268)), (1, .int (xJ x))]) hx hb dX11_atOnce_33 rfl hl (by decide) rfl (fun ls hl => ?_)
      refine x_iconst hx hb dX11_atOnce_34 ?_
      refine lv_istore_n (lv' := [(3, .int (xJ 0)), (2, .int (xJ 0)), (0, .ref (h0 + 268)), (1, .int (xJ x))]) hx hb dX11_atOnce_35 rfl hl (by decide) rfl (fun ls hl => ?_)
      have L36 : ∀ (fu : Nat) (i2_36 : Int) (i3_36 : Int) (ls : Array Slot), (xR i2_36) → (xR i3_36) → (0 ≤ i3_36) → (i3_36 ≤ 100) → (0 ≤ i2_36 ∧ i2_36 ≤ i3_36) → (100 + 1 - i3_36).toNat < fu → lv_has ls 4 [(0, .ref (h0 + 268)), (1, .int (xJ x)), (2, .int (xJ i2_36)), (3, .int (xJ i3_36))] → W p l e { frames := 7, cells := 0, slots := 0, locals := 162 } s m args below meth c H locs 0 0 Q (F0 m 36 ls []) := by
        intro fu
        induction fu with
        | zero => intro i2_36 i3_36 ls ri2_36 ri3_36 v36_0 v36_1 v36_2 hm; exact absurd hm (Nat.not_lt_zero _)
        | succ fu ih36 =>
          intro i2_36 i3_36 ls ri2_36 ri3_36 v36_0 v36_1 v36_2 hm  hl
          refine x_iload_n hx hb hl 3 rfl dX11_atOnce_36 rfl ?_
          refine x_bipush hx hb dX11_atOnce_37 (by decide) ?_
          refine x_icmp_ge (tgt := 66) hx hb ri3_36 (by decide) dX11_atOnce_39 (by decide) (fun c13 => ?_) (fun c13 => ?_)
          · skip
            refine x_iload_n hx hb hl 2 rfl dX11_atOnce_66 rfl ?_
            rw [eQ]
            exact x_iret hx hb hr hlk hW ri2_36 ⟨hF9, ⟨hp8.1.1, hp8.1.2.1, hp8.1.2.2.1, trivial⟩, trivial⟩ dX11_atOnce_67
          refine x_iload_n hx hb hl 2 rfl dX11_atOnce_42 rfl ?_
          refine x_aload_n hx hb hl 0 rfl dX11_atOnce_43 rfl ?_
          refine x_get (j := 40) (v := .ref (h0 + 295)) hx hb hown hT hE hW cls_X11 (Or.inl (by decide)) (so_268 h0 g _) (by decide) rfl wq1225 dX11_atOnce_44 ?_
          refine x_iload_n hx hb hl 3 rfl dX11_atOnce_47 rfl ?_
          refine x_iald hx hb hE hW (Or.inl (by decide)) (sa_295 h0 g _) (by omega) (by decide) dX11_atOnce_48 ?_
          refine x_rd hW (fun x14 ex14 rx14 => ?_)
          refine x_iload_n hx hb hl 1 rfl dX11_atOnce_49 rfl ?_
          refine x_icmp_lt (tgt := 57) hx hb rx14 rx dX11_atOnce_50 (by decide) (fun c15 => ?_) (fun c15 => ?_)
          · skip
            refine x_iconst hx hb dX11_atOnce_57 ?_
            refine x_iadd hx hb dX11_atOnce_58 ?_
            refine x_nm (fun x16 ex16 => ?_)
            refine lv_istore_n (lv' := [(2, .int (xJ x16)), (0, .ref (h0 + 268)), (1, .int (xJ x)), (3, .int (xJ i3_36))]) hx hb dX11_atOnce_59 rfl hl (by decide) rfl (fun ls hl => ?_)
            refine x_iinc (lv' := [(3, .int (xJ (i3_36 + 1))), (2, .int (xJ x16)), (0, .ref (h0 + 268)), (1, .int (xJ x))]) hx hb hl 3 rfl dX11_atOnce_60 (by decide) rfl (fun ls hl => ?_)
            refine lv_goto (tgt := 36) hx hb dX11_atOnce_63 (by decide) ?_
            exact ih36 x16 (i3_36 + 1) ls (by omega) (by omega) (by omega) (by omega) (by omega) (by omega)  (lv_sub hl [2, 3, 1, 0] rfl)
          refine x_iconst hx hb dX11_atOnce_53 ?_
          refine lv_goto (tgt := 58) hx hb dX11_atOnce_54 (by decide) ?_
          refine x_iadd hx hb dX11_atOnce_58 ?_
          refine x_nm (fun x17 ex17 => ?_)
          refine lv_istore_n (lv' := [(2, .int (xJ x17)), (0, .ref (h0 + 268)), (1, .int (xJ x)), (3, .int (xJ i3_36))]) hx hb dX11_atOnce_59 rfl hl (by decide) rfl (fun ls hl => ?_)
          refine x_iinc (lv' := [(3, .int (xJ (i3_36 + 1))), (2, .int (xJ x17)), (0, .ref (h0 + 268)), (1, .int (xJ x))]) hx hb hl 3 rfl dX11_atOnce_60 (by decide) rfl (fun ls hl => ?_)
          refine lv_goto (tgt := 36) hx hb dX11_atOnce_63 (by decide) ?_
          exact ih36 x17 (i3_36 + 1) ls (by omega) (by omega) (by omega) (by omega) (by omega) (by omega)  (lv_sub hl [2, 3, 1, 0] rfl)
      exact L36 ((100 + 1 - 0 : Int).toNat + 1) 0 0 ls (by decide) (by decide) (by omega) (by omega) (by omega) (Nat.lt_succ_self _)  (lv_sub hl [2, 3, 1, 0] rfl)
    refine x_aload_n hx hb hl 0 rfl dX11_atOnce_27 rfl ?_
    refine x_goi (x_runV (As := []) hx hb hml hown hT hE hW hl.1 (Or.inl (by decide)) (so_268 h0 g _) rfl cf_X11_mostAtOnce wq1670 wq153 wq1668 (c_X11_mostAtOnce l D g T h0 s7 hW.2.1 hp8.1.1 hp8.1.2.1 hp8.1.2.2.1) ⟨rfl, rfl, ⟨by decide, by decide⟩, ⟨by decide, by decide⟩⟩ rfl rfl (Nat.le_of_ble_eq_true rfl) dX11_atOnce_28) hW (fun x18 s19 H locs rx18 hp20 hW => ?_)
    obtain ⟨fs19, hp20⟩ := hp20
    have hF21 := hF9.call fs19 (fun k h => by omega)
    have q22 : s19 268 8 = s0 268 8 := (congrFun (fs19 _ (by omega)) _).trans q10
    have q23 : s19 268 58 = s0 268 58 := (congrFun (fs19 _ (by omega)) _).trans q11
    have ghp20 := hp20.2
    rw [eQ]
    exact x_iret hx hb hr hlk hW rx18 ⟨hF21, ⟨hp20.1.1, hp20.1.2.1, hp20.1.2.2.1, trivial⟩, trivial⟩ dX11_atOnce_31
  refine x_iconst hx hb dX11_atOnce_9 ?_
  rw [eQ]
  exact x_iret hx hb hr hlk hW (by decide) ⟨hF, ⟨p0, p1, p2, trivial⟩, trivial⟩ dX11_atOnce_10
set_option maxHeartbeats 4000000 in
set_option maxRecDepth 100000 in
theorem c_X11_laysSteps (l : Launch) (D : va_G) (g : xG) (T : Nat × Nat × Nat) (h0 : Nat) (s0 : xS) (hσ : xRR s0) (p0 : IMn s0) (p1 : IMk s0) (p2 : IMo s0) : Met l yX11_laysSteps (xws yX11_laysSteps cX11_laysSteps 3 none) { frames := 4, cells := 0, slots := 0, locals := 93 } (xP [.ref (h0 + 268)] D g T h0 s0) (xQv D g h0 (fun τ => xFr (fun k => k = 296 ∨ k = 304) s0 τ ∧ (((IMn τ) ∧ (IMk τ) ∧ (IMo τ) ∧ True) ∧ (True)))) 0 0 (xA h0) := by
  refine x_met hσ (by decide) (Nat.le_of_ble_eq_true rfl) ?_
  intro p e s m args below meth c hx hb hr hml hown hT hlk hnm hE hW ls hl
  have hl : lv_has ls 3 [(0, .ref (h0 + 268))] := hl
  obtain ⟨Q, eQ⟩ : ∃ Q, Q = MQ below (xQv D g h0 (fun τ => xFr (fun k => k = 296 ∨ k = 304) s0 τ ∧ (((IMn τ) ∧ (IMk τ) ∧ (IMo τ) ∧ True) ∧ (True)))) args s 0 0 (xA h0) := ⟨_, rfl⟩
  rw [← eQ]
  generalize hHe : ([] : List Loc) = locs at hW ⊢
  obtain ⟨H, eH⟩ : ∃ H, H = s.heap := ⟨_, rfl⟩
  rw [← eH] at hW ⊢
  have hF : xFr (fun k => k = 296 ∨ k = 304) s0 s0 := xFr.rf
  have k268_8 : s0 268 8 = s0 268 8 := rfl
  have k268_58 : s0 268 58 = s0 268 58 := rfl
  refine x_iconst hx hb dX11_laysSteps_0 ?_
  refine lv_istore_n (lv' := [(1, .int (xJ 0)), (0, .ref (h0 + 268))]) hx hb dX11_laysSteps_1 rfl hl (by decide) rfl (fun ls hl => ?_)
  have L2 : ∀ (fu : Nat) (i1_2 : Int) (s_2 : xS) (H : Heap) (locs : List Loc) (ls : Array Slot), (xR i1_2) → (xFr (fun k => k = 296 ∨ k = 304) s0 s_2) → (IMn s_2) → (IMk s_2) → (IMo s_2) → (s_2 268 8 = s0 268 8) → (s_2 268 58 = s0 268 58) → (0 ≤ i1_2) → (i1_2 ≤ 100) → (100 + 1 - i1_2).toNat < fu → xW D g h0 s H locs s_2 → lv_has ls 3 [(0, .ref (h0 + 268)), (1, .int (xJ i1_2))] → W p l e { frames := 4, cells := 0, slots := 0, locals := 93 } s m args below meth c H locs 0 0 Q (F0 m 2 ls []) := by
    intro fu
    induction fu with
    | zero => intro i1_2 s_2 H locs ls ri1_2 hF_2 q2_0 q2_1 q2_2 q2_3 q2_4 v2_0 v2_1 hm; exact absurd hm (Nat.not_lt_zero _)
    | succ fu ih2 =>
      intro i1_2 s_2 H locs ls ri1_2 hF_2 q2_0 q2_1 q2_2 q2_3 q2_4 v2_0 v2_1 hm hW hl
      refine x_iload_n hx hb hl 1 rfl dX11_laysSteps_2 rfl ?_
      refine x_bipush hx hb dX11_laysSteps_3 (by decide) ?_
      refine x_icmp_ge (tgt := 52) hx hb ri1_2 (by decide) dX11_laysSteps_5 (by decide) (fun c1 => ?_) (fun c1 => ?_)
      · skip
        rw [eQ]
        exact x_vret hx hb hr hlk hW ⟨hF_2, ⟨q2_0, q2_1, q2_2, trivial⟩, trivial⟩ dX11_laysSteps_52
      refine x_aload_n hx hb hl 0 rfl dX11_laysSteps_8 rfl ?_
      refine x_iload_n hx hb hl 1 rfl dX11_laysSteps_9 rfl ?_
      refine x_iconst hx hb dX11_laysSteps_10 ?_
      refine x_iconst hx hb dX11_laysSteps_11 ?_
      refine x_gov (x_runV (As := [.int (xJ i1_2), .int (xJ 3), .int (xJ 1)]) hx hb hml hown hT hE hW hl.1 (Or.inl (by decide)) (so_268 h0 g _) rfl cf_X11_laysCosts wq1637 wq151 wq1635 (c_X11_laysCosts l D g T h0 s_2 hW.2.1 i1_2 ri1_2 3 (by decide) 1 (by decide) q2_0 q2_1 q2_2) ⟨rfl, rfl, ⟨by decide, by decide⟩, ⟨by decide, by decide⟩⟩ rfl rfl (Nat.le_of_ble_eq_true rfl) dX11_laysSteps_12) hW (fun s3 H locs hp4 hW => ?_)
      obtain ⟨fs3, hp4⟩ := hp4
      have hF5 := hF_2.call fs3 (fun k h => by omega)
      have q6 : s3 268 8 = s0 268 8 := (congrFun (fs3 _ (by omega)) _).trans q2_3
      have q7 : s3 268 58 = s0 268 58 := (congrFun (fs3 _ (by omega)) _).trans q2_4
      have ghp4 := hp4.2
      refine x_iconst hx hb dX11_laysSteps_15 ?_
      refine lv_istore_n (lv' := [(2, .int (xJ 0)), (0, .ref (h0 + 268)), (1, .int (xJ i1_2))]) hx hb dX11_laysSteps_16 rfl hl (by decide) rfl (fun ls hl => ?_)
      have L17 : ∀ (fu : Nat) (i2_17 : Int) (s_17 : xS) (H : Heap) (locs : List Loc) (ls : Array Slot), (xR i2_17) → (xFr (fun k => k = 296 ∨ k = 304) s0 s_17) → (s_17 268 8 = s0 268 8) → (s_17 268 58 = s0 268 58) → (IMn s_17) → (IMk s_17) → (IMo s_17) → (0 ≤ i2_17) → (i2_17 ≤ 100) → (100 + 1 - i2_17).toNat < fu → xW D g h0 s H locs s_17 → lv_has ls 3 [(0, .ref (h0 + 268)), (1, .int (xJ i1_2)), (2, .int (xJ i2_17))] → W p l e { frames := 4, cells := 0, slots := 0, locals := 93 } s m args below meth c H locs 0 0 Q (F0 m 17 ls []) := by
        intro fu
        induction fu with
        | zero => intro i2_17 s_17 H locs ls ri2_17 hF_17 q17_0 q17_1 q17_2 q17_3 q17_4 v17_0 v17_1 hm; exact absurd hm (Nat.not_lt_zero _)
        | succ fu ih17 =>
          intro i2_17 s_17 H locs ls ri2_17 hF_17 q17_0 q17_1 q17_2 q17_3 q17_4 v17_0 v17_1 hm hW hl
          refine x_iload_n hx hb hl 2 rfl dX11_laysSteps_17 rfl ?_
          refine x_bipush hx hb dX11_laysSteps_18 (by decide) ?_
          refine x_icmp_ge (tgt := 46) hx hb ri2_17 (by decide) dX11_laysSteps_20 (by decide) (fun c8 => ?_) (fun c8 => ?_)
          · skip
            refine x_iinc (lv' := [(1, .int (xJ (i1_2 + 1))), (0, .ref (h0 + 268)), (2, .int (xJ i2_17))]) hx hb hl 1 rfl dX11_laysSteps_46 (by decide) rfl (fun ls hl => ?_)
            refine lv_goto (tgt := 2) hx hb dX11_laysSteps_49 (by decide) ?_
            exact ih2 (i1_2 + 1) s_17 H locs ls (by omega) hF_17 q17_2 q17_3 q17_4 q17_0 q17_1 (by omega) (by omega) (by omega) hW (lv_sub hl [1, 0] rfl)
          refine x_aload_n hx hb hl 0 rfl dX11_laysSteps_23 rfl ?_
          refine x_get (j := 54) (v := .ref (h0 + 304)) hx hb hown hT hE hW cls_X11 (Or.inl (by decide)) (so_268 h0 g _) (by decide) rfl wq1239 dX11_laysSteps_24 ?_
          refine x_bipush hx hb dX11_laysSteps_27 (by decide) ?_
          refine x_iload_n hx hb hl 1 rfl dX11_laysSteps_29 rfl ?_
          refine x_imul hx hb dX11_laysSteps_30 ?_
          refine x_iload_n hx hb hl 2 rfl dX11_laysSteps_31 rfl ?_
          refine x_iadd hx hb dX11_laysSteps_32 ?_
          refine x_aload_n hx hb hl 0 rfl dX11_laysSteps_33 rfl ?_
          refine x_get (j := 45) (v := .ref (h0 + 296)) hx hb hown hT hE hW cls_X11 (Or.inl (by decide)) (so_268 h0 g _) (by decide) rfl wq1230 dX11_laysSteps_34 ?_
          refine x_iload_n hx hb hl 2 rfl dX11_laysSteps_37 rfl ?_
          refine x_iald hx hb hE hW (Or.inl (by decide)) (sa_296 h0 g _) (by omega) (by decide) dX11_laysSteps_38 ?_
          refine x_rd hW (fun x9 ex9 rx9 => ?_)
          refine x_iast hx hb hE hW (by decide) (fun σ => sa_304 h0 g σ) (by omega) (by decide) rx9 dX11_laysSteps_39 (fun H locs s10 es10 hW => ?_)
          have q11 : s10 268 8 = s0 268 8 := (show s10 268 8 = s_17 268 8 from by rw [es10, xU_k _ _ _ (by omega)]).trans q17_0
          have q12 : s10 268 58 = s0 268 58 := (show s10 268 58 = s_17 268 58 from by rw [es10, xU_k _ _ _ (by omega)]).trans q17_1
          have q13 : IMn s10 := by rw [es10]; exact IMn_o (by unfold suIMn; omega) q17_2
          have q14 : IMk s10 := by rw [es10]; exact IMk_o (by unfold suIMk; omega) q17_3
          have q15 : IMo s10 := by rw [es10]; exact IMo_o (by unfold suIMo; omega) q17_4
          have hF16 := hF_17.put es10 (by omega)
          refine x_iinc (lv' := [(2, .int (xJ (i2_17 + 1))), (0, .ref (h0 + 268)), (1, .int (xJ i1_2))]) hx hb hl 2 rfl dX11_laysSteps_40 (by decide) rfl (fun ls hl => ?_)
          refine lv_goto (tgt := 17) hx hb dX11_laysSteps_43 (by decide) ?_
          exact ih17 (i2_17 + 1) s10 H locs ls (by omega) hF16 q11 q12 q13 q14 q15 (by omega) (by omega) (by omega) hW (lv_sub hl [1, 2, 0] rfl)
      exact L17 ((100 + 1 - 0 : Int).toNat + 1) 0 s3 H locs ls (by decide) hF5 q6 q7 hp4.1.1 hp4.1.2.1 hp4.1.2.2.1 (by omega) (by omega) (Nat.lt_succ_self _) hW (lv_sub hl [1, 2, 0] rfl)
  exact L2 ((100 + 1 - 0 : Int).toNat + 1) 0 s0 H locs ls (by decide) hF p0 p1 p2 k268_8 k268_58 (by omega) (by omega) (Nat.lt_succ_self _) hW (lv_sub hl [1, 0] rfl)
set_option maxHeartbeats 4000000 in
set_option maxRecDepth 100000 in
theorem c_X11_goesFew (l : Launch) (D : va_G) (g : xG) (T : Nat × Nat × Nat) (h0 : Nat) (s0 : xS) (hσ : xRR s0) (n : Int) (rn : xR n) (hn : 1 ≤ n ∧ n ≤ 30) (p0 : IMn s0) (p1 : IMk s0) (p2 : IMo s0) : Met l yX11_goesFew (xws yX11_goesFew cX11_goesFew 7 none) { frames := 1, cells := 0, slots := 0, locals := 21 } (xP [.ref (h0 + 268), .int (xJ n)] D g T h0 s0) (xQv D g h0 (fun τ => xFr (fun k => k = 302 ∨ k = 303) s0 τ ∧ (((IMn τ) ∧ (IMk τ) ∧ (IMo τ) ∧ True) ∧ (True)))) 0 0 (xA h0) := by
  refine x_met hσ (by decide) (Nat.le_of_ble_eq_true rfl) ?_
  intro p e s m args below meth c hx hb hr hml hown hT hlk hnm hE hW ls hl
  have hl : lv_has ls 7 [(0, .ref (h0 + 268)), (1, .int (xJ n))] := hl
  obtain ⟨Q, eQ⟩ : ∃ Q, Q = MQ below (xQv D g h0 (fun τ => xFr (fun k => k = 302 ∨ k = 303) s0 τ ∧ (((IMn τ) ∧ (IMk τ) ∧ (IMo τ) ∧ True) ∧ (True)))) args s 0 0 (xA h0) := ⟨_, rfl⟩
  rw [← eQ]
  generalize hHe : ([] : List Loc) = locs at hW ⊢
  obtain ⟨H, eH⟩ : ∃ H, H = s.heap := ⟨_, rfl⟩
  rw [← eH] at hW ⊢
  have hF : xFr (fun k => k = 302 ∨ k = 303) s0 s0 := xFr.rf
  have k268_8 : s0 268 8 = s0 268 8 := rfl
  have k268_58 : s0 268 58 = s0 268 58 := rfl
  refine x_iconst hx hb dX11_goesFew_0 ?_
  refine lv_istore_n (lv' := [(2, .int (xJ 0)), (0, .ref (h0 + 268)), (1, .int (xJ n))]) hx hb dX11_goesFew_1 rfl hl (by decide) rfl (fun ls hl => ?_)
  have L2 : ∀ (fu : Nat) (i2_2 : Int) (s_2 : xS) (H : Heap) (locs : List Loc) (ls : Array Slot), (xR i2_2) → (xFr (fun k => k = 302 ∨ k = 303) s0 s_2) → (IMn s_2) → (IMk s_2) → (IMo s_2) → (s_2 268 8 = s0 268 8) → (s_2 268 58 = s0 268 58) → (0 ≤ i2_2) → (i2_2 ≤ 3100) → (3100 + 1 - i2_2).toNat < fu → xW D g h0 s H locs s_2 → lv_has ls 7 [(0, .ref (h0 + 268)), (1, .int (xJ n)), (2, .int (xJ i2_2))] → W p l e { frames := 1, cells := 0, slots := 0, locals := 21 } s m args below meth c H locs 0 0 Q (F0 m 2 ls []) := by
    intro fu
    induction fu with
    | zero => intro i2_2 s_2 H locs ls ri2_2 hF_2 q2_0 q2_1 q2_2 q2_3 q2_4 v2_0 v2_1 hm; exact absurd hm (Nat.not_lt_zero _)
    | succ fu ih2 =>
      intro i2_2 s_2 H locs ls ri2_2 hF_2 q2_0 q2_1 q2_2 q2_3 q2_4 v2_0 v2_1 hm hW hl
      refine x_iload_n hx hb hl 2 rfl dX11_goesFew_2 rfl ?_
      refine x_sipush hx hb dX11_goesFew_3 (by decide) ?_
      refine x_icmp_ge (tgt := 24) hx hb ri2_2 (by decide) dX11_goesFew_6 (by decide) (fun c1 => ?_) (fun c1 => ?_)
      · skip
        refine x_iconst hx hb dX11_goesFew_24 ?_
        refine lv_istore_n (lv' := [(2, .int (xJ 0)), (0, .ref (h0 + 268)), (1, .int (xJ n))]) hx hb dX11_goesFew_25 rfl hl (by decide) rfl (fun ls hl => ?_)
        have L26 : ∀ (fu : Nat) (i2_26 : Int) (s_26 : xS) (H : Heap) (locs : List Loc) (ls : Array Slot), (xR i2_26) → (xFr (fun k => k = 302 ∨ k = 303) s0 s_26) → (IMn s_26) → (IMk s_26) → (IMo s_26) → (s_26 268 8 = s0 268 8) → (s_26 268 58 = s0 268 58) → (0 ≤ i2_26) → (i2_26 ≤ 100) → (100 + 1 - i2_26).toNat < fu → xW D g h0 s H locs s_26 → lv_has ls 7 [(0, .ref (h0 + 268)), (1, .int (xJ n)), (2, .int (xJ i2_26))] → W p l e { frames := 1, cells := 0, slots := 0, locals := 21 } s m args below meth c H locs 0 0 Q (F0 m 26 ls []) := by
          intro fu
          induction fu with
          | zero => intro i2_26 s_26 H locs ls ri2_26 hF_26 q26_0 q26_1 q26_2 q26_3 q26_4 v26_0 v26_1 hm; exact absurd hm (Nat.not_lt_zero _)
          | succ fu ih26 =>
            intro i2_26 s_26 H locs ls ri2_26 hF_26 q26_0 q26_1 q26_2 q26_3 q26_4 v26_0 v26_1 hm hW hl
            refine x_iload_n hx hb hl 2 rfl dX11_goesFew_26 rfl ?_
            refine x_bipush hx hb dX11_goesFew_27 (by decide) ?_
            refine x_icmp_ge (tgt := 153) hx hb ri2_26 (by decide) dX11_goesFew_29 (by decide) (fun c2 => ?_) (fun c2 => ?_)
            · skip
              refine x_iconst hx hb dX11_goesFew_153 ?_
              refine lv_istore_n (lv' := [(2, .int (xJ 0)), (0, .ref (h0 + 268)), (1, .int (xJ n))]) hx hb dX11_goesFew_154 rfl hl (by decide) rfl (fun ls hl => ?_)
              have L155 : ∀ (fu : Nat) (i2_155 : Int) (s_155 : xS) (H : Heap) (locs : List Loc) (ls : Array Slot), (xR i2_155) → (xFr (fun k => k = 302 ∨ k = 303) s0 s_155) → (IMn s_155) → (IMk s_155) → (IMo s_155) → (s_155 268 8 = s0 268 8) → (s_155 268 58 = s0 268 58) → (0 ≤ i2_155) → (i2_155 ≤ 3100) → (3100 + 1 - i2_155).toNat < fu → xW D g h0 s H locs s_155 → lv_has ls 7 [(0, .ref (h0 + 268)), (2, .int (xJ i2_155))] → W p l e { frames := 1, cells := 0, slots := 0, locals := 21 } s m args below meth c H locs 0 0 Q (F0 m 155 ls []) := by
                intro fu
                induction fu with
                | zero => intro i2_155 s_155 H locs ls ri2_155 hF_155 q155_0 q155_1 q155_2 q155_3 q155_4 v155_0 v155_1 hm; exact absurd hm (Nat.not_lt_zero _)
                | succ fu ih155 =>
                  intro i2_155 s_155 H locs ls ri2_155 hF_155 q155_0 q155_1 q155_2 q155_3 q155_4 v155_0 v155_1 hm hW hl
                  refine x_iload_n hx hb hl 1 rfl dX11_goesFew_155 rfl ?_
                  refine x_sipush hx hb dX11_goesFew_156 (by decide) ?_
                  refine x_icmp_ge (tgt := 186) hx hb ri2_155 (by decide) dX11_goesFew_159 (by decide) (fun c3 => ?_) (fun c3 => ?_)
                  · skip
                    rw [eQ]
                    exact x_vret hx hb hr hlk hW ⟨hF_155, ⟨q155_0, q155_1, q155_2, trivial⟩, trivial⟩ dX11_goesFew_186
                  refine x_aload_n hx hb hl 0 rfl dX11_goesFew_162 rfl ?_
                  refine x_get (j := 52) (v := .ref (h0 + 302)) hx hb hown hT hE hW cls_X11 (Or.inl (by decide)) (so_268 h0 g _) (by decide) rfl wq1237 dX11_goesFew_163 ?_
                  refine x_iload_n hx hb hl 1 rfl dX11_goesFew_166 rfl ?_
                  refine lv_ldcw (v := xJ 1000000000) hx hb hown (hT _ wq1622) dX11_goesFew_167 ?_
                  refine x_aload_n hx hb hl 0 rfl dX11_goesFew_170 rfl ?_
                  refine x_get (j := 53) (v := .ref (h0 + 303)) hx hb hown hT hE hW cls_X11 (Or.inl (by decide)) (so_268 h0 g _) (by decide) rfl wq1238 dX11_goesFew_171 ?_
                  refine x_iload_n hx hb hl 1 rfl dX11_goesFew_174 rfl ?_
                  refine x_iald hx hb hE hW (Or.inl (by decide)) (sa_303 h0 g _) (by omega) (by decide) dX11_goesFew_175 ?_
                  refine x_rd hW (fun x4 ex4 rx4 => ?_)
                  refine x_goi (x_runS (As := [.int (xJ 1000000000), .int (xJ x4)]) hx hb hml hown hT hE hW hl.1 cf_X11_min wq1640 wq1639 (c_X11_min l D g T h0 s_155 hW.2.1 1000000000 (by decide) x4 rx4) ⟨rfl, rfl, ⟨by decide, by decide⟩, ⟨by decide, by decide⟩⟩ rfl rfl (Nat.le_of_ble_eq_true rfl) dX11_goesFew_176) hW (fun x5 s6 H locs rx5 hp7 hW => ?_)
                  obtain ⟨es6, hp7⟩ := hp7
                  subst es6
                  have ghp7 := hp7
                  refine x_iast hx hb hE hW (by decide) (fun σ => sa_302 h0 g σ) (by omega) (by decide) rx5 dX11_goesFew_179 (fun H locs s8 es8 hW => ?_)
                  have q9 : IMn s8 := by rw [es8]; exact IMn_o (by unfold suIMn; omega) q155_0
                  have q10 : IMk s8 := by rw [es8]; exact IMk_o (by unfold suIMk; omega) q155_1
                  have q11 : IMo s8 := by rw [es8]; exact IMo_o (by unfold suIMo; omega) q155_2
                  have q12 : s8 268 8 = s0 268 8 := (show s8 268 8 = s_155 268 8 from by rw [es8, xU_k _ _ _ (by omega)]).trans q155_3
                  have q13 : s8 268 58 = s0 268 58 := (show s8 268 58 = s_155 268 58 from by rw [es8, xU_k _ _ _ (by omega)]).trans q155_4
                  have hF14 := hF_155.put es8 (by omega)
                  refine x_iinc (lv' := [(2, .int (xJ (i2_155 + 1))), (0, .ref (h0 + 268))]) hx hb hl 1 rfl dX11_goesFew_180 (by decide) rfl (fun ls hl => ?_)
                  refine lv_goto (tgt := 155) hx hb dX11_goesFew_183 (by decide) ?_
                  exact ih155 (i2_155 + 1) s8 H locs ls (by omega) hF14 q9 q10 q11 q12 q13 (by omega) (by omega) (by omega) hW (lv_sub hl [1, 0] rfl)
              exact L155 ((3100 + 1 - 0 : Int).toNat + 1) 0 s_26 H locs ls (by decide) hF_26 q26_0 q26_1 q26_2 q26_3 q26_4 (by omega) (by omega) (Nat.lt_succ_self _) hW (lv_sub hl [1, 0] rfl)
            refine x_iconst hx hb dX11_goesFew_32 ?_
            refine lv_istore_n (lv' := [(3, .int (xJ 0)), (0, .ref (h0 + 268)), (1, .int (xJ n)), (2, .int (xJ i2_26))]) hx hb dX11_goesFew_33 rfl hl (by decide) rfl (fun ls hl => ?_)
            have L34 : ∀ (fu : Nat) (i3_34 : Int) (s_34 : xS) (H : Heap) (locs : List Loc) (ls : Array Slot), (xR i3_34) → (xFr (fun k => k = 302 ∨ k = 303) s0 s_34) → (IMn s_34) → (IMk s_34) → (IMo s_34) → (s_34 268 8 = s0 268 8) → (s_34 268 58 = s0 268 58) → (0 ≤ i3_34) → (i3_34 ≤ 100) → (100 + 1 - i3_34).toNat < fu → xW D g h0 s H locs s_34 → lv_has ls 7 [(0, .ref (h0 + 268)), (1, .int (xJ n)), (2, .int (xJ i2_26)), (3, .int (xJ i3_34))] → W p l e { frames := 1, cells := 0, slots := 0, locals := 21 } s m args below meth c H locs 0 0 Q (F0 m 34 ls []) := by
              intro fu
              induction fu with
              | zero => intro i3_34 s_34 H locs ls ri3_34 hF_34 q34_0 q34_1 q34_2 q34_3 q34_4 v34_0 v34_1 hm; exact absurd hm (Nat.not_lt_zero _)
              | succ fu ih34 =>
                intro i3_34 s_34 H locs ls ri3_34 hF_34 q34_0 q34_1 q34_2 q34_3 q34_4 v34_0 v34_1 hm hW hl
                refine x_iload_n hx hb hl 3 rfl dX11_goesFew_34 rfl ?_
                refine x_bipush hx hb dX11_goesFew_35 (by decide) ?_
                refine x_icmp_ge (tgt := 147) hx hb ri3_34 (by decide) dX11_goesFew_37 (by decide) (fun c15 => ?_) (fun c15 => ?_)
                · skip
                  refine x_iinc (lv' := [(2, .int (xJ (i2_26 + 1))), (0, .ref (h0 + 268)), (1, .int (xJ n)), (3, .int (xJ i3_34))]) hx hb hl 2 rfl dX11_goesFew_147 (by decide) rfl (fun ls hl => ?_)
                  refine lv_goto (tgt := 26) hx hb dX11_goesFew_150 (by decide) ?_
                  exact ih26 (i2_26 + 1) s_34 H locs ls (by omega) hF_34 q34_0 q34_1 q34_2 q34_3 q34_4 (by omega) (by omega) (by omega) hW (lv_sub hl [1, 2, 0] rfl)
                refine x_aload_n hx hb hl 0 rfl dX11_goesFew_40 rfl ?_
                refine x_get (j := 54) (v := .ref (h0 + 304)) hx hb hown hT hE hW cls_X11 (Or.inl (by decide)) (so_268 h0 g _) (by decide) rfl wq1239 dX11_goesFew_41 ?_
                refine x_bipush hx hb dX11_goesFew_44 (by decide) ?_
                refine x_iload_n hx hb hl 2 rfl dX11_goesFew_46 rfl ?_
                refine x_imul hx hb dX11_goesFew_47 ?_
                refine x_iload_n hx hb hl 3 rfl dX11_goesFew_48 rfl ?_
                refine x_iadd hx hb dX11_goesFew_49 ?_
                refine x_iald hx hb hE hW (Or.inl (by decide)) (sa_304 h0 g _) (by omega) (by decide) dX11_goesFew_50 ?_
                refine x_rd hW (fun x16 ex16 rx16 => ?_)
                refine lv_istore (lv' := [(4, .int (xJ x16)), (0, .ref (h0 + 268)), (1, .int (xJ n)), (2, .int (xJ i2_26)), (3, .int (xJ i3_34))]) hx hb dX11_goesFew_51 hl (by decide) rfl (fun ls hl => ?_)
                refine x_iconst hx hb dX11_goesFew_53 ?_
                refine lv_istore (lv' := [(5, .int (xJ 0)), (4, .int (xJ x16)), (0, .ref (h0 + 268)), (1, .int (xJ n)), (2, .int (xJ i2_26)), (3, .int (xJ i3_34))]) hx hb dX11_goesFew_54 hl (by decide) rfl (fun ls hl => ?_)
                have L56 : ∀ (fu : Nat) (i5_56 : Int) (s_56 : xS) (H : Heap) (locs : List Loc) (ls : Array Slot), (xR i5_56) → (xFr (fun k => k = 302 ∨ k = 303) s0 s_56) → (IMn s_56) → (IMk s_56) → (IMo s_56) → (s_56 268 8 = s0 268 8) → (s_56 268 58 = s0 268 58) → (0 ≤ i5_56) → (n + 1 - i5_56).toNat < fu → xW D g h0 s H locs s_56 → lv_has ls 7 [(0, .ref (h0 + 268)), (1, .int (xJ n)), (2, .int (xJ i2_26)), (3, .int (xJ i3_34)), (4, .int (xJ x16)), (5, .int (xJ i5_56))] → W p l e { frames := 1, cells := 0, slots := 0, locals := 21 } s m args below meth c H locs 0 0 Q (F0 m 56 ls []) := by
                  intro fu
                  induction fu with
                  | zero => intro i5_56 s_56 H locs ls ri5_56 hF_56 q56_0 q56_1 q56_2 q56_3 q56_4 v56_0 hm; exact absurd hm (Nat.not_lt_zero _)
                  | succ fu ih56 =>
                    intro i5_56 s_56 H locs ls ri5_56 hF_56 q56_0 q56_1 q56_2 q56_3 q56_4 v56_0 hm hW hl
                    refine x_iload hx hb hl 5 rfl dX11_goesFew_56 ?_
                    refine x_iload_n hx hb hl 1 rfl dX11_goesFew_58 rfl ?_
                    refine x_icmp_gt (tgt := 141) hx hb ri5_56 rn dX11_goesFew_59 (by decide) (fun c17 => ?_) (fun c17 => ?_)
                    · skip
                      refine x_iinc (lv' := [(3, .int (xJ (i3_34 + 1))), (0, .ref (h0 + 268)), (1, .int (xJ n)), (2, .int (xJ i2_26)), (4, .int (xJ x16)), (5, .int (xJ i5_56))]) hx hb hl 3 rfl dX11_goesFew_141 (by decide) rfl (fun ls hl => ?_)
                      refine lv_goto (tgt := 34) hx hb dX11_goesFew_144 (by decide) ?_
                      exact ih34 (i3_34 + 1) s_56 H locs ls (by omega) hF_56 q56_0 q56_1 q56_2 q56_3 q56_4 (by omega) (by omega) (by omega) hW (lv_sub hl [1, 2, 3, 0] rfl)
                    refine x_iload hx hb hl 4 rfl dX11_goesFew_62 ?_
                    refine lv_ldcw (v := xJ 1000000000) hx hb hown (hT _ wq1622) dX11_goesFew_64 ?_
                    refine x_icmp_ge (tgt := 141) hx hb rx16 (by decide) dX11_goesFew_67 (by decide) (fun c18 => ?_) (fun c18 => ?_)
                    · skip
                      refine x_iinc (lv' := [(3, .int (xJ (i3_34 + 1))), (0, .ref (h0 + 268)), (1, .int (xJ n)), (2, .int (xJ i2_26)), (4, .int (xJ x16)), (5, .int (xJ i5_56))]) hx hb hl 3 rfl dX11_goesFew_141 (by decide) rfl (fun ls hl => ?_)
                      refine lv_goto (tgt := 34) hx hb dX11_goesFew_144 (by decide) ?_
                      exact ih34 (i3_34 + 1) s_56 H locs ls (by omega) hF_56 q56_0 q56_1 q56_2 q56_3 q56_4 (by omega) (by omega) (by omega) hW (lv_sub hl [1, 2, 3, 0] rfl)
                    refine x_iload_n hx hb hl 1 rfl dX11_goesFew_70 rfl ?_
                    refine x_iload hx hb hl 5 rfl dX11_goesFew_71 ?_
                    refine x_aload_n hx hb hl 0 rfl dX11_goesFew_73 rfl ?_
                    refine x_get (j := 40) (v := .ref (h0 + 295)) hx hb hown hT hE hW cls_X11 (Or.inl (by decide)) (so_268 h0 g _) (by decide) rfl wq1225 dX11_goesFew_74 ?_
                    refine x_iload_n hx hb hl 3 rfl dX11_goesFew_77 rfl ?_
                    refine x_iald hx hb hE hW (Or.inl (by decide)) (sa_295 h0 g _) (by omega) (by decide) dX11_goesFew_78 ?_
                    refine x_rd hW (fun x19 ex19 rx19 => ?_)
                    have J87 : ∀ (t0_87 : Int) (ls : Array Slot), (xR t0_87) → (0 ≤ t0_87 ∧ t0_87 ≤ 1) → lv_has ls 7 [(0, .ref (h0 + 268)), (1, .int (xJ n)), (2, .int (xJ i2_26)), (3, .int (xJ i3_34)), (4, .int (xJ x16)), (5, .int (xJ i5_56))] → W p l e { frames := 1, cells := 0, slots := 0, locals := 21 } s m args below meth c H locs 0 0 Q (F0 m 87 ls [.int (xJ t0_87), .int (xJ i5_56), .int (xJ n)]) := by
                      intro t0_87 ls rt0_87 v87_0  hl
                      refine x_iadd hx hb dX11_goesFew_87 ?_
                      refine x_goi (x_runS (As := [.int (xJ n), .int (xJ (i5_56 + t0_87))]) hx hb hml hown hT hE hW hl.1 cf_X11_min wq1640 wq1639 (c_X11_min l D g T h0 s_56 hW.2.1 n rn (i5_56 + t0_87) (by omega)) ⟨rfl, rfl, ⟨by decide, by decide⟩, ⟨by decide, by decide⟩⟩ rfl rfl (Nat.le_of_ble_eq_true rfl) dX11_goesFew_88) hW (fun x20 s21 H locs rx20 hp22 hW => ?_)
                      obtain ⟨es21, hp22⟩ := hp22
                      subst es21
                      have ghp22 := hp22
                      refine lv_istore (lv' := [(6, .int (xJ x20)), (0, .ref (h0 + 268)), (1, .int (xJ n)), (2, .int (xJ i2_26)), (3, .int (xJ i3_34)), (4, .int (xJ x16)), (5, .int (xJ i5_56))]) hx hb dX11_goesFew_91 hl (by decide) rfl (fun ls hl => ?_)
                      refine x_aload_n hx hb hl 1 rfl dX11_goesFew_93 rfl ?_
                      refine x_get (j := 53) (v := .ref (h0 + 303)) hx hb hown hT hE hW cls_X11 (Or.inl (by decide)) (so_268 h0 g _) (by decide) rfl wq1238 dX11_goesFew_94 ?_
                      refine x_bipush hx hb dX11_goesFew_97 (by decide) ?_
                      refine x_iload_n hx hb hl 4 rfl dX11_goesFew_99 rfl ?_
                      refine x_imul hx hb dX11_goesFew_100 ?_
                      refine x_iload hx hb hl 0 rfl dX11_goesFew_101 ?_
                      refine x_iadd hx hb dX11_goesFew_103 ?_
                      refine x_aload_n hx hb hl 1 rfl dX11_goesFew_104 rfl ?_
                      refine x_get (j := 53) (v := .ref (h0 + 303)) hx hb hown hT hE hW cls_X11 (Or.inl (by decide)) (so_268 h0 g _) (by decide) rfl wq1238 dX11_goesFew_105 ?_
                      refine x_bipush hx hb dX11_goesFew_108 (by decide) ?_
                      refine x_iload_n hx hb hl 4 rfl dX11_goesFew_110 rfl ?_
                      refine x_imul hx hb dX11_goesFew_111 ?_
                      refine x_iload hx hb hl 0 rfl dX11_goesFew_112 ?_
                      refine x_iadd hx hb dX11_goesFew_114 ?_
                      refine x_iald hx hb hE hW (Or.inl (by decide)) (sa_303 h0 g _) (by omega) (by decide) dX11_goesFew_115 ?_
                      refine x_rd hW (fun x23 ex23 rx23 => ?_)
                      refine x_aload_n hx hb hl 1 rfl dX11_goesFew_116 rfl ?_
                      refine x_get (j := 52) (v := .ref (h0 + 302)) hx hb hown hT hE hW cls_X11 (Or.inl (by decide)) (so_268 h0 g _) (by decide) rfl wq1237 dX11_goesFew_117 ?_
                      refine x_bipush hx hb dX11_goesFew_120 (by decide) ?_
                      refine x_iload_n hx hb hl 3 rfl dX11_goesFew_122 rfl ?_
                      refine x_imul hx hb dX11_goesFew_123 ?_
                      refine x_iload hx hb hl 6 rfl dX11_goesFew_124 ?_
                      refine x_iadd hx hb dX11_goesFew_126 ?_
                      refine x_iald hx hb hE hW (Or.inl (by decide)) (sa_302 h0 g _) (by omega) (by decide) dX11_goesFew_127 ?_
                      refine x_rd hW (fun x24 ex24 rx24 => ?_)
                      refine x_iload hx hb hl 5 rfl dX11_goesFew_128 ?_
                      refine x_iadd hx hb dX11_goesFew_130 ?_
                      refine x_any (fun x25 rx25 => ?_)
                      refine x_goi (x_runS (As := [.int (xJ x23), .int (xJ x25)]) hx hb hml hown hT hE hW hl.1 cf_X11_min wq1640 wq1639 (c_X11_min l D g T h0 s_56 hW.2.1 x23 rx23 x25 rx25) ⟨rfl, rfl, ⟨by decide, by decide⟩, ⟨by decide, by decide⟩⟩ rfl rfl (Nat.le_of_ble_eq_true rfl) dX11_goesFew_131) hW (fun x26 s27 H locs rx26 hp28 hW => ?_)
                      obtain ⟨es27, hp28⟩ := hp28
                      subst es27
                      have ghp28 := hp28
                      refine x_iast hx hb hE hW (by decide) (fun σ => sa_303 h0 g σ) (by omega) (by decide) rx26 dX11_goesFew_134 (fun H locs s29 es29 hW => ?_)
                      have q30 : IMn s29 := by rw [es29]; exact IMn_o (by unfold suIMn; omega) q56_0
                      have q31 : IMk s29 := by rw [es29]; exact IMk_o (by unfold suIMk; omega) q56_1
                      have q32 : IMo s29 := by rw [es29]; exact IMo_o (by unfold suIMo; omega) q56_2
                      have q33 : s29 268 8 = s0 268 8 := (show s29 268 8 = s_56 268 8 from by rw [es29, xU_k _ _ _ (by omega)]).trans q56_3
                      have q34 : s29 268 58 = s0 268 58 := (show s29 268 58 = s_56 268 58 from by rw [es29, xU_k _ _ _ (by omega)]).trans q56_4
                      have hF35 := hF_56.put es29 (by omega)
                      refine x_iinc (lv' := [(5, .int (xJ (i5_56 + 1))), (6, .int (xJ x20)), (0, .ref (h0 + 268)), (1, .int (xJ n)), (2, .int (xJ i2_26)), (3, .int (xJ i3_34)), (4, .int (xJ x16))]) hx hb hl 6 rfl dX11_goesFew_135 (by decide) rfl (fun ls hl => ?_)
                      refine lv_goto (tgt := 56) hx hb dX11_goesFew_138 (by decide) ?_
                      exact ih56 (i5_56 + 1) s29 H locs ls (by omega) hF35 q30 q31 q32 q33 q34 (by omega) (by omega) hW (lv_sub hl [2, 3, 4, 5, 6, 0] rfl)
                    refine x_if_le (tgt := 86) hx hb rx19 dX11_goesFew_79 (by decide) (fun c36 => ?_) (fun c36 => ?_)
                    · skip
                      refine x_iconst hx hb dX11_goesFew_86 ?_
                      exact J87 0 ls (by decide) (by omega)  (lv_sub hl [0, 1, 2, 3, 4, 5] rfl)
                    refine x_iconst hx hb dX11_goesFew_82 ?_
                    refine lv_goto (tgt := 87) hx hb dX11_goesFew_83 (by decide) ?_
                    exact J87 1 ls (by decide) (by omega)  (lv_sub hl [0, 1, 2, 3, 4, 5] rfl)
                exact L56 ((n + 1 - 0 : Int).toNat + 1) 0 s_34 H locs ls (by decide) hF_34 q34_0 q34_1 q34_2 q34_3 q34_4 (by omega) (Nat.lt_succ_self _) hW (lv_sub hl [2, 3, 4, 5, 1, 0] rfl)
            exact L34 ((100 + 1 - 0 : Int).toNat + 1) 0 s_26 H locs ls (by decide) hF_26 q26_0 q26_1 q26_2 q26_3 q26_4 (by omega) (by omega) (Nat.lt_succ_self _) hW (lv_sub hl [1, 2, 3, 0] rfl)
        exact L26 ((100 + 1 - 0 : Int).toNat + 1) 0 s_2 H locs ls (by decide) hF_2 q2_0 q2_1 q2_2 q2_3 q2_4 (by omega) (by omega) (Nat.lt_succ_self _) hW (lv_sub hl [1, 2, 0] rfl)
      refine x_aload_n hx hb hl 0 rfl dX11_goesFew_9 rfl ?_
      refine x_get (j := 53) (v := .ref (h0 + 303)) hx hb hown hT hE hW cls_X11 (Or.inl (by decide)) (so_268 h0 g _) (by decide) rfl wq1238 dX11_goesFew_10 ?_
      refine x_iload_n hx hb hl 2 rfl dX11_goesFew_13 rfl ?_
      refine lv_ldcw (v := xJ 1000000000) hx hb hown (hT _ wq1622) dX11_goesFew_14 ?_
      refine x_iast hx hb hE hW (by decide) (fun σ => sa_303 h0 g σ) (by omega) (by decide) (by decide) dX11_goesFew_17 (fun H locs s37 es37 hW => ?_)
      have q38 : IMn s37 := by rw [es37]; exact IMn_o (by unfold suIMn; omega) q2_0
      have q39 : IMk s37 := by rw [es37]; exact IMk_o (by unfold suIMk; omega) q2_1
      have q40 : IMo s37 := by rw [es37]; exact IMo_o (by unfold suIMo; omega) q2_2
      have q41 : s37 268 8 = s0 268 8 := (show s37 268 8 = s_2 268 8 from by rw [es37, xU_k _ _ _ (by omega)]).trans q2_3
      have q42 : s37 268 58 = s0 268 58 := (show s37 268 58 = s_2 268 58 from by rw [es37, xU_k _ _ _ (by omega)]).trans q2_4
      have hF43 := hF_2.put es37 (by omega)
      refine x_iinc (lv' := [(2, .int (xJ (i2_2 + 1))), (0, .ref (h0 + 268)), (1, .int (xJ n))]) hx hb hl 2 rfl dX11_goesFew_18 (by decide) rfl (fun ls hl => ?_)
      refine lv_goto (tgt := 2) hx hb dX11_goesFew_21 (by decide) ?_
      exact ih2 (i2_2 + 1) s37 H locs ls (by omega) hF43 q38 q39 q40 q41 q42 (by omega) (by omega) (by omega) hW (lv_sub hl [1, 2, 0] rfl)
  exact L2 ((3100 + 1 - 0 : Int).toNat + 1) 0 s0 H locs ls (by decide) hF p0 p1 p2 k268_8 k268_58 (by omega) (by omega) (Nat.lt_succ_self _) hW (lv_sub hl [1, 2, 0] rfl)
set_option maxHeartbeats 4000000 in
set_option maxRecDepth 100000 in
theorem c_X11_stepIn (l : Launch) (D : va_G) (g : xG) (T : Nat × Nat × Nat) (h0 : Nat) (s0 : xS) (hσ : xRR s0) (a : Int) (ra : xR a) (n : Int) (rn : xR n) (q : Int) (rq : xR q) (hq : 0 ≤ q) : Met l yX11_stepIn (xws yX11_stepIn cX11_stepIn 5 (some .int)) { frames := 0, cells := 0, slots := 0, locals := 0 } (xP [.int (xJ a), .int (xJ n), .int (xJ q)] D g T h0 s0) (xQi D g h0 (fun r τ => s0 = τ ∧ (True))) 0 0 (xA h0) := by
  refine x_met hσ (by decide) (Nat.le_of_ble_eq_true rfl) ?_
  intro p e s m args below meth c hx hb hr hml hown hT hlk hnm hE hW ls hl
  have hl : lv_has ls 5 [(0, .int (xJ a)), (1, .int (xJ n)), (2, .int (xJ q))] := hl
  obtain ⟨Q, eQ⟩ : ∃ Q, Q = MQ below (xQi D g h0 (fun r τ => s0 = τ ∧ (True))) args s 0 0 (xA h0) := ⟨_, rfl⟩
  rw [← eQ]
  generalize hHe : ([] : List Loc) = locs at hW ⊢
  obtain ⟨H, eH⟩ : ∃ H, H = s.heap := ⟨_, rfl⟩
  rw [← eH] at hW ⊢
  refine x_iload_n hx hb hl 0 rfl dX11_stepIn_0 rfl ?_
  refine lv_istore_n (lv' := [(3, .int (xJ a)), (0, .int (xJ a)), (1, .int (xJ n)), (2, .int (xJ q))]) hx hb dX11_stepIn_1 rfl hl (by decide) rfl (fun ls hl => ?_)
  refine x_iload_n hx hb hl 2 rfl dX11_stepIn_2 rfl ?_
  refine x_iconst hx hb dX11_stepIn_3 ?_
  refine x_isub hx hb dX11_stepIn_4 ?_
  refine x_any (fun x1 rx1 => ?_)
  refine lv_istore (lv' := [(4, .int (xJ x1)), (3, .int (xJ a)), (0, .int (xJ a)), (1, .int (xJ n)), (2, .int (xJ q))]) hx hb dX11_stepIn_5 hl (by decide) rfl (fun ls hl => ?_)
  have L7 : ∀ (fu : Nat) (i3_7 : Int) (i4_7 : Int) (ls : Array Slot), (xR i3_7) → (xR i4_7) → (i4_7 - q).toNat < fu → lv_has ls 5 [(2, .int (xJ q)), (3, .int (xJ i3_7)), (4, .int (xJ i4_7))] → W p l e { frames := 0, cells := 0, slots := 0, locals := 0 } s m args below meth c H locs 0 0 Q (F0 m 7 ls []) := by
    intro fu
    induction fu with
    | zero => intro i3_7 i4_7 ls ri3_7 ri4_7 hm; exact absurd hm (Nat.not_lt_zero _)
    | succ fu ih7 =>
      intro i3_7 i4_7 ls ri3_7 ri4_7 hm  hl
      refine x_iload hx hb hl 2 rfl dX11_stepIn_7 ?_
      refine x_iload_n hx hb hl 0 rfl dX11_stepIn_9 rfl ?_
      refine x_icmp_le (tgt := 23) hx hb ri4_7 rq dX11_stepIn_10 (by decide) (fun c2 => ?_) (fun c2 => ?_)
      · skip
        refine x_iconst hx hb dX11_stepIn_23 ?_
        refine x_iload_n hx hb hl 1 rfl dX11_stepIn_24 rfl ?_
        refine x_iconst hx hb dX11_stepIn_25 ?_
        refine x_iremQ hx hb (by decide) (by omega) dX11_stepIn_26 (fun x3 rx3 => ?_)
        refine x_imul hx hb dX11_stepIn_27 ?_
        refine x_any (fun x4 rx4 => ?_)
        rw [eQ]
        exact x_iret hx hb hr hlk hW rx4 ⟨rfl, trivial⟩ dX11_stepIn_28
      refine x_iload_n hx hb hl 1 rfl dX11_stepIn_13 rfl ?_
      refine x_iconst hx hb dX11_stepIn_14 ?_
      refine x_idivQ hx hb (by decide) (by omega) dX11_stepIn_15 (fun x5 rx5 => ?_)
      refine lv_istore_n (lv' := [(3, .int (xJ x5)), (2, .int (xJ q)), (4, .int (xJ i4_7))]) hx hb dX11_stepIn_16 rfl hl (by decide) rfl (fun ls hl => ?_)
      refine x_iinc (lv' := [(4, .int (xJ (i4_7 + (-1)))), (3, .int (xJ x5)), (2, .int (xJ q))]) hx hb hl 2 rfl dX11_stepIn_17 (by decide) rfl (fun ls hl => ?_)
      refine lv_goto (tgt := 7) hx hb dX11_stepIn_20 (by decide) ?_
      exact ih7 x5 (i4_7 + (-1)) ls rx5 (by omega) (by omega)  (lv_sub hl [2, 1, 0] rfl)
  exact L7 ((x1 - q : Int).toNat + 1) a x1 ls ra rx1 (Nat.lt_succ_self _)  (lv_sub hl [4, 1, 0] rfl)
set_option maxHeartbeats 4000000 in
set_option maxRecDepth 100000 in
theorem c_X11_isFree (l : Launch) (D : va_G) (g : xG) (T : Nat × Nat × Nat) (h0 : Nat) (s0 : xS) (hσ : xRR s0) (x : Int) (rx : xR x) (hx0 : 0 ≤ x ∧ x ≤ 99) (p0 : IMn s0) (p1 : IMk s0) (p2 : IMo s0) : Met l yX11_isFree (xws yX11_isFree cX11_isFree 3 (some .boolean)) { frames := 2, cells := 0, slots := 0, locals := 42 } (xP [.ref (h0 + 268), .int (xJ x)] D g T h0 s0) (xQi D g h0 (fun r τ => s0 = τ ∧ (r = 0 ∨ r = 1))) 0 0 (xA h0) := by
  refine x_met hσ (by decide) (Nat.le_of_ble_eq_true rfl) ?_
  intro p e s m args below meth c hx hb hr hml hown hT hlk hnm hE hW ls hl
  have hl : lv_has ls 3 [(0, .ref (h0 + 268)), (1, .int (xJ x))] := hl
  obtain ⟨Q, eQ⟩ : ∃ Q, Q = MQ below (xQi D g h0 (fun r τ => s0 = τ ∧ (r = 0 ∨ r = 1))) args s 0 0 (xA h0) := ⟨_, rfl⟩
  rw [← eQ]
  generalize hHe : ([] : List Loc) = locs at hW ⊢
  obtain ⟨H, eH⟩ : ∃ H, H = s.heap := ⟨_, rfl⟩
  rw [← eH] at hW ⊢
  have k268_8 : s0 268 8 = s0 268 8 := rfl
  have k268_58 : s0 268 58 = s0 268 58 := rfl
  refine x_aload_n hx hb hl 0 rfl dX11_isFree_0 rfl ?_
  refine x_get (j := 3) (v := .ref (h0 + 272)) hx hb hown hT hE hW cls_X11 (Or.inl (by decide)) (so_268 h0 g _) (by decide) rfl wq1188 dX11_isFree_1 ?_
  refine x_iload_n hx hb hl 1 rfl dX11_isFree_4 rfl ?_
  refine x_iald hx hb hE hW (Or.inl (by decide)) (sa_272 h0 g _) (by omega) (by decide) dX11_isFree_5 ?_
  refine x_rd hW (fun x1 ex1 rx1 => ?_)
  refine x_if_eq (tgt := 11) hx hb rx1 dX11_isFree_6 (by decide) (fun c2 => ?_) (fun c2 => ?_)
  · skip
    refine x_iconst hx hb dX11_isFree_11 ?_
    refine lv_istore_n (lv' := [(2, .int (xJ 0)), (0, .ref (h0 + 268)), (1, .int (xJ x))]) hx hb dX11_isFree_12 rfl hl (by decide) rfl (fun ls hl => ?_)
    have L13 : ∀ (fu : Nat) (i2_13 : Int) (H : Heap) (locs : List Loc) (ls : Array Slot), (xR i2_13) → (0 ≤ i2_13) → (i2_13 ≤ 2) → (2 + 1 - i2_13).toNat < fu → xW D g h0 s H locs s0 → lv_has ls 3 [(0, .ref (h0 + 268)), (1, .int (xJ x)), (2, .int (xJ i2_13))] → W p l e { frames := 2, cells := 0, slots := 0, locals := 42 } s m args below meth c H locs 0 0 Q (F0 m 13 ls []) := by
      intro fu
      induction fu with
      | zero => intro i2_13 H locs ls ri2_13 v13_0 v13_1 hm; exact absurd hm (Nat.not_lt_zero _)
      | succ fu ih13 =>
        intro i2_13 H locs ls ri2_13 v13_0 v13_1 hm hW hl
        refine x_iload_n hx hb hl 2 rfl dX11_isFree_13 rfl ?_
        refine x_iconst hx hb dX11_isFree_14 ?_
        refine x_icmp_ge (tgt := 46) hx hb ri2_13 (by decide) dX11_isFree_15 (by decide) (fun c3 => ?_) (fun c3 => ?_)
        · skip
          refine x_iconst hx hb dX11_isFree_46 ?_
          refine lv_istore_n (lv' := [(2, .int (xJ 0)), (0, .ref (h0 + 268)), (1, .int (xJ x))]) hx hb dX11_isFree_47 rfl hl (by decide) rfl (fun ls hl => ?_)
          have L48 : ∀ (fu : Nat) (i2_48 : Int) (H : Heap) (locs : List Loc) (ls : Array Slot), (xR i2_48) → (0 ≤ i2_48) → (i2_48 ≤ 10) → (10 + 1 - i2_48).toNat < fu → xW D g h0 s H locs s0 → lv_has ls 3 [(0, .ref (h0 + 268)), (1, .int (xJ x)), (2, .int (xJ i2_48))] → W p l e { frames := 2, cells := 0, slots := 0, locals := 42 } s m args below meth c H locs 0 0 Q (F0 m 48 ls []) := by
            intro fu
            induction fu with
            | zero => intro i2_48 H locs ls ri2_48 v48_0 v48_1 hm; exact absurd hm (Nat.not_lt_zero _)
            | succ fu ih48 =>
              intro i2_48 H locs ls ri2_48 v48_0 v48_1 hm hW hl
              refine x_iload_n hx hb hl 2 rfl dX11_isFree_48 rfl ?_
              refine x_bipush hx hb dX11_isFree_49 (by decide) ?_
              refine x_icmp_ge (tgt := 82) hx hb ri2_48 (by decide) dX11_isFree_51 (by decide) (fun c4 => ?_) (fun c4 => ?_)
              · skip
                refine x_iconst hx hb dX11_isFree_82 ?_
                refine lv_istore_n (lv' := [(2, .int (xJ 0)), (0, .ref (h0 + 268)), (1, .int (xJ x))]) hx hb dX11_isFree_83 rfl hl (by decide) rfl (fun ls hl => ?_)
                have L84 : ∀ (fu : Nat) (i2_84 : Int) (ls : Array Slot), (xR i2_84) → (0 ≤ i2_84) → (i2_84 ≤ 4) → (4 + 1 - i2_84).toNat < fu → lv_has ls 3 [(0, .ref (h0 + 268)), (1, .int (xJ x)), (2, .int (xJ i2_84))] → W p l e { frames := 2, cells := 0, slots := 0, locals := 42 } s m args below meth c H locs 0 0 Q (F0 m 84 ls []) := by
                  intro fu
                  induction fu with
                  | zero => intro i2_84 ls ri2_84 v84_0 v84_1 hm; exact absurd hm (Nat.not_lt_zero _)
                  | succ fu ih84 =>
                    intro i2_84 ls ri2_84 v84_0 v84_1 hm  hl
                    refine x_iload_n hx hb hl 2 rfl dX11_isFree_84 rfl ?_
                    refine x_iconst hx hb dX11_isFree_85 ?_
                    refine x_icmp_ge (tgt := 107) hx hb ri2_84 (by decide) dX11_isFree_86 (by decide) (fun c5 => ?_) (fun c5 => ?_)
                    · skip
                      refine x_iconst hx hb dX11_isFree_107 ?_
                      rw [eQ]
                      exact x_zret hx hb hr hlk hW (by omega) ⟨rfl, by omega⟩ dX11_isFree_108
                    refine x_aload_n hx hb hl 0 rfl dX11_isFree_89 rfl ?_
                    refine x_get (j := 4) (v := .ref (h0 + 273)) hx hb hown hT hE hW cls_X11 (Or.inl (by decide)) (so_268 h0 g _) (by decide) rfl wq1189 dX11_isFree_90 ?_
                    refine x_iload_n hx hb hl 2 rfl dX11_isFree_93 rfl ?_
                    refine x_iald hx hb hE hW (Or.inl (by decide)) (sa_273 h0 g _) (by omega) (by decide) dX11_isFree_94 ?_
                    refine x_rd hW (fun x6 ex6 rx6 => ?_)
                    have bx6 : -1 ≤ x6 ∧ x6 ≤ 99 := by rw [ex6]; exact IMn.l p0 _ (by omega) (by omega)
                    refine x_iload_n hx hb hl 1 rfl dX11_isFree_95 rfl ?_
                    refine x_icmp_ne (tgt := 101) hx hb rx6 rx dX11_isFree_96 (by decide) (fun c7 => ?_) (fun c7 => ?_)
                    · skip
                      refine x_iinc (lv' := [(2, .int (xJ (i2_84 + 1))), (0, .ref (h0 + 268)), (1, .int (xJ x))]) hx hb hl 2 rfl dX11_isFree_101 (by decide) rfl (fun ls hl => ?_)
                      refine lv_goto (tgt := 84) hx hb dX11_isFree_104 (by decide) ?_
                      exact ih84 (i2_84 + 1) ls (by omega) (by omega) (by omega) (by omega)  (lv_sub hl [1, 2, 0] rfl)
                    refine x_iconst hx hb dX11_isFree_99 ?_
                    rw [eQ]
                    exact x_zret hx hb hr hlk hW (by omega) ⟨rfl, by omega⟩ dX11_isFree_100
                exact L84 ((4 + 1 - 0 : Int).toNat + 1) 0 ls (by decide) (by omega) (by omega) (Nat.lt_succ_self _)  (lv_sub hl [1, 2, 0] rfl)
              refine x_aload_n hx hb hl 0 rfl dX11_isFree_54 rfl ?_
              refine x_iload_n hx hb hl 2 rfl dX11_isFree_55 rfl ?_
              refine x_goi (x_runV (As := [.int (xJ i2_48)]) hx hb hml hown hT hE hW hl.1 (Or.inl (by decide)) (so_268 h0 g _) rfl cf_X11_isFelon wq1423 wq111 wq1421 (c_X11_isFelon l D g T h0 s0 hW.2.1 i2_48 ri2_48 p0 p1 p2) ⟨rfl, rfl, ⟨by decide, by decide⟩, ⟨by decide, by decide⟩⟩ rfl rfl (Nat.le_of_ble_eq_true rfl) dX11_isFree_56) hW (fun x8 s9 H locs rx8 hp10 hW => ?_)
              obtain ⟨es9, hp10⟩ := hp10
              subst es9
              have ghp10 := hp10
              refine x_if_eq (tgt := 76) hx hb rx8 dX11_isFree_59 (by decide) (fun c11 => ?_) (fun c11 => ?_)
              · skip
                refine x_iinc (lv' := [(2, .int (xJ (i2_48 + 1))), (0, .ref (h0 + 268)), (1, .int (xJ x))]) hx hb hl 2 rfl dX11_isFree_76 (by decide) rfl (fun ls hl => ?_)
                refine lv_goto (tgt := 48) hx hb dX11_isFree_79 (by decide) ?_
                exact ih48 (i2_48 + 1) H locs ls (by omega) (by omega) (by omega) (by omega) hW (lv_sub hl [1, 2, 0] rfl)
              refine x_aload_n hx hb hl 0 rfl dX11_isFree_62 rfl ?_
              refine x_get (j := 0) (v := .ref (h0 + 269)) hx hb hown hT hE hW cls_X11 (Or.inl (by decide)) (so_268 h0 g _) (by decide) rfl wq1185 dX11_isFree_63 ?_
              refine x_iconst hx hb dX11_isFree_66 ?_
              refine x_iload_n hx hb hl 2 rfl dX11_isFree_67 rfl ?_
              refine x_iadd hx hb dX11_isFree_68 ?_
              refine x_iald hx hb hE hW (Or.inl (by decide)) (sa_269 h0 g _) (by omega) (by decide) dX11_isFree_69 ?_
              refine x_rd hW (fun x12 ex12 rx12 => ?_)
              have bx12 : 0 ≤ x12 ∧ x12 ≤ 99 := by rw [ex12]; exact (IMn.n1 p0).2.2.1 _ (by omega) (by omega)
              refine x_iload_n hx hb hl 1 rfl dX11_isFree_70 rfl ?_
              refine x_icmp_ne (tgt := 76) hx hb rx12 rx dX11_isFree_71 (by decide) (fun c13 => ?_) (fun c13 => ?_)
              · skip
                refine x_iinc (lv' := [(2, .int (xJ (i2_48 + 1))), (0, .ref (h0 + 268)), (1, .int (xJ x))]) hx hb hl 2 rfl dX11_isFree_76 (by decide) rfl (fun ls hl => ?_)
                refine lv_goto (tgt := 48) hx hb dX11_isFree_79 (by decide) ?_
                exact ih48 (i2_48 + 1) H locs ls (by omega) (by omega) (by omega) (by omega) hW (lv_sub hl [1, 2, 0] rfl)
              refine x_iconst hx hb dX11_isFree_74 ?_
              rw [eQ]
              exact x_zret hx hb hr hlk hW (by omega) ⟨rfl, by omega⟩ dX11_isFree_75
          exact L48 ((10 + 1 - 0 : Int).toNat + 1) 0 H locs ls (by decide) (by omega) (by omega) (Nat.lt_succ_self _) hW (lv_sub hl [1, 2, 0] rfl)
        refine x_aload_n hx hb hl 0 rfl dX11_isFree_18 rfl ?_
        refine x_iload_n hx hb hl 2 rfl dX11_isFree_19 rfl ?_
        refine x_goi (x_runV (As := [.int (xJ i2_13)]) hx hb hml hown hT hE hW hl.1 (Or.inl (by decide)) (so_268 h0 g _) rfl cf_X11_isJudge wq1409 wq109 wq1407 (c_X11_isJudge l D g T h0 s0 hW.2.1 i2_13 ri2_13 p0 p1 p2) ⟨rfl, rfl, ⟨by decide, by decide⟩, ⟨by decide, by decide⟩⟩ rfl rfl (Nat.le_of_ble_eq_true rfl) dX11_isFree_20) hW (fun x14 s15 H locs rx14 hp16 hW => ?_)
        obtain ⟨es15, hp16⟩ := hp16
        subst es15
        have ghp16 := hp16
        refine x_if_eq (tgt := 40) hx hb rx14 dX11_isFree_23 (by decide) (fun c17 => ?_) (fun c17 => ?_)
        · skip
          refine x_iinc (lv' := [(2, .int (xJ (i2_13 + 1))), (0, .ref (h0 + 268)), (1, .int (xJ x))]) hx hb hl 2 rfl dX11_isFree_40 (by decide) rfl (fun ls hl => ?_)
          refine lv_goto (tgt := 13) hx hb dX11_isFree_43 (by decide) ?_
          exact ih13 (i2_13 + 1) H locs ls (by omega) (by omega) (by omega) (by omega) hW (lv_sub hl [1, 2, 0] rfl)
        refine x_aload_n hx hb hl 0 rfl dX11_isFree_26 rfl ?_
        refine x_get (j := 0) (v := .ref (h0 + 269)) hx hb hown hT hE hW cls_X11 (Or.inl (by decide)) (so_268 h0 g _) (by decide) rfl wq1185 dX11_isFree_27 ?_
        refine x_iconst hx hb dX11_isFree_30 ?_
        refine x_iload_n hx hb hl 2 rfl dX11_isFree_31 rfl ?_
        refine x_iadd hx hb dX11_isFree_32 ?_
        refine x_iald hx hb hE hW (Or.inl (by decide)) (sa_269 h0 g _) (by omega) (by decide) dX11_isFree_33 ?_
        refine x_rd hW (fun x18 ex18 rx18 => ?_)
        have bx18 : 0 ≤ x18 ∧ x18 ≤ 99 := by rw [ex18]; exact (IMn.n1 p0).1 _ (by omega) (by omega)
        refine x_iload_n hx hb hl 1 rfl dX11_isFree_34 rfl ?_
        refine x_icmp_ne (tgt := 40) hx hb rx18 rx dX11_isFree_35 (by decide) (fun c19 => ?_) (fun c19 => ?_)
        · skip
          refine x_iinc (lv' := [(2, .int (xJ (i2_13 + 1))), (0, .ref (h0 + 268)), (1, .int (xJ x))]) hx hb hl 2 rfl dX11_isFree_40 (by decide) rfl (fun ls hl => ?_)
          refine lv_goto (tgt := 13) hx hb dX11_isFree_43 (by decide) ?_
          exact ih13 (i2_13 + 1) H locs ls (by omega) (by omega) (by omega) (by omega) hW (lv_sub hl [1, 2, 0] rfl)
        refine x_iconst hx hb dX11_isFree_38 ?_
        rw [eQ]
        exact x_zret hx hb hr hlk hW (by omega) ⟨rfl, by omega⟩ dX11_isFree_39
    exact L13 ((2 + 1 - 0 : Int).toNat + 1) 0 H locs ls (by decide) (by omega) (by omega) (Nat.lt_succ_self _) hW (lv_sub hl [1, 2, 0] rfl)
  refine x_iconst hx hb dX11_isFree_9 ?_
  rw [eQ]
  exact x_zret hx hb hr hlk hW (by omega) ⟨rfl, by omega⟩ dX11_isFree_10
set_option maxHeartbeats 4000000 in
set_option maxRecDepth 100000 in
theorem c_X11_hung (l : Launch) (D : va_G) (g : xG) (T : Nat × Nat × Nat) (h0 : Nat) (s0 : xS) (hσ : xRR s0) (x : Int) (rx : xR x) (p0 : IMn s0) (p1 : IMk s0) (p2 : IMo s0) : Met l yX11_hung (xws yX11_hung cX11_hung 7 (some .int)) { frames := 6, cells := 0, slots := 0, locals := 139 } (xP [.ref (h0 + 268), .int (xJ x)] D g T h0 s0) (xQi D g h0 (fun r τ => xFr (fun k => k = 295) s0 τ ∧ (((IMn τ) ∧ (IMk τ) ∧ (IMo τ) ∧ True) ∧ (True)))) 0 0 (xA h0) := by
  refine x_met hσ (by decide) (Nat.le_of_ble_eq_true rfl) ?_
  intro p e s m args below meth c hx hb hr hml hown hT hlk hnm hE hW ls hl
  have hl : lv_has ls 7 [(0, .ref (h0 + 268)), (1, .int (xJ x))] := hl
  obtain ⟨Q, eQ⟩ : ∃ Q, Q = MQ below (xQi D g h0 (fun r τ => xFr (fun k => k = 295) s0 τ ∧ (((IMn τ) ∧ (IMk τ) ∧ (IMo τ) ∧ True) ∧ (True)))) args s 0 0 (xA h0) := ⟨_, rfl⟩
  rw [← eQ]
  generalize hHe : ([] : List Loc) = locs at hW ⊢
  obtain ⟨H, eH⟩ : ∃ H, H = s.heap := ⟨_, rfl⟩
  rw [← eH] at hW ⊢
  have hF : xFr (fun k => k = 295) s0 s0 := xFr.rf
  have k268_8 : s0 268 8 = s0 268 8 := rfl
  have k268_58 : s0 268 58 = s0 268 58 := rfl
  refine x_iload_n hx hb hl 1 rfl dX11_hung_0 rfl ?_
  refine x_iconst hx hb dX11_hung_1 ?_
  refine x_iconst hx hb dX11_hung_2 ?_
  refine x_goi (x_runS (As := [.int (xJ x), .int (xJ 0), .int (xJ 1)]) hx hb hml hown hT hE hW hl.1 cf_X11_in wq1383 wq1382 (c_X11_in l D g T h0 s0 hW.2.1 x rx 0 (by decide) 1 (by decide)) ⟨rfl, rfl, ⟨by decide, by decide⟩, ⟨by decide, by decide⟩⟩ rfl rfl (Nat.le_of_ble_eq_true rfl) dX11_hung_3) hW (fun x1 s2 H locs rx1 hp3 hW => ?_)
  obtain ⟨es2, hp3⟩ := hp3
  subst es2
  have ghp3 := hp3
  refine x_if_ne (tgt := 11) hx hb rx1 dX11_hung_6 (by decide) (fun c4 => ?_) (fun c4 => ?_)
  · skip
    refine x_bipush hx hb dX11_hung_11 (by decide) ?_
    refine lv_istore_n (lv' := [(2, .int (xJ (-2))), (0, .ref (h0 + 268)), (1, .int (xJ x))]) hx hb dX11_hung_13 rfl hl (by decide) rfl (fun ls hl => ?_)
    refine x_iconst hx hb dX11_hung_14 ?_
    refine lv_istore_n (lv' := [(3, .int (xJ (-1))), (2, .int (xJ (-2))), (0, .ref (h0 + 268)), (1, .int (xJ x))]) hx hb dX11_hung_15 rfl hl (by decide) rfl (fun ls hl => ?_)
    refine x_iconst hx hb dX11_hung_16 ?_
    refine lv_istore (lv' := [(4, .int (xJ 0)), (3, .int (xJ (-1))), (2, .int (xJ (-2))), (0, .ref (h0 + 268)), (1, .int (xJ x))]) hx hb dX11_hung_17 hl (by decide) rfl (fun ls hl => ?_)
    have L19 : ∀ (fu : Nat) (i2_19 : Int) (i3_19 : Int) (i4_19 : Int) (s_19 : xS) (H : Heap) (locs : List Loc) (ls : Array Slot), (xR i2_19) → (xR i3_19) → (xR i4_19) → (xFr (fun k => k = 295) s0 s_19) → (IMn s_19) → (IMk s_19) → (IMo s_19) → (s_19 268 8 = s0 268 8) → (s_19 268 58 = s0 268 58) → (0 ≤ i4_19) → (i4_19 ≤ 100) → (100 + 1 - i4_19).toNat < fu → xW D g h0 s H locs s_19 → lv_has ls 7 [(0, .ref (h0 + 268)), (1, .int (xJ x)), (2, .int (xJ i2_19)), (3, .int (xJ i3_19)), (4, .int (xJ i4_19))] → W p l e { frames := 6, cells := 0, slots := 0, locals := 139 } s m args below meth c H locs 0 0 Q (F0 m 19 ls []) := by
      intro fu
      induction fu with
      | zero => intro i2_19 i3_19 i4_19 s_19 H locs ls ri2_19 ri3_19 ri4_19 hF_19 q19_0 q19_1 q19_2 q19_3 q19_4 v19_0 v19_1 hm; exact absurd hm (Nat.not_lt_zero _)
      | succ fu ih19 =>
        intro i2_19 i3_19 i4_19 s_19 H locs ls ri2_19 ri3_19 ri4_19 hF_19 q19_0 q19_1 q19_2 q19_3 q19_4 v19_0 v19_1 hm hW hl
        refine x_iload hx hb hl 4 rfl dX11_hung_19 ?_
        refine x_bipush hx hb dX11_hung_21 (by decide) ?_
        refine x_icmp_ge (tgt := 138) hx hb ri4_19 (by decide) dX11_hung_23 (by decide) (fun c5 => ?_) (fun c5 => ?_)
        · skip
          refine x_iload_n hx hb hl 1 rfl dX11_hung_138 rfl ?_
          refine x_if_eq (tgt := 148) hx hb rx dX11_hung_139 (by decide) (fun c6 => ?_) (fun c6 => ?_)
          · skip
            refine x_iload_n hx hb hl 2 rfl dX11_hung_148 rfl ?_
            refine lv_goto (tgt := 153) hx hb dX11_hung_149 (by decide) ?_
            rw [eQ]
            exact x_iret hx hb hr hlk hW ri2_19 ⟨hF_19, ⟨q19_0, q19_1, q19_2, trivial⟩, trivial⟩ dX11_hung_153
          refine x_iload_n hx hb hl 2 rfl dX11_hung_142 rfl ?_
          refine x_bipush hx hb dX11_hung_143 (by decide) ?_
          refine x_icmp_ne (tgt := 152) hx hb ri2_19 (by decide) dX11_hung_145 (by decide) (fun c7 => ?_) (fun c7 => ?_)
          · skip
            refine x_iload_n hx hb hl 3 rfl dX11_hung_152 rfl ?_
            rw [eQ]
            exact x_iret hx hb hr hlk hW ri3_19 ⟨hF_19, ⟨q19_0, q19_1, q19_2, trivial⟩, trivial⟩ dX11_hung_153
          refine x_iload_n hx hb hl 2 rfl dX11_hung_148 rfl ?_
          refine lv_goto (tgt := 153) hx hb dX11_hung_149 (by decide) ?_
          rw [eQ]
          exact x_iret hx hb hr hlk hW ri2_19 ⟨hF_19, ⟨q19_0, q19_1, q19_2, trivial⟩, trivial⟩ dX11_hung_153
        refine x_aload_n hx hb hl 0 rfl dX11_hung_26 rfl ?_
        refine x_iload hx hb hl 4 rfl dX11_hung_27 ?_
        refine x_goi (x_runV (As := [.int (xJ i4_19)]) hx hb hml hown hT hE hW hl.1 (Or.inl (by decide)) (so_268 h0 g _) rfl cf_X11_isFree wq1708 wq158 wq1706 (c_X11_isFree l D g T h0 s_19 hW.2.1 i4_19 ri4_19 (by omega) q19_0 q19_1 q19_2) ⟨rfl, rfl, ⟨by decide, by decide⟩, ⟨by decide, by decide⟩⟩ rfl rfl (Nat.le_of_ble_eq_true rfl) dX11_hung_29) hW (fun x8 s9 H locs rx8 hp10 hW => ?_)
        obtain ⟨es9, hp10⟩ := hp10
        subst es9
        have ghp10 := hp10
        refine x_if_ne (tgt := 38) hx hb rx8 dX11_hung_32 (by decide) (fun c11 => ?_) (fun c11 => ?_)
        · skip
          refine x_aload_n hx hb hl 0 rfl dX11_hung_38 rfl ?_
          refine x_gov (x_runV (As := []) hx hb hml hown hT hE hW hl.1 (Or.inl (by decide)) (so_268 h0 g _) rfl cf_X11_bares wq1592 wq140 wq1590 (c_X11_bares l D g T h0 s_19 hW.2.1 q19_0 q19_1 q19_2) ⟨rfl, rfl, ⟨by decide, by decide⟩, ⟨by decide, by decide⟩⟩ rfl rfl (Nat.le_of_ble_eq_true rfl) dX11_hung_39) hW (fun s13 H locs hp14 hW => ?_)
          obtain ⟨fs13, hp14⟩ := hp14
          have hF15 := hF_19.call fs13 (fun k h => by omega)
          have q16 : s13 268 8 = s0 268 8 := (congrFun (fs13 _ (by omega)) _).trans q19_3
          have q17 : s13 268 58 = s0 268 58 := (congrFun (fs13 _ (by omega)) _).trans q19_4
          have ghp14 := hp14.2
          refine x_aload_n hx hb hl 0 rfl dX11_hung_42 rfl ?_
          refine x_gov (x_runV (As := []) hx hb hml hown hT hE hW hl.1 (Or.inl (by decide)) (so_268 h0 g _) rfl cf_X11_fallsByLamps wq1608 wq144 wq1606 (c_X11_fallsByLamps l D g T h0 s13 hW.2.1 hp14.1.1 hp14.1.2.1 hp14.1.2.2.1) ⟨rfl, rfl, ⟨by decide, by decide⟩, ⟨by decide, by decide⟩⟩ rfl rfl (Nat.le_of_ble_eq_true rfl) dX11_hung_43) hW (fun s19 H locs hp20 hW => ?_)
          obtain ⟨fs19, hp20⟩ := hp20
          have hF21 := hF15.call fs19 (fun k h => by omega)
          have q22 : s19 268 8 = s0 268 8 := (congrFun (fs19 _ (by omega)) _).trans q16
          have q23 : s19 268 58 = s0 268 58 := (congrFun (fs19 _ (by omega)) _).trans q17
          have ghp20 := hp20.2
          refine x_iconst hx hb dX11_hung_46 ?_
          refine lv_istore (lv' := [(5, .int (xJ 0)), (0, .ref (h0 + 268)), (1, .int (xJ x)), (2, .int (xJ i2_19)), (3, .int (xJ i3_19)), (4, .int (xJ i4_19))]) hx hb dX11_hung_47 hl (by decide) rfl (fun ls hl => ?_)
          have L49 : ∀ (fu : Nat) (i5_49 : Int) (s_49 : xS) (H : Heap) (locs : List Loc) (ls : Array Slot), (xR i5_49) → (xFr (fun k => k = 295) s0 s_49) → (s_49 268 8 = s0 268 8) → (s_49 268 58 = s0 268 58) → (IMn s_49) → (IMk s_49) → (IMo s_49) → (0 ≤ i5_49) → (i5_49 ≤ 2) → (2 + 1 - i5_49).toNat < fu → xW D g h0 s H locs s_49 → lv_has ls 7 [(0, .ref (h0 + 268)), (1, .int (xJ x)), (2, .int (xJ i2_19)), (3, .int (xJ i3_19)), (4, .int (xJ i4_19)), (5, .int (xJ i5_49))] → W p l e { frames := 6, cells := 0, slots := 0, locals := 139 } s m args below meth c H locs 0 0 Q (F0 m 49 ls []) := by
            intro fu
            induction fu with
            | zero => intro i5_49 s_49 H locs ls ri5_49 hF_49 q49_0 q49_1 q49_2 q49_3 q49_4 v49_0 v49_1 hm; exact absurd hm (Nat.not_lt_zero _)
            | succ fu ih49 =>
              intro i5_49 s_49 H locs ls ri5_49 hF_49 q49_0 q49_1 q49_2 q49_3 q49_4 v49_0 v49_1 hm hW hl
              refine x_iload hx hb hl 5 rfl dX11_hung_49 ?_
              refine x_iconst hx hb dX11_hung_51 ?_
              refine x_icmp_ge (tgt := 78) hx hb ri5_49 (by decide) dX11_hung_52 (by decide) (fun c24 => ?_) (fun c24 => ?_)
              · skip
                refine x_iconst hx hb dX11_hung_78 ?_
                refine lv_istore (lv' := [(5, .int (xJ 0)), (0, .ref (h0 + 268)), (1, .int (xJ x)), (2, .int (xJ i2_19)), (3, .int (xJ i3_19)), (4, .int (xJ i4_19))]) hx hb dX11_hung_79 hl (by decide) rfl (fun ls hl => ?_)
                refine x_iconst hx hb dX11_hung_81 ?_
                refine lv_istore (lv' := [(6, .int (xJ 0)), (5, .int (xJ 0)), (0, .ref (h0 + 268)), (1, .int (xJ x)), (2, .int (xJ i2_19)), (3, .int (xJ i3_19)), (4, .int (xJ i4_19))]) hx hb dX11_hung_82 hl (by decide) rfl (fun ls hl => ?_)
                have L84 : ∀ (fu : Nat) (i5_84 : Int) (i6_84 : Int) (ls : Array Slot), (xR i5_84) → (xR i6_84) → (0 ≤ i6_84) → (i6_84 ≤ 100) → (0 ≤ i5_84 ∧ i5_84 ≤ i6_84) → (100 + 1 - i6_84).toNat < fu → lv_has ls 7 [(0, .ref (h0 + 268)), (1, .int (xJ x)), (2, .int (xJ i2_19)), (3, .int (xJ i3_19)), (4, .int (xJ i4_19)), (5, .int (xJ i5_84)), (6, .int (xJ i6_84))] → W p l e { frames := 6, cells := 0, slots := 0, locals := 139 } s m args below meth c H locs 0 0 Q (F0 m 84 ls []) := by
                  intro fu
                  induction fu with
                  | zero => intro i5_84 i6_84 ls ri5_84 ri6_84 v84_0 v84_1 v84_2 hm; exact absurd hm (Nat.not_lt_zero _)
                  | succ fu ih84 =>
                    intro i5_84 i6_84 ls ri5_84 ri6_84 v84_0 v84_1 v84_2 hm  hl
                    refine x_iload hx hb hl 6 rfl dX11_hung_84 ?_
                    refine x_bipush hx hb dX11_hung_86 (by decide) ?_
                    refine x_icmp_ge (tgt := 117) hx hb ri6_84 (by decide) dX11_hung_88 (by decide) (fun c25 => ?_) (fun c25 => ?_)
                    · skip
                      refine x_iload hx hb hl 5 rfl dX11_hung_117 ?_
                      refine x_iload_n hx hb hl 3 rfl dX11_hung_119 rfl ?_
                      refine x_icmp_gt (tgt := 126) hx hb ri5_84 ri3_19 dX11_hung_120 (by decide) (fun c26 => ?_) (fun c26 => ?_)
                      · skip
                        refine x_iload hx hb hl 5 rfl dX11_hung_126 ?_
                        refine lv_istore_n (lv' := [(3, .int (xJ i5_84)), (0, .ref (h0 + 268)), (1, .int (xJ x)), (2, .int (xJ i2_19)), (4, .int (xJ i4_19)), (5, .int (xJ i5_84)), (6, .int (xJ i6_84))]) hx hb dX11_hung_128 rfl hl (by decide) rfl (fun ls hl => ?_)
                        refine x_iload hx hb hl 4 rfl dX11_hung_129 ?_
                        refine lv_istore_n (lv' := [(2, .int (xJ i4_19)), (3, .int (xJ i5_84)), (0, .ref (h0 + 268)), (1, .int (xJ x)), (4, .int (xJ i4_19)), (5, .int (xJ i5_84)), (6, .int (xJ i6_84))]) hx hb dX11_hung_131 rfl hl (by decide) rfl (fun ls hl => ?_)
                        refine x_iinc (lv' := [(4, .int (xJ (i4_19 + 1))), (2, .int (xJ i4_19)), (3, .int (xJ i5_84)), (0, .ref (h0 + 268)), (1, .int (xJ x)), (5, .int (xJ i5_84)), (6, .int (xJ i6_84))]) hx hb hl 4 rfl dX11_hung_132 (by decide) rfl (fun ls hl => ?_)
                        refine lv_goto (tgt := 19) hx hb dX11_hung_135 (by decide) ?_
                        exact ih19 i4_19 i5_84 (i4_19 + 1) s_49 H locs ls ri4_19 ri5_84 (by omega) hF_49 q49_2 q49_3 q49_4 q49_0 q49_1 (by omega) (by omega) (by omega) hW (lv_sub hl [3, 4, 1, 2, 0] rfl)
                      refine lv_goto (tgt := 132) hx hb dX11_hung_123 (by decide) ?_
                      refine x_iinc (lv' := [(4, .int (xJ (i4_19 + 1))), (0, .ref (h0 + 268)), (1, .int (xJ x)), (2, .int (xJ i2_19)), (3, .int (xJ i3_19)), (5, .int (xJ i5_84)), (6, .int (xJ i6_84))]) hx hb hl 4 rfl dX11_hung_132 (by decide) rfl (fun ls hl => ?_)
                      refine lv_goto (tgt := 19) hx hb dX11_hung_135 (by decide) ?_
                      exact ih19 i2_19 i3_19 (i4_19 + 1) s_49 H locs ls ri2_19 ri3_19 (by omega) hF_49 q49_2 q49_3 q49_4 q49_0 q49_1 (by omega) (by omega) (by omega) hW (lv_sub hl [1, 2, 3, 4, 0] rfl)
                    refine x_iload hx hb hl 5 rfl dX11_hung_91 ?_
                    refine x_aload_n hx hb hl 0 rfl dX11_hung_93 rfl ?_
                    refine x_get (j := 40) (v := .ref (h0 + 295)) hx hb hown hT hE hW cls_X11 (Or.inl (by decide)) (so_268 h0 g _) (by decide) rfl wq1225 dX11_hung_94 ?_
                    refine x_iload hx hb hl 6 rfl dX11_hung_97 ?_
                    refine x_iald hx hb hE hW (Or.inl (by decide)) (sa_295 h0 g _) (by omega) (by decide) dX11_hung_99 ?_
                    refine x_rd hW (fun x27 ex27 rx27 => ?_)
                    refine x_if_le (tgt := 107) hx hb rx27 dX11_hung_100 (by decide) (fun c28 => ?_) (fun c28 => ?_)
                    · skip
                      refine x_iconst hx hb dX11_hung_107 ?_
                      refine x_iadd hx hb dX11_hung_108 ?_
                      refine x_nm (fun x29 ex29 => ?_)
                      refine lv_istore (lv' := [(5, .int (xJ x29)), (0, .ref (h0 + 268)), (1, .int (xJ x)), (2, .int (xJ i2_19)), (3, .int (xJ i3_19)), (4, .int (xJ i4_19)), (6, .int (xJ i6_84))]) hx hb dX11_hung_109 hl (by decide) rfl (fun ls hl => ?_)
                      refine x_iinc (lv' := [(6, .int (xJ (i6_84 + 1))), (5, .int (xJ x29)), (0, .ref (h0 + 268)), (1, .int (xJ x)), (2, .int (xJ i2_19)), (3, .int (xJ i3_19)), (4, .int (xJ i4_19))]) hx hb hl 6 rfl dX11_hung_111 (by decide) rfl (fun ls hl => ?_)
                      refine lv_goto (tgt := 84) hx hb dX11_hung_114 (by decide) ?_
                      exact ih84 x29 (i6_84 + 1) ls (by omega) (by omega) (by omega) (by omega) (by omega) (by omega)  (lv_sub hl [2, 3, 4, 5, 6, 1, 0] rfl)
                    refine x_iconst hx hb dX11_hung_103 ?_
                    refine lv_goto (tgt := 108) hx hb dX11_hung_104 (by decide) ?_
                    refine x_iadd hx hb dX11_hung_108 ?_
                    refine x_nm (fun x30 ex30 => ?_)
                    refine lv_istore (lv' := [(5, .int (xJ x30)), (0, .ref (h0 + 268)), (1, .int (xJ x)), (2, .int (xJ i2_19)), (3, .int (xJ i3_19)), (4, .int (xJ i4_19)), (6, .int (xJ i6_84))]) hx hb dX11_hung_109 hl (by decide) rfl (fun ls hl => ?_)
                    refine x_iinc (lv' := [(6, .int (xJ (i6_84 + 1))), (5, .int (xJ x30)), (0, .ref (h0 + 268)), (1, .int (xJ x)), (2, .int (xJ i2_19)), (3, .int (xJ i3_19)), (4, .int (xJ i4_19))]) hx hb hl 6 rfl dX11_hung_111 (by decide) rfl (fun ls hl => ?_)
                    refine lv_goto (tgt := 84) hx hb dX11_hung_114 (by decide) ?_
                    exact ih84 x30 (i6_84 + 1) ls (by omega) (by omega) (by omega) (by omega) (by omega) (by omega)  (lv_sub hl [2, 3, 4, 5, 6, 1, 0] rfl)
                exact L84 ((100 + 1 - 0 : Int).toNat + 1) 0 0 ls (by decide) (by decide) (by omega) (by omega) (by omega) (Nat.lt_succ_self _)  (lv_sub hl [2, 3, 4, 5, 6, 1, 0] rfl)
              refine x_aload_n hx hb hl 0 rfl dX11_hung_55 rfl ?_
              refine x_iload hx hb hl 5 rfl dX11_hung_56 ?_
              refine x_goi (x_runV (As := [.int (xJ i5_49)]) hx hb hml hown hT hE hW hl.1 (Or.inl (by decide)) (so_268 h0 g _) rfl cf_X11_isJudge wq1409 wq109 wq1407 (c_X11_isJudge l D g T h0 s_49 hW.2.1 i5_49 ri5_49 q49_2 q49_3 q49_4) ⟨rfl, rfl, ⟨by decide, by decide⟩, ⟨by decide, by decide⟩⟩ rfl rfl (Nat.le_of_ble_eq_true rfl) dX11_hung_58) hW (fun x31 s32 H locs rx31 hp33 hW => ?_)
              obtain ⟨es32, hp33⟩ := hp33
              subst es32
              have ghp33 := hp33
              refine x_if_eq (tgt := 72) hx hb rx31 dX11_hung_61 (by decide) (fun c34 => ?_) (fun c34 => ?_)
              · skip
                refine x_iinc (lv' := [(5, .int (xJ (i5_49 + 1))), (0, .ref (h0 + 268)), (1, .int (xJ x)), (2, .int (xJ i2_19)), (3, .int (xJ i3_19)), (4, .int (xJ i4_19))]) hx hb hl 5 rfl dX11_hung_72 (by decide) rfl (fun ls hl => ?_)
                refine lv_goto (tgt := 49) hx hb dX11_hung_75 (by decide) ?_
                exact ih49 (i5_49 + 1) s_49 H locs ls (by omega) hF_49 q49_0 q49_1 q49_2 q49_3 q49_4 (by omega) (by omega) (by omega) hW (lv_sub hl [1, 2, 3, 4, 5, 0] rfl)
              refine x_aload_n hx hb hl 0 rfl dX11_hung_64 rfl ?_
              refine x_iload hx hb hl 4 rfl dX11_hung_65 ?_
              refine x_iload hx hb hl 5 rfl dX11_hung_67 ?_
              refine x_gov (x_runV (As := [.int (xJ i4_19), .int (xJ i5_49)]) hx hb hml hown hT hE hW hl.1 (Or.inl (by decide)) (so_268 h0 g _) rfl cf_X11_fallsBehind wq1612 wq145 wq1610 (c_X11_fallsBehind l D g T h0 s_49 hW.2.1 i4_19 ri4_19 i5_49 ri5_49 (by omega) (by omega) q49_2 q49_3 q49_4) ⟨rfl, rfl, ⟨by decide, by decide⟩, ⟨by decide, by decide⟩⟩ rfl rfl (Nat.le_of_ble_eq_true rfl) dX11_hung_69) hW (fun s36 H locs hp37 hW => ?_)
              obtain ⟨fs36, hp37⟩ := hp37
              have hF38 := hF_49.call fs36 (fun k h => by omega)
              have q39 : s36 268 8 = s0 268 8 := (congrFun (fs36 _ (by omega)) _).trans q49_0
              have q40 : s36 268 58 = s0 268 58 := (congrFun (fs36 _ (by omega)) _).trans q49_1
              have ghp37 := hp37.2
              refine x_iinc (lv' := [(5, .int (xJ (i5_49 + 1))), (0, .ref (h0 + 268)), (1, .int (xJ x)), (2, .int (xJ i2_19)), (3, .int (xJ i3_19)), (4, .int (xJ i4_19))]) hx hb hl 5 rfl dX11_hung_72 (by decide) rfl (fun ls hl => ?_)
              refine lv_goto (tgt := 49) hx hb dX11_hung_75 (by decide) ?_
              exact ih49 (i5_49 + 1) s36 H locs ls (by omega) hF38 q39 q40 hp37.1.1 hp37.1.2.1 hp37.1.2.2.1 (by omega) (by omega) (by omega) hW (lv_sub hl [1, 2, 3, 4, 5, 0] rfl)
          exact L49 ((2 + 1 - 0 : Int).toNat + 1) 0 s19 H locs ls (by decide) hF21 q22 q23 hp20.1.1 hp20.1.2.1 hp20.1.2.2.1 (by omega) (by omega) (Nat.lt_succ_self _) hW (lv_sub hl [1, 2, 3, 4, 5, 0] rfl)
        refine lv_goto (tgt := 132) hx hb dX11_hung_35 (by decide) ?_
        refine x_iinc (lv' := [(4, .int (xJ (i4_19 + 1))), (0, .ref (h0 + 268)), (1, .int (xJ x)), (2, .int (xJ i2_19)), (3, .int (xJ i3_19))]) hx hb hl 4 rfl dX11_hung_132 (by decide) rfl (fun ls hl => ?_)
        refine lv_goto (tgt := 19) hx hb dX11_hung_135 (by decide) ?_
        exact ih19 i2_19 i3_19 (i4_19 + 1) s_19 H locs ls ri2_19 ri3_19 (by omega) hF_19 q19_0 q19_1 q19_2 q19_3 q19_4 (by omega) (by omega) (by omega) hW (lv_sub hl [1, 2, 3, 4, 0] rfl)
    exact L19 ((100 + 1 - 0 : Int).toNat + 1) (-2) (-1) 0 s0 H locs ls (by decide) (by decide) (by decide) hF p0 p1 p2 k268_8 k268_58 (by omega) (by omega) (Nat.lt_succ_self _) hW (lv_sub hl [3, 4, 2, 1, 0] rfl)
  refine x_iconst hx hb dX11_hung_9 ?_
  rw [eQ]
  exact x_iret hx hb hr hlk hW (by decide) ⟨hF, ⟨p0, p1, p2, trivial⟩, trivial⟩ dX11_hung_10
set_option maxHeartbeats 4000000 in
set_option maxRecDepth 100000 in
theorem c_X11_count (l : Launch) (D : va_G) (g : xG) (T : Nat × Nat × Nat) (h0 : Nat) (s0 : xS) (hσ : xRR s0) (x : Int) (rx : xR x) (p0 : IMn s0) (p1 : IMk s0) (p2 : IMo s0) : Met l yX11_count (xws yX11_count cX11_count 2 (some .int)) { frames := 3, cells := 0, slots := 0, locals := 71 } (xP [.ref (h0 + 268), .int (xJ x)] D g T h0 s0) (xQi D g h0 (fun r τ => xFr (fun k => k = 293 ∨ k = 294) s0 τ ∧ (((IMn τ) ∧ (IMk τ) ∧ (IMo τ) ∧ True) ∧ (True)))) 0 0 (xA h0) := by
  refine x_met hσ (by decide) (Nat.le_of_ble_eq_true rfl) ?_
  intro p e s m args below meth c hx hb hr hml hown hT hlk hnm hE hW ls hl
  have hl : lv_has ls 2 [(0, .ref (h0 + 268)), (1, .int (xJ x))] := hl
  obtain ⟨Q, eQ⟩ : ∃ Q, Q = MQ below (xQi D g h0 (fun r τ => xFr (fun k => k = 293 ∨ k = 294) s0 τ ∧ (((IMn τ) ∧ (IMk τ) ∧ (IMo τ) ∧ True) ∧ (True)))) args s 0 0 (xA h0) := ⟨_, rfl⟩
  rw [← eQ]
  generalize hHe : ([] : List Loc) = locs at hW ⊢
  obtain ⟨H, eH⟩ : ∃ H, H = s.heap := ⟨_, rfl⟩
  rw [← eH] at hW ⊢
  have hF : xFr (fun k => k = 293 ∨ k = 294) s0 s0 := xFr.rf
  have k268_8 : s0 268 8 = s0 268 8 := rfl
  have k268_58 : s0 268 58 = s0 268 58 := rfl
  refine x_iload_n hx hb hl 1 rfl dX11_count_0 rfl ?_
  rcases (show (x < 0 ∨ 8 < x) ∨ x = 0 ∨ x = 1 ∨ x = 2 ∨ x = 3 ∨ x = 4 ∨ x = 5 ∨ x = 6 ∨ x = 7 ∨ x = 8 from by omega) with c1 | c1 | c1 | c1 | c1 | c1 | c1 | c1 | c1 | c1
  · refine x_tabOut (tgt := 124) hx hb rx dX11_count_1 c1 (by decide) ?_
    refine x_iload_n hx hb hl 1 rfl dX11_count_124 rfl ?_
    refine x_bipush hx hb dX11_count_125 (by decide) ?_
    refine x_bipush hx hb dX11_count_127 (by decide) ?_
    refine x_goi (x_runS (As := [.int (xJ x), .int (xJ 10), .int (xJ 11)]) hx hb hml hown hT hE hW hl.1 cf_X11_in wq1383 wq1382 (c_X11_in l D g T h0 s0 hW.2.1 x rx 10 (by decide) 11 (by decide)) ⟨rfl, rfl, ⟨by decide, by decide⟩, ⟨by decide, by decide⟩⟩ rfl rfl (Nat.le_of_ble_eq_true rfl) dX11_count_129) hW (fun x2 s3 H locs rx2 hp4 hW => ?_)
    obtain ⟨es3, hp4⟩ := hp4
    subst es3
    have ghp4 := hp4
    have J158 : ∀ (H : Heap) (locs : List Loc) (ls : Array Slot), xW D g h0 s H locs s0 → lv_has ls 2 [(0, .ref (h0 + 268)), (1, .int (xJ x))] → W p l e { frames := 3, cells := 0, slots := 0, locals := 71 } s m args below meth c H locs 0 0 Q (F0 m 158 ls []) := by
      intro H locs ls  hW hl
      refine x_iload_n hx hb hl 1 rfl dX11_count_158 rfl ?_
      refine x_bipush hx hb dX11_count_159 (by decide) ?_
      refine x_bipush hx hb dX11_count_161 (by decide) ?_
      refine x_goi (x_runS (As := [.int (xJ x), .int (xJ 20), .int (xJ 21)]) hx hb hml hown hT hE hW hl.1 cf_X11_in wq1383 wq1382 (c_X11_in l D g T h0 s0 hW.2.1 x rx 20 (by decide) 21 (by decide)) ⟨rfl, rfl, ⟨by decide, by decide⟩, ⟨by decide, by decide⟩⟩ rfl rfl (Nat.le_of_ble_eq_true rfl) dX11_count_163) hW (fun x5 s6 H locs rx5 hp7 hW => ?_)
      obtain ⟨es6, hp7⟩ := hp7
      subst es6
      have ghp7 := hp7
      refine x_if_eq (tgt := 191) hx hb rx5 dX11_count_166 (by decide) (fun c8 => ?_) (fun c8 => ?_)
      · skip
        refine x_iload_n hx hb hl 1 rfl dX11_count_191 rfl ?_
        refine x_bipush hx hb dX11_count_192 (by decide) ?_
        refine x_bipush hx hb dX11_count_194 (by decide) ?_
        refine x_goi (x_runS (As := [.int (xJ x), .int (xJ 30), .int (xJ 33)]) hx hb hml hown hT hE hW hl.1 cf_X11_in wq1383 wq1382 (c_X11_in l D g T h0 s0 hW.2.1 x rx 30 (by decide) 33 (by decide)) ⟨rfl, rfl, ⟨by decide, by decide⟩, ⟨by decide, by decide⟩⟩ rfl rfl (Nat.le_of_ble_eq_true rfl) dX11_count_196) hW (fun x9 s10 H locs rx9 hp11 hW => ?_)
        obtain ⟨es10, hp11⟩ := hp11
        subst es10
        have ghp11 := hp11
        refine x_if_eq (tgt := 212) hx hb rx9 dX11_count_199 (by decide) (fun c12 => ?_) (fun c12 => ?_)
        · skip
          refine x_iload_n hx hb hl 1 rfl dX11_count_212 rfl ?_
          refine x_bipush hx hb dX11_count_213 (by decide) ?_
          refine x_sipush hx hb dX11_count_215 (by decide) ?_
          refine x_goi (x_runS (As := [.int (xJ x), .int (xJ 100), .int (xJ 199)]) hx hb hml hown hT hE hW hl.1 cf_X11_in wq1383 wq1382 (c_X11_in l D g T h0 s0 hW.2.1 x rx 100 (by decide) 199 (by decide)) ⟨rfl, rfl, ⟨by decide, by decide⟩, ⟨by decide, by decide⟩⟩ rfl rfl (Nat.le_of_ble_eq_true rfl) dX11_count_218) hW (fun x13 s14 H locs rx13 hp15 hW => ?_)
          obtain ⟨es14, hp15⟩ := hp15
          subst es14
          have ghp15 := hp15
          refine x_if_eq (tgt := 236) hx hb rx13 dX11_count_221 (by decide) (fun c16 => ?_) (fun c16 => ?_)
          · skip
            refine x_iconst hx hb dX11_count_236 ?_
            rw [eQ]
            exact x_iret hx hb hr hlk hW (by decide) ⟨hF, ⟨p0, p1, p2, trivial⟩, trivial⟩ dX11_count_237
          refine x_aload_n hx hb hl 0 rfl dX11_count_224 rfl ?_
          refine x_get (j := 3) (v := .ref (h0 + 272)) hx hb hown hT hE hW cls_X11 (Or.inl (by decide)) (so_268 h0 g _) (by decide) rfl wq1188 dX11_count_225 ?_
          refine x_iload_n hx hb hl 1 rfl dX11_count_228 rfl ?_
          refine x_bipush hx hb dX11_count_229 (by decide) ?_
          refine x_isub hx hb dX11_count_231 ?_
          refine x_iald hx hb hE hW (Or.inl (by decide)) (sa_272 h0 g _) (by omega) (by decide) dX11_count_232 ?_
          refine x_rd hW (fun x17 ex17 rx17 => ?_)
          refine lv_goto (tgt := 237) hx hb dX11_count_233 (by decide) ?_
          rw [eQ]
          exact x_iret hx hb hr hlk hW rx17 ⟨hF, ⟨p0, p1, p2, trivial⟩, trivial⟩ dX11_count_237
        refine x_aload_n hx hb hl 0 rfl dX11_count_202 rfl ?_
        refine x_get (j := 4) (v := .ref (h0 + 273)) hx hb hown hT hE hW cls_X11 (Or.inl (by decide)) (so_268 h0 g _) (by decide) rfl wq1189 dX11_count_203 ?_
        refine x_iload_n hx hb hl 1 rfl dX11_count_206 rfl ?_
        refine x_bipush hx hb dX11_count_207 (by decide) ?_
        refine x_isub hx hb dX11_count_209 ?_
        refine x_iald hx hb hE hW (Or.inl (by decide)) (sa_273 h0 g _) (by omega) (by decide) dX11_count_210 ?_
        refine x_rd hW (fun x18 ex18 rx18 => ?_)
        have bx18 : -1 ≤ x18 ∧ x18 ≤ 99 := by rw [ex18]; exact IMn.l p0 _ (by omega) (by omega)
        rw [eQ]
        exact x_iret hx hb hr hlk hW rx18 ⟨hF, ⟨p0, p1, p2, trivial⟩, trivial⟩ dX11_count_211
      refine x_aload_n hx hb hl 0 rfl dX11_count_169 rfl ?_
      refine x_get (j := 5) (v := .ref (h0 + 274)) hx hb hown hT hE hW cls_X11 (Or.inl (by decide)) (so_268 h0 g _) (by decide) rfl wq1190 dX11_count_170 ?_
      refine x_iload_n hx hb hl 1 rfl dX11_count_173 rfl ?_
      refine x_bipush hx hb dX11_count_174 (by decide) ?_
      refine x_isub hx hb dX11_count_176 ?_
      refine x_iald hx hb hE hW (Or.inl (by decide)) (sa_274 h0 g _) (by omega) (by decide) dX11_count_177 ?_
      refine x_rd hW (fun x19 ex19 rx19 => ?_)
      have bx19 : 0 ≤ x19 ∧ x19 ≤ 60 := by rw [ex19]; exact IMn.w p0 _ (by omega) (by omega)
      refine x_aload_n hx hb hl 0 rfl dX11_count_178 rfl ?_
      refine x_get (j := 0) (v := .ref (h0 + 269)) hx hb hown hT hE hW cls_X11 (Or.inl (by decide)) (so_268 h0 g _) (by decide) rfl wq1185 dX11_count_179 ?_
      refine x_iconst hx hb dX11_count_182 ?_
      refine x_iload_n hx hb hl 1 rfl dX11_count_183 rfl ?_
      refine x_iadd hx hb dX11_count_184 ?_
      refine x_bipush hx hb dX11_count_185 (by decide) ?_
      refine x_isub hx hb dX11_count_187 ?_
      refine x_iald hx hb hE hW (Or.inl (by decide)) (sa_269 h0 g _) (by omega) (by decide) dX11_count_188 ?_
      refine x_rd hW (fun x20 ex20 rx20 => ?_)
      have bx20 : 0 ≤ x20 := by rw [ex20]; exact (IMn.n1 p0).2.1 _ (by omega) (by omega)
      refine x_isub hx hb dX11_count_189 ?_
      rw [eQ]
      exact x_iret hx hb hr hlk hW (by omega) ⟨hF, ⟨p0, p1, p2, trivial⟩, trivial⟩ dX11_count_190
    refine x_if_eq (tgt := 158) hx hb rx2 dX11_count_132 (by decide) (fun c21 => ?_) (fun c21 => ?_)
    · skip
      exact J158 H locs ls  hW (lv_sub hl [0, 1] rfl)
    refine x_aload_n hx hb hl 0 rfl dX11_count_135 rfl ?_
    refine x_iload_n hx hb hl 1 rfl dX11_count_136 rfl ?_
    refine x_bipush hx hb dX11_count_137 (by decide) ?_
    refine x_isub hx hb dX11_count_139 ?_
    refine x_goi (x_runV (As := [.int (xJ (x - 10))]) hx hb hml hown hT hE hW hl.1 (Or.inl (by decide)) (so_268 h0 g _) rfl cf_X11_isJudge wq1409 wq109 wq1407 (c_X11_isJudge l D g T h0 s0 hW.2.1 (x - 10) (by omega) p0 p1 p2) ⟨rfl, rfl, ⟨by decide, by decide⟩, ⟨by decide, by decide⟩⟩ rfl rfl (Nat.le_of_ble_eq_true rfl) dX11_count_140) hW (fun x22 s23 H locs rx22 hp24 hW => ?_)
    obtain ⟨es23, hp24⟩ := hp24
    subst es23
    have ghp24 := hp24
    refine x_if_eq (tgt := 158) hx hb rx22 dX11_count_143 (by decide) (fun c25 => ?_) (fun c25 => ?_)
    · skip
      exact J158 H locs ls  hW (lv_sub hl [0, 1] rfl)
    refine x_aload_n hx hb hl 0 rfl dX11_count_146 rfl ?_
    refine x_get (j := 0) (v := .ref (h0 + 269)) hx hb hown hT hE hW cls_X11 (Or.inl (by decide)) (so_268 h0 g _) (by decide) rfl wq1185 dX11_count_147 ?_
    refine x_iconst hx hb dX11_count_150 ?_
    refine x_iload_n hx hb hl 1 rfl dX11_count_151 rfl ?_
    refine x_iadd hx hb dX11_count_152 ?_
    refine x_bipush hx hb dX11_count_153 (by decide) ?_
    refine x_isub hx hb dX11_count_155 ?_
    refine x_iald hx hb hE hW (Or.inl (by decide)) (sa_269 h0 g _) (by omega) (by decide) dX11_count_156 ?_
    refine x_rd hW (fun x26 ex26 rx26 => ?_)
    have bx26 : 0 ≤ x26 ∧ x26 ≤ 99 := by rw [ex26]; exact (IMn.n1 p0).1 _ (by omega) (by omega)
    rw [eQ]
    exact x_iret hx hb hr hlk hW rx26 ⟨hF, ⟨p0, p1, p2, trivial⟩, trivial⟩ dX11_count_157
  · refine x_tabIn (v := 0) (tgt := 52) hx hb rx c1 dX11_count_1 (by decide) rfl (by decide) ?_
    refine x_aload_n hx hb hl 0 rfl dX11_count_52 rfl ?_
    refine x_get (j := 0) (v := .ref (h0 + 269)) hx hb hown hT hE hW cls_X11 (Or.inl (by decide)) (so_268 h0 g _) (by decide) rfl wq1185 dX11_count_53 ?_
    refine x_bipush hx hb dX11_count_56 (by decide) ?_
    refine x_iald hx hb hE hW (Or.inl (by decide)) (sa_269 h0 g _) ⟨by decide, by decide⟩ (by decide) dX11_count_58 ?_
    refine x_rd hW (fun x27 ex27 rx27 => ?_)
    have bx27 : 0 ≤ x27 ∧ x27 ≤ 9999 := by rw [ex27]; exact (IMn.n1 p0).2.2.2.1
    rw [eQ]
    exact x_iret hx hb hr hlk hW rx27 ⟨hF, ⟨p0, p1, p2, trivial⟩, trivial⟩ dX11_count_59
  · refine x_tabIn (v := 1) (tgt := 60) hx hb rx c1 dX11_count_1 (by decide) rfl (by decide) ?_
    refine x_aload_n hx hb hl 0 rfl dX11_count_60 rfl ?_
    refine x_get (j := 0) (v := .ref (h0 + 269)) hx hb hown hT hE hW cls_X11 (Or.inl (by decide)) (so_268 h0 g _) (by decide) rfl wq1185 dX11_count_61 ?_
    refine x_bipush hx hb dX11_count_64 (by decide) ?_
    refine x_iald hx hb hE hW (Or.inl (by decide)) (sa_269 h0 g _) ⟨by decide, by decide⟩ (by decide) dX11_count_66 ?_
    refine x_rd hW (fun x28 ex28 rx28 => ?_)
    rw [eQ]
    exact x_iret hx hb hr hlk hW rx28 ⟨hF, ⟨p0, p1, p2, trivial⟩, trivial⟩ dX11_count_67
  · refine x_tabIn (v := 2) (tgt := 68) hx hb rx c1 dX11_count_1 (by decide) rfl (by decide) ?_
    refine x_aload_n hx hb hl 0 rfl dX11_count_68 rfl ?_
    refine x_get (j := 0) (v := .ref (h0 + 269)) hx hb hown hT hE hW cls_X11 (Or.inl (by decide)) (so_268 h0 g _) (by decide) rfl wq1185 dX11_count_69 ?_
    refine x_bipush hx hb dX11_count_72 (by decide) ?_
    refine x_iald hx hb hE hW (Or.inl (by decide)) (sa_269 h0 g _) ⟨by decide, by decide⟩ (by decide) dX11_count_74 ?_
    refine x_rd hW (fun x29 ex29 rx29 => ?_)
    rw [eQ]
    exact x_iret hx hb hr hlk hW rx29 ⟨hF, ⟨p0, p1, p2, trivial⟩, trivial⟩ dX11_count_75
  · refine x_tabIn (v := 3) (tgt := 76) hx hb rx c1 dX11_count_1 (by decide) rfl (by decide) ?_
    refine x_aload_n hx hb hl 0 rfl dX11_count_76 rfl ?_
    refine x_goi (x_runV (As := []) hx hb hml hown hT hE hW hl.1 (Or.inl (by decide)) (so_268 h0 g _) rfl cf_X11_lampSet wq1784 wq165 wq1782 (c_X11_lampSet l D g T h0 s0 hW.2.1 p0 p1 p2) ⟨rfl, rfl, ⟨by decide, by decide⟩, ⟨by decide, by decide⟩⟩ rfl rfl (Nat.le_of_ble_eq_true rfl) dX11_count_77) hW (fun x30 s31 H locs rx30 hp32 hW => ?_)
    obtain ⟨es31, hp32⟩ := hp32
    subst es31
    have ghp32 := hp32
    rw [eQ]
    exact x_iret hx hb hr hlk hW rx30 ⟨hF, ⟨p0, p1, p2, trivial⟩, trivial⟩ dX11_count_80
  · refine x_tabIn (v := 4) (tgt := 81) hx hb rx c1 dX11_count_1 (by decide) rfl (by decide) ?_
    refine x_aload_n hx hb hl 0 rfl dX11_count_81 rfl ?_
    refine x_goi (x_runV (As := []) hx hb hml hown hT hE hW hl.1 (Or.inl (by decide)) (so_268 h0 g _) rfl cf_X11_owedAll wq1788 wq166 wq1786 (c_X11_owedAll l D g T h0 s0 hW.2.1 p0 p1 p2) ⟨rfl, rfl, ⟨by decide, by decide⟩, ⟨by decide, by decide⟩⟩ rfl rfl (Nat.le_of_ble_eq_true rfl) dX11_count_82) hW (fun x33 s34 H locs rx33 hp35 hW => ?_)
    obtain ⟨es34, hp35⟩ := hp35
    subst es34
    have ghp35 := hp35
    rw [eQ]
    exact x_iret hx hb hr hlk hW rx33 ⟨hF, ⟨p0, p1, p2, trivial⟩, trivial⟩ dX11_count_85
  · refine x_tabIn (v := 5) (tgt := 86) hx hb rx c1 dX11_count_1 (by decide) rfl (by decide) ?_
    refine x_aload_n hx hb hl 0 rfl dX11_count_86 rfl ?_
    refine x_get (j := 17) (v := .int (xJ (s0 268 17))) hx hb hown hT hE hW cls_X11 (Or.inl (by decide)) (so_268 h0 g _) (by decide) rfl wq1202 dX11_count_87 ?_
    refine x_rd hW (fun x36 ex36 rx36 => ?_)
    have bx36 : 0 ≤ x36 ∧ x36 ≤ 16 := by rw [ex36]; exact IMk.c p1
    rw [eQ]
    exact x_iret hx hb hr hlk hW rx36 ⟨hF, ⟨p0, p1, p2, trivial⟩, trivial⟩ dX11_count_90
  · refine x_tabIn (v := 6) (tgt := 91) hx hb rx c1 dX11_count_1 (by decide) rfl (by decide) ?_
    refine x_aload_n hx hb hl 0 rfl dX11_count_91 rfl ?_
    refine x_get (j := 8) (v := .int (xJ (s0 268 8))) hx hb hown hT hE hW cls_X11 (Or.inl (by decide)) (so_268 h0 g _) (by decide) rfl wq1193 dX11_count_92 ?_
    refine x_rd hW (fun x37 ex37 rx37 => ?_)
    have bx37 : 0 ≤ x37 ∧ x37 ≤ 260 := by rw [ex37]; exact IMn.t p0
    have fx37 : x37 = s0 268 8 := ex37.trans k268_8
    rw [eQ]
    exact x_iret hx hb hr hlk hW rx37 ⟨hF, ⟨p0, p1, p2, trivial⟩, trivial⟩ dX11_count_95
  · refine x_tabIn (v := 7) (tgt := 96) hx hb rx c1 dX11_count_1 (by decide) rfl (by decide) ?_
    refine x_aload_n hx hb hl 0 rfl dX11_count_96 rfl ?_
    refine x_get (j := 0) (v := .ref (h0 + 269)) hx hb hown hT hE hW cls_X11 (Or.inl (by decide)) (so_268 h0 g _) (by decide) rfl wq1185 dX11_count_97 ?_
    refine x_bipush hx hb dX11_count_100 (by decide) ?_
    refine x_iald hx hb hE hW (Or.inl (by decide)) (sa_269 h0 g _) ⟨by decide, by decide⟩ (by decide) dX11_count_102 ?_
    refine x_rd hW (fun x38 ex38 rx38 => ?_)
    have bx38 : 0 ≤ x38 ∧ x38 ≤ 65535 := by rw [ex38]; exact (IMn.n1 p0).2.2.2.2
    rw [eQ]
    exact x_iret hx hb hr hlk hW rx38 ⟨hF, ⟨p0, p1, p2, trivial⟩, trivial⟩ dX11_count_103
  · refine x_tabIn (v := 8) (tgt := 104) hx hb rx c1 dX11_count_1 (by decide) rfl (by decide) ?_
    refine x_aload_n hx hb hl 0 rfl dX11_count_104 rfl ?_
    refine x_aload_n hx hb hl 0 rfl dX11_count_105 rfl ?_
    refine x_get (j := 0) (v := .ref (h0 + 269)) hx hb hown hT hE hW cls_X11 (Or.inl (by decide)) (so_268 h0 g _) (by decide) rfl wq1185 dX11_count_106 ?_
    refine x_bipush hx hb dX11_count_109 (by decide) ?_
    refine x_iald hx hb hE hW (Or.inl (by decide)) (sa_269 h0 g _) ⟨by decide, by decide⟩ (by decide) dX11_count_111 ?_
    refine x_rd hW (fun x39 ex39 rx39 => ?_)
    have bx39 : 0 ≤ x39 ∧ x39 ≤ 9999 := by rw [ex39]; exact (IMn.n1 p0).2.2.2.1
    refine x_goi (x_runV (As := [.int (xJ x39)]) hx hb hml hown hT hE hW hl.1 (Or.inl (by decide)) (so_268 h0 g _) rfl cf_X11_isNight wq1604 wq143 wq1602 (c_X11_isNight l D g T h0 s0 hW.2.1 x39 rx39 p0 p1 p2) ⟨rfl, rfl, ⟨by decide, by decide⟩, ⟨by decide, by decide⟩⟩ rfl rfl (Nat.le_of_ble_eq_true rfl) dX11_count_112) hW (fun x40 s41 H locs rx40 hp42 hW => ?_)
    obtain ⟨fs41, hp42⟩ := hp42
    have hF43 := hF.call fs41 (fun k h => by omega)
    have q44 : s41 268 8 = s0 268 8 := (congrFun (fs41 _ (by omega)) _).trans k268_8
    have q45 : s41 268 58 = s0 268 58 := (congrFun (fs41 _ (by omega)) _).trans k268_58
    have ghp42 := hp42.2
    refine x_if_eq (tgt := 122) hx hb rx40 dX11_count_115 (by decide) (fun c46 => ?_) (fun c46 => ?_)
    · skip
      refine x_iconst hx hb dX11_count_122 ?_
      rw [eQ]
      exact x_iret hx hb hr hlk hW (by decide) ⟨hF43, ⟨hp42.1.1, hp42.1.2.1, hp42.1.2.2.1, trivial⟩, trivial⟩ dX11_count_123
    refine x_iconst hx hb dX11_count_118 ?_
    refine lv_goto (tgt := 123) hx hb dX11_count_119 (by decide) ?_
    rw [eQ]
    exact x_iret hx hb hr hlk hW (by decide) ⟨hF43, ⟨hp42.1.1, hp42.1.2.1, hp42.1.2.2.1, trivial⟩, trivial⟩ dX11_count_123

theorem cf_X11_areSpots : xCF yX11_areSpots cX11_areSpots 3 (some .boolean) 1 := ⟨xq 1733 (by decide +kernel) rfl, xq 179 (by decide +kernel) rfl, by decide +kernel⟩
theorem cf_X11_binds : xCF yX11_binds cX11_binds 7 none 3 := ⟨xq 1749 (by decide +kernel) rfl, xq 179 (by decide +kernel) rfl, by decide +kernel⟩
theorem cf_X11_failsAt : xCF yX11_failsAt cX11_failsAt 3 (some .int) 1 := ⟨xq 1737 (by decide +kernel) rfl, xq 179 (by decide +kernel) rfl, by decide +kernel⟩
theorem cf_X11_tapeNumber : xCF yX11_tapeNumber cX11_tapeNumber 4 (some .int) 1 := ⟨xq 1777 (by decide +kernel) rfl, xq 179 (by decide +kernel) rfl, by decide +kernel⟩
theorem wq161 : Cond.selects yX11_areSpots.cls yX11_areSpots yX11_areSpots ∈ xTB := xq 161 (by decide +kernel) rfl
theorem wq162 : Cond.selects yX11_failsAt.cls yX11_failsAt yX11_failsAt ∈ xTB := xq 162 (by decide +kernel) rfl
theorem wq163 : Cond.selects yX11_binds.cls yX11_binds yX11_binds ∈ xTB := xq 163 (by decide +kernel) rfl
theorem wq164 : Cond.selects yX11_tapeNumber.cls yX11_tapeNumber yX11_tapeNumber ∈ xTB := xq 164 (by decide +kernel) rfl
theorem wq1241 : Cond.fieldLink "ShadowCourtModel" (123) "ShadowCourtModel" "groupOf" "[I" ∈ xTB := xq 1241 (by decide +kernel) rfl
theorem wq1242 : Cond.fieldLink "ShadowCourtModel" (126) "ShadowCourtModel" "longOf" "[I" ∈ xTB := xq 1242 (by decide +kernel) rfl
theorem wq1730 : Cond.methodLink "ShadowCourtModel" (443) yX11_areSpots ∈ xTB := xq 1730 (by decide +kernel) rfl
theorem wq1732 : Cond.instanceMethod yX11_areSpots ∈ xTB := xq 1732 (by decide +kernel) rfl
theorem wq1734 : Cond.methodLink "ShadowCourtModel" (446) yX11_failsAt ∈ xTB := xq 1734 (by decide +kernel) rfl
theorem wq1736 : Cond.instanceMethod yX11_failsAt ∈ xTB := xq 1736 (by decide +kernel) rfl
theorem wq1746 : Cond.methodLink "ShadowCourtModel" (449) yX11_binds ∈ xTB := xq 1746 (by decide +kernel) rfl
theorem wq1748 : Cond.instanceMethod yX11_binds ∈ xTB := xq 1748 (by decide +kernel) rfl
theorem wq1774 : Cond.methodLink "ShadowCourtModel" (457) yX11_tapeNumber ∈ xTB := xq 1774 (by decide +kernel) rfl
theorem wq1776 : Cond.instanceMethod yX11_tapeNumber ∈ xTB := xq 1776 (by decide +kernel) rfl
theorem dX11_areSpots_0 : decode cX11_areSpots 0 = .ok (.iconst 0, 1) := by decide +kernel
theorem dX11_areSpots_1 : decode cX11_areSpots 1 = .ok (.istore_n 2, 1) := by decide +kernel
theorem dX11_areSpots_2 : decode cX11_areSpots 2 = .ok (.iload_n 2, 1) := by decide +kernel
theorem dX11_areSpots_3 : decode cX11_areSpots 3 = .ok (.iload_n 1, 1) := by decide +kernel
theorem dX11_areSpots_4 : decode cX11_areSpots 4 = .ok (.if_icmp .ge 39, 3) := by decide +kernel
theorem dX11_areSpots_7 : decode cX11_areSpots 7 = .ok (.aload_n 0, 1) := by decide +kernel
theorem dX11_areSpots_8 : decode cX11_areSpots 8 = .ok (.getfield 32, 3) := by decide +kernel
theorem dX11_areSpots_11 : decode cX11_areSpots 11 = .ok (.iload_n 2, 1) := by decide +kernel
theorem dX11_areSpots_12 : decode cX11_areSpots 12 = .ok (.baload, 1) := by decide +kernel
theorem dX11_areSpots_13 : decode cX11_areSpots 13 = .ok (.iconst 0, 1) := by decide +kernel
theorem dX11_areSpots_14 : decode cX11_areSpots 14 = .ok (.bipush 99, 2) := by decide +kernel
theorem dX11_areSpots_16 : decode cX11_areSpots 16 = .ok (.invokestatic 150, 3) := by decide +kernel
theorem dX11_areSpots_19 : decode cX11_areSpots 19 = .ok (.ifCond .eq 16, 3) := by decide +kernel
theorem dX11_areSpots_22 : decode cX11_areSpots 22 = .ok (.aload_n 0, 1) := by decide +kernel
theorem dX11_areSpots_23 : decode cX11_areSpots 23 = .ok (.aload_n 0, 1) := by decide +kernel
theorem dX11_areSpots_24 : decode cX11_areSpots 24 = .ok (.getfield 32, 3) := by decide +kernel
theorem dX11_areSpots_27 : decode cX11_areSpots 27 = .ok (.iload_n 2, 1) := by decide +kernel
theorem dX11_areSpots_28 : decode cX11_areSpots 28 = .ok (.baload, 1) := by decide +kernel
theorem dX11_areSpots_29 : decode cX11_areSpots 29 = .ok (.invokevirtual 263, 3) := by decide +kernel
theorem dX11_areSpots_32 : decode cX11_areSpots 32 = .ok (.ifCond .ne 5, 3) := by decide +kernel
theorem dX11_areSpots_35 : decode cX11_areSpots 35 = .ok (.iconst 0, 1) := by decide +kernel
theorem dX11_areSpots_36 : decode cX11_areSpots 36 = .ok (.ireturn, 1) := by decide +kernel
theorem dX11_areSpots_37 : decode cX11_areSpots 37 = .ok (.iinc 2 1, 3) := by decide +kernel
theorem dX11_areSpots_40 : decode cX11_areSpots 40 = .ok (.goto (-38), 3) := by decide +kernel
theorem dX11_areSpots_43 : decode cX11_areSpots 43 = .ok (.iconst 1, 1) := by decide +kernel
theorem dX11_areSpots_44 : decode cX11_areSpots 44 = .ok (.ireturn, 1) := by decide +kernel
theorem dX11_binds_0 : decode cX11_binds 0 = .ok (.aload_n 0, 1) := by decide +kernel
theorem dX11_binds_1 : decode cX11_binds 1 = .ok (.getfield 123, 3) := by decide +kernel
theorem dX11_binds_4 : decode cX11_binds 4 = .ok (.iload_n 1, 1) := by decide +kernel
theorem dX11_binds_5 : decode cX11_binds 5 = .ok (.iaload, 1) := by decide +kernel
theorem dX11_binds_6 : decode cX11_binds 6 = .ok (.aload_n 0, 1) := by decide +kernel
theorem dX11_binds_7 : decode cX11_binds 7 = .ok (.getfield 123, 3) := by decide +kernel
theorem dX11_binds_10 : decode cX11_binds 10 = .ok (.iload_n 2, 1) := by decide +kernel
theorem dX11_binds_11 : decode cX11_binds 11 = .ok (.iaload, 1) := by decide +kernel
theorem dX11_binds_12 : decode cX11_binds 12 = .ok (.invokestatic 362, 3) := by decide +kernel
theorem dX11_binds_15 : decode cX11_binds 15 = .ok (.istore 4, 2) := by decide +kernel
theorem dX11_binds_17 : decode cX11_binds 17 = .ok (.aload_n 0, 1) := by decide +kernel
theorem dX11_binds_18 : decode cX11_binds 18 = .ok (.getfield 123, 3) := by decide +kernel
theorem dX11_binds_21 : decode cX11_binds 21 = .ok (.iload_n 1, 1) := by decide +kernel
theorem dX11_binds_22 : decode cX11_binds 22 = .ok (.iaload, 1) := by decide +kernel
theorem dX11_binds_23 : decode cX11_binds 23 = .ok (.aload_n 0, 1) := by decide +kernel
theorem dX11_binds_24 : decode cX11_binds 24 = .ok (.getfield 123, 3) := by decide +kernel
theorem dX11_binds_27 : decode cX11_binds 27 = .ok (.iload_n 2, 1) := by decide +kernel
theorem dX11_binds_28 : decode cX11_binds 28 = .ok (.iaload, 1) := by decide +kernel
theorem dX11_binds_29 : decode cX11_binds 29 = .ok (.invokestatic 416, 3) := by decide +kernel
theorem dX11_binds_32 : decode cX11_binds 32 = .ok (.istore 5, 2) := by decide +kernel
theorem dX11_binds_34 : decode cX11_binds 34 = .ok (.iconst 0, 1) := by decide +kernel
theorem dX11_binds_35 : decode cX11_binds 35 = .ok (.istore 6, 2) := by decide +kernel
theorem dX11_binds_37 : decode cX11_binds 37 = .ok (.iload 6, 2) := by decide +kernel
theorem dX11_binds_39 : decode cX11_binds 39 = .ok (.iload_n 3, 1) := by decide +kernel
theorem dX11_binds_40 : decode cX11_binds 40 = .ok (.if_icmp .ge 30, 3) := by decide +kernel
theorem dX11_binds_43 : decode cX11_binds 43 = .ok (.aload_n 0, 1) := by decide +kernel
theorem dX11_binds_44 : decode cX11_binds 44 = .ok (.getfield 123, 3) := by decide +kernel
theorem dX11_binds_47 : decode cX11_binds 47 = .ok (.iload 6, 2) := by decide +kernel
theorem dX11_binds_49 : decode cX11_binds 49 = .ok (.iaload, 1) := by decide +kernel
theorem dX11_binds_50 : decode cX11_binds 50 = .ok (.iload 5, 2) := by decide +kernel
theorem dX11_binds_52 : decode cX11_binds 52 = .ok (.if_icmp .ne 12, 3) := by decide +kernel
theorem dX11_binds_55 : decode cX11_binds 55 = .ok (.aload_n 0, 1) := by decide +kernel
theorem dX11_binds_56 : decode cX11_binds 56 = .ok (.getfield 123, 3) := by decide +kernel
theorem dX11_binds_59 : decode cX11_binds 59 = .ok (.iload 6, 2) := by decide +kernel
theorem dX11_binds_61 : decode cX11_binds 61 = .ok (.iload 4, 2) := by decide +kernel
theorem dX11_binds_63 : decode cX11_binds 63 = .ok (.iastore, 1) := by decide +kernel
theorem dX11_binds_64 : decode cX11_binds 64 = .ok (.iinc 6 1, 3) := by decide +kernel
theorem dX11_binds_67 : decode cX11_binds 67 = .ok (.goto (-30), 3) := by decide +kernel
theorem dX11_binds_70 : decode cX11_binds 70 = .ok (.return_, 1) := by decide +kernel
theorem dX11_check_0 : decode cX11_check 0 = .ok (.iload_n 1, 1) := by decide +kernel
theorem dX11_check_1 : decode cX11_check 1 = .ok (.iconst 0, 1) := by decide +kernel
theorem dX11_check_2 : decode cX11_check 2 = .ok (.bipush 10, 2) := by decide +kernel
theorem dX11_check_4 : decode cX11_check 4 = .ok (.invokestatic 150, 3) := by decide +kernel
theorem dX11_check_7 : decode cX11_check 7 = .ok (.ifCond .eq 13, 3) := by decide +kernel
theorem dX11_check_10 : decode cX11_check 10 = .ok (.iload_n 1, 1) := by decide +kernel
theorem dX11_check_11 : decode cX11_check 11 = .ok (.aload_n 0, 1) := by decide +kernel
theorem dX11_check_12 : decode cX11_check 12 = .ok (.getfield 164, 3) := by decide +kernel
theorem dX11_check_15 : decode cX11_check 15 = .ok (.iconst 4, 1) := by decide +kernel
theorem dX11_check_16 : decode cX11_check 16 = .ok (.idiv, 1) := by decide +kernel
theorem dX11_check_17 : decode cX11_check 17 = .ok (.if_icmp .le 6, 3) := by decide +kernel
theorem dX11_check_20 : decode cX11_check 20 = .ok (.bipush (-2), 2) := by decide +kernel
theorem dX11_check_22 : decode cX11_check 22 = .ok (.ireturn, 1) := by decide +kernel
theorem dX11_check_23 : decode cX11_check 23 = .ok (.aload_n 0, 1) := by decide +kernel
theorem dX11_check_24 : decode cX11_check 24 = .ok (.iconst 0, 1) := by decide +kernel
theorem dX11_check_25 : decode cX11_check 25 = .ok (.putfield 164, 3) := by decide +kernel
theorem dX11_check_28 : decode cX11_check 28 = .ok (.iconst 0, 1) := by decide +kernel
theorem dX11_check_29 : decode cX11_check 29 = .ok (.istore_n 2, 1) := by decide +kernel
theorem dX11_check_30 : decode cX11_check 30 = .ok (.iload_n 2, 1) := by decide +kernel
theorem dX11_check_31 : decode cX11_check 31 = .ok (.iload_n 1, 1) := by decide +kernel
theorem dX11_check_32 : decode cX11_check 32 = .ok (.if_icmp .ge 40, 3) := by decide +kernel
theorem dX11_check_35 : decode cX11_check 35 = .ok (.aload_n 0, 1) := by decide +kernel
theorem dX11_check_36 : decode cX11_check 36 = .ok (.iload_n 2, 1) := by decide +kernel
theorem dX11_check_37 : decode cX11_check 37 = .ok (.invokevirtual 457, 3) := by decide +kernel
theorem dX11_check_40 : decode cX11_check 40 = .ok (.aload_n 0, 1) := by decide +kernel
theorem dX11_check_41 : decode cX11_check 41 = .ok (.iload_n 2, 1) := by decide +kernel
theorem dX11_check_42 : decode cX11_check 42 = .ok (.invokevirtual 146, 3) := by decide +kernel
theorem dX11_check_45 : decode cX11_check 45 = .ok (.ifCond .eq 15, 3) := by decide +kernel
theorem dX11_check_48 : decode cX11_check 48 = .ok (.aload_n 0, 1) := by decide +kernel
theorem dX11_check_49 : decode cX11_check 49 = .ok (.getfield 7, 3) := by decide +kernel
theorem dX11_check_52 : decode cX11_check 52 = .ok (.bipush 14, 2) := by decide +kernel
theorem dX11_check_54 : decode cX11_check 54 = .ok (.iload_n 2, 1) := by decide +kernel
theorem dX11_check_55 : decode cX11_check 55 = .ok (.iadd, 1) := by decide +kernel
theorem dX11_check_56 : decode cX11_check 56 = .ok (.iaload, 1) := by decide +kernel
theorem dX11_check_57 : decode cX11_check 57 = .ok (.goto 4, 3) := by decide +kernel
theorem dX11_check_60 : decode cX11_check 60 = .ok (.iconst 0, 1) := by decide +kernel
theorem dX11_check_61 : decode cX11_check 61 = .ok (.if_icmp .eq 5, 3) := by decide +kernel
theorem dX11_check_64 : decode cX11_check 64 = .ok (.iload_n 2, 1) := by decide +kernel
theorem dX11_check_65 : decode cX11_check 65 = .ok (.ireturn, 1) := by decide +kernel
theorem dX11_check_66 : decode cX11_check 66 = .ok (.iinc 2 1, 3) := by decide +kernel
theorem dX11_check_69 : decode cX11_check 69 = .ok (.goto (-39), 3) := by decide +kernel
theorem dX11_check_72 : decode cX11_check 72 = .ok (.iconst (-1), 1) := by decide +kernel
theorem dX11_check_73 : decode cX11_check 73 = .ok (.ireturn, 1) := by decide +kernel
theorem dX11_cloudy_0 : decode cX11_cloudy 0 = .ok (.iload_n 1, 1) := by decide +kernel
theorem dX11_cloudy_1 : decode cX11_cloudy 1 = .ok (.iconst 1, 1) := by decide +kernel
theorem dX11_cloudy_2 : decode cX11_cloudy 2 = .ok (.bipush 10, 2) := by decide +kernel
theorem dX11_cloudy_4 : decode cX11_cloudy 4 = .ok (.invokestatic 150, 3) := by decide +kernel
theorem dX11_cloudy_7 : decode cX11_cloudy 7 = .ok (.ifCond .eq 30, 3) := by decide +kernel
theorem dX11_cloudy_10 : decode cX11_cloudy 10 = .ok (.iload_n 2, 1) := by decide +kernel
theorem dX11_cloudy_11 : decode cX11_cloudy 11 = .ok (.iconst 0, 1) := by decide +kernel
theorem dX11_cloudy_12 : decode cX11_cloudy 12 = .ok (.bipush 90, 2) := by decide +kernel
theorem dX11_cloudy_14 : decode cX11_cloudy 14 = .ok (.invokestatic 150, 3) := by decide +kernel
theorem dX11_cloudy_17 : decode cX11_cloudy 17 = .ok (.ifCond .eq 20, 3) := by decide +kernel
theorem dX11_cloudy_20 : decode cX11_cloudy 20 = .ok (.iload_n 3, 1) := by decide +kernel
theorem dX11_cloudy_21 : decode cX11_cloudy 21 = .ok (.iconst 0, 1) := by decide +kernel
theorem dX11_cloudy_22 : decode cX11_cloudy 22 = .ok (.iconst 2, 1) := by decide +kernel
theorem dX11_cloudy_23 : decode cX11_cloudy 23 = .ok (.invokestatic 150, 3) := by decide +kernel
theorem dX11_cloudy_26 : decode cX11_cloudy 26 = .ok (.ifCond .eq 11, 3) := by decide +kernel
theorem dX11_cloudy_29 : decode cX11_cloudy 29 = .ok (.iload_n 1, 1) := by decide +kernel
theorem dX11_cloudy_30 : decode cX11_cloudy 30 = .ok (.aload_n 0, 1) := by decide +kernel
theorem dX11_cloudy_31 : decode cX11_cloudy 31 = .ok (.getfield 164, 3) := by decide +kernel
theorem dX11_cloudy_34 : decode cX11_cloudy 34 = .ok (.if_icmp .le 5, 3) := by decide +kernel
theorem dX11_cloudy_37 : decode cX11_cloudy 37 = .ok (.iconst (-1), 1) := by decide +kernel
theorem dX11_cloudy_38 : decode cX11_cloudy 38 = .ok (.ireturn, 1) := by decide +kernel
theorem dX11_cloudy_39 : decode cX11_cloudy 39 = .ok (.aload_n 0, 1) := by decide +kernel
theorem dX11_cloudy_40 : decode cX11_cloudy 40 = .ok (.iconst 0, 1) := by decide +kernel
theorem dX11_cloudy_41 : decode cX11_cloudy 41 = .ok (.putfield 164, 3) := by decide +kernel
theorem dX11_cloudy_44 : decode cX11_cloudy 44 = .ok (.iconst 0, 1) := by decide +kernel
theorem dX11_cloudy_45 : decode cX11_cloudy 45 = .ok (.istore 4, 2) := by decide +kernel
theorem dX11_cloudy_47 : decode cX11_cloudy 47 = .ok (.iload 4, 2) := by decide +kernel
theorem dX11_cloudy_49 : decode cX11_cloudy 49 = .ok (.iload_n 1, 1) := by decide +kernel
theorem dX11_cloudy_50 : decode cX11_cloudy 50 = .ok (.if_icmp .ge 28, 3) := by decide +kernel
theorem dX11_cloudy_53 : decode cX11_cloudy 53 = .ok (.aload_n 0, 1) := by decide +kernel
theorem dX11_cloudy_54 : decode cX11_cloudy 54 = .ok (.getfield 32, 3) := by decide +kernel
theorem dX11_cloudy_57 : decode cX11_cloudy 57 = .ok (.iload 4, 2) := by decide +kernel
theorem dX11_cloudy_59 : decode cX11_cloudy 59 = .ok (.baload, 1) := by decide +kernel
theorem dX11_cloudy_60 : decode cX11_cloudy 60 = .ok (.iconst 1, 1) := by decide +kernel
theorem dX11_cloudy_61 : decode cX11_cloudy 61 = .ok (.bipush 9, 2) := by decide +kernel
theorem dX11_cloudy_63 : decode cX11_cloudy 63 = .ok (.invokestatic 150, 3) := by decide +kernel
theorem dX11_cloudy_66 : decode cX11_cloudy 66 = .ok (.ifCond .ne 6, 3) := by decide +kernel
theorem dX11_cloudy_69 : decode cX11_cloudy 69 = .ok (.bipush (-3), 2) := by decide +kernel
theorem dX11_cloudy_71 : decode cX11_cloudy 71 = .ok (.ireturn, 1) := by decide +kernel
theorem dX11_cloudy_72 : decode cX11_cloudy 72 = .ok (.iinc 4 1, 3) := by decide +kernel
theorem dX11_cloudy_75 : decode cX11_cloudy 75 = .ok (.goto (-28), 3) := by decide +kernel
theorem dX11_cloudy_78 : decode cX11_cloudy 78 = .ok (.iconst 0, 1) := by decide +kernel
theorem dX11_cloudy_79 : decode cX11_cloudy 79 = .ok (.istore 4, 2) := by decide +kernel
theorem dX11_cloudy_81 : decode cX11_cloudy 81 = .ok (.bipush (-2), 2) := by decide +kernel
theorem dX11_cloudy_83 : decode cX11_cloudy 83 = .ok (.istore 5, 2) := by decide +kernel
theorem dX11_cloudy_85 : decode cX11_cloudy 85 = .ok (.sipush 1023, 3) := by decide +kernel
theorem dX11_cloudy_88 : decode cX11_cloudy 88 = .ok (.istore 6, 2) := by decide +kernel
theorem dX11_cloudy_90 : decode cX11_cloudy 90 = .ok (.iconst 0, 1) := by decide +kernel
theorem dX11_cloudy_91 : decode cX11_cloudy 91 = .ok (.istore 7, 2) := by decide +kernel
theorem dX11_cloudy_93 : decode cX11_cloudy 93 = .ok (.iload 7, 2) := by decide +kernel
theorem dX11_cloudy_95 : decode cX11_cloudy 95 = .ok (.iconst 1, 1) := by decide +kernel
theorem dX11_cloudy_96 : decode cX11_cloudy 96 = .ok (.iload_n 1, 1) := by decide +kernel
theorem dX11_cloudy_97 : decode cX11_cloudy 97 = .ok (.ishl, 1) := by decide +kernel
theorem dX11_cloudy_98 : decode cX11_cloudy 98 = .ok (.if_icmp .ge 89, 3) := by decide +kernel
theorem dX11_cloudy_101 : decode cX11_cloudy 101 = .ok (.iconst 0, 1) := by decide +kernel
theorem dX11_cloudy_102 : decode cX11_cloudy 102 = .ok (.istore 8, 2) := by decide +kernel
theorem dX11_cloudy_104 : decode cX11_cloudy 104 = .ok (.iconst 0, 1) := by decide +kernel
theorem dX11_cloudy_105 : decode cX11_cloudy 105 = .ok (.istore 9, 2) := by decide +kernel
theorem dX11_cloudy_107 : decode cX11_cloudy 107 = .ok (.iload 9, 2) := by decide +kernel
theorem dX11_cloudy_109 : decode cX11_cloudy 109 = .ok (.iload_n 1, 1) := by decide +kernel
theorem dX11_cloudy_110 : decode cX11_cloudy 110 = .ok (.if_icmp .ge 35, 3) := by decide +kernel
theorem dX11_cloudy_113 : decode cX11_cloudy 113 = .ok (.iload 8, 2) := by decide +kernel
theorem dX11_cloudy_115 : decode cX11_cloudy 115 = .ok (.iload 7, 2) := by decide +kernel
theorem dX11_cloudy_117 : decode cX11_cloudy 117 = .ok (.iload 9, 2) := by decide +kernel
theorem dX11_cloudy_119 : decode cX11_cloudy 119 = .ok (.invokestatic 143, 3) := by decide +kernel
theorem dX11_cloudy_122 : decode cX11_cloudy 122 = .ok (.ifCond .eq 7, 3) := by decide +kernel
theorem dX11_cloudy_125 : decode cX11_cloudy 125 = .ok (.iconst 0, 1) := by decide +kernel
theorem dX11_cloudy_126 : decode cX11_cloudy 126 = .ok (.goto 10, 3) := by decide +kernel
theorem dX11_cloudy_129 : decode cX11_cloudy 129 = .ok (.aload_n 0, 1) := by decide +kernel
theorem dX11_cloudy_130 : decode cX11_cloudy 130 = .ok (.getfield 32, 3) := by decide +kernel
theorem dX11_cloudy_133 : decode cX11_cloudy 133 = .ok (.iload 9, 2) := by decide +kernel
theorem dX11_cloudy_135 : decode cX11_cloudy 135 = .ok (.baload, 1) := by decide +kernel
theorem dX11_cloudy_136 : decode cX11_cloudy 136 = .ok (.iadd, 1) := by decide +kernel
theorem dX11_cloudy_137 : decode cX11_cloudy 137 = .ok (.istore 8, 2) := by decide +kernel
theorem dX11_cloudy_139 : decode cX11_cloudy 139 = .ok (.iinc 9 1, 3) := by decide +kernel
theorem dX11_cloudy_142 : decode cX11_cloudy 142 = .ok (.goto (-35), 3) := by decide +kernel
theorem dX11_cloudy_145 : decode cX11_cloudy 145 = .ok (.iload 8, 2) := by decide +kernel
theorem dX11_cloudy_147 : decode cX11_cloudy 147 = .ok (.iload_n 2, 1) := by decide +kernel
theorem dX11_cloudy_148 : decode cX11_cloudy 148 = .ok (.if_icmp .eq 6, 3) := by decide +kernel
theorem dX11_cloudy_151 : decode cX11_cloudy 151 = .ok (.goto 30, 3) := by decide +kernel
theorem dX11_cloudy_154 : decode cX11_cloudy 154 = .ok (.iload 4, 2) := by decide +kernel
theorem dX11_cloudy_156 : decode cX11_cloudy 156 = .ok (.ifCond .ne 8, 3) := by decide +kernel
theorem dX11_cloudy_159 : decode cX11_cloudy 159 = .ok (.iload 7, 2) := by decide +kernel
theorem dX11_cloudy_161 : decode cX11_cloudy 161 = .ok (.goto 5, 3) := by decide +kernel
theorem dX11_cloudy_164 : decode cX11_cloudy 164 = .ok (.iload 5, 2) := by decide +kernel
theorem dX11_cloudy_166 : decode cX11_cloudy 166 = .ok (.istore 5, 2) := by decide +kernel
theorem dX11_cloudy_168 : decode cX11_cloudy 168 = .ok (.iload 4, 2) := by decide +kernel
theorem dX11_cloudy_170 : decode cX11_cloudy 170 = .ok (.iconst 1, 1) := by decide +kernel
theorem dX11_cloudy_171 : decode cX11_cloudy 171 = .ok (.iadd, 1) := by decide +kernel
theorem dX11_cloudy_172 : decode cX11_cloudy 172 = .ok (.istore 4, 2) := by decide +kernel
theorem dX11_cloudy_174 : decode cX11_cloudy 174 = .ok (.iload 6, 2) := by decide +kernel
theorem dX11_cloudy_176 : decode cX11_cloudy 176 = .ok (.iload 7, 2) := by decide +kernel
theorem dX11_cloudy_178 : decode cX11_cloudy 178 = .ok (.iand, 1) := by decide +kernel
theorem dX11_cloudy_179 : decode cX11_cloudy 179 = .ok (.istore 6, 2) := by decide +kernel
theorem dX11_cloudy_181 : decode cX11_cloudy 181 = .ok (.iinc 7 1, 3) := by decide +kernel
theorem dX11_cloudy_184 : decode cX11_cloudy 184 = .ok (.goto (-91), 3) := by decide +kernel
theorem dX11_cloudy_187 : decode cX11_cloudy 187 = .ok (.iload_n 3, 1) := by decide +kernel
theorem dX11_cloudy_188 : decode cX11_cloudy 188 = .ok (.ifCond .ne 8, 3) := by decide +kernel
theorem dX11_cloudy_191 : decode cX11_cloudy 191 = .ok (.iload 4, 2) := by decide +kernel
theorem dX11_cloudy_193 : decode cX11_cloudy 193 = .ok (.goto 20, 3) := by decide +kernel
theorem dX11_cloudy_196 : decode cX11_cloudy 196 = .ok (.iload_n 3, 1) := by decide +kernel
theorem dX11_cloudy_197 : decode cX11_cloudy 197 = .ok (.iconst 1, 1) := by decide +kernel
theorem dX11_cloudy_198 : decode cX11_cloudy 198 = .ok (.if_icmp .eq 8, 3) := by decide +kernel
theorem dX11_cloudy_201 : decode cX11_cloudy 201 = .ok (.iload 4, 2) := by decide +kernel
theorem dX11_cloudy_203 : decode cX11_cloudy 203 = .ok (.ifCond .ne 8, 3) := by decide +kernel
theorem dX11_cloudy_206 : decode cX11_cloudy 206 = .ok (.iload 5, 2) := by decide +kernel
theorem dX11_cloudy_208 : decode cX11_cloudy 208 = .ok (.goto 5, 3) := by decide +kernel
theorem dX11_cloudy_211 : decode cX11_cloudy 211 = .ok (.iload 6, 2) := by decide +kernel
theorem dX11_cloudy_213 : decode cX11_cloudy 213 = .ok (.ireturn, 1) := by decide +kernel
theorem dX11_failsAt_0 : decode cX11_failsAt 0 = .ok (.iconst 1, 1) := by decide +kernel
theorem dX11_failsAt_1 : decode cX11_failsAt 1 = .ok (.istore_n 2, 1) := by decide +kernel
theorem dX11_failsAt_2 : decode cX11_failsAt 2 = .ok (.iload_n 2, 1) := by decide +kernel
theorem dX11_failsAt_3 : decode cX11_failsAt 3 = .ok (.iload_n 1, 1) := by decide +kernel
theorem dX11_failsAt_4 : decode cX11_failsAt 4 = .ok (.if_icmp .ge 42, 3) := by decide +kernel
theorem dX11_failsAt_7 : decode cX11_failsAt 7 = .ok (.aload_n 0, 1) := by decide +kernel
theorem dX11_failsAt_8 : decode cX11_failsAt 8 = .ok (.aload_n 0, 1) := by decide +kernel
theorem dX11_failsAt_9 : decode cX11_failsAt 9 = .ok (.getfield 32, 3) := by decide +kernel
theorem dX11_failsAt_12 : decode cX11_failsAt 12 = .ok (.iload_n 2, 1) := by decide +kernel
theorem dX11_failsAt_13 : decode cX11_failsAt 13 = .ok (.iconst 1, 1) := by decide +kernel
theorem dX11_failsAt_14 : decode cX11_failsAt 14 = .ok (.isub, 1) := by decide +kernel
theorem dX11_failsAt_15 : decode cX11_failsAt 15 = .ok (.baload, 1) := by decide +kernel
theorem dX11_failsAt_16 : decode cX11_failsAt 16 = .ok (.iconst 3, 1) := by decide +kernel
theorem dX11_failsAt_17 : decode cX11_failsAt 17 = .ok (.iconst 1, 1) := by decide +kernel
theorem dX11_failsAt_18 : decode cX11_failsAt 18 = .ok (.invokevirtual 355, 3) := by decide +kernel
theorem dX11_failsAt_21 : decode cX11_failsAt 21 = .ok (.aload_n 0, 1) := by decide +kernel
theorem dX11_failsAt_22 : decode cX11_failsAt 22 = .ok (.getfield 92, 3) := by decide +kernel
theorem dX11_failsAt_25 : decode cX11_failsAt 25 = .ok (.aload_n 0, 1) := by decide +kernel
theorem dX11_failsAt_26 : decode cX11_failsAt 26 = .ok (.getfield 32, 3) := by decide +kernel
theorem dX11_failsAt_29 : decode cX11_failsAt 29 = .ok (.iload_n 2, 1) := by decide +kernel
theorem dX11_failsAt_30 : decode cX11_failsAt 30 = .ok (.baload, 1) := by decide +kernel
theorem dX11_failsAt_31 : decode cX11_failsAt 31 = .ok (.iaload, 1) := by decide +kernel
theorem dX11_failsAt_32 : decode cX11_failsAt 32 = .ok (.ldc_w 348, 3) := by decide +kernel
theorem dX11_failsAt_35 : decode cX11_failsAt 35 = .ok (.if_icmp .ne 5, 3) := by decide +kernel
theorem dX11_failsAt_38 : decode cX11_failsAt 38 = .ok (.iload_n 2, 1) := by decide +kernel
theorem dX11_failsAt_39 : decode cX11_failsAt 39 = .ok (.ireturn, 1) := by decide +kernel
theorem dX11_failsAt_40 : decode cX11_failsAt 40 = .ok (.iinc 2 1, 3) := by decide +kernel
theorem dX11_failsAt_43 : decode cX11_failsAt 43 = .ok (.goto (-41), 3) := by decide +kernel
theorem dX11_failsAt_46 : decode cX11_failsAt 46 = .ok (.iconst (-1), 1) := by decide +kernel
theorem dX11_failsAt_47 : decode cX11_failsAt 47 = .ok (.ireturn, 1) := by decide +kernel
theorem dX11_prints_0 : decode cX11_prints 0 = .ok (.iload_n 1, 1) := by decide +kernel
theorem dX11_prints_1 : decode cX11_prints 1 = .ok (.iconst 2, 1) := by decide +kernel
theorem dX11_prints_2 : decode cX11_prints 2 = .ok (.bipush 20, 2) := by decide +kernel
theorem dX11_prints_4 : decode cX11_prints 4 = .ok (.invokestatic 150, 3) := by decide +kernel
theorem dX11_prints_7 : decode cX11_prints 7 = .ok (.ifCond .eq 20, 3) := by decide +kernel
theorem dX11_prints_10 : decode cX11_prints 10 = .ok (.iload_n 2, 1) := by decide +kernel
theorem dX11_prints_11 : decode cX11_prints 11 = .ok (.iconst 0, 1) := by decide +kernel
theorem dX11_prints_12 : decode cX11_prints 12 = .ok (.iconst 1, 1) := by decide +kernel
theorem dX11_prints_13 : decode cX11_prints 13 = .ok (.invokestatic 150, 3) := by decide +kernel
theorem dX11_prints_16 : decode cX11_prints 16 = .ok (.ifCond .eq 11, 3) := by decide +kernel
theorem dX11_prints_19 : decode cX11_prints 19 = .ok (.iload_n 1, 1) := by decide +kernel
theorem dX11_prints_20 : decode cX11_prints 20 = .ok (.aload_n 0, 1) := by decide +kernel
theorem dX11_prints_21 : decode cX11_prints 21 = .ok (.getfield 164, 3) := by decide +kernel
theorem dX11_prints_24 : decode cX11_prints 24 = .ok (.if_icmp .le 5, 3) := by decide +kernel
theorem dX11_prints_27 : decode cX11_prints 27 = .ok (.iconst (-1), 1) := by decide +kernel
theorem dX11_prints_28 : decode cX11_prints 28 = .ok (.ireturn, 1) := by decide +kernel
theorem dX11_prints_29 : decode cX11_prints 29 = .ok (.aload_n 0, 1) := by decide +kernel
theorem dX11_prints_30 : decode cX11_prints 30 = .ok (.iconst 0, 1) := by decide +kernel
theorem dX11_prints_31 : decode cX11_prints 31 = .ok (.putfield 164, 3) := by decide +kernel
theorem dX11_prints_34 : decode cX11_prints 34 = .ok (.aload_n 0, 1) := by decide +kernel
theorem dX11_prints_35 : decode cX11_prints 35 = .ok (.iload_n 1, 1) := by decide +kernel
theorem dX11_prints_36 : decode cX11_prints 36 = .ok (.invokevirtual 443, 3) := by decide +kernel
theorem dX11_prints_39 : decode cX11_prints 39 = .ok (.ifCond .ne 6, 3) := by decide +kernel
theorem dX11_prints_42 : decode cX11_prints 42 = .ok (.bipush (-3), 2) := by decide +kernel
theorem dX11_prints_44 : decode cX11_prints 44 = .ok (.ireturn, 1) := by decide +kernel
theorem dX11_prints_45 : decode cX11_prints 45 = .ok (.iload_n 2, 1) := by decide +kernel
theorem dX11_prints_46 : decode cX11_prints 46 = .ok (.iconst 1, 1) := by decide +kernel
theorem dX11_prints_47 : decode cX11_prints 47 = .ok (.if_icmp .ne 16, 3) := by decide +kernel
theorem dX11_prints_50 : decode cX11_prints 50 = .ok (.aload_n 0, 1) := by decide +kernel
theorem dX11_prints_51 : decode cX11_prints 51 = .ok (.getfield 7, 3) := by decide +kernel
theorem dX11_prints_54 : decode cX11_prints 54 = .ok (.bipush 35, 2) := by decide +kernel
theorem dX11_prints_56 : decode cX11_prints 56 = .ok (.iaload, 1) := by decide +kernel
theorem dX11_prints_57 : decode cX11_prints 57 = .ok (.ifCond .ne 6, 3) := by decide +kernel
theorem dX11_prints_60 : decode cX11_prints 60 = .ok (.bipush (-4), 2) := by decide +kernel
theorem dX11_prints_62 : decode cX11_prints 62 = .ok (.ireturn, 1) := by decide +kernel
theorem dX11_prints_63 : decode cX11_prints 63 = .ok (.aload_n 0, 1) := by decide +kernel
theorem dX11_prints_64 : decode cX11_prints 64 = .ok (.iload_n 1, 1) := by decide +kernel
theorem dX11_prints_65 : decode cX11_prints 65 = .ok (.invokevirtual 446, 3) := by decide +kernel
theorem dX11_prints_68 : decode cX11_prints 68 = .ok (.istore_n 3, 1) := by decide +kernel
theorem dX11_prints_69 : decode cX11_prints 69 = .ok (.iconst 0, 1) := by decide +kernel
theorem dX11_prints_70 : decode cX11_prints 70 = .ok (.istore 4, 2) := by decide +kernel
theorem dX11_prints_72 : decode cX11_prints 72 = .ok (.iconst 0, 1) := by decide +kernel
theorem dX11_prints_73 : decode cX11_prints 73 = .ok (.istore 5, 2) := by decide +kernel
theorem dX11_prints_75 : decode cX11_prints 75 = .ok (.iload 5, 2) := by decide +kernel
theorem dX11_prints_77 : decode cX11_prints 77 = .ok (.bipush 10, 2) := by decide +kernel
theorem dX11_prints_79 : decode cX11_prints 79 = .ok (.if_icmp .ge 62, 3) := by decide +kernel
theorem dX11_prints_82 : decode cX11_prints 82 = .ok (.aload_n 0, 1) := by decide +kernel
theorem dX11_prints_83 : decode cX11_prints 83 = .ok (.iload 5, 2) := by decide +kernel
theorem dX11_prints_85 : decode cX11_prints 85 = .ok (.invokevirtual 146, 3) := by decide +kernel
theorem dX11_prints_88 : decode cX11_prints 88 = .ok (.ifCond .ne 6, 3) := by decide +kernel
theorem dX11_prints_91 : decode cX11_prints 91 = .ok (.goto 44, 3) := by decide +kernel
theorem dX11_prints_94 : decode cX11_prints 94 = .ok (.aload_n 0, 1) := by decide +kernel
theorem dX11_prints_95 : decode cX11_prints 95 = .ok (.aload_n 0, 1) := by decide +kernel
theorem dX11_prints_96 : decode cX11_prints 96 = .ok (.getfield 7, 3) := by decide +kernel
theorem dX11_prints_99 : decode cX11_prints 99 = .ok (.iconst 4, 1) := by decide +kernel
theorem dX11_prints_100 : decode cX11_prints 100 = .ok (.iload 5, 2) := by decide +kernel
theorem dX11_prints_102 : decode cX11_prints 102 = .ok (.iadd, 1) := by decide +kernel
theorem dX11_prints_103 : decode cX11_prints 103 = .ok (.iaload, 1) := by decide +kernel
theorem dX11_prints_104 : decode cX11_prints 104 = .ok (.iconst 3, 1) := by decide +kernel
theorem dX11_prints_105 : decode cX11_prints 105 = .ok (.iconst 1, 1) := by decide +kernel
theorem dX11_prints_106 : decode cX11_prints 106 = .ok (.invokevirtual 355, 3) := by decide +kernel
theorem dX11_prints_109 : decode cX11_prints 109 = .ok (.aload_n 0, 1) := by decide +kernel
theorem dX11_prints_110 : decode cX11_prints 110 = .ok (.getfield 92, 3) := by decide +kernel
theorem dX11_prints_113 : decode cX11_prints 113 = .ok (.aload_n 0, 1) := by decide +kernel
theorem dX11_prints_114 : decode cX11_prints 114 = .ok (.getfield 32, 3) := by decide +kernel
theorem dX11_prints_117 : decode cX11_prints 117 = .ok (.iconst 0, 1) := by decide +kernel
theorem dX11_prints_118 : decode cX11_prints 118 = .ok (.baload, 1) := by decide +kernel
theorem dX11_prints_119 : decode cX11_prints 119 = .ok (.iaload, 1) := by decide +kernel
theorem dX11_prints_120 : decode cX11_prints 120 = .ok (.ldc_w 348, 3) := by decide +kernel
theorem dX11_prints_123 : decode cX11_prints 123 = .ok (.if_icmp .ge 12, 3) := by decide +kernel
theorem dX11_prints_126 : decode cX11_prints 126 = .ok (.iload 4, 2) := by decide +kernel
theorem dX11_prints_128 : decode cX11_prints 128 = .ok (.iconst 1, 1) := by decide +kernel
theorem dX11_prints_129 : decode cX11_prints 129 = .ok (.iload 5, 2) := by decide +kernel
theorem dX11_prints_131 : decode cX11_prints 131 = .ok (.ishl, 1) := by decide +kernel
theorem dX11_prints_132 : decode cX11_prints 132 = .ok (.ior, 1) := by decide +kernel
theorem dX11_prints_133 : decode cX11_prints 133 = .ok (.istore 4, 2) := by decide +kernel
theorem dX11_prints_135 : decode cX11_prints 135 = .ok (.iinc 5 1, 3) := by decide +kernel
theorem dX11_prints_138 : decode cX11_prints 138 = .ok (.goto (-63), 3) := by decide +kernel
theorem dX11_prints_141 : decode cX11_prints 141 = .ok (.iload_n 2, 1) := by decide +kernel
theorem dX11_prints_142 : decode cX11_prints 142 = .ok (.ifCond .ne 15, 3) := by decide +kernel
theorem dX11_prints_145 : decode cX11_prints 145 = .ok (.iload_n 3, 1) := by decide +kernel
theorem dX11_prints_146 : decode cX11_prints 146 = .ok (.iconst (-1), 1) := by decide +kernel
theorem dX11_prints_147 : decode cX11_prints 147 = .ok (.if_icmp .ne 8, 3) := by decide +kernel
theorem dX11_prints_150 : decode cX11_prints 150 = .ok (.iload 4, 2) := by decide +kernel
theorem dX11_prints_152 : decode cX11_prints 152 = .ok (.goto 4, 3) := by decide +kernel
theorem dX11_prints_155 : decode cX11_prints 155 = .ok (.iconst 0, 1) := by decide +kernel
theorem dX11_prints_156 : decode cX11_prints 156 = .ok (.ireturn, 1) := by decide +kernel
theorem dX11_prints_157 : decode cX11_prints 157 = .ok (.iload 4, 2) := by decide +kernel
theorem dX11_prints_159 : decode cX11_prints 159 = .ok (.ifCond .ne 7, 3) := by decide +kernel
theorem dX11_prints_162 : decode cX11_prints 162 = .ok (.iconst 0, 1) := by decide +kernel
theorem dX11_prints_163 : decode cX11_prints 163 = .ok (.goto 14, 3) := by decide +kernel
theorem dX11_prints_166 : decode cX11_prints 166 = .ok (.iload_n 3, 1) := by decide +kernel
theorem dX11_prints_167 : decode cX11_prints 167 = .ok (.iconst (-1), 1) := by decide +kernel
theorem dX11_prints_168 : decode cX11_prints 168 = .ok (.if_icmp .ne 8, 3) := by decide +kernel
theorem dX11_prints_171 : decode cX11_prints 171 = .ok (.bipush (-2), 2) := by decide +kernel
theorem dX11_prints_173 : decode cX11_prints 173 = .ok (.goto 4, 3) := by decide +kernel
theorem dX11_prints_176 : decode cX11_prints 176 = .ok (.iload_n 3, 1) := by decide +kernel
theorem dX11_prints_177 : decode cX11_prints 177 = .ok (.ireturn, 1) := by decide +kernel
theorem dX11_tapeNumber_0 : decode cX11_tapeNumber 0 = .ok (.iconst 0, 1) := by decide +kernel
theorem dX11_tapeNumber_1 : decode cX11_tapeNumber 1 = .ok (.istore_n 2, 1) := by decide +kernel
theorem dX11_tapeNumber_2 : decode cX11_tapeNumber 2 = .ok (.iconst 4, 1) := by decide +kernel
theorem dX11_tapeNumber_3 : decode cX11_tapeNumber 3 = .ok (.iload_n 1, 1) := by decide +kernel
theorem dX11_tapeNumber_4 : decode cX11_tapeNumber 4 = .ok (.imul, 1) := by decide +kernel
theorem dX11_tapeNumber_5 : decode cX11_tapeNumber 5 = .ok (.istore_n 3, 1) := by decide +kernel
theorem dX11_tapeNumber_6 : decode cX11_tapeNumber 6 = .ok (.iload_n 3, 1) := by decide +kernel
theorem dX11_tapeNumber_7 : decode cX11_tapeNumber 7 = .ok (.iconst 4, 1) := by decide +kernel
theorem dX11_tapeNumber_8 : decode cX11_tapeNumber 8 = .ok (.iload_n 1, 1) := by decide +kernel
theorem dX11_tapeNumber_9 : decode cX11_tapeNumber 9 = .ok (.imul, 1) := by decide +kernel
theorem dX11_tapeNumber_10 : decode cX11_tapeNumber 10 = .ok (.iconst 4, 1) := by decide +kernel
theorem dX11_tapeNumber_11 : decode cX11_tapeNumber 11 = .ok (.iadd, 1) := by decide +kernel
theorem dX11_tapeNumber_12 : decode cX11_tapeNumber 12 = .ok (.if_icmp .ge 25, 3) := by decide +kernel
theorem dX11_tapeNumber_15 : decode cX11_tapeNumber 15 = .ok (.iload_n 2, 1) := by decide +kernel
theorem dX11_tapeNumber_16 : decode cX11_tapeNumber 16 = .ok (.bipush 8, 2) := by decide +kernel
theorem dX11_tapeNumber_18 : decode cX11_tapeNumber 18 = .ok (.ishl, 1) := by decide +kernel
theorem dX11_tapeNumber_19 : decode cX11_tapeNumber 19 = .ok (.aload_n 0, 1) := by decide +kernel
theorem dX11_tapeNumber_20 : decode cX11_tapeNumber 20 = .ok (.getfield 32, 3) := by decide +kernel
theorem dX11_tapeNumber_23 : decode cX11_tapeNumber 23 = .ok (.iload_n 3, 1) := by decide +kernel
theorem dX11_tapeNumber_24 : decode cX11_tapeNumber 24 = .ok (.baload, 1) := by decide +kernel
theorem dX11_tapeNumber_25 : decode cX11_tapeNumber 25 = .ok (.sipush 255, 3) := by decide +kernel
theorem dX11_tapeNumber_28 : decode cX11_tapeNumber 28 = .ok (.iand, 1) := by decide +kernel
theorem dX11_tapeNumber_29 : decode cX11_tapeNumber 29 = .ok (.ior, 1) := by decide +kernel
theorem dX11_tapeNumber_30 : decode cX11_tapeNumber 30 = .ok (.istore_n 2, 1) := by decide +kernel
theorem dX11_tapeNumber_31 : decode cX11_tapeNumber 31 = .ok (.iinc 3 1, 3) := by decide +kernel
theorem dX11_tapeNumber_34 : decode cX11_tapeNumber 34 = .ok (.goto (-28), 3) := by decide +kernel
theorem dX11_tapeNumber_37 : decode cX11_tapeNumber 37 = .ok (.iload_n 2, 1) := by decide +kernel
theorem dX11_tapeNumber_38 : decode cX11_tapeNumber 38 = .ok (.ireturn, 1) := by decide +kernel
theorem dX11_together_0 : decode cX11_together 0 = .ok (.iload_n 1, 1) := by decide +kernel
theorem dX11_together_1 : decode cX11_together 1 = .ok (.iconst 1, 1) := by decide +kernel
theorem dX11_together_2 : decode cX11_together 2 = .ok (.bipush 8, 2) := by decide +kernel
theorem dX11_together_4 : decode cX11_together 4 = .ok (.invokestatic 150, 3) := by decide +kernel
theorem dX11_together_7 : decode cX11_together 7 = .ok (.ifCond .eq 24, 3) := by decide +kernel
theorem dX11_together_10 : decode cX11_together 10 = .ok (.iload_n 2, 1) := by decide +kernel
theorem dX11_together_11 : decode cX11_together 11 = .ok (.iconst 0, 1) := by decide +kernel
theorem dX11_together_12 : decode cX11_together 12 = .ok (.iconst 2, 1) := by decide +kernel
theorem dX11_together_13 : decode cX11_together 13 = .ok (.invokestatic 150, 3) := by decide +kernel
theorem dX11_together_16 : decode cX11_together 16 = .ok (.ifCond .eq 15, 3) := by decide +kernel
theorem dX11_together_19 : decode cX11_together 19 = .ok (.iconst 2, 1) := by decide +kernel
theorem dX11_together_20 : decode cX11_together 20 = .ok (.iload_n 1, 1) := by decide +kernel
theorem dX11_together_21 : decode cX11_together 21 = .ok (.imul, 1) := by decide +kernel
theorem dX11_together_22 : decode cX11_together 22 = .ok (.iconst 1, 1) := by decide +kernel
theorem dX11_together_23 : decode cX11_together 23 = .ok (.iadd, 1) := by decide +kernel
theorem dX11_together_24 : decode cX11_together 24 = .ok (.aload_n 0, 1) := by decide +kernel
theorem dX11_together_25 : decode cX11_together 25 = .ok (.getfield 164, 3) := by decide +kernel
theorem dX11_together_28 : decode cX11_together 28 = .ok (.if_icmp .le 5, 3) := by decide +kernel
theorem dX11_together_31 : decode cX11_together 31 = .ok (.iconst (-1), 1) := by decide +kernel
theorem dX11_together_32 : decode cX11_together 32 = .ok (.ireturn, 1) := by decide +kernel
theorem dX11_together_33 : decode cX11_together 33 = .ok (.aload_n 0, 1) := by decide +kernel
theorem dX11_together_34 : decode cX11_together 34 = .ok (.getfield 32, 3) := by decide +kernel
theorem dX11_together_37 : decode cX11_together 37 = .ok (.iconst 2, 1) := by decide +kernel
theorem dX11_together_38 : decode cX11_together 38 = .ok (.iload_n 1, 1) := by decide +kernel
theorem dX11_together_39 : decode cX11_together 39 = .ok (.imul, 1) := by decide +kernel
theorem dX11_together_40 : decode cX11_together 40 = .ok (.baload, 1) := by decide +kernel
theorem dX11_together_41 : decode cX11_together 41 = .ok (.sipush 255, 3) := by decide +kernel
theorem dX11_together_44 : decode cX11_together 44 = .ok (.iand, 1) := by decide +kernel
theorem dX11_together_45 : decode cX11_together 45 = .ok (.istore_n 3, 1) := by decide +kernel
theorem dX11_together_46 : decode cX11_together 46 = .ok (.iconst 2, 1) := by decide +kernel
theorem dX11_together_47 : decode cX11_together 47 = .ok (.iload_n 1, 1) := by decide +kernel
theorem dX11_together_48 : decode cX11_together 48 = .ok (.imul, 1) := by decide +kernel
theorem dX11_together_49 : decode cX11_together 49 = .ok (.iconst 1, 1) := by decide +kernel
theorem dX11_together_50 : decode cX11_together 50 = .ok (.iadd, 1) := by decide +kernel
theorem dX11_together_51 : decode cX11_together 51 = .ok (.iconst 2, 1) := by decide +kernel
theorem dX11_together_52 : decode cX11_together 52 = .ok (.iload_n 3, 1) := by decide +kernel
theorem dX11_together_53 : decode cX11_together 53 = .ok (.imul, 1) := by decide +kernel
theorem dX11_together_54 : decode cX11_together 54 = .ok (.iadd, 1) := by decide +kernel
theorem dX11_together_55 : decode cX11_together 55 = .ok (.aload_n 0, 1) := by decide +kernel
theorem dX11_together_56 : decode cX11_together 56 = .ok (.getfield 164, 3) := by decide +kernel
theorem dX11_together_59 : decode cX11_together 59 = .ok (.if_icmp .le 5, 3) := by decide +kernel
theorem dX11_together_62 : decode cX11_together 62 = .ok (.iconst (-1), 1) := by decide +kernel
theorem dX11_together_63 : decode cX11_together 63 = .ok (.ireturn, 1) := by decide +kernel
theorem dX11_together_64 : decode cX11_together 64 = .ok (.aload_n 0, 1) := by decide +kernel
theorem dX11_together_65 : decode cX11_together 65 = .ok (.iconst 0, 1) := by decide +kernel
theorem dX11_together_66 : decode cX11_together 66 = .ok (.putfield 164, 3) := by decide +kernel
theorem dX11_together_69 : decode cX11_together 69 = .ok (.iload_n 3, 1) := by decide +kernel
theorem dX11_together_70 : decode cX11_together 70 = .ok (.bipush 12, 2) := by decide +kernel
theorem dX11_together_72 : decode cX11_together 72 = .ok (.if_icmp .le 6, 3) := by decide +kernel
theorem dX11_together_75 : decode cX11_together 75 = .ok (.bipush (-2), 2) := by decide +kernel
theorem dX11_together_77 : decode cX11_together 77 = .ok (.ireturn, 1) := by decide +kernel
theorem dX11_together_78 : decode cX11_together 78 = .ok (.iconst 0, 1) := by decide +kernel
theorem dX11_together_79 : decode cX11_together 79 = .ok (.istore 4, 2) := by decide +kernel
theorem dX11_together_81 : decode cX11_together 81 = .ok (.iload 4, 2) := by decide +kernel
theorem dX11_together_83 : decode cX11_together 83 = .ok (.iload_n 1, 1) := by decide +kernel
theorem dX11_together_84 : decode cX11_together 84 = .ok (.if_icmp .ge 26, 3) := by decide +kernel
theorem dX11_together_87 : decode cX11_together 87 = .ok (.aload_n 0, 1) := by decide +kernel
theorem dX11_together_88 : decode cX11_together 88 = .ok (.getfield 123, 3) := by decide +kernel
theorem dX11_together_91 : decode cX11_together 91 = .ok (.iload 4, 2) := by decide +kernel
theorem dX11_together_93 : decode cX11_together 93 = .ok (.iload 4, 2) := by decide +kernel
theorem dX11_together_95 : decode cX11_together 95 = .ok (.iastore, 1) := by decide +kernel
theorem dX11_together_96 : decode cX11_together 96 = .ok (.aload_n 0, 1) := by decide +kernel
theorem dX11_together_97 : decode cX11_together 97 = .ok (.getfield 126, 3) := by decide +kernel
theorem dX11_together_100 : decode cX11_together 100 = .ok (.iload 4, 2) := by decide +kernel
theorem dX11_together_102 : decode cX11_together 102 = .ok (.iconst 0, 1) := by decide +kernel
theorem dX11_together_103 : decode cX11_together 103 = .ok (.iastore, 1) := by decide +kernel
theorem dX11_together_104 : decode cX11_together 104 = .ok (.iinc 4 1, 3) := by decide +kernel
theorem dX11_together_107 : decode cX11_together 107 = .ok (.goto (-26), 3) := by decide +kernel
theorem dX11_together_110 : decode cX11_together 110 = .ok (.iconst 0, 1) := by decide +kernel
theorem dX11_together_111 : decode cX11_together 111 = .ok (.istore 4, 2) := by decide +kernel
theorem dX11_together_113 : decode cX11_together 113 = .ok (.iload 4, 2) := by decide +kernel
theorem dX11_together_115 : decode cX11_together 115 = .ok (.iconst 2, 1) := by decide +kernel
theorem dX11_together_116 : decode cX11_together 116 = .ok (.iload_n 3, 1) := by decide +kernel
theorem dX11_together_117 : decode cX11_together 117 = .ok (.imul, 1) := by decide +kernel
theorem dX11_together_118 : decode cX11_together 118 = .ok (.if_icmp .ge 35, 3) := by decide +kernel
theorem dX11_together_121 : decode cX11_together 121 = .ok (.aload_n 0, 1) := by decide +kernel
theorem dX11_together_122 : decode cX11_together 122 = .ok (.getfield 32, 3) := by decide +kernel
theorem dX11_together_125 : decode cX11_together 125 = .ok (.iconst 2, 1) := by decide +kernel
theorem dX11_together_126 : decode cX11_together 126 = .ok (.iload_n 1, 1) := by decide +kernel
theorem dX11_together_127 : decode cX11_together 127 = .ok (.imul, 1) := by decide +kernel
theorem dX11_together_128 : decode cX11_together 128 = .ok (.iconst 1, 1) := by decide +kernel
theorem dX11_together_129 : decode cX11_together 129 = .ok (.iadd, 1) := by decide +kernel
theorem dX11_together_130 : decode cX11_together 130 = .ok (.iload 4, 2) := by decide +kernel
theorem dX11_together_132 : decode cX11_together 132 = .ok (.iadd, 1) := by decide +kernel
theorem dX11_together_133 : decode cX11_together 133 = .ok (.baload, 1) := by decide +kernel
theorem dX11_together_134 : decode cX11_together 134 = .ok (.iconst 0, 1) := by decide +kernel
theorem dX11_together_135 : decode cX11_together 135 = .ok (.iload_n 1, 1) := by decide +kernel
theorem dX11_together_136 : decode cX11_together 136 = .ok (.iconst 1, 1) := by decide +kernel
theorem dX11_together_137 : decode cX11_together 137 = .ok (.isub, 1) := by decide +kernel
theorem dX11_together_138 : decode cX11_together 138 = .ok (.invokestatic 150, 3) := by decide +kernel
theorem dX11_together_141 : decode cX11_together 141 = .ok (.ifCond .ne 6, 3) := by decide +kernel
theorem dX11_together_144 : decode cX11_together 144 = .ok (.bipush (-2), 2) := by decide +kernel
theorem dX11_together_146 : decode cX11_together 146 = .ok (.ireturn, 1) := by decide +kernel
theorem dX11_together_147 : decode cX11_together 147 = .ok (.iinc 4 1, 3) := by decide +kernel
theorem dX11_together_150 : decode cX11_together 150 = .ok (.goto (-37), 3) := by decide +kernel
theorem dX11_together_153 : decode cX11_together 153 = .ok (.iconst 0, 1) := by decide +kernel
theorem dX11_together_154 : decode cX11_together 154 = .ok (.istore 4, 2) := by decide +kernel
theorem dX11_together_156 : decode cX11_together 156 = .ok (.iload 4, 2) := by decide +kernel
theorem dX11_together_158 : decode cX11_together 158 = .ok (.iload_n 3, 1) := by decide +kernel
theorem dX11_together_159 : decode cX11_together 159 = .ok (.if_icmp .ge 44, 3) := by decide +kernel
theorem dX11_together_162 : decode cX11_together 162 = .ok (.aload_n 0, 1) := by decide +kernel
theorem dX11_together_163 : decode cX11_together 163 = .ok (.aload_n 0, 1) := by decide +kernel
theorem dX11_together_164 : decode cX11_together 164 = .ok (.getfield 32, 3) := by decide +kernel
theorem dX11_together_167 : decode cX11_together 167 = .ok (.iconst 2, 1) := by decide +kernel
theorem dX11_together_168 : decode cX11_together 168 = .ok (.iload_n 1, 1) := by decide +kernel
theorem dX11_together_169 : decode cX11_together 169 = .ok (.imul, 1) := by decide +kernel
theorem dX11_together_170 : decode cX11_together 170 = .ok (.iconst 1, 1) := by decide +kernel
theorem dX11_together_171 : decode cX11_together 171 = .ok (.iadd, 1) := by decide +kernel
theorem dX11_together_172 : decode cX11_together 172 = .ok (.iconst 2, 1) := by decide +kernel
theorem dX11_together_173 : decode cX11_together 173 = .ok (.iload 4, 2) := by decide +kernel
theorem dX11_together_175 : decode cX11_together 175 = .ok (.imul, 1) := by decide +kernel
theorem dX11_together_176 : decode cX11_together 176 = .ok (.iadd, 1) := by decide +kernel
theorem dX11_together_177 : decode cX11_together 177 = .ok (.baload, 1) := by decide +kernel
theorem dX11_together_178 : decode cX11_together 178 = .ok (.aload_n 0, 1) := by decide +kernel
theorem dX11_together_179 : decode cX11_together 179 = .ok (.getfield 32, 3) := by decide +kernel
theorem dX11_together_182 : decode cX11_together 182 = .ok (.iconst 2, 1) := by decide +kernel
theorem dX11_together_183 : decode cX11_together 183 = .ok (.iload_n 1, 1) := by decide +kernel
theorem dX11_together_184 : decode cX11_together 184 = .ok (.imul, 1) := by decide +kernel
theorem dX11_together_185 : decode cX11_together 185 = .ok (.iconst 2, 1) := by decide +kernel
theorem dX11_together_186 : decode cX11_together 186 = .ok (.iadd, 1) := by decide +kernel
theorem dX11_together_187 : decode cX11_together 187 = .ok (.iconst 2, 1) := by decide +kernel
theorem dX11_together_188 : decode cX11_together 188 = .ok (.iload 4, 2) := by decide +kernel
theorem dX11_together_190 : decode cX11_together 190 = .ok (.imul, 1) := by decide +kernel
theorem dX11_together_191 : decode cX11_together 191 = .ok (.iadd, 1) := by decide +kernel
theorem dX11_together_192 : decode cX11_together 192 = .ok (.baload, 1) := by decide +kernel
theorem dX11_together_193 : decode cX11_together 193 = .ok (.iload_n 1, 1) := by decide +kernel
theorem dX11_together_194 : decode cX11_together 194 = .ok (.invokevirtual 449, 3) := by decide +kernel
theorem dX11_together_197 : decode cX11_together 197 = .ok (.iinc 4 1, 3) := by decide +kernel
theorem dX11_together_200 : decode cX11_together 200 = .ok (.goto (-44), 3) := by decide +kernel
theorem dX11_together_203 : decode cX11_together 203 = .ok (.iconst 0, 1) := by decide +kernel
theorem dX11_together_204 : decode cX11_together 204 = .ok (.istore 4, 2) := by decide +kernel
theorem dX11_together_206 : decode cX11_together 206 = .ok (.iload 4, 2) := by decide +kernel
theorem dX11_together_208 : decode cX11_together 208 = .ok (.iload_n 1, 1) := by decide +kernel
theorem dX11_together_209 : decode cX11_together 209 = .ok (.if_icmp .ge 69, 3) := by decide +kernel
theorem dX11_together_212 : decode cX11_together 212 = .ok (.aload_n 0, 1) := by decide +kernel
theorem dX11_together_213 : decode cX11_together 213 = .ok (.getfield 126, 3) := by decide +kernel
theorem dX11_together_216 : decode cX11_together 216 = .ok (.aload_n 0, 1) := by decide +kernel
theorem dX11_together_217 : decode cX11_together 217 = .ok (.getfield 123, 3) := by decide +kernel
theorem dX11_together_220 : decode cX11_together 220 = .ok (.iload 4, 2) := by decide +kernel
theorem dX11_together_222 : decode cX11_together 222 = .ok (.iaload, 1) := by decide +kernel
theorem dX11_together_223 : decode cX11_together 223 = .ok (.aload_n 0, 1) := by decide +kernel
theorem dX11_together_224 : decode cX11_together 224 = .ok (.getfield 126, 3) := by decide +kernel
theorem dX11_together_227 : decode cX11_together 227 = .ok (.aload_n 0, 1) := by decide +kernel
theorem dX11_together_228 : decode cX11_together 228 = .ok (.getfield 123, 3) := by decide +kernel
theorem dX11_together_231 : decode cX11_together 231 = .ok (.iload 4, 2) := by decide +kernel
theorem dX11_together_233 : decode cX11_together 233 = .ok (.iaload, 1) := by decide +kernel
theorem dX11_together_234 : decode cX11_together 234 = .ok (.iaload, 1) := by decide +kernel
theorem dX11_together_235 : decode cX11_together 235 = .ok (.aload_n 0, 1) := by decide +kernel
theorem dX11_together_236 : decode cX11_together 236 = .ok (.getfield 32, 3) := by decide +kernel
theorem dX11_together_239 : decode cX11_together 239 = .ok (.iconst 2, 1) := by decide +kernel
theorem dX11_together_240 : decode cX11_together 240 = .ok (.iload 4, 2) := by decide +kernel
theorem dX11_together_242 : decode cX11_together 242 = .ok (.imul, 1) := by decide +kernel
theorem dX11_together_243 : decode cX11_together 243 = .ok (.baload, 1) := by decide +kernel
theorem dX11_together_244 : decode cX11_together 244 = .ok (.sipush 255, 3) := by decide +kernel
theorem dX11_together_247 : decode cX11_together 247 = .ok (.iand, 1) := by decide +kernel
theorem dX11_together_248 : decode cX11_together 248 = .ok (.sipush 256, 3) := by decide +kernel
theorem dX11_together_251 : decode cX11_together 251 = .ok (.imul, 1) := by decide +kernel
theorem dX11_together_252 : decode cX11_together 252 = .ok (.aload_n 0, 1) := by decide +kernel
theorem dX11_together_253 : decode cX11_together 253 = .ok (.getfield 32, 3) := by decide +kernel
theorem dX11_together_256 : decode cX11_together 256 = .ok (.iconst 2, 1) := by decide +kernel
theorem dX11_together_257 : decode cX11_together 257 = .ok (.iload 4, 2) := by decide +kernel
theorem dX11_together_259 : decode cX11_together 259 = .ok (.imul, 1) := by decide +kernel
theorem dX11_together_260 : decode cX11_together 260 = .ok (.iconst 1, 1) := by decide +kernel
theorem dX11_together_261 : decode cX11_together 261 = .ok (.iadd, 1) := by decide +kernel
theorem dX11_together_262 : decode cX11_together 262 = .ok (.baload, 1) := by decide +kernel
theorem dX11_together_263 : decode cX11_together 263 = .ok (.sipush 255, 3) := by decide +kernel
theorem dX11_together_266 : decode cX11_together 266 = .ok (.iand, 1) := by decide +kernel
theorem dX11_together_267 : decode cX11_together 267 = .ok (.iadd, 1) := by decide +kernel
theorem dX11_together_268 : decode cX11_together 268 = .ok (.invokestatic 416, 3) := by decide +kernel
theorem dX11_together_271 : decode cX11_together 271 = .ok (.iastore, 1) := by decide +kernel
theorem dX11_together_272 : decode cX11_together 272 = .ok (.iinc 4 1, 3) := by decide +kernel
theorem dX11_together_275 : decode cX11_together 275 = .ok (.goto (-69), 3) := by decide +kernel
theorem dX11_together_278 : decode cX11_together 278 = .ok (.iconst 0, 1) := by decide +kernel
theorem dX11_together_279 : decode cX11_together 279 = .ok (.istore 4, 2) := by decide +kernel
theorem dX11_together_281 : decode cX11_together 281 = .ok (.iconst 0, 1) := by decide +kernel
theorem dX11_together_282 : decode cX11_together 282 = .ok (.istore 5, 2) := by decide +kernel
theorem dX11_together_284 : decode cX11_together 284 = .ok (.iconst 0, 1) := by decide +kernel
theorem dX11_together_285 : decode cX11_together 285 = .ok (.istore 6, 2) := by decide +kernel
theorem dX11_together_287 : decode cX11_together 287 = .ok (.iconst 0, 1) := by decide +kernel
theorem dX11_together_288 : decode cX11_together 288 = .ok (.istore 7, 2) := by decide +kernel
theorem dX11_together_290 : decode cX11_together 290 = .ok (.iload 7, 2) := by decide +kernel
theorem dX11_together_292 : decode cX11_together 292 = .ok (.iload_n 1, 1) := by decide +kernel
theorem dX11_together_293 : decode cX11_together 293 = .ok (.if_icmp .ge 53, 3) := by decide +kernel
theorem dX11_together_296 : decode cX11_together 296 = .ok (.aload_n 0, 1) := by decide +kernel
theorem dX11_together_297 : decode cX11_together 297 = .ok (.getfield 123, 3) := by decide +kernel
theorem dX11_together_300 : decode cX11_together 300 = .ok (.iload 7, 2) := by decide +kernel
theorem dX11_together_302 : decode cX11_together 302 = .ok (.iaload, 1) := by decide +kernel
theorem dX11_together_303 : decode cX11_together 303 = .ok (.iload 7, 2) := by decide +kernel
theorem dX11_together_305 : decode cX11_together 305 = .ok (.if_icmp .ne 9, 3) := by decide +kernel
theorem dX11_together_308 : decode cX11_together 308 = .ok (.iload 5, 2) := by decide +kernel
theorem dX11_together_310 : decode cX11_together 310 = .ok (.iconst 1, 1) := by decide +kernel
theorem dX11_together_311 : decode cX11_together 311 = .ok (.iadd, 1) := by decide +kernel
theorem dX11_together_312 : decode cX11_together 312 = .ok (.istore 5, 2) := by decide +kernel
theorem dX11_together_314 : decode cX11_together 314 = .ok (.iload 4, 2) := by decide +kernel
theorem dX11_together_316 : decode cX11_together 316 = .ok (.aload_n 0, 1) := by decide +kernel
theorem dX11_together_317 : decode cX11_together 317 = .ok (.getfield 126, 3) := by decide +kernel
theorem dX11_together_320 : decode cX11_together 320 = .ok (.iload 7, 2) := by decide +kernel
theorem dX11_together_322 : decode cX11_together 322 = .ok (.iaload, 1) := by decide +kernel
theorem dX11_together_323 : decode cX11_together 323 = .ok (.iadd, 1) := by decide +kernel
theorem dX11_together_324 : decode cX11_together 324 = .ok (.istore 4, 2) := by decide +kernel
theorem dX11_together_326 : decode cX11_together 326 = .ok (.iload 6, 2) := by decide +kernel
theorem dX11_together_328 : decode cX11_together 328 = .ok (.aload_n 0, 1) := by decide +kernel
theorem dX11_together_329 : decode cX11_together 329 = .ok (.getfield 126, 3) := by decide +kernel
theorem dX11_together_332 : decode cX11_together 332 = .ok (.iload 7, 2) := by decide +kernel
theorem dX11_together_334 : decode cX11_together 334 = .ok (.iaload, 1) := by decide +kernel
theorem dX11_together_335 : decode cX11_together 335 = .ok (.invokestatic 416, 3) := by decide +kernel
theorem dX11_together_338 : decode cX11_together 338 = .ok (.istore 6, 2) := by decide +kernel
theorem dX11_together_340 : decode cX11_together 340 = .ok (.iinc 7 1, 3) := by decide +kernel
theorem dX11_together_343 : decode cX11_together 343 = .ok (.goto (-53), 3) := by decide +kernel
theorem dX11_together_346 : decode cX11_together 346 = .ok (.iload_n 2, 1) := by decide +kernel
theorem dX11_together_347 : decode cX11_together 347 = .ok (.ifCond .ne 8, 3) := by decide +kernel
theorem dX11_together_350 : decode cX11_together 350 = .ok (.iload 4, 2) := by decide +kernel
theorem dX11_together_352 : decode cX11_together 352 = .ok (.goto 15, 3) := by decide +kernel
theorem dX11_together_355 : decode cX11_together 355 = .ok (.iload_n 2, 1) := by decide +kernel
theorem dX11_together_356 : decode cX11_together 356 = .ok (.iconst 1, 1) := by decide +kernel
theorem dX11_together_357 : decode cX11_together 357 = .ok (.if_icmp .ne 8, 3) := by decide +kernel
theorem dX11_together_360 : decode cX11_together 360 = .ok (.iload 5, 2) := by decide +kernel
theorem dX11_together_362 : decode cX11_together 362 = .ok (.goto 5, 3) := by decide +kernel
theorem dX11_together_365 : decode cX11_together 365 = .ok (.iload 6, 2) := by decide +kernel
theorem dX11_together_367 : decode cX11_together 367 = .ok (.ireturn, 1) := by decide +kernel

