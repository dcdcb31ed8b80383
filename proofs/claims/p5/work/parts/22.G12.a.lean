theorem cf_X11_bares : xCF yX11_bares cX11_bares 2 none 0 := ⟨xq 1593 (by decide +kernel) rfl, xq 179 (by decide +kernel) rfl, by decide +kernel⟩
theorem cf_X11_byFelon : xCF yX11_byFelon cX11_byFelon 4 (some .int) 3 := ⟨xq 1626 (by decide +kernel) rfl, xq 179 (by decide +kernel) rfl, by decide +kernel⟩
theorem cf_X11_byLaw : xCF yX11_byLaw cX11_byLaw 5 (some .int) 2 := ⟨xq 1578 (by decide +kernel) rfl, xq 179 (by decide +kernel) rfl, by decide +kernel⟩
theorem cf_X11_comesTo : xCF yX11_comesTo cX11_comesTo 8 (some .int) 2 := ⟨xq 1582 (by decide +kernel) rfl, xq 179 (by decide +kernel) rfl, by decide +kernel⟩
theorem cf_X11_fallsByLamps : xCF yX11_fallsByLamps cX11_fallsByLamps 3 none 0 := ⟨xq 1609 (by decide +kernel) rfl, xq 179 (by decide +kernel) rfl, by decide +kernel⟩
theorem cf_X11_fallsOf : xCF yX11_fallsOf cX11_fallsOf 4 none 2 := ⟨xq 1597 (by decide +kernel) rfl, xq 179 (by decide +kernel) rfl, by decide +kernel⟩
theorem cf_X11_feels : xCF yX11_feels cX11_feels 3 none 1 := ⟨xq 1574 (by decide +kernel) rfl, xq 179 (by decide +kernel) rfl, by decide +kernel⟩
theorem cf_X11_findsFor : xCF yX11_findsFor cX11_findsFor 4 (some .int) 1 := ⟨xq 1634 (by decide +kernel) rfl, xq 179 (by decide +kernel) rfl, by decide +kernel⟩
theorem cf_X11_isNight : xCF yX11_isNight cX11_isNight 3 (some .boolean) 1 := ⟨xq 1605 (by decide +kernel) rfl, xq 179 (by decide +kernel) rfl, by decide +kernel⟩
theorem cf_X11_laysCosts : xCF yX11_laysCosts cX11_laysCosts 8 none 3 := ⟨xq 1638 (by decide +kernel) rfl, xq 179 (by decide +kernel) rfl, by decide +kernel⟩
theorem cf_X11_min : xCF yX11_min cX11_min 2 (some .int) 2 := ⟨xq 1641 (by decide +kernel) rfl, xq 179 (by decide +kernel) rfl, by decide +kernel⟩
theorem cf_X11_owes : xCF yX11_owes cX11_owes 2 (some .boolean) 1 := ⟨xq 1621 (by decide +kernel) rfl, xq 179 (by decide +kernel) rfl, by decide +kernel⟩
theorem cf_X11_reckon : xCF yX11_reckon cX11_reckon 3 (some .int) 3 := ⟨xq 1585 (by decide +kernel) rfl, xq 179 (by decide +kernel) rfl, by decide +kernel⟩
theorem wq136 : Cond.selects yX11_feels.cls yX11_feels yX11_feels ∈ xTB := xq 136 (by decide +kernel) rfl
theorem wq137 : Cond.selects yX11_byLaw.cls yX11_byLaw yX11_byLaw ∈ xTB := xq 137 (by decide +kernel) rfl
theorem wq138 : Cond.selects yX11_comesTo.cls yX11_comesTo yX11_comesTo ∈ xTB := xq 138 (by decide +kernel) rfl
theorem wq140 : Cond.selects yX11_bares.cls yX11_bares yX11_bares ∈ xTB := xq 140 (by decide +kernel) rfl
theorem wq141 : Cond.selects yX11_fallsOf.cls yX11_fallsOf yX11_fallsOf ∈ xTB := xq 141 (by decide +kernel) rfl
theorem wq143 : Cond.selects yX11_isNight.cls yX11_isNight yX11_isNight ∈ xTB := xq 143 (by decide +kernel) rfl
theorem wq144 : Cond.selects yX11_fallsByLamps.cls yX11_fallsByLamps yX11_fallsByLamps ∈ xTB := xq 144 (by decide +kernel) rfl
theorem wq147 : Cond.selects yX11_owes.cls yX11_owes yX11_owes ∈ xTB := xq 147 (by decide +kernel) rfl
theorem wq148 : Cond.selects yX11_byFelon.cls yX11_byFelon yX11_byFelon ∈ xTB := xq 148 (by decide +kernel) rfl
theorem wq150 : Cond.selects yX11_findsFor.cls yX11_findsFor yX11_findsFor ∈ xTB := xq 150 (by decide +kernel) rfl
theorem wq151 : Cond.selects yX11_laysCosts.cls yX11_laysCosts yX11_laysCosts ∈ xTB := xq 151 (by decide +kernel) rfl
theorem wq1202 : Cond.fieldLink "ShadowCourtModel" (306) "ShadowCourtModel" "clauses" "I" ∈ xTB := xq 1202 (by decide +kernel) rfl
theorem wq1209 : Cond.fieldLink "ShadowCourtModel" (53) "ShadowCourtModel" "codes" "[I" ∈ xTB := xq 1209 (by decide +kernel) rfl
theorem wq1210 : Cond.fieldLink "ShadowCourtModel" (56) "ShadowCourtModel" "clauseOf" "[I" ∈ xTB := xq 1210 (by decide +kernel) rfl
theorem wq1211 : Cond.fieldLink "ShadowCourtModel" (59) "ShadowCourtModel" "codeFrom" "[I" ∈ xTB := xq 1211 (by decide +kernel) rfl
theorem wq1212 : Cond.fieldLink "ShadowCourtModel" (62) "ShadowCourtModel" "codeHalf" "[I" ∈ xTB := xq 1212 (by decide +kernel) rfl
theorem wq1213 : Cond.fieldLink "ShadowCourtModel" (65) "ShadowCourtModel" "codeTo" "[I" ∈ xTB := xq 1213 (by decide +kernel) rfl
theorem wq1223 : Cond.fieldLink "ShadowCourtModel" (83) "ShadowCourtModel" "stack" "[I" ∈ xTB := xq 1223 (by decide +kernel) rfl
theorem wq1231 : Cond.fieldLink "ShadowCourtModel" (95) "ShadowCourtModel" "orderOf" "[I" ∈ xTB := xq 1231 (by decide +kernel) rfl
theorem wq1232 : Cond.fieldLink "ShadowCourtModel" (98) "ShadowCourtModel" "rankOf" "[I" ∈ xTB := xq 1232 (by decide +kernel) rfl
theorem wq1233 : Cond.fieldLink "ShadowCourtModel" (135) "ShadowCourtModel" "goesFirst" "I" ∈ xTB := xq 1233 (by decide +kernel) rfl
theorem wq1234 : Cond.fieldLink "ShadowCourtModel" (101) "ShadowCourtModel" "isTaken" "[Z" ∈ xTB := xq 1234 (by decide +kernel) rfl
theorem wq1482 : Cond.constant "ShadowCourtModel" (197) (1048576) ∈ xTB := xq 1482 (by decide +kernel) rfl
theorem wq1571 : Cond.methodLink "ShadowCourtModel" (317) yX11_feels ∈ xTB := xq 1571 (by decide +kernel) rfl
theorem wq1573 : Cond.instanceMethod yX11_feels ∈ xTB := xq 1573 (by decide +kernel) rfl
theorem wq1575 : Cond.methodLink "ShadowCourtModel" (320) yX11_byLaw ∈ xTB := xq 1575 (by decide +kernel) rfl
theorem wq1577 : Cond.instanceMethod yX11_byLaw ∈ xTB := xq 1577 (by decide +kernel) rfl
theorem wq1579 : Cond.methodLink "ShadowCourtModel" (313) yX11_comesTo ∈ xTB := xq 1579 (by decide +kernel) rfl
theorem wq1581 : Cond.instanceMethod yX11_comesTo ∈ xTB := xq 1581 (by decide +kernel) rfl
theorem wq1583 : Cond.methodLink "ShadowCourtModel" (309) yX11_reckon ∈ xTB := xq 1583 (by decide +kernel) rfl
theorem wq1584 : Cond.static yX11_reckon ∈ xTB := xq 1584 (by decide +kernel) rfl
theorem wq1590 : Cond.methodLink "ShadowCourtModel" (333) yX11_bares ∈ xTB := xq 1590 (by decide +kernel) rfl
theorem wq1592 : Cond.instanceMethod yX11_bares ∈ xTB := xq 1592 (by decide +kernel) rfl
theorem wq1594 : Cond.methodLink "ShadowCourtModel" (336) yX11_fallsOf ∈ xTB := xq 1594 (by decide +kernel) rfl
theorem wq1596 : Cond.instanceMethod yX11_fallsOf ∈ xTB := xq 1596 (by decide +kernel) rfl
theorem wq1602 : Cond.methodLink "ShadowCourtModel" (339) yX11_isNight ∈ xTB := xq 1602 (by decide +kernel) rfl
theorem wq1604 : Cond.instanceMethod yX11_isNight ∈ xTB := xq 1604 (by decide +kernel) rfl
theorem wq1606 : Cond.methodLink "ShadowCourtModel" (342) yX11_fallsByLamps ∈ xTB := xq 1606 (by decide +kernel) rfl
theorem wq1608 : Cond.instanceMethod yX11_fallsByLamps ∈ xTB := xq 1608 (by decide +kernel) rfl
theorem wq1618 : Cond.methodLink "ShadowCourtModel" (349) yX11_owes ∈ xTB := xq 1618 (by decide +kernel) rfl
theorem wq1620 : Cond.instanceMethod yX11_owes ∈ xTB := xq 1620 (by decide +kernel) rfl
theorem wq1623 : Cond.methodLink "ShadowCourtModel" (352) yX11_byFelon ∈ xTB := xq 1623 (by decide +kernel) rfl
theorem wq1625 : Cond.instanceMethod yX11_byFelon ∈ xTB := xq 1625 (by decide +kernel) rfl
theorem wq1631 : Cond.methodLink "ShadowCourtModel" (359) yX11_findsFor ∈ xTB := xq 1631 (by decide +kernel) rfl
theorem wq1633 : Cond.instanceMethod yX11_findsFor ∈ xTB := xq 1633 (by decide +kernel) rfl
theorem wq1635 : Cond.methodLink "ShadowCourtModel" (355) yX11_laysCosts ∈ xTB := xq 1635 (by decide +kernel) rfl
theorem wq1637 : Cond.instanceMethod yX11_laysCosts ∈ xTB := xq 1637 (by decide +kernel) rfl
theorem wq1639 : Cond.methodLink "ShadowCourtModel" (362) yX11_min ∈ xTB := xq 1639 (by decide +kernel) rfl
theorem wq1640 : Cond.static yX11_min ∈ xTB := xq 1640 (by decide +kernel) rfl
theorem dX11_byFelon_0 : decode cX11_byFelon 0 = .ok (.aload_n 0, 1) := by decide +kernel
theorem dX11_byFelon_1 : decode cX11_byFelon 1 = .ok (.aload_n 0, 1) := by decide +kernel
theorem dX11_byFelon_2 : decode cX11_byFelon 2 = .ok (.getfield 7, 3) := by decide +kernel
theorem dX11_byFelon_5 : decode cX11_byFelon 5 = .ok (.bipush 37, 2) := by decide +kernel
theorem dX11_byFelon_7 : decode cX11_byFelon 7 = .ok (.iaload, 1) := by decide +kernel
theorem dX11_byFelon_8 : decode cX11_byFelon 8 = .ok (.invokevirtual 317, 3) := by decide +kernel
theorem dX11_byFelon_11 : decode cX11_byFelon 11 = .ok (.aload_n 0, 1) := by decide +kernel
theorem dX11_byFelon_12 : decode cX11_byFelon 12 = .ok (.getfield 86, 3) := by decide +kernel
theorem dX11_byFelon_15 : decode cX11_byFelon 15 = .ok (.iconst 3, 1) := by decide +kernel
theorem dX11_byFelon_16 : decode cX11_byFelon 16 = .ok (.iload_n 3, 1) := by decide +kernel
theorem dX11_byFelon_17 : decode cX11_byFelon 17 = .ok (.iastore, 1) := by decide +kernel
theorem dX11_byFelon_18 : decode cX11_byFelon 18 = .ok (.aload_n 0, 1) := by decide +kernel
theorem dX11_byFelon_19 : decode cX11_byFelon 19 = .ok (.getfield 86, 3) := by decide +kernel
theorem dX11_byFelon_22 : decode cX11_byFelon 22 = .ok (.iconst 4, 1) := by decide +kernel
theorem dX11_byFelon_23 : decode cX11_byFelon 23 = .ok (.aload_n 0, 1) := by decide +kernel
theorem dX11_byFelon_24 : decode cX11_byFelon 24 = .ok (.getfield 7, 3) := by decide +kernel
theorem dX11_byFelon_27 : decode cX11_byFelon 27 = .ok (.bipush 14, 2) := by decide +kernel
theorem dX11_byFelon_29 : decode cX11_byFelon 29 = .ok (.iload_n 3, 1) := by decide +kernel
theorem dX11_byFelon_30 : decode cX11_byFelon 30 = .ok (.iadd, 1) := by decide +kernel
theorem dX11_byFelon_31 : decode cX11_byFelon 31 = .ok (.iaload, 1) := by decide +kernel
theorem dX11_byFelon_32 : decode cX11_byFelon 32 = .ok (.iastore, 1) := by decide +kernel
theorem dX11_byFelon_33 : decode cX11_byFelon 33 = .ok (.aload_n 0, 1) := by decide +kernel
theorem dX11_byFelon_34 : decode cX11_byFelon 34 = .ok (.getfield 86, 3) := by decide +kernel
theorem dX11_byFelon_37 : decode cX11_byFelon 37 = .ok (.iconst 5, 1) := by decide +kernel
theorem dX11_byFelon_38 : decode cX11_byFelon 38 = .ok (.aload_n 0, 1) := by decide +kernel
theorem dX11_byFelon_39 : decode cX11_byFelon 39 = .ok (.getfield 7, 3) := by decide +kernel
theorem dX11_byFelon_42 : decode cX11_byFelon 42 = .ok (.bipush 24, 2) := by decide +kernel
theorem dX11_byFelon_44 : decode cX11_byFelon 44 = .ok (.iload_n 3, 1) := by decide +kernel
theorem dX11_byFelon_45 : decode cX11_byFelon 45 = .ok (.iadd, 1) := by decide +kernel
theorem dX11_byFelon_46 : decode cX11_byFelon 46 = .ok (.iaload, 1) := by decide +kernel
theorem dX11_byFelon_47 : decode cX11_byFelon 47 = .ok (.iastore, 1) := by decide +kernel
theorem dX11_byFelon_48 : decode cX11_byFelon 48 = .ok (.aload_n 0, 1) := by decide +kernel
theorem dX11_byFelon_49 : decode cX11_byFelon 49 = .ok (.getfield 86, 3) := by decide +kernel
theorem dX11_byFelon_52 : decode cX11_byFelon 52 = .ok (.bipush 6, 2) := by decide +kernel
theorem dX11_byFelon_54 : decode cX11_byFelon 54 = .ok (.aload_n 0, 1) := by decide +kernel
theorem dX11_byFelon_55 : decode cX11_byFelon 55 = .ok (.getfield 19, 3) := by decide +kernel
theorem dX11_byFelon_58 : decode cX11_byFelon 58 = .ok (.aload_n 0, 1) := by decide +kernel
theorem dX11_byFelon_59 : decode cX11_byFelon 59 = .ok (.getfield 7, 3) := by decide +kernel
theorem dX11_byFelon_62 : decode cX11_byFelon 62 = .ok (.iconst 4, 1) := by decide +kernel
theorem dX11_byFelon_63 : decode cX11_byFelon 63 = .ok (.iload_n 3, 1) := by decide +kernel
theorem dX11_byFelon_64 : decode cX11_byFelon 64 = .ok (.iadd, 1) := by decide +kernel
theorem dX11_byFelon_65 : decode cX11_byFelon 65 = .ok (.iaload, 1) := by decide +kernel
theorem dX11_byFelon_66 : decode cX11_byFelon 66 = .ok (.iaload, 1) := by decide +kernel
theorem dX11_byFelon_67 : decode cX11_byFelon 67 = .ok (.iconst 2, 1) := by decide +kernel
theorem dX11_byFelon_68 : decode cX11_byFelon 68 = .ok (.if_icmp .ne 7, 3) := by decide +kernel
theorem dX11_byFelon_71 : decode cX11_byFelon 71 = .ok (.iconst 1, 1) := by decide +kernel
theorem dX11_byFelon_72 : decode cX11_byFelon 72 = .ok (.goto 4, 3) := by decide +kernel
theorem dX11_byFelon_75 : decode cX11_byFelon 75 = .ok (.iconst 0, 1) := by decide +kernel
theorem dX11_byFelon_76 : decode cX11_byFelon 76 = .ok (.iastore, 1) := by decide +kernel
theorem dX11_byFelon_77 : decode cX11_byFelon 77 = .ok (.aload_n 0, 1) := by decide +kernel
theorem dX11_byFelon_78 : decode cX11_byFelon 78 = .ok (.iload_n 1, 1) := by decide +kernel
theorem dX11_byFelon_79 : decode cX11_byFelon 79 = .ok (.iload_n 2, 1) := by decide +kernel
theorem dX11_byFelon_80 : decode cX11_byFelon 80 = .ok (.invokevirtual 320, 3) := by decide +kernel
theorem dX11_byFelon_83 : decode cX11_byFelon 83 = .ok (.ireturn, 1) := by decide +kernel
theorem dX11_byLaw_0 : decode cX11_byLaw 0 = .ok (.iconst 0, 1) := by decide +kernel
theorem dX11_byLaw_1 : decode cX11_byLaw 1 = .ok (.istore_n 3, 1) := by decide +kernel
theorem dX11_byLaw_2 : decode cX11_byLaw 2 = .ok (.iload_n 3, 1) := by decide +kernel
theorem dX11_byLaw_3 : decode cX11_byLaw 3 = .ok (.aload_n 0, 1) := by decide +kernel
theorem dX11_byLaw_4 : decode cX11_byLaw 4 = .ok (.getfield 306, 3) := by decide +kernel
theorem dX11_byLaw_7 : decode cX11_byLaw 7 = .ok (.if_icmp .ge 82, 3) := by decide +kernel
theorem dX11_byLaw_10 : decode cX11_byLaw 10 = .ok (.aload_n 0, 1) := by decide +kernel
theorem dX11_byLaw_11 : decode cX11_byLaw 11 = .ok (.getfield 56, 3) := by decide +kernel
theorem dX11_byLaw_14 : decode cX11_byLaw 14 = .ok (.iload_n 3, 1) := by decide +kernel
theorem dX11_byLaw_15 : decode cX11_byLaw 15 = .ok (.iaload, 1) := by decide +kernel
theorem dX11_byLaw_16 : decode cX11_byLaw 16 = .ok (.iload_n 1, 1) := by decide +kernel
theorem dX11_byLaw_17 : decode cX11_byLaw 17 = .ok (.if_icmp .ne 66, 3) := by decide +kernel
theorem dX11_byLaw_20 : decode cX11_byLaw 20 = .ok (.aload_n 0, 1) := by decide +kernel
theorem dX11_byLaw_21 : decode cX11_byLaw 21 = .ok (.aload_n 0, 1) := by decide +kernel
theorem dX11_byLaw_22 : decode cX11_byLaw 22 = .ok (.getfield 62, 3) := by decide +kernel
theorem dX11_byLaw_25 : decode cX11_byLaw 25 = .ok (.iload_n 3, 1) := by decide +kernel
theorem dX11_byLaw_26 : decode cX11_byLaw 26 = .ok (.iaload, 1) := by decide +kernel
theorem dX11_byLaw_27 : decode cX11_byLaw 27 = .ok (.aload_n 0, 1) := by decide +kernel
theorem dX11_byLaw_28 : decode cX11_byLaw 28 = .ok (.getfield 65, 3) := by decide +kernel
theorem dX11_byLaw_31 : decode cX11_byLaw 31 = .ok (.iload_n 3, 1) := by decide +kernel
theorem dX11_byLaw_32 : decode cX11_byLaw 32 = .ok (.iaload, 1) := by decide +kernel
theorem dX11_byLaw_33 : decode cX11_byLaw 33 = .ok (.invokevirtual 313, 3) := by decide +kernel
theorem dX11_byLaw_36 : decode cX11_byLaw 36 = .ok (.iconst 1, 1) := by decide +kernel
theorem dX11_byLaw_37 : decode cX11_byLaw 37 = .ok (.if_icmp .eq 6, 3) := by decide +kernel
theorem dX11_byLaw_40 : decode cX11_byLaw 40 = .ok (.goto 43, 3) := by decide +kernel
theorem dX11_byLaw_43 : decode cX11_byLaw 43 = .ok (.aload_n 0, 1) := by decide +kernel
theorem dX11_byLaw_44 : decode cX11_byLaw 44 = .ok (.aload_n 0, 1) := by decide +kernel
theorem dX11_byLaw_45 : decode cX11_byLaw 45 = .ok (.getfield 59, 3) := by decide +kernel
theorem dX11_byLaw_48 : decode cX11_byLaw 48 = .ok (.iload_n 3, 1) := by decide +kernel
theorem dX11_byLaw_49 : decode cX11_byLaw 49 = .ok (.iaload, 1) := by decide +kernel
theorem dX11_byLaw_50 : decode cX11_byLaw 50 = .ok (.aload_n 0, 1) := by decide +kernel
theorem dX11_byLaw_51 : decode cX11_byLaw 51 = .ok (.getfield 62, 3) := by decide +kernel
theorem dX11_byLaw_54 : decode cX11_byLaw 54 = .ok (.iload_n 3, 1) := by decide +kernel
theorem dX11_byLaw_55 : decode cX11_byLaw 55 = .ok (.iaload, 1) := by decide +kernel
theorem dX11_byLaw_56 : decode cX11_byLaw 56 = .ok (.invokevirtual 313, 3) := by decide +kernel
theorem dX11_byLaw_59 : decode cX11_byLaw 59 = .ok (.istore 4, 2) := by decide +kernel
theorem dX11_byLaw_61 : decode cX11_byLaw 61 = .ok (.iload 4, 2) := by decide +kernel
theorem dX11_byLaw_63 : decode cX11_byLaw 63 = .ok (.ifCond .ge 7, 3) := by decide +kernel
theorem dX11_byLaw_66 : decode cX11_byLaw 66 = .ok (.iconst 0, 1) := by decide +kernel
theorem dX11_byLaw_67 : decode cX11_byLaw 67 = .ok (.goto 15, 3) := by decide +kernel
theorem dX11_byLaw_70 : decode cX11_byLaw 70 = .ok (.iload 4, 2) := by decide +kernel
theorem dX11_byLaw_72 : decode cX11_byLaw 72 = .ok (.iload_n 2, 1) := by decide +kernel
theorem dX11_byLaw_73 : decode cX11_byLaw 73 = .ok (.if_icmp .le 7, 3) := by decide +kernel
theorem dX11_byLaw_76 : decode cX11_byLaw 76 = .ok (.iload_n 2, 1) := by decide +kernel
theorem dX11_byLaw_77 : decode cX11_byLaw 77 = .ok (.goto 5, 3) := by decide +kernel
theorem dX11_byLaw_80 : decode cX11_byLaw 80 = .ok (.iload 4, 2) := by decide +kernel
theorem dX11_byLaw_82 : decode cX11_byLaw 82 = .ok (.ireturn, 1) := by decide +kernel
theorem dX11_byLaw_83 : decode cX11_byLaw 83 = .ok (.iinc 3 1, 3) := by decide +kernel
theorem dX11_byLaw_86 : decode cX11_byLaw 86 = .ok (.goto (-84), 3) := by decide +kernel
theorem dX11_byLaw_89 : decode cX11_byLaw 89 = .ok (.iconst 0, 1) := by decide +kernel
theorem dX11_byLaw_90 : decode cX11_byLaw 90 = .ok (.ireturn, 1) := by decide +kernel
theorem dX11_comesTo_0 : decode cX11_comesTo 0 = .ok (.iconst 0, 1) := by decide +kernel
theorem dX11_comesTo_1 : decode cX11_comesTo 1 = .ok (.istore_n 3, 1) := by decide +kernel
theorem dX11_comesTo_2 : decode cX11_comesTo 2 = .ok (.sipush 260, 3) := by decide +kernel
theorem dX11_comesTo_5 : decode cX11_comesTo 5 = .ok (.iload_n 1, 1) := by decide +kernel
theorem dX11_comesTo_6 : decode cX11_comesTo 6 = .ok (.sipush 260, 3) := by decide +kernel
theorem dX11_comesTo_9 : decode cX11_comesTo 9 = .ok (.idiv, 1) := by decide +kernel
theorem dX11_comesTo_10 : decode cX11_comesTo 10 = .ok (.imul, 1) := by decide +kernel
theorem dX11_comesTo_11 : decode cX11_comesTo 11 = .ok (.istore 4, 2) := by decide +kernel
theorem dX11_comesTo_13 : decode cX11_comesTo 13 = .ok (.iload_n 1, 1) := by decide +kernel
theorem dX11_comesTo_14 : decode cX11_comesTo 14 = .ok (.istore 5, 2) := by decide +kernel
theorem dX11_comesTo_16 : decode cX11_comesTo 16 = .ok (.iload 5, 2) := by decide +kernel
theorem dX11_comesTo_18 : decode cX11_comesTo 18 = .ok (.iload_n 2, 1) := by decide +kernel
theorem dX11_comesTo_19 : decode cX11_comesTo 19 = .ok (.if_icmp .ge 214, 3) := by decide +kernel
theorem dX11_comesTo_22 : decode cX11_comesTo 22 = .ok (.aload_n 0, 1) := by decide +kernel
theorem dX11_comesTo_23 : decode cX11_comesTo 23 = .ok (.getfield 53, 3) := by decide +kernel
theorem dX11_comesTo_26 : decode cX11_comesTo 26 = .ok (.iload 5, 2) := by decide +kernel
theorem dX11_comesTo_28 : decode cX11_comesTo 28 = .ok (.iaload, 1) := by decide +kernel
theorem dX11_comesTo_29 : decode cX11_comesTo 29 = .ok (.ldc 197, 2) := by decide +kernel
theorem dX11_comesTo_31 : decode cX11_comesTo 31 = .ok (.idiv, 1) := by decide +kernel
theorem dX11_comesTo_32 : decode cX11_comesTo 32 = .ok (.istore 6, 2) := by decide +kernel
theorem dX11_comesTo_34 : decode cX11_comesTo 34 = .ok (.aload_n 0, 1) := by decide +kernel
theorem dX11_comesTo_35 : decode cX11_comesTo 35 = .ok (.getfield 53, 3) := by decide +kernel
theorem dX11_comesTo_38 : decode cX11_comesTo 38 = .ok (.iload 5, 2) := by decide +kernel
theorem dX11_comesTo_40 : decode cX11_comesTo 40 = .ok (.iaload, 1) := by decide +kernel
theorem dX11_comesTo_41 : decode cX11_comesTo 41 = .ok (.ldc 197, 2) := by decide +kernel
theorem dX11_comesTo_43 : decode cX11_comesTo 43 = .ok (.irem, 1) := by decide +kernel
theorem dX11_comesTo_44 : decode cX11_comesTo 44 = .ok (.istore 7, 2) := by decide +kernel
theorem dX11_comesTo_46 : decode cX11_comesTo 46 = .ok (.iload 5, 2) := by decide +kernel
theorem dX11_comesTo_48 : decode cX11_comesTo 48 = .ok (.iconst 1, 1) := by decide +kernel
theorem dX11_comesTo_49 : decode cX11_comesTo 49 = .ok (.iadd, 1) := by decide +kernel
theorem dX11_comesTo_50 : decode cX11_comesTo 50 = .ok (.istore 5, 2) := by decide +kernel
theorem dX11_comesTo_52 : decode cX11_comesTo 52 = .ok (.iload 6, 2) := by decide +kernel
theorem dX11_comesTo_54 : decode cX11_comesTo 54 = .ok (.ifCond .eq 9, 3) := by decide +kernel
theorem dX11_comesTo_57 : decode cX11_comesTo 57 = .ok (.iload 6, 2) := by decide +kernel
theorem dX11_comesTo_59 : decode cX11_comesTo 59 = .ok (.iconst 1, 1) := by decide +kernel
theorem dX11_comesTo_60 : decode cX11_comesTo 60 = .ok (.if_icmp .ne 33, 3) := by decide +kernel
theorem dX11_comesTo_63 : decode cX11_comesTo 63 = .ok (.aload_n 0, 1) := by decide +kernel
theorem dX11_comesTo_64 : decode cX11_comesTo 64 = .ok (.getfield 83, 3) := by decide +kernel
theorem dX11_comesTo_67 : decode cX11_comesTo 67 = .ok (.iload_n 3, 1) := by decide +kernel
theorem dX11_comesTo_68 : decode cX11_comesTo 68 = .ok (.iload 6, 2) := by decide +kernel
theorem dX11_comesTo_70 : decode cX11_comesTo 70 = .ok (.ifCond .ne 8, 3) := by decide +kernel
theorem dX11_comesTo_73 : decode cX11_comesTo 73 = .ok (.iload 7, 2) := by decide +kernel
theorem dX11_comesTo_75 : decode cX11_comesTo 75 = .ok (.goto 10, 3) := by decide +kernel
theorem dX11_comesTo_78 : decode cX11_comesTo 78 = .ok (.aload_n 0, 1) := by decide +kernel
theorem dX11_comesTo_79 : decode cX11_comesTo 79 = .ok (.getfield 86, 3) := by decide +kernel
theorem dX11_comesTo_82 : decode cX11_comesTo 82 = .ok (.iload 7, 2) := by decide +kernel
theorem dX11_comesTo_84 : decode cX11_comesTo 84 = .ok (.iaload, 1) := by decide +kernel
theorem dX11_comesTo_85 : decode cX11_comesTo 85 = .ok (.iastore, 1) := by decide +kernel
theorem dX11_comesTo_86 : decode cX11_comesTo 86 = .ok (.iload_n 3, 1) := by decide +kernel
theorem dX11_comesTo_87 : decode cX11_comesTo 87 = .ok (.iconst 1, 1) := by decide +kernel
theorem dX11_comesTo_88 : decode cX11_comesTo 88 = .ok (.iadd, 1) := by decide +kernel
theorem dX11_comesTo_89 : decode cX11_comesTo 89 = .ok (.istore_n 3, 1) := by decide +kernel
theorem dX11_comesTo_90 : decode cX11_comesTo 90 = .ok (.goto 140, 3) := by decide +kernel
theorem dX11_comesTo_93 : decode cX11_comesTo 93 = .ok (.iload 6, 2) := by decide +kernel
theorem dX11_comesTo_95 : decode cX11_comesTo 95 = .ok (.bipush 10, 2) := by decide +kernel
theorem dX11_comesTo_97 : decode cX11_comesTo 97 = .ok (.if_icmp .ne 24, 3) := by decide +kernel
theorem dX11_comesTo_100 : decode cX11_comesTo 100 = .ok (.aload_n 0, 1) := by decide +kernel
theorem dX11_comesTo_101 : decode cX11_comesTo 101 = .ok (.getfield 83, 3) := by decide +kernel
theorem dX11_comesTo_104 : decode cX11_comesTo 104 = .ok (.iload_n 3, 1) := by decide +kernel
theorem dX11_comesTo_105 : decode cX11_comesTo 105 = .ok (.iconst 1, 1) := by decide +kernel
theorem dX11_comesTo_106 : decode cX11_comesTo 106 = .ok (.isub, 1) := by decide +kernel
theorem dX11_comesTo_107 : decode cX11_comesTo 107 = .ok (.iconst 1, 1) := by decide +kernel
theorem dX11_comesTo_108 : decode cX11_comesTo 108 = .ok (.aload_n 0, 1) := by decide +kernel
theorem dX11_comesTo_109 : decode cX11_comesTo 109 = .ok (.getfield 83, 3) := by decide +kernel
theorem dX11_comesTo_112 : decode cX11_comesTo 112 = .ok (.iload_n 3, 1) := by decide +kernel
theorem dX11_comesTo_113 : decode cX11_comesTo 113 = .ok (.iconst 1, 1) := by decide +kernel
theorem dX11_comesTo_114 : decode cX11_comesTo 114 = .ok (.isub, 1) := by decide +kernel
theorem dX11_comesTo_115 : decode cX11_comesTo 115 = .ok (.iaload, 1) := by decide +kernel
theorem dX11_comesTo_116 : decode cX11_comesTo 116 = .ok (.isub, 1) := by decide +kernel
theorem dX11_comesTo_117 : decode cX11_comesTo 117 = .ok (.iastore, 1) := by decide +kernel
theorem dX11_comesTo_118 : decode cX11_comesTo 118 = .ok (.goto 112, 3) := by decide +kernel
theorem dX11_comesTo_121 : decode cX11_comesTo 121 = .ok (.iload 6, 2) := by decide +kernel
theorem dX11_comesTo_123 : decode cX11_comesTo 123 = .ok (.bipush 11, 2) := by decide +kernel
theorem dX11_comesTo_125 : decode cX11_comesTo 125 = .ok (.if_icmp .eq 10, 3) := by decide +kernel
theorem dX11_comesTo_128 : decode cX11_comesTo 128 = .ok (.iload 6, 2) := by decide +kernel
theorem dX11_comesTo_130 : decode cX11_comesTo 130 = .ok (.bipush 12, 2) := by decide +kernel
theorem dX11_comesTo_132 : decode cX11_comesTo 132 = .ok (.if_icmp .ne 43, 3) := by decide +kernel
theorem dX11_comesTo_135 : decode cX11_comesTo 135 = .ok (.aload_n 0, 1) := by decide +kernel
theorem dX11_comesTo_136 : decode cX11_comesTo 136 = .ok (.getfield 83, 3) := by decide +kernel
theorem dX11_comesTo_139 : decode cX11_comesTo 139 = .ok (.iload_n 3, 1) := by decide +kernel
theorem dX11_comesTo_140 : decode cX11_comesTo 140 = .ok (.iconst 1, 1) := by decide +kernel
theorem dX11_comesTo_141 : decode cX11_comesTo 141 = .ok (.isub, 1) := by decide +kernel
theorem dX11_comesTo_142 : decode cX11_comesTo 142 = .ok (.iaload, 1) := by decide +kernel
theorem dX11_comesTo_143 : decode cX11_comesTo 143 = .ok (.iload 6, 2) := by decide +kernel
theorem dX11_comesTo_145 : decode cX11_comesTo 145 = .ok (.bipush 12, 2) := by decide +kernel
theorem dX11_comesTo_147 : decode cX11_comesTo 147 = .ok (.if_icmp .ne 7, 3) := by decide +kernel
theorem dX11_comesTo_150 : decode cX11_comesTo 150 = .ok (.iconst 1, 1) := by decide +kernel
theorem dX11_comesTo_151 : decode cX11_comesTo 151 = .ok (.goto 4, 3) := by decide +kernel
theorem dX11_comesTo_154 : decode cX11_comesTo 154 = .ok (.iconst 0, 1) := by decide +kernel
theorem dX11_comesTo_155 : decode cX11_comesTo 155 = .ok (.if_icmp .ne 13, 3) := by decide +kernel
theorem dX11_comesTo_158 : decode cX11_comesTo 158 = .ok (.iload 4, 2) := by decide +kernel
theorem dX11_comesTo_160 : decode cX11_comesTo 160 = .ok (.iload 7, 2) := by decide +kernel
theorem dX11_comesTo_162 : decode cX11_comesTo 162 = .ok (.iadd, 1) := by decide +kernel
theorem dX11_comesTo_163 : decode cX11_comesTo 163 = .ok (.istore 5, 2) := by decide +kernel
theorem dX11_comesTo_165 : decode cX11_comesTo 165 = .ok (.goto 65, 3) := by decide +kernel
theorem dX11_comesTo_168 : decode cX11_comesTo 168 = .ok (.iload_n 3, 1) := by decide +kernel
theorem dX11_comesTo_169 : decode cX11_comesTo 169 = .ok (.iconst 1, 1) := by decide +kernel
theorem dX11_comesTo_170 : decode cX11_comesTo 170 = .ok (.isub, 1) := by decide +kernel
theorem dX11_comesTo_171 : decode cX11_comesTo 171 = .ok (.istore_n 3, 1) := by decide +kernel
theorem dX11_comesTo_172 : decode cX11_comesTo 172 = .ok (.goto 58, 3) := by decide +kernel
theorem dX11_comesTo_175 : decode cX11_comesTo 175 = .ok (.iload_n 3, 1) := by decide +kernel
theorem dX11_comesTo_176 : decode cX11_comesTo 176 = .ok (.iconst 1, 1) := by decide +kernel
theorem dX11_comesTo_177 : decode cX11_comesTo 177 = .ok (.isub, 1) := by decide +kernel
theorem dX11_comesTo_178 : decode cX11_comesTo 178 = .ok (.istore_n 3, 1) := by decide +kernel
theorem dX11_comesTo_179 : decode cX11_comesTo 179 = .ok (.iload 6, 2) := by decide +kernel
theorem dX11_comesTo_181 : decode cX11_comesTo 181 = .ok (.iconst 5, 1) := by decide +kernel
theorem dX11_comesTo_182 : decode cX11_comesTo 182 = .ok (.if_icmp .eq 10, 3) := by decide +kernel
theorem dX11_comesTo_185 : decode cX11_comesTo 185 = .ok (.iload 6, 2) := by decide +kernel
theorem dX11_comesTo_187 : decode cX11_comesTo 187 = .ok (.bipush 6, 2) := by decide +kernel
theorem dX11_comesTo_189 : decode cX11_comesTo 189 = .ok (.if_icmp .ne 14, 3) := by decide +kernel
theorem dX11_comesTo_192 : decode cX11_comesTo 192 = .ok (.aload_n 0, 1) := by decide +kernel
theorem dX11_comesTo_193 : decode cX11_comesTo 193 = .ok (.getfield 83, 3) := by decide +kernel
theorem dX11_comesTo_196 : decode cX11_comesTo 196 = .ok (.iload_n 3, 1) := by decide +kernel
theorem dX11_comesTo_197 : decode cX11_comesTo 197 = .ok (.iaload, 1) := by decide +kernel
theorem dX11_comesTo_198 : decode cX11_comesTo 198 = .ok (.ifCond .ne 5, 3) := by decide +kernel
theorem dX11_comesTo_201 : decode cX11_comesTo 201 = .ok (.iconst 0, 1) := by decide +kernel
theorem dX11_comesTo_202 : decode cX11_comesTo 202 = .ok (.ireturn, 1) := by decide +kernel
theorem dX11_comesTo_203 : decode cX11_comesTo 203 = .ok (.aload_n 0, 1) := by decide +kernel
theorem dX11_comesTo_204 : decode cX11_comesTo 204 = .ok (.getfield 83, 3) := by decide +kernel
theorem dX11_comesTo_207 : decode cX11_comesTo 207 = .ok (.iload_n 3, 1) := by decide +kernel
theorem dX11_comesTo_208 : decode cX11_comesTo 208 = .ok (.iconst 1, 1) := by decide +kernel
theorem dX11_comesTo_209 : decode cX11_comesTo 209 = .ok (.isub, 1) := by decide +kernel
theorem dX11_comesTo_210 : decode cX11_comesTo 210 = .ok (.iload 6, 2) := by decide +kernel
theorem dX11_comesTo_212 : decode cX11_comesTo 212 = .ok (.aload_n 0, 1) := by decide +kernel
theorem dX11_comesTo_213 : decode cX11_comesTo 213 = .ok (.getfield 83, 3) := by decide +kernel
theorem dX11_comesTo_216 : decode cX11_comesTo 216 = .ok (.iload_n 3, 1) := by decide +kernel
theorem dX11_comesTo_217 : decode cX11_comesTo 217 = .ok (.iconst 1, 1) := by decide +kernel
theorem dX11_comesTo_218 : decode cX11_comesTo 218 = .ok (.isub, 1) := by decide +kernel
theorem dX11_comesTo_219 : decode cX11_comesTo 219 = .ok (.iaload, 1) := by decide +kernel
theorem dX11_comesTo_220 : decode cX11_comesTo 220 = .ok (.aload_n 0, 1) := by decide +kernel
theorem dX11_comesTo_221 : decode cX11_comesTo 221 = .ok (.getfield 83, 3) := by decide +kernel
theorem dX11_comesTo_224 : decode cX11_comesTo 224 = .ok (.iload_n 3, 1) := by decide +kernel
theorem dX11_comesTo_225 : decode cX11_comesTo 225 = .ok (.iaload, 1) := by decide +kernel
theorem dX11_comesTo_226 : decode cX11_comesTo 226 = .ok (.invokestatic 309, 3) := by decide +kernel
theorem dX11_comesTo_229 : decode cX11_comesTo 229 = .ok (.iastore, 1) := by decide +kernel
theorem dX11_comesTo_230 : decode cX11_comesTo 230 = .ok (.goto (-214), 3) := by decide +kernel
theorem dX11_comesTo_233 : decode cX11_comesTo 233 = .ok (.aload_n 0, 1) := by decide +kernel
theorem dX11_comesTo_234 : decode cX11_comesTo 234 = .ok (.getfield 83, 3) := by decide +kernel
theorem dX11_comesTo_237 : decode cX11_comesTo 237 = .ok (.iconst 0, 1) := by decide +kernel
theorem dX11_comesTo_238 : decode cX11_comesTo 238 = .ok (.iaload, 1) := by decide +kernel
theorem dX11_comesTo_239 : decode cX11_comesTo 239 = .ok (.ireturn, 1) := by decide +kernel
theorem dX11_fallsOf_0 : decode cX11_fallsOf 0 = .ok (.aload_n 0, 1) := by decide +kernel
theorem dX11_fallsOf_1 : decode cX11_fallsOf 1 = .ok (.iload_n 2, 1) := by decide +kernel
theorem dX11_fallsOf_2 : decode cX11_fallsOf 2 = .ok (.invokevirtual 317, 3) := by decide +kernel
theorem dX11_fallsOf_5 : decode cX11_fallsOf 5 = .ok (.aload_n 0, 1) := by decide +kernel
theorem dX11_fallsOf_6 : decode cX11_fallsOf 6 = .ok (.getfield 86, 3) := by decide +kernel
theorem dX11_fallsOf_9 : decode cX11_fallsOf 9 = .ok (.iconst 2, 1) := by decide +kernel
theorem dX11_fallsOf_10 : decode cX11_fallsOf 10 = .ok (.iload_n 1, 1) := by decide +kernel
theorem dX11_fallsOf_11 : decode cX11_fallsOf 11 = .ok (.iastore, 1) := by decide +kernel
theorem dX11_fallsOf_12 : decode cX11_fallsOf 12 = .ok (.aload_n 0, 1) := by decide +kernel
theorem dX11_fallsOf_13 : decode cX11_fallsOf 13 = .ok (.bipush 97, 2) := by decide +kernel
theorem dX11_fallsOf_15 : decode cX11_fallsOf 15 = .ok (.bipush 7, 2) := by decide +kernel
theorem dX11_fallsOf_17 : decode cX11_fallsOf 17 = .ok (.invokevirtual 320, 3) := by decide +kernel
theorem dX11_fallsOf_20 : decode cX11_fallsOf 20 = .ok (.istore_n 3, 1) := by decide +kernel
theorem dX11_fallsOf_21 : decode cX11_fallsOf 21 = .ok (.aload_n 0, 1) := by decide +kernel
theorem dX11_fallsOf_22 : decode cX11_fallsOf 22 = .ok (.aload_n 0, 1) := by decide +kernel
theorem dX11_fallsOf_23 : decode cX11_fallsOf 23 = .ok (.getfield 7, 3) := by decide +kernel
theorem dX11_fallsOf_26 : decode cX11_fallsOf 26 = .ok (.iconst 0, 1) := by decide +kernel
theorem dX11_fallsOf_27 : decode cX11_fallsOf 27 = .ok (.iload_n 1, 1) := by decide +kernel
theorem dX11_fallsOf_28 : decode cX11_fallsOf 28 = .ok (.iadd, 1) := by decide +kernel
theorem dX11_fallsOf_29 : decode cX11_fallsOf 29 = .ok (.iaload, 1) := by decide +kernel
theorem dX11_fallsOf_30 : decode cX11_fallsOf 30 = .ok (.iload_n 3, 1) := by decide +kernel
theorem dX11_fallsOf_31 : decode cX11_fallsOf 31 = .ok (.aload_n 0, 1) := by decide +kernel
theorem dX11_fallsOf_32 : decode cX11_fallsOf 32 = .ok (.bipush 108, 2) := by decide +kernel
theorem dX11_fallsOf_34 : decode cX11_fallsOf 34 = .ok (.bipush 9, 2) := by decide +kernel
theorem dX11_fallsOf_36 : decode cX11_fallsOf 36 = .ok (.invokevirtual 320, 3) := by decide +kernel
theorem dX11_fallsOf_39 : decode cX11_fallsOf 39 = .ok (.invokevirtual 326, 3) := by decide +kernel
theorem dX11_fallsOf_42 : decode cX11_fallsOf 42 = .ok (.return_, 1) := by decide +kernel
theorem dX11_findsFor_0 : decode cX11_findsFor 0 = .ok (.aload_n 0, 1) := by decide +kernel
theorem dX11_findsFor_1 : decode cX11_findsFor 1 = .ok (.aload_n 0, 1) := by decide +kernel
theorem dX11_findsFor_2 : decode cX11_findsFor 2 = .ok (.getfield 7, 3) := by decide +kernel
theorem dX11_findsFor_5 : decode cX11_findsFor 5 = .ok (.iconst 4, 1) := by decide +kernel
theorem dX11_findsFor_6 : decode cX11_findsFor 6 = .ok (.iload_n 1, 1) := by decide +kernel
theorem dX11_findsFor_7 : decode cX11_findsFor 7 = .ok (.iadd, 1) := by decide +kernel
theorem dX11_findsFor_8 : decode cX11_findsFor 8 = .ok (.iaload, 1) := by decide +kernel
theorem dX11_findsFor_9 : decode cX11_findsFor 9 = .ok (.aload_n 0, 1) := by decide +kernel
theorem dX11_findsFor_10 : decode cX11_findsFor 10 = .ok (.bipush 118, 2) := by decide +kernel
theorem dX11_findsFor_12 : decode cX11_findsFor 12 = .ok (.iconst 3, 1) := by decide +kernel
theorem dX11_findsFor_13 : decode cX11_findsFor 13 = .ok (.iload_n 1, 1) := by decide +kernel
theorem dX11_findsFor_14 : decode cX11_findsFor 14 = .ok (.invokevirtual 352, 3) := by decide +kernel
theorem dX11_findsFor_17 : decode cX11_findsFor 17 = .ok (.iconst 0, 1) := by decide +kernel
theorem dX11_findsFor_18 : decode cX11_findsFor 18 = .ok (.invokevirtual 355, 3) := by decide +kernel
theorem dX11_findsFor_21 : decode cX11_findsFor 21 = .ok (.iconst (-1), 1) := by decide +kernel
theorem dX11_findsFor_22 : decode cX11_findsFor 22 = .ok (.istore_n 2, 1) := by decide +kernel
theorem dX11_findsFor_23 : decode cX11_findsFor 23 = .ok (.iconst 0, 1) := by decide +kernel
theorem dX11_findsFor_24 : decode cX11_findsFor 24 = .ok (.istore_n 3, 1) := by decide +kernel
theorem dX11_findsFor_25 : decode cX11_findsFor 25 = .ok (.iload_n 3, 1) := by decide +kernel
theorem dX11_findsFor_26 : decode cX11_findsFor 26 = .ok (.bipush 100, 2) := by decide +kernel
theorem dX11_findsFor_28 : decode cX11_findsFor 28 = .ok (.if_icmp .ge 61, 3) := by decide +kernel
theorem dX11_findsFor_31 : decode cX11_findsFor 31 = .ok (.aload_n 0, 1) := by decide +kernel
theorem dX11_findsFor_32 : decode cX11_findsFor 32 = .ok (.getfield 89, 3) := by decide +kernel
theorem dX11_findsFor_35 : decode cX11_findsFor 35 = .ok (.iload_n 3, 1) := by decide +kernel
theorem dX11_findsFor_36 : decode cX11_findsFor 36 = .ok (.iaload, 1) := by decide +kernel
theorem dX11_findsFor_37 : decode cX11_findsFor 37 = .ok (.ifCond .le 46, 3) := by decide +kernel
theorem dX11_findsFor_40 : decode cX11_findsFor 40 = .ok (.aload_n 0, 1) := by decide +kernel
theorem dX11_findsFor_41 : decode cX11_findsFor 41 = .ok (.getfield 101, 3) := by decide +kernel
theorem dX11_findsFor_44 : decode cX11_findsFor 44 = .ok (.iload_n 3, 1) := by decide +kernel
theorem dX11_findsFor_45 : decode cX11_findsFor 45 = .ok (.baload, 1) := by decide +kernel
theorem dX11_findsFor_46 : decode cX11_findsFor 46 = .ok (.ifCond .ne 37, 3) := by decide +kernel
theorem dX11_findsFor_49 : decode cX11_findsFor 49 = .ok (.aload_n 0, 1) := by decide +kernel
theorem dX11_findsFor_50 : decode cX11_findsFor 50 = .ok (.getfield 92, 3) := by decide +kernel
theorem dX11_findsFor_53 : decode cX11_findsFor 53 = .ok (.iload_n 3, 1) := by decide +kernel
theorem dX11_findsFor_54 : decode cX11_findsFor 54 = .ok (.iaload, 1) := by decide +kernel
theorem dX11_findsFor_55 : decode cX11_findsFor 55 = .ok (.ldc_w 348, 3) := by decide +kernel
theorem dX11_findsFor_58 : decode cX11_findsFor 58 = .ok (.if_icmp .ge 25, 3) := by decide +kernel
theorem dX11_findsFor_61 : decode cX11_findsFor 61 = .ok (.iload_n 2, 1) := by decide +kernel
theorem dX11_findsFor_62 : decode cX11_findsFor 62 = .ok (.iconst (-1), 1) := by decide +kernel
theorem dX11_findsFor_63 : decode cX11_findsFor 63 = .ok (.if_icmp .eq 18, 3) := by decide +kernel
theorem dX11_findsFor_66 : decode cX11_findsFor 66 = .ok (.aload_n 0, 1) := by decide +kernel
theorem dX11_findsFor_67 : decode cX11_findsFor 67 = .ok (.getfield 92, 3) := by decide +kernel
theorem dX11_findsFor_70 : decode cX11_findsFor 70 = .ok (.iload_n 3, 1) := by decide +kernel
theorem dX11_findsFor_71 : decode cX11_findsFor 71 = .ok (.iaload, 1) := by decide +kernel
theorem dX11_findsFor_72 : decode cX11_findsFor 72 = .ok (.aload_n 0, 1) := by decide +kernel
theorem dX11_findsFor_73 : decode cX11_findsFor 73 = .ok (.getfield 92, 3) := by decide +kernel
theorem dX11_findsFor_76 : decode cX11_findsFor 76 = .ok (.iload_n 2, 1) := by decide +kernel
theorem dX11_findsFor_77 : decode cX11_findsFor 77 = .ok (.iaload, 1) := by decide +kernel
theorem dX11_findsFor_78 : decode cX11_findsFor 78 = .ok (.if_icmp .ge 5, 3) := by decide +kernel
theorem dX11_findsFor_81 : decode cX11_findsFor 81 = .ok (.iload_n 3, 1) := by decide +kernel
theorem dX11_findsFor_82 : decode cX11_findsFor 82 = .ok (.istore_n 2, 1) := by decide +kernel
theorem dX11_findsFor_83 : decode cX11_findsFor 83 = .ok (.iinc 3 1, 3) := by decide +kernel
theorem dX11_findsFor_86 : decode cX11_findsFor 86 = .ok (.goto (-61), 3) := by decide +kernel
theorem dX11_findsFor_89 : decode cX11_findsFor 89 = .ok (.iload_n 2, 1) := by decide +kernel
theorem dX11_findsFor_90 : decode cX11_findsFor 90 = .ok (.ireturn, 1) := by decide +kernel
theorem dX11_isNight_0 : decode cX11_isNight 0 = .ok (.aload_n 0, 1) := by decide +kernel
theorem dX11_isNight_1 : decode cX11_isNight 1 = .ok (.iload_n 1, 1) := by decide +kernel
theorem dX11_isNight_2 : decode cX11_isNight 2 = .ok (.invokevirtual 317, 3) := by decide +kernel
theorem dX11_isNight_5 : decode cX11_isNight 5 = .ok (.iconst 0, 1) := by decide +kernel
theorem dX11_isNight_6 : decode cX11_isNight 6 = .ok (.istore_n 2, 1) := by decide +kernel
theorem dX11_isNight_7 : decode cX11_isNight 7 = .ok (.iload_n 2, 1) := by decide +kernel
theorem dX11_isNight_8 : decode cX11_isNight 8 = .ok (.aload_n 0, 1) := by decide +kernel
theorem dX11_isNight_9 : decode cX11_isNight 9 = .ok (.getfield 306, 3) := by decide +kernel
theorem dX11_isNight_12 : decode cX11_isNight 12 = .ok (.if_icmp .ge 42, 3) := by decide +kernel
theorem dX11_isNight_15 : decode cX11_isNight 15 = .ok (.aload_n 0, 1) := by decide +kernel
theorem dX11_isNight_16 : decode cX11_isNight 16 = .ok (.getfield 56, 3) := by decide +kernel
theorem dX11_isNight_19 : decode cX11_isNight 19 = .ok (.iload_n 2, 1) := by decide +kernel
theorem dX11_isNight_20 : decode cX11_isNight 20 = .ok (.iaload, 1) := by decide +kernel
theorem dX11_isNight_21 : decode cX11_isNight 21 = .ok (.bipush 110, 2) := by decide +kernel
theorem dX11_isNight_23 : decode cX11_isNight 23 = .ok (.if_icmp .ne 25, 3) := by decide +kernel
theorem dX11_isNight_26 : decode cX11_isNight 26 = .ok (.aload_n 0, 1) := by decide +kernel
theorem dX11_isNight_27 : decode cX11_isNight 27 = .ok (.aload_n 0, 1) := by decide +kernel
theorem dX11_isNight_28 : decode cX11_isNight 28 = .ok (.getfield 62, 3) := by decide +kernel
theorem dX11_isNight_31 : decode cX11_isNight 31 = .ok (.iload_n 2, 1) := by decide +kernel
theorem dX11_isNight_32 : decode cX11_isNight 32 = .ok (.iaload, 1) := by decide +kernel
theorem dX11_isNight_33 : decode cX11_isNight 33 = .ok (.aload_n 0, 1) := by decide +kernel
theorem dX11_isNight_34 : decode cX11_isNight 34 = .ok (.getfield 65, 3) := by decide +kernel
theorem dX11_isNight_37 : decode cX11_isNight 37 = .ok (.iload_n 2, 1) := by decide +kernel
theorem dX11_isNight_38 : decode cX11_isNight 38 = .ok (.iaload, 1) := by decide +kernel
theorem dX11_isNight_39 : decode cX11_isNight 39 = .ok (.invokevirtual 313, 3) := by decide +kernel
theorem dX11_isNight_42 : decode cX11_isNight 42 = .ok (.iconst 1, 1) := by decide +kernel
theorem dX11_isNight_43 : decode cX11_isNight 43 = .ok (.if_icmp .ne 5, 3) := by decide +kernel
theorem dX11_isNight_46 : decode cX11_isNight 46 = .ok (.iconst 1, 1) := by decide +kernel
theorem dX11_isNight_47 : decode cX11_isNight 47 = .ok (.ireturn, 1) := by decide +kernel
theorem dX11_isNight_48 : decode cX11_isNight 48 = .ok (.iinc 2 1, 3) := by decide +kernel
theorem dX11_isNight_51 : decode cX11_isNight 51 = .ok (.goto (-44), 3) := by decide +kernel
theorem dX11_isNight_54 : decode cX11_isNight 54 = .ok (.iconst 0, 1) := by decide +kernel
theorem dX11_isNight_55 : decode cX11_isNight 55 = .ok (.ireturn, 1) := by decide +kernel
theorem dX11_laysOrder_0 : decode cX11_laysOrder 0 = .ok (.iconst 0, 1) := by decide +kernel
theorem dX11_laysOrder_1 : decode cX11_laysOrder 1 = .ok (.istore_n 1, 1) := by decide +kernel
theorem dX11_laysOrder_2 : decode cX11_laysOrder 2 = .ok (.iconst 0, 1) := by decide +kernel
theorem dX11_laysOrder_3 : decode cX11_laysOrder 3 = .ok (.istore_n 2, 1) := by decide +kernel
theorem dX11_laysOrder_4 : decode cX11_laysOrder 4 = .ok (.iload_n 2, 1) := by decide +kernel
theorem dX11_laysOrder_5 : decode cX11_laysOrder 5 = .ok (.bipush 10, 2) := by decide +kernel
theorem dX11_laysOrder_7 : decode cX11_laysOrder 7 = .ok (.if_icmp .ge 110, 3) := by decide +kernel
theorem dX11_laysOrder_10 : decode cX11_laysOrder 10 = .ok (.aload_n 0, 1) := by decide +kernel
theorem dX11_laysOrder_11 : decode cX11_laysOrder 11 = .ok (.iload_n 2, 1) := by decide +kernel
theorem dX11_laysOrder_12 : decode cX11_laysOrder 12 = .ok (.invokevirtual 349, 3) := by decide +kernel
theorem dX11_laysOrder_15 : decode cX11_laysOrder 15 = .ok (.ifCond .ne 6, 3) := by decide +kernel
theorem dX11_laysOrder_18 : decode cX11_laysOrder 18 = .ok (.goto 93, 3) := by decide +kernel
theorem dX11_laysOrder_21 : decode cX11_laysOrder 21 = .ok (.aload_n 0, 1) := by decide +kernel
theorem dX11_laysOrder_22 : decode cX11_laysOrder 22 = .ok (.getfield 98, 3) := by decide +kernel
theorem dX11_laysOrder_25 : decode cX11_laysOrder 25 = .ok (.iload_n 2, 1) := by decide +kernel
theorem dX11_laysOrder_26 : decode cX11_laysOrder 26 = .ok (.iload_n 2, 1) := by decide +kernel
theorem dX11_laysOrder_27 : decode cX11_laysOrder 27 = .ok (.aload_n 0, 1) := by decide +kernel
theorem dX11_laysOrder_28 : decode cX11_laysOrder 28 = .ok (.getfield 135, 3) := by decide +kernel
theorem dX11_laysOrder_31 : decode cX11_laysOrder 31 = .ok (.if_icmp .ne 9, 3) := by decide +kernel
theorem dX11_laysOrder_34 : decode cX11_laysOrder 34 = .ok (.ldc_w 348, 3) := by decide +kernel
theorem dX11_laysOrder_37 : decode cX11_laysOrder 37 = .ok (.goto 13, 3) := by decide +kernel
theorem dX11_laysOrder_40 : decode cX11_laysOrder 40 = .ok (.aload_n 0, 1) := by decide +kernel
theorem dX11_laysOrder_41 : decode cX11_laysOrder 41 = .ok (.bipush 111, 2) := by decide +kernel
theorem dX11_laysOrder_43 : decode cX11_laysOrder 43 = .ok (.sipush 999, 3) := by decide +kernel
theorem dX11_laysOrder_46 : decode cX11_laysOrder 46 = .ok (.iload_n 2, 1) := by decide +kernel
theorem dX11_laysOrder_47 : decode cX11_laysOrder 47 = .ok (.invokevirtual 352, 3) := by decide +kernel
theorem dX11_laysOrder_50 : decode cX11_laysOrder 50 = .ok (.iastore, 1) := by decide +kernel
theorem dX11_laysOrder_51 : decode cX11_laysOrder 51 = .ok (.iload_n 1, 1) := by decide +kernel
theorem dX11_laysOrder_52 : decode cX11_laysOrder 52 = .ok (.istore_n 3, 1) := by decide +kernel
theorem dX11_laysOrder_53 : decode cX11_laysOrder 53 = .ok (.iload_n 3, 1) := by decide +kernel
theorem dX11_laysOrder_54 : decode cX11_laysOrder 54 = .ok (.ifCond .le 46, 3) := by decide +kernel
theorem dX11_laysOrder_57 : decode cX11_laysOrder 57 = .ok (.aload_n 0, 1) := by decide +kernel
theorem dX11_laysOrder_58 : decode cX11_laysOrder 58 = .ok (.getfield 98, 3) := by decide +kernel
theorem dX11_laysOrder_61 : decode cX11_laysOrder 61 = .ok (.aload_n 0, 1) := by decide +kernel
theorem dX11_laysOrder_62 : decode cX11_laysOrder 62 = .ok (.getfield 95, 3) := by decide +kernel
theorem dX11_laysOrder_65 : decode cX11_laysOrder 65 = .ok (.iload_n 3, 1) := by decide +kernel
theorem dX11_laysOrder_66 : decode cX11_laysOrder 66 = .ok (.iconst 1, 1) := by decide +kernel
theorem dX11_laysOrder_67 : decode cX11_laysOrder 67 = .ok (.isub, 1) := by decide +kernel
theorem dX11_laysOrder_68 : decode cX11_laysOrder 68 = .ok (.iaload, 1) := by decide +kernel
theorem dX11_laysOrder_69 : decode cX11_laysOrder 69 = .ok (.iaload, 1) := by decide +kernel
theorem dX11_laysOrder_70 : decode cX11_laysOrder 70 = .ok (.aload_n 0, 1) := by decide +kernel
theorem dX11_laysOrder_71 : decode cX11_laysOrder 71 = .ok (.getfield 98, 3) := by decide +kernel
theorem dX11_laysOrder_74 : decode cX11_laysOrder 74 = .ok (.iload_n 2, 1) := by decide +kernel
theorem dX11_laysOrder_75 : decode cX11_laysOrder 75 = .ok (.iaload, 1) := by decide +kernel
theorem dX11_laysOrder_76 : decode cX11_laysOrder 76 = .ok (.if_icmp .ge 24, 3) := by decide +kernel
theorem dX11_laysOrder_79 : decode cX11_laysOrder 79 = .ok (.aload_n 0, 1) := by decide +kernel
theorem dX11_laysOrder_80 : decode cX11_laysOrder 80 = .ok (.getfield 95, 3) := by decide +kernel
theorem dX11_laysOrder_83 : decode cX11_laysOrder 83 = .ok (.iload_n 3, 1) := by decide +kernel
theorem dX11_laysOrder_84 : decode cX11_laysOrder 84 = .ok (.aload_n 0, 1) := by decide +kernel
theorem dX11_laysOrder_85 : decode cX11_laysOrder 85 = .ok (.getfield 95, 3) := by decide +kernel
theorem dX11_laysOrder_88 : decode cX11_laysOrder 88 = .ok (.iload_n 3, 1) := by decide +kernel
theorem dX11_laysOrder_89 : decode cX11_laysOrder 89 = .ok (.iconst 1, 1) := by decide +kernel
theorem dX11_laysOrder_90 : decode cX11_laysOrder 90 = .ok (.isub, 1) := by decide +kernel
theorem dX11_laysOrder_91 : decode cX11_laysOrder 91 = .ok (.iaload, 1) := by decide +kernel
theorem dX11_laysOrder_92 : decode cX11_laysOrder 92 = .ok (.iastore, 1) := by decide +kernel
theorem dX11_laysOrder_93 : decode cX11_laysOrder 93 = .ok (.iload_n 3, 1) := by decide +kernel
theorem dX11_laysOrder_94 : decode cX11_laysOrder 94 = .ok (.iconst 1, 1) := by decide +kernel
theorem dX11_laysOrder_95 : decode cX11_laysOrder 95 = .ok (.isub, 1) := by decide +kernel
theorem dX11_laysOrder_96 : decode cX11_laysOrder 96 = .ok (.istore_n 3, 1) := by decide +kernel
theorem dX11_laysOrder_97 : decode cX11_laysOrder 97 = .ok (.goto (-44), 3) := by decide +kernel
theorem dX11_laysOrder_100 : decode cX11_laysOrder 100 = .ok (.aload_n 0, 1) := by decide +kernel
theorem dX11_laysOrder_101 : decode cX11_laysOrder 101 = .ok (.getfield 95, 3) := by decide +kernel
theorem dX11_laysOrder_104 : decode cX11_laysOrder 104 = .ok (.iload_n 3, 1) := by decide +kernel
theorem dX11_laysOrder_105 : decode cX11_laysOrder 105 = .ok (.iload_n 2, 1) := by decide +kernel
theorem dX11_laysOrder_106 : decode cX11_laysOrder 106 = .ok (.iastore, 1) := by decide +kernel
theorem dX11_laysOrder_107 : decode cX11_laysOrder 107 = .ok (.iload_n 1, 1) := by decide +kernel
theorem dX11_laysOrder_108 : decode cX11_laysOrder 108 = .ok (.iconst 1, 1) := by decide +kernel
theorem dX11_laysOrder_109 : decode cX11_laysOrder 109 = .ok (.iadd, 1) := by decide +kernel
theorem dX11_laysOrder_110 : decode cX11_laysOrder 110 = .ok (.istore_n 1, 1) := by decide +kernel
theorem dX11_laysOrder_111 : decode cX11_laysOrder 111 = .ok (.iinc 2 1, 3) := by decide +kernel
theorem dX11_laysOrder_114 : decode cX11_laysOrder 114 = .ok (.goto (-110), 3) := by decide +kernel
theorem dX11_laysOrder_117 : decode cX11_laysOrder 117 = .ok (.iload_n 1, 1) := by decide +kernel
theorem dX11_laysOrder_118 : decode cX11_laysOrder 118 = .ok (.ireturn, 1) := by decide +kernel
theorem dX11_laysShades_0 : decode cX11_laysShades 0 = .ok (.aload_n 0, 1) := by decide +kernel
theorem dX11_laysShades_1 : decode cX11_laysShades 1 = .ok (.invokevirtual 333, 3) := by decide +kernel
theorem dX11_laysShades_4 : decode cX11_laysShades 4 = .ok (.iconst 0, 1) := by decide +kernel
theorem dX11_laysShades_5 : decode cX11_laysShades 5 = .ok (.istore_n 3, 1) := by decide +kernel
theorem dX11_laysShades_6 : decode cX11_laysShades 6 = .ok (.iload_n 3, 1) := by decide +kernel
theorem dX11_laysShades_7 : decode cX11_laysShades 7 = .ok (.iconst 2, 1) := by decide +kernel
theorem dX11_laysShades_8 : decode cX11_laysShades 8 = .ok (.if_icmp .ge 27, 3) := by decide +kernel
theorem dX11_laysShades_11 : decode cX11_laysShades 11 = .ok (.aload_n 0, 1) := by decide +kernel
theorem dX11_laysShades_12 : decode cX11_laysShades 12 = .ok (.iload_n 3, 1) := by decide +kernel
theorem dX11_laysShades_13 : decode cX11_laysShades 13 = .ok (.invokevirtual 260, 3) := by decide +kernel
theorem dX11_laysShades_16 : decode cX11_laysShades 16 = .ok (.ifCond .eq 13, 3) := by decide +kernel
theorem dX11_laysShades_19 : decode cX11_laysShades 19 = .ok (.iload_n 2, 1) := by decide +kernel
theorem dX11_laysShades_20 : decode cX11_laysShades 20 = .ok (.ifCond .ne 9, 3) := by decide +kernel
theorem dX11_laysShades_23 : decode cX11_laysShades 23 = .ok (.aload_n 0, 1) := by decide +kernel
theorem dX11_laysShades_24 : decode cX11_laysShades 24 = .ok (.iload_n 3, 1) := by decide +kernel
theorem dX11_laysShades_25 : decode cX11_laysShades 25 = .ok (.iload_n 1, 1) := by decide +kernel
theorem dX11_laysShades_26 : decode cX11_laysShades 26 = .ok (.invokevirtual 336, 3) := by decide +kernel
theorem dX11_laysShades_29 : decode cX11_laysShades 29 = .ok (.iinc 3 1, 3) := by decide +kernel
theorem dX11_laysShades_32 : decode cX11_laysShades 32 = .ok (.goto (-26), 3) := by decide +kernel
theorem dX11_laysShades_35 : decode cX11_laysShades 35 = .ok (.aload_n 0, 1) := by decide +kernel
theorem dX11_laysShades_36 : decode cX11_laysShades 36 = .ok (.iload_n 1, 1) := by decide +kernel
theorem dX11_laysShades_37 : decode cX11_laysShades 37 = .ok (.invokevirtual 339, 3) := by decide +kernel
theorem dX11_laysShades_40 : decode cX11_laysShades 40 = .ok (.ifCond .eq 7, 3) := by decide +kernel
theorem dX11_laysShades_43 : decode cX11_laysShades 43 = .ok (.aload_n 0, 1) := by decide +kernel
theorem dX11_laysShades_44 : decode cX11_laysShades 44 = .ok (.invokevirtual 342, 3) := by decide +kernel
theorem dX11_laysShades_47 : decode cX11_laysShades 47 = .ok (.return_, 1) := by decide +kernel
theorem dX11_servesOf_0 : decode cX11_servesOf 0 = .ok (.aload_n 0, 1) := by decide +kernel
theorem dX11_servesOf_1 : decode cX11_servesOf 1 = .ok (.iload_n 1, 1) := by decide +kernel
theorem dX11_servesOf_2 : decode cX11_servesOf 2 = .ok (.invokevirtual 359, 3) := by decide +kernel
theorem dX11_servesOf_5 : decode cX11_servesOf 5 = .ok (.istore_n 3, 1) := by decide +kernel
theorem dX11_servesOf_6 : decode cX11_servesOf 6 = .ok (.iload_n 3, 1) := by decide +kernel
theorem dX11_servesOf_7 : decode cX11_servesOf 7 = .ok (.iconst (-1), 1) := by decide +kernel
theorem dX11_servesOf_8 : decode cX11_servesOf 8 = .ok (.if_icmp .ne 40, 3) := by decide +kernel
theorem dX11_servesOf_11 : decode cX11_servesOf 11 = .ok (.aload_n 0, 1) := by decide +kernel
theorem dX11_servesOf_12 : decode cX11_servesOf 12 = .ok (.getfield 7, 3) := by decide +kernel
theorem dX11_servesOf_15 : decode cX11_servesOf 15 = .ok (.bipush 24, 2) := by decide +kernel
theorem dX11_servesOf_17 : decode cX11_servesOf 17 = .ok (.iload_n 1, 1) := by decide +kernel
theorem dX11_servesOf_18 : decode cX11_servesOf 18 = .ok (.iadd, 1) := by decide +kernel
theorem dX11_servesOf_19 : decode cX11_servesOf 19 = .ok (.sipush 999, 3) := by decide +kernel
theorem dX11_servesOf_22 : decode cX11_servesOf 22 = .ok (.aload_n 0, 1) := by decide +kernel
theorem dX11_servesOf_23 : decode cX11_servesOf 23 = .ok (.getfield 7, 3) := by decide +kernel
theorem dX11_servesOf_26 : decode cX11_servesOf 26 = .ok (.bipush 24, 2) := by decide +kernel
theorem dX11_servesOf_28 : decode cX11_servesOf 28 = .ok (.iload_n 1, 1) := by decide +kernel
theorem dX11_servesOf_29 : decode cX11_servesOf 29 = .ok (.iadd, 1) := by decide +kernel
theorem dX11_servesOf_30 : decode cX11_servesOf 30 = .ok (.iaload, 1) := by decide +kernel
theorem dX11_servesOf_31 : decode cX11_servesOf 31 = .ok (.iconst 1, 1) := by decide +kernel
theorem dX11_servesOf_32 : decode cX11_servesOf 32 = .ok (.iadd, 1) := by decide +kernel
theorem dX11_servesOf_33 : decode cX11_servesOf 33 = .ok (.invokestatic 362, 3) := by decide +kernel
theorem dX11_servesOf_36 : decode cX11_servesOf 36 = .ok (.iastore, 1) := by decide +kernel
theorem dX11_servesOf_37 : decode cX11_servesOf 37 = .ok (.aload_n 0, 1) := by decide +kernel
theorem dX11_servesOf_38 : decode cX11_servesOf 38 = .ok (.aload_n 0, 1) := by decide +kernel
theorem dX11_servesOf_39 : decode cX11_servesOf 39 = .ok (.getfield 365, 3) := by decide +kernel
theorem dX11_servesOf_42 : decode cX11_servesOf 42 = .ok (.iconst 1, 1) := by decide +kernel
theorem dX11_servesOf_43 : decode cX11_servesOf 43 = .ok (.iadd, 1) := by decide +kernel
theorem dX11_servesOf_44 : decode cX11_servesOf 44 = .ok (.putfield 365, 3) := by decide +kernel
theorem dX11_servesOf_47 : decode cX11_servesOf 47 = .ok (.return_, 1) := by decide +kernel
theorem dX11_servesOf_48 : decode cX11_servesOf 48 = .ok (.aload_n 0, 1) := by decide +kernel
theorem dX11_servesOf_49 : decode cX11_servesOf 49 = .ok (.getfield 101, 3) := by decide +kernel
theorem dX11_servesOf_52 : decode cX11_servesOf 52 = .ok (.iload_n 3, 1) := by decide +kernel
theorem dX11_servesOf_53 : decode cX11_servesOf 53 = .ok (.iconst 1, 1) := by decide +kernel
theorem dX11_servesOf_54 : decode cX11_servesOf 54 = .ok (.bastore, 1) := by decide +kernel
theorem dX11_servesOf_55 : decode cX11_servesOf 55 = .ok (.aload_n 0, 1) := by decide +kernel
theorem dX11_servesOf_56 : decode cX11_servesOf 56 = .ok (.aload_n 0, 1) := by decide +kernel
theorem dX11_servesOf_57 : decode cX11_servesOf 57 = .ok (.getfield 368, 3) := by decide +kernel
theorem dX11_servesOf_60 : decode cX11_servesOf 60 = .ok (.aload_n 0, 1) := by decide +kernel
theorem dX11_servesOf_61 : decode cX11_servesOf 61 = .ok (.getfield 92, 3) := by decide +kernel
theorem dX11_servesOf_64 : decode cX11_servesOf 64 = .ok (.iload_n 3, 1) := by decide +kernel
theorem dX11_servesOf_65 : decode cX11_servesOf 65 = .ok (.iaload, 1) := by decide +kernel
theorem dX11_servesOf_66 : decode cX11_servesOf 66 = .ok (.iadd, 1) := by decide +kernel
theorem dX11_servesOf_67 : decode cX11_servesOf 67 = .ok (.putfield 368, 3) := by decide +kernel
theorem dX11_servesOf_70 : decode cX11_servesOf 70 = .ok (.aload_n 0, 1) := by decide +kernel
theorem dX11_servesOf_71 : decode cX11_servesOf 71 = .ok (.getfield 7, 3) := by decide +kernel
theorem dX11_servesOf_74 : decode cX11_servesOf 74 = .ok (.iconst 4, 1) := by decide +kernel
theorem dX11_servesOf_75 : decode cX11_servesOf 75 = .ok (.iload_n 1, 1) := by decide +kernel
theorem dX11_servesOf_76 : decode cX11_servesOf 76 = .ok (.iadd, 1) := by decide +kernel
theorem dX11_servesOf_77 : decode cX11_servesOf 77 = .ok (.iload_n 3, 1) := by decide +kernel
theorem dX11_servesOf_78 : decode cX11_servesOf 78 = .ok (.iastore, 1) := by decide +kernel
theorem dX11_servesOf_79 : decode cX11_servesOf 79 = .ok (.aload_n 0, 1) := by decide +kernel
theorem dX11_servesOf_80 : decode cX11_servesOf 80 = .ok (.getfield 7, 3) := by decide +kernel
theorem dX11_servesOf_83 : decode cX11_servesOf 83 = .ok (.bipush 14, 2) := by decide +kernel
theorem dX11_servesOf_85 : decode cX11_servesOf 85 = .ok (.iload_n 1, 1) := by decide +kernel
theorem dX11_servesOf_86 : decode cX11_servesOf 86 = .ok (.iadd, 1) := by decide +kernel
theorem dX11_servesOf_87 : decode cX11_servesOf 87 = .ok (.iaload, 1) := by decide +kernel
theorem dX11_servesOf_88 : decode cX11_servesOf 88 = .ok (.iload_n 2, 1) := by decide +kernel
theorem dX11_servesOf_89 : decode cX11_servesOf 89 = .ok (.ifCond .eq 23, 3) := by decide +kernel
theorem dX11_servesOf_92 : decode cX11_servesOf 92 = .ok (.aload_n 0, 1) := by decide +kernel
theorem dX11_servesOf_93 : decode cX11_servesOf 93 = .ok (.getfield 7, 3) := by decide +kernel
theorem dX11_servesOf_96 : decode cX11_servesOf 96 = .ok (.bipush 37, 2) := by decide +kernel
theorem dX11_servesOf_98 : decode cX11_servesOf 98 = .ok (.iaload, 1) := by decide +kernel
theorem dX11_servesOf_99 : decode cX11_servesOf 99 = .ok (.iconst 3, 1) := by decide +kernel
theorem dX11_servesOf_100 : decode cX11_servesOf 100 = .ok (.irem, 1) := by decide +kernel
theorem dX11_servesOf_101 : decode cX11_servesOf 101 = .ok (.ifCond .ne 7, 3) := by decide +kernel
theorem dX11_servesOf_104 : decode cX11_servesOf 104 = .ok (.iconst 1, 1) := by decide +kernel
theorem dX11_servesOf_105 : decode cX11_servesOf 105 = .ok (.goto 13, 3) := by decide +kernel
theorem dX11_servesOf_108 : decode cX11_servesOf 108 = .ok (.iconst 0, 1) := by decide +kernel
theorem dX11_servesOf_109 : decode cX11_servesOf 109 = .ok (.goto 9, 3) := by decide +kernel
theorem dX11_servesOf_112 : decode cX11_servesOf 112 = .ok (.aload_n 0, 1) := by decide +kernel
theorem dX11_servesOf_113 : decode cX11_servesOf 113 = .ok (.getfield 89, 3) := by decide +kernel
theorem dX11_servesOf_116 : decode cX11_servesOf 116 = .ok (.iload_n 3, 1) := by decide +kernel
theorem dX11_servesOf_117 : decode cX11_servesOf 117 = .ok (.iaload, 1) := by decide +kernel
theorem dX11_servesOf_118 : decode cX11_servesOf 118 = .ok (.invokestatic 362, 3) := by decide +kernel
theorem dX11_servesOf_121 : decode cX11_servesOf 121 = .ok (.istore 4, 2) := by decide +kernel
theorem dX11_servesOf_123 : decode cX11_servesOf 123 = .ok (.aload_n 0, 1) := by decide +kernel
theorem dX11_servesOf_124 : decode cX11_servesOf 124 = .ok (.getfield 7, 3) := by decide +kernel
theorem dX11_servesOf_127 : decode cX11_servesOf 127 = .ok (.bipush 14, 2) := by decide +kernel
theorem dX11_servesOf_129 : decode cX11_servesOf 129 = .ok (.iload_n 1, 1) := by decide +kernel
theorem dX11_servesOf_130 : decode cX11_servesOf 130 = .ok (.iadd, 1) := by decide +kernel
theorem dX11_servesOf_131 : decode cX11_servesOf 131 = .ok (.aload_n 0, 1) := by decide +kernel
theorem dX11_servesOf_132 : decode cX11_servesOf 132 = .ok (.getfield 7, 3) := by decide +kernel
theorem dX11_servesOf_135 : decode cX11_servesOf 135 = .ok (.bipush 14, 2) := by decide +kernel
theorem dX11_servesOf_137 : decode cX11_servesOf 137 = .ok (.iload_n 1, 1) := by decide +kernel
theorem dX11_servesOf_138 : decode cX11_servesOf 138 = .ok (.iadd, 1) := by decide +kernel
theorem dX11_servesOf_139 : decode cX11_servesOf 139 = .ok (.iaload, 1) := by decide +kernel
theorem dX11_servesOf_140 : decode cX11_servesOf 140 = .ok (.iload 4, 2) := by decide +kernel
theorem dX11_servesOf_142 : decode cX11_servesOf 142 = .ok (.isub, 1) := by decide +kernel
theorem dX11_servesOf_143 : decode cX11_servesOf 143 = .ok (.iastore, 1) := by decide +kernel
theorem dX11_servesOf_144 : decode cX11_servesOf 144 = .ok (.aload_n 0, 1) := by decide +kernel
theorem dX11_servesOf_145 : decode cX11_servesOf 145 = .ok (.aload_n 0, 1) := by decide +kernel
theorem dX11_servesOf_146 : decode cX11_servesOf 146 = .ok (.getfield 371, 3) := by decide +kernel
theorem dX11_servesOf_149 : decode cX11_servesOf 149 = .ok (.iload 4, 2) := by decide +kernel
theorem dX11_servesOf_151 : decode cX11_servesOf 151 = .ok (.iadd, 1) := by decide +kernel
theorem dX11_servesOf_152 : decode cX11_servesOf 152 = .ok (.putfield 371, 3) := by decide +kernel
theorem dX11_servesOf_155 : decode cX11_servesOf 155 = .ok (.aload_n 0, 1) := by decide +kernel
theorem dX11_servesOf_156 : decode cX11_servesOf 156 = .ok (.getfield 19, 3) := by decide +kernel
theorem dX11_servesOf_159 : decode cX11_servesOf 159 = .ok (.iload_n 3, 1) := by decide +kernel
theorem dX11_servesOf_160 : decode cX11_servesOf 160 = .ok (.iaload, 1) := by decide +kernel
theorem dX11_servesOf_161 : decode cX11_servesOf 161 = .ok (.iconst 3, 1) := by decide +kernel
theorem dX11_servesOf_162 : decode cX11_servesOf 162 = .ok (.if_icmp .ne 21, 3) := by decide +kernel
theorem dX11_servesOf_165 : decode cX11_servesOf 165 = .ok (.aload_n 0, 1) := by decide +kernel
theorem dX11_servesOf_166 : decode cX11_servesOf 166 = .ok (.getfield 7, 3) := by decide +kernel
theorem dX11_servesOf_169 : decode cX11_servesOf 169 = .ok (.bipush 36, 2) := by decide +kernel
theorem dX11_servesOf_171 : decode cX11_servesOf 171 = .ok (.aload_n 0, 1) := by decide +kernel
theorem dX11_servesOf_172 : decode cX11_servesOf 172 = .ok (.getfield 7, 3) := by decide +kernel
theorem dX11_servesOf_175 : decode cX11_servesOf 175 = .ok (.bipush 36, 2) := by decide +kernel
theorem dX11_servesOf_177 : decode cX11_servesOf 177 = .ok (.iaload, 1) := by decide +kernel
theorem dX11_servesOf_178 : decode cX11_servesOf 178 = .ok (.iconst 1, 1) := by decide +kernel
theorem dX11_servesOf_179 : decode cX11_servesOf 179 = .ok (.iload_n 1, 1) := by decide +kernel
theorem dX11_servesOf_180 : decode cX11_servesOf 180 = .ok (.ishl, 1) := by decide +kernel
theorem dX11_servesOf_181 : decode cX11_servesOf 181 = .ok (.ior, 1) := by decide +kernel
theorem dX11_servesOf_182 : decode cX11_servesOf 182 = .ok (.iastore, 1) := by decide +kernel
theorem dX11_servesOf_183 : decode cX11_servesOf 183 = .ok (.return_, 1) := by decide +kernel
