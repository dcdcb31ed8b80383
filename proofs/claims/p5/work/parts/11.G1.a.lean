theorem xin {ws : List Cond} (ps : List Nat) (h : ws.map some = ps.map (fun i => lw_tbl[i]?)) (hg : ws.all goodWord = true) : ∀ w ∈ ws, w ∈ xTB := fun w hw => by
  have h1 : some w ∈ ps.map (fun i => lw_tbl[i]?) := by rw [← h]; exact List.mem_map.mpr ⟨w, hw, rfl⟩
  obtain ⟨i, -, hi⟩ := List.mem_map.mp h1
  exact List.mem_filter.mpr ⟨List.mem_of_getElem? hi, List.all_eq_true.mp hg w hw⟩
theorem cls_X6 : xCls RX6 TX6 5 6 tyX6 := ⟨xin [231, 233, 235, 237, 239] (by decide +kernel) (by decide +kernel), rfl, tyX6_ok, nmX6⟩
theorem cf_X6_beside : xCF yX6_beside cX6_beside 4 (some .int) 2 := ⟨xq 785 (by decide +kernel) rfl, xq 170 (by decide +kernel) rfl, by decide +kernel⟩
theorem cf_X6_isOpen : xCF yX6_isOpen cX6_isOpen 3 (some .boolean) 1 := ⟨xq 616 (by decide +kernel) rfl, xq 170 (by decide +kernel) rfl, by decide +kernel⟩
theorem cf_X6_isSpot : xCF yX6_isSpot cX6_isSpot 1 (some .boolean) 1 := ⟨xq 832 (by decide +kernel) rfl, xq 170 (by decide +kernel) rfl, by decide +kernel⟩
theorem cf_X6_kindAt : xCF yX6_kindAt cX6_kindAt 2 (some .int) 1 := ⟨xq 620 (by decide +kernel) rfl, xq 170 (by decide +kernel) rfl, by decide +kernel⟩
theorem cf_X6_reckonRow : xCF yX6_reckonRow cX6_reckonRow 9 none 3 := ⟨xq 894 (by decide +kernel) rfl, xq 170 (by decide +kernel) rfl, by decide +kernel⟩
theorem cf_X6_spotAt : xCF yX6_spotAt cX6_spotAt 2 (some .int) 2 := ⟨xq 709 (by decide +kernel) rfl, xq 170 (by decide +kernel) rfl, by decide +kernel⟩
theorem wq9 : Cond.selects yX6_isOpen.cls yX6_isOpen yX6_isOpen ∈ xTB := xq 9 (by decide +kernel) rfl
theorem wq10 : Cond.selects yX6_kindAt.cls yX6_kindAt yX6_kindAt ∈ xTB := xq 10 (by decide +kernel) rfl
theorem wq60 : Cond.selects yX6_reckonRow.cls yX6_reckonRow yX6_reckonRow ∈ xTB := xq 60 (by decide +kernel) rfl
theorem wq226 : Cond.fieldLink "ShadowCourt$Market" (9) "ShadowCourt$Market" "kinds" "[I" ∈ xTB := xq 226 (by decide +kernel) rfl
theorem wq228 : Cond.fieldLink "ShadowCourt$Market" (20) "ShadowCourt$Market" "steps" "[[I" ∈ xTB := xq 228 (by decide +kernel) rfl
theorem wq229 : Cond.fieldLink "ShadowCourt$Market" (23) "ShadowCourt$Market" "isReckoned" "[Z" ∈ xTB := xq 229 (by decide +kernel) rfl
theorem wq230 : Cond.fieldLink "ShadowCourt$Market" (27) "ShadowCourt$Market" "drySteps" "[I" ∈ xTB := xq 230 (by decide +kernel) rfl
theorem wq615 : Cond.instanceMethod yX6_isOpen ∈ xTB := xq 615 (by decide +kernel) rfl
theorem wq617 : Cond.methodLink "ShadowCourt$Market" (36) yX6_kindAt ∈ xTB := xq 617 (by decide +kernel) rfl
theorem wq619 : Cond.instanceMethod yX6_kindAt ∈ xTB := xq 619 (by decide +kernel) rfl
theorem wq707 : Cond.methodLink "ShadowCourt$Market" (40) yX6_spotAt ∈ xTB := xq 707 (by decide +kernel) rfl
theorem wq708 : Cond.static yX6_spotAt ∈ xTB := xq 708 (by decide +kernel) rfl
theorem wq710 : Cond.methodLink "ShadowCourt$Market" (44) yX6_isOpen ∈ xTB := xq 710 (by decide +kernel) rfl
theorem wq784 : Cond.static yX6_beside ∈ xTB := xq 784 (by decide +kernel) rfl
theorem wq831 : Cond.static yX6_isSpot ∈ xTB := xq 831 (by decide +kernel) rfl
theorem wq890 : Cond.methodLink "ShadowCourt$Market" (90) yX6_isSpot ∈ xTB := xq 890 (by decide +kernel) rfl
theorem wq891 : Cond.methodLink "ShadowCourt$Market" (86) yX6_reckonRow ∈ xTB := xq 891 (by decide +kernel) rfl
theorem wq893 : Cond.instanceMethod yX6_reckonRow ∈ xTB := xq 893 (by decide +kernel) rfl
theorem wq895 : Cond.methodLink "ShadowCourt$Market" (93) yX6_beside ∈ xTB := xq 895 (by decide +kernel) rfl
theorem wn786 : Cond.fieldLinkNest "ShadowCourt$Market" (30) "ShadowCourt" "WAY_X" "[I" "ShadowCourt" ∈ xNL := xn 786 (by decide +kernel) rfl
theorem wn788 : Cond.fieldLinkNest "ShadowCourt$Market" (33) "ShadowCourt" "WAY_Y" "[I" "ShadowCourt" ∈ xNL := xn 788 (by decide +kernel) rfl
theorem dX6_beside_0 : decode cX6_beside 0 = .ok (.iload_n 0, 1) := by decide +kernel
theorem dX6_beside_1 : decode cX6_beside 1 = .ok (.ifCond .lt 19, 3) := by decide +kernel
theorem dX6_beside_4 : decode cX6_beside 4 = .ok (.iload_n 0, 1) := by decide +kernel
theorem dX6_beside_5 : decode cX6_beside 5 = .ok (.bipush 100, 2) := by decide +kernel
theorem dX6_beside_7 : decode cX6_beside 7 = .ok (.if_icmp .ge 13, 3) := by decide +kernel
theorem dX6_beside_10 : decode cX6_beside 10 = .ok (.iload_n 1, 1) := by decide +kernel
theorem dX6_beside_11 : decode cX6_beside 11 = .ok (.ifCond .lt 9, 3) := by decide +kernel
theorem dX6_beside_14 : decode cX6_beside 14 = .ok (.iload_n 1, 1) := by decide +kernel
theorem dX6_beside_15 : decode cX6_beside 15 = .ok (.bipush 8, 2) := by decide +kernel
theorem dX6_beside_17 : decode cX6_beside 17 = .ok (.if_icmp .lt 5, 3) := by decide +kernel
theorem dX6_beside_20 : decode cX6_beside 20 = .ok (.iconst (-1), 1) := by decide +kernel
theorem dX6_beside_21 : decode cX6_beside 21 = .ok (.ireturn, 1) := by decide +kernel
theorem dX6_beside_22 : decode cX6_beside 22 = .ok (.iload_n 0, 1) := by decide +kernel
theorem dX6_beside_23 : decode cX6_beside 23 = .ok (.bipush 10, 2) := by decide +kernel
theorem dX6_beside_25 : decode cX6_beside 25 = .ok (.irem, 1) := by decide +kernel
theorem dX6_beside_26 : decode cX6_beside 26 = .ok (.getstatic 30, 3) := by decide +kernel
theorem dX6_beside_29 : decode cX6_beside 29 = .ok (.iload_n 1, 1) := by decide +kernel
theorem dX6_beside_30 : decode cX6_beside 30 = .ok (.iaload, 1) := by decide +kernel
theorem dX6_beside_31 : decode cX6_beside 31 = .ok (.iadd, 1) := by decide +kernel
theorem dX6_beside_32 : decode cX6_beside 32 = .ok (.istore_n 2, 1) := by decide +kernel
theorem dX6_beside_33 : decode cX6_beside 33 = .ok (.iload_n 0, 1) := by decide +kernel
theorem dX6_beside_34 : decode cX6_beside 34 = .ok (.bipush 10, 2) := by decide +kernel
theorem dX6_beside_36 : decode cX6_beside 36 = .ok (.idiv, 1) := by decide +kernel
theorem dX6_beside_37 : decode cX6_beside 37 = .ok (.getstatic 33, 3) := by decide +kernel
theorem dX6_beside_40 : decode cX6_beside 40 = .ok (.iload_n 1, 1) := by decide +kernel
theorem dX6_beside_41 : decode cX6_beside 41 = .ok (.iaload, 1) := by decide +kernel
theorem dX6_beside_42 : decode cX6_beside 42 = .ok (.iadd, 1) := by decide +kernel
theorem dX6_beside_43 : decode cX6_beside 43 = .ok (.istore_n 3, 1) := by decide +kernel
theorem dX6_beside_44 : decode cX6_beside 44 = .ok (.iload_n 2, 1) := by decide +kernel
theorem dX6_beside_45 : decode cX6_beside 45 = .ok (.ifCond .lt 28, 3) := by decide +kernel
theorem dX6_beside_48 : decode cX6_beside 48 = .ok (.iload_n 2, 1) := by decide +kernel
theorem dX6_beside_49 : decode cX6_beside 49 = .ok (.bipush 10, 2) := by decide +kernel
theorem dX6_beside_51 : decode cX6_beside 51 = .ok (.if_icmp .ge 22, 3) := by decide +kernel
theorem dX6_beside_54 : decode cX6_beside 54 = .ok (.iload_n 3, 1) := by decide +kernel
theorem dX6_beside_55 : decode cX6_beside 55 = .ok (.ifCond .lt 18, 3) := by decide +kernel
theorem dX6_beside_58 : decode cX6_beside 58 = .ok (.iload_n 3, 1) := by decide +kernel
theorem dX6_beside_59 : decode cX6_beside 59 = .ok (.bipush 10, 2) := by decide +kernel
theorem dX6_beside_61 : decode cX6_beside 61 = .ok (.if_icmp .ge 12, 3) := by decide +kernel
theorem dX6_beside_64 : decode cX6_beside 64 = .ok (.bipush 10, 2) := by decide +kernel
theorem dX6_beside_66 : decode cX6_beside 66 = .ok (.iload_n 3, 1) := by decide +kernel
theorem dX6_beside_67 : decode cX6_beside 67 = .ok (.imul, 1) := by decide +kernel
theorem dX6_beside_68 : decode cX6_beside 68 = .ok (.iload_n 2, 1) := by decide +kernel
theorem dX6_beside_69 : decode cX6_beside 69 = .ok (.iadd, 1) := by decide +kernel
theorem dX6_beside_70 : decode cX6_beside 70 = .ok (.goto 4, 3) := by decide +kernel
theorem dX6_beside_73 : decode cX6_beside 73 = .ok (.iconst (-1), 1) := by decide +kernel
theorem dX6_beside_74 : decode cX6_beside 74 = .ok (.ireturn, 1) := by decide +kernel
theorem dX6_howMany_0 : decode cX6_howMany 0 = .ok (.iconst 0, 1) := by decide +kernel
theorem dX6_howMany_1 : decode cX6_howMany 1 = .ok (.istore_n 2, 1) := by decide +kernel
theorem dX6_howMany_2 : decode cX6_howMany 2 = .ok (.iconst 0, 1) := by decide +kernel
theorem dX6_howMany_3 : decode cX6_howMany 3 = .ok (.istore_n 3, 1) := by decide +kernel
theorem dX6_howMany_4 : decode cX6_howMany 4 = .ok (.iload_n 3, 1) := by decide +kernel
theorem dX6_howMany_5 : decode cX6_howMany 5 = .ok (.bipush 100, 2) := by decide +kernel
theorem dX6_howMany_7 : decode cX6_howMany 7 = .ok (.if_icmp .ge 22, 3) := by decide +kernel
theorem dX6_howMany_10 : decode cX6_howMany 10 = .ok (.aload_n 0, 1) := by decide +kernel
theorem dX6_howMany_11 : decode cX6_howMany 11 = .ok (.getfield 9, 3) := by decide +kernel
theorem dX6_howMany_14 : decode cX6_howMany 14 = .ok (.iload_n 3, 1) := by decide +kernel
theorem dX6_howMany_15 : decode cX6_howMany 15 = .ok (.iaload, 1) := by decide +kernel
theorem dX6_howMany_16 : decode cX6_howMany 16 = .ok (.iload_n 1, 1) := by decide +kernel
theorem dX6_howMany_17 : decode cX6_howMany 17 = .ok (.if_icmp .ne 6, 3) := by decide +kernel
theorem dX6_howMany_20 : decode cX6_howMany 20 = .ok (.iinc 2 1, 3) := by decide +kernel
theorem dX6_howMany_23 : decode cX6_howMany 23 = .ok (.iinc 3 1, 3) := by decide +kernel
theorem dX6_howMany_26 : decode cX6_howMany 26 = .ok (.goto (-22), 3) := by decide +kernel
theorem dX6_howMany_29 : decode cX6_howMany 29 = .ok (.iload_n 2, 1) := by decide +kernel
theorem dX6_howMany_30 : decode cX6_howMany 30 = .ok (.ireturn, 1) := by decide +kernel
theorem dX6_isDryWalk_0 : decode cX6_isDryWalk 0 = .ok (.aload_n 0, 1) := by decide +kernel
theorem dX6_isDryWalk_1 : decode cX6_isDryWalk 1 = .ok (.aload_n 0, 1) := by decide +kernel
theorem dX6_isDryWalk_2 : decode cX6_isDryWalk 2 = .ok (.getfield 27, 3) := by decide +kernel
theorem dX6_isDryWalk_5 : decode cX6_isDryWalk 5 = .ok (.iload_n 1, 1) := by decide +kernel
theorem dX6_isDryWalk_6 : decode cX6_isDryWalk 6 = .ok (.iconst 1, 1) := by decide +kernel
theorem dX6_isDryWalk_7 : decode cX6_isDryWalk 7 = .ok (.invokevirtual 86, 3) := by decide +kernel
theorem dX6_isDryWalk_10 : decode cX6_isDryWalk 10 = .ok (.iload_n 2, 1) := by decide +kernel
theorem dX6_isDryWalk_11 : decode cX6_isDryWalk 11 = .ok (.invokestatic 90, 3) := by decide +kernel
theorem dX6_isDryWalk_14 : decode cX6_isDryWalk 14 = .ok (.ifCond .eq 18, 3) := by decide +kernel
theorem dX6_isDryWalk_17 : decode cX6_isDryWalk 17 = .ok (.aload_n 0, 1) := by decide +kernel
theorem dX6_isDryWalk_18 : decode cX6_isDryWalk 18 = .ok (.getfield 27, 3) := by decide +kernel
theorem dX6_isDryWalk_21 : decode cX6_isDryWalk 21 = .ok (.iload_n 2, 1) := by decide +kernel
theorem dX6_isDryWalk_22 : decode cX6_isDryWalk 22 = .ok (.iaload, 1) := by decide +kernel
theorem dX6_isDryWalk_23 : decode cX6_isDryWalk 23 = .ok (.bipush 9, 2) := by decide +kernel
theorem dX6_isDryWalk_25 : decode cX6_isDryWalk 25 = .ok (.if_icmp .ge 7, 3) := by decide +kernel
theorem dX6_isDryWalk_28 : decode cX6_isDryWalk 28 = .ok (.iconst 1, 1) := by decide +kernel
theorem dX6_isDryWalk_29 : decode cX6_isDryWalk 29 = .ok (.goto 4, 3) := by decide +kernel
theorem dX6_isDryWalk_32 : decode cX6_isDryWalk 32 = .ok (.iconst 0, 1) := by decide +kernel
theorem dX6_isDryWalk_33 : decode cX6_isDryWalk 33 = .ok (.ireturn, 1) := by decide +kernel
theorem dX6_isOpen_0 : decode cX6_isOpen 0 = .ok (.aload_n 0, 1) := by decide +kernel
theorem dX6_isOpen_1 : decode cX6_isOpen 1 = .ok (.iload_n 1, 1) := by decide +kernel
theorem dX6_isOpen_2 : decode cX6_isOpen 2 = .ok (.invokevirtual 36, 3) := by decide +kernel
theorem dX6_isOpen_5 : decode cX6_isOpen 5 = .ok (.istore_n 2, 1) := by decide +kernel
theorem dX6_isOpen_6 : decode cX6_isOpen 6 = .ok (.iload_n 2, 1) := by decide +kernel
theorem dX6_isOpen_7 : decode cX6_isOpen 7 = .ok (.iconst 1, 1) := by decide +kernel
theorem dX6_isOpen_8 : decode cX6_isOpen 8 = .ok (.if_icmp .eq 12, 3) := by decide +kernel
theorem dX6_isOpen_11 : decode cX6_isOpen 11 = .ok (.iload_n 2, 1) := by decide +kernel
theorem dX6_isOpen_12 : decode cX6_isOpen 12 = .ok (.iconst 3, 1) := by decide +kernel
theorem dX6_isOpen_13 : decode cX6_isOpen 13 = .ok (.if_icmp .eq 7, 3) := by decide +kernel
theorem dX6_isOpen_16 : decode cX6_isOpen 16 = .ok (.iconst 1, 1) := by decide +kernel
theorem dX6_isOpen_17 : decode cX6_isOpen 17 = .ok (.goto 4, 3) := by decide +kernel
theorem dX6_isOpen_20 : decode cX6_isOpen 20 = .ok (.iconst 0, 1) := by decide +kernel
theorem dX6_isOpen_21 : decode cX6_isOpen 21 = .ok (.ireturn, 1) := by decide +kernel
theorem dX6_isSpot_0 : decode cX6_isSpot 0 = .ok (.iload_n 0, 1) := by decide +kernel
theorem dX6_isSpot_1 : decode cX6_isSpot 1 = .ok (.ifCond .lt 13, 3) := by decide +kernel
theorem dX6_isSpot_4 : decode cX6_isSpot 4 = .ok (.iload_n 0, 1) := by decide +kernel
theorem dX6_isSpot_5 : decode cX6_isSpot 5 = .ok (.bipush 100, 2) := by decide +kernel
theorem dX6_isSpot_7 : decode cX6_isSpot 7 = .ok (.if_icmp .ge 7, 3) := by decide +kernel
theorem dX6_isSpot_10 : decode cX6_isSpot 10 = .ok (.iconst 1, 1) := by decide +kernel
theorem dX6_isSpot_11 : decode cX6_isSpot 11 = .ok (.goto 4, 3) := by decide +kernel
theorem dX6_isSpot_14 : decode cX6_isSpot 14 = .ok (.iconst 0, 1) := by decide +kernel
theorem dX6_isSpot_15 : decode cX6_isSpot 15 = .ok (.ireturn, 1) := by decide +kernel
theorem dX6_kindAt_0 : decode cX6_kindAt 0 = .ok (.iload_n 1, 1) := by decide +kernel
theorem dX6_kindAt_1 : decode cX6_kindAt 1 = .ok (.ifCond .lt 18, 3) := by decide +kernel
theorem dX6_kindAt_4 : decode cX6_kindAt 4 = .ok (.iload_n 1, 1) := by decide +kernel
theorem dX6_kindAt_5 : decode cX6_kindAt 5 = .ok (.bipush 100, 2) := by decide +kernel
theorem dX6_kindAt_7 : decode cX6_kindAt 7 = .ok (.if_icmp .ge 12, 3) := by decide +kernel
theorem dX6_kindAt_10 : decode cX6_kindAt 10 = .ok (.aload_n 0, 1) := by decide +kernel
theorem dX6_kindAt_11 : decode cX6_kindAt 11 = .ok (.getfield 9, 3) := by decide +kernel
theorem dX6_kindAt_14 : decode cX6_kindAt 14 = .ok (.iload_n 1, 1) := by decide +kernel
theorem dX6_kindAt_15 : decode cX6_kindAt 15 = .ok (.iaload, 1) := by decide +kernel
theorem dX6_kindAt_16 : decode cX6_kindAt 16 = .ok (.goto 4, 3) := by decide +kernel
theorem dX6_kindAt_19 : decode cX6_kindAt 19 = .ok (.iconst 1, 1) := by decide +kernel
theorem dX6_kindAt_20 : decode cX6_kindAt 20 = .ok (.ireturn, 1) := by decide +kernel
theorem dX6_kindOf_0 : decode cX6_kindOf 0 = .ok (.iload_n 0, 1) := by decide +kernel
theorem dX6_kindOf_1 : decode cX6_kindOf 1 = .ok (.lookupswitch 51 #[(35, 45), (46, 43), (114, 49), (115, 47)], 43) := by decide +kernel
theorem dX6_kindOf_44 : decode cX6_kindOf 44 = .ok (.iconst 0, 1) := by decide +kernel
theorem dX6_kindOf_45 : decode cX6_kindOf 45 = .ok (.ireturn, 1) := by decide +kernel
theorem dX6_kindOf_46 : decode cX6_kindOf 46 = .ok (.iconst 1, 1) := by decide +kernel
theorem dX6_kindOf_47 : decode cX6_kindOf 47 = .ok (.ireturn, 1) := by decide +kernel
theorem dX6_kindOf_48 : decode cX6_kindOf 48 = .ok (.iconst 2, 1) := by decide +kernel
theorem dX6_kindOf_49 : decode cX6_kindOf 49 = .ok (.ireturn, 1) := by decide +kernel
theorem dX6_kindOf_50 : decode cX6_kindOf 50 = .ok (.iconst 3, 1) := by decide +kernel
theorem dX6_kindOf_51 : decode cX6_kindOf 51 = .ok (.ireturn, 1) := by decide +kernel
theorem dX6_kindOf_52 : decode cX6_kindOf 52 = .ok (.iconst (-1), 1) := by decide +kernel
theorem dX6_kindOf_53 : decode cX6_kindOf 53 = .ok (.ireturn, 1) := by decide +kernel
theorem dX6_openSpot_0 : decode cX6_openSpot 0 = .ok (.iload_n 1, 1) := by decide +kernel
theorem dX6_openSpot_1 : decode cX6_openSpot 1 = .ok (.iload_n 2, 1) := by decide +kernel
theorem dX6_openSpot_2 : decode cX6_openSpot 2 = .ok (.invokestatic 40, 3) := by decide +kernel
theorem dX6_openSpot_5 : decode cX6_openSpot 5 = .ok (.istore_n 3, 1) := by decide +kernel
theorem dX6_openSpot_6 : decode cX6_openSpot 6 = .ok (.aload_n 0, 1) := by decide +kernel
theorem dX6_openSpot_7 : decode cX6_openSpot 7 = .ok (.iload_n 3, 1) := by decide +kernel
theorem dX6_openSpot_8 : decode cX6_openSpot 8 = .ok (.invokevirtual 44, 3) := by decide +kernel
theorem dX6_openSpot_11 : decode cX6_openSpot 11 = .ok (.ifCond .eq 7, 3) := by decide +kernel
theorem dX6_openSpot_14 : decode cX6_openSpot 14 = .ok (.iload_n 3, 1) := by decide +kernel
theorem dX6_openSpot_15 : decode cX6_openSpot 15 = .ok (.goto 4, 3) := by decide +kernel
theorem dX6_openSpot_18 : decode cX6_openSpot 18 = .ok (.iconst (-1), 1) := by decide +kernel
theorem dX6_openSpot_19 : decode cX6_openSpot 19 = .ok (.ireturn, 1) := by decide +kernel
theorem dX6_reckonRow_0 : decode cX6_reckonRow 0 = .ok (.iconst 0, 1) := by decide +kernel
theorem dX6_reckonRow_1 : decode cX6_reckonRow 1 = .ok (.istore 4, 2) := by decide +kernel
theorem dX6_reckonRow_3 : decode cX6_reckonRow 3 = .ok (.iload 4, 2) := by decide +kernel
theorem dX6_reckonRow_5 : decode cX6_reckonRow 5 = .ok (.aload_n 1, 1) := by decide +kernel
theorem dX6_reckonRow_6 : decode cX6_reckonRow 6 = .ok (.arraylength, 1) := by decide +kernel
theorem dX6_reckonRow_7 : decode cX6_reckonRow 7 = .ok (.if_icmp .ge 25, 3) := by decide +kernel
theorem dX6_reckonRow_10 : decode cX6_reckonRow 10 = .ok (.aload_n 1, 1) := by decide +kernel
theorem dX6_reckonRow_11 : decode cX6_reckonRow 11 = .ok (.iload 4, 2) := by decide +kernel
theorem dX6_reckonRow_13 : decode cX6_reckonRow 13 = .ok (.iload 4, 2) := by decide +kernel
theorem dX6_reckonRow_15 : decode cX6_reckonRow 15 = .ok (.iload_n 2, 1) := by decide +kernel
theorem dX6_reckonRow_16 : decode cX6_reckonRow 16 = .ok (.if_icmp .ne 7, 3) := by decide +kernel
theorem dX6_reckonRow_19 : decode cX6_reckonRow 19 = .ok (.iconst 0, 1) := by decide +kernel
theorem dX6_reckonRow_20 : decode cX6_reckonRow 20 = .ok (.goto 5, 3) := by decide +kernel
theorem dX6_reckonRow_23 : decode cX6_reckonRow 23 = .ok (.bipush 9, 2) := by decide +kernel
theorem dX6_reckonRow_25 : decode cX6_reckonRow 25 = .ok (.iastore, 1) := by decide +kernel
theorem dX6_reckonRow_26 : decode cX6_reckonRow 26 = .ok (.iinc 4 1, 3) := by decide +kernel
theorem dX6_reckonRow_29 : decode cX6_reckonRow 29 = .ok (.goto (-26), 3) := by decide +kernel
theorem dX6_reckonRow_32 : decode cX6_reckonRow 32 = .ok (.iconst 0, 1) := by decide +kernel
theorem dX6_reckonRow_33 : decode cX6_reckonRow 33 = .ok (.istore 4, 2) := by decide +kernel
theorem dX6_reckonRow_35 : decode cX6_reckonRow 35 = .ok (.iload 4, 2) := by decide +kernel
theorem dX6_reckonRow_37 : decode cX6_reckonRow 37 = .ok (.iconst 3, 1) := by decide +kernel
theorem dX6_reckonRow_38 : decode cX6_reckonRow 38 = .ok (.if_icmp .ge 115, 3) := by decide +kernel
theorem dX6_reckonRow_41 : decode cX6_reckonRow 41 = .ok (.iconst 0, 1) := by decide +kernel
theorem dX6_reckonRow_42 : decode cX6_reckonRow 42 = .ok (.istore 5, 2) := by decide +kernel
theorem dX6_reckonRow_44 : decode cX6_reckonRow 44 = .ok (.iload 5, 2) := by decide +kernel
theorem dX6_reckonRow_46 : decode cX6_reckonRow 46 = .ok (.iconst 4, 1) := by decide +kernel
theorem dX6_reckonRow_47 : decode cX6_reckonRow 47 = .ok (.aload_n 1, 1) := by decide +kernel
theorem dX6_reckonRow_48 : decode cX6_reckonRow 48 = .ok (.arraylength, 1) := by decide +kernel
theorem dX6_reckonRow_49 : decode cX6_reckonRow 49 = .ok (.imul, 1) := by decide +kernel
theorem dX6_reckonRow_50 : decode cX6_reckonRow 50 = .ok (.if_icmp .ge 97, 3) := by decide +kernel
theorem dX6_reckonRow_53 : decode cX6_reckonRow 53 = .ok (.iload 5, 2) := by decide +kernel
theorem dX6_reckonRow_55 : decode cX6_reckonRow 55 = .ok (.iconst 4, 1) := by decide +kernel
theorem dX6_reckonRow_56 : decode cX6_reckonRow 56 = .ok (.idiv, 1) := by decide +kernel
theorem dX6_reckonRow_57 : decode cX6_reckonRow 57 = .ok (.istore 6, 2) := by decide +kernel
theorem dX6_reckonRow_59 : decode cX6_reckonRow 59 = .ok (.aload_n 1, 1) := by decide +kernel
theorem dX6_reckonRow_60 : decode cX6_reckonRow 60 = .ok (.iload 6, 2) := by decide +kernel
theorem dX6_reckonRow_62 : decode cX6_reckonRow 62 = .ok (.iaload, 1) := by decide +kernel
theorem dX6_reckonRow_63 : decode cX6_reckonRow 63 = .ok (.iload 4, 2) := by decide +kernel
theorem dX6_reckonRow_65 : decode cX6_reckonRow 65 = .ok (.if_icmp .ne 17, 3) := by decide +kernel
theorem dX6_reckonRow_68 : decode cX6_reckonRow 68 = .ok (.iload 6, 2) := by decide +kernel
theorem dX6_reckonRow_70 : decode cX6_reckonRow 70 = .ok (.iconst 2, 1) := by decide +kernel
theorem dX6_reckonRow_71 : decode cX6_reckonRow 71 = .ok (.iload 5, 2) := by decide +kernel
theorem dX6_reckonRow_73 : decode cX6_reckonRow 73 = .ok (.iconst 4, 1) := by decide +kernel
theorem dX6_reckonRow_74 : decode cX6_reckonRow 74 = .ok (.irem, 1) := by decide +kernel
theorem dX6_reckonRow_75 : decode cX6_reckonRow 75 = .ok (.imul, 1) := by decide +kernel
theorem dX6_reckonRow_76 : decode cX6_reckonRow 76 = .ok (.invokestatic 93, 3) := by decide +kernel
theorem dX6_reckonRow_79 : decode cX6_reckonRow 79 = .ok (.goto 4, 3) := by decide +kernel
theorem dX6_reckonRow_82 : decode cX6_reckonRow 82 = .ok (.iconst (-1), 1) := by decide +kernel
theorem dX6_reckonRow_83 : decode cX6_reckonRow 83 = .ok (.istore 7, 2) := by decide +kernel
theorem dX6_reckonRow_85 : decode cX6_reckonRow 85 = .ok (.iload 7, 2) := by decide +kernel
theorem dX6_reckonRow_87 : decode cX6_reckonRow 87 = .ok (.ifCond .lt 54, 3) := by decide +kernel
theorem dX6_reckonRow_90 : decode cX6_reckonRow 90 = .ok (.iload 7, 2) := by decide +kernel
theorem dX6_reckonRow_92 : decode cX6_reckonRow 92 = .ok (.aload_n 1, 1) := by decide +kernel
theorem dX6_reckonRow_93 : decode cX6_reckonRow 93 = .ok (.arraylength, 1) := by decide +kernel
theorem dX6_reckonRow_94 : decode cX6_reckonRow 94 = .ok (.if_icmp .ge 47, 3) := by decide +kernel
theorem dX6_reckonRow_97 : decode cX6_reckonRow 97 = .ok (.aload_n 1, 1) := by decide +kernel
theorem dX6_reckonRow_98 : decode cX6_reckonRow 98 = .ok (.iload 7, 2) := by decide +kernel
theorem dX6_reckonRow_100 : decode cX6_reckonRow 100 = .ok (.iaload, 1) := by decide +kernel
theorem dX6_reckonRow_101 : decode cX6_reckonRow 101 = .ok (.bipush 9, 2) := by decide +kernel
theorem dX6_reckonRow_103 : decode cX6_reckonRow 103 = .ok (.if_icmp .eq 6, 3) := by decide +kernel
theorem dX6_reckonRow_106 : decode cX6_reckonRow 106 = .ok (.goto 35, 3) := by decide +kernel
theorem dX6_reckonRow_109 : decode cX6_reckonRow 109 = .ok (.aload_n 0, 1) := by decide +kernel
theorem dX6_reckonRow_110 : decode cX6_reckonRow 110 = .ok (.iload 7, 2) := by decide +kernel
theorem dX6_reckonRow_112 : decode cX6_reckonRow 112 = .ok (.invokevirtual 36, 3) := by decide +kernel
theorem dX6_reckonRow_115 : decode cX6_reckonRow 115 = .ok (.istore 8, 2) := by decide +kernel
theorem dX6_reckonRow_117 : decode cX6_reckonRow 117 = .ok (.iload 8, 2) := by decide +kernel
theorem dX6_reckonRow_119 : decode cX6_reckonRow 119 = .ok (.iconst 1, 1) := by decide +kernel
theorem dX6_reckonRow_120 : decode cX6_reckonRow 120 = .ok (.if_icmp .eq 21, 3) := by decide +kernel
theorem dX6_reckonRow_123 : decode cX6_reckonRow 123 = .ok (.iload_n 3, 1) := by decide +kernel
theorem dX6_reckonRow_124 : decode cX6_reckonRow 124 = .ok (.ifCond .eq 9, 3) := by decide +kernel
theorem dX6_reckonRow_127 : decode cX6_reckonRow 127 = .ok (.iload 8, 2) := by decide +kernel
theorem dX6_reckonRow_129 : decode cX6_reckonRow 129 = .ok (.iconst 3, 1) := by decide +kernel
theorem dX6_reckonRow_130 : decode cX6_reckonRow 130 = .ok (.if_icmp .eq 11, 3) := by decide +kernel
theorem dX6_reckonRow_133 : decode cX6_reckonRow 133 = .ok (.aload_n 1, 1) := by decide +kernel
theorem dX6_reckonRow_134 : decode cX6_reckonRow 134 = .ok (.iload 7, 2) := by decide +kernel
theorem dX6_reckonRow_136 : decode cX6_reckonRow 136 = .ok (.iload 4, 2) := by decide +kernel
theorem dX6_reckonRow_138 : decode cX6_reckonRow 138 = .ok (.iconst 1, 1) := by decide +kernel
theorem dX6_reckonRow_139 : decode cX6_reckonRow 139 = .ok (.iadd, 1) := by decide +kernel
theorem dX6_reckonRow_140 : decode cX6_reckonRow 140 = .ok (.iastore, 1) := by decide +kernel
theorem dX6_reckonRow_141 : decode cX6_reckonRow 141 = .ok (.iinc 5 1, 3) := by decide +kernel
theorem dX6_reckonRow_144 : decode cX6_reckonRow 144 = .ok (.goto (-100), 3) := by decide +kernel
theorem dX6_reckonRow_147 : decode cX6_reckonRow 147 = .ok (.iinc 4 1, 3) := by decide +kernel
theorem dX6_reckonRow_150 : decode cX6_reckonRow 150 = .ok (.goto (-115), 3) := by decide +kernel
theorem dX6_reckonRow_153 : decode cX6_reckonRow 153 = .ok (.return_, 1) := by decide +kernel
theorem dX6_spotAt_0 : decode cX6_spotAt 0 = .ok (.iload_n 0, 1) := by decide +kernel
theorem dX6_spotAt_1 : decode cX6_spotAt 1 = .ok (.ifCond .lt 28, 3) := by decide +kernel
theorem dX6_spotAt_4 : decode cX6_spotAt 4 = .ok (.iload_n 0, 1) := by decide +kernel
theorem dX6_spotAt_5 : decode cX6_spotAt 5 = .ok (.bipush 10, 2) := by decide +kernel
theorem dX6_spotAt_7 : decode cX6_spotAt 7 = .ok (.if_icmp .ge 22, 3) := by decide +kernel
theorem dX6_spotAt_10 : decode cX6_spotAt 10 = .ok (.iload_n 1, 1) := by decide +kernel
theorem dX6_spotAt_11 : decode cX6_spotAt 11 = .ok (.ifCond .lt 18, 3) := by decide +kernel
theorem dX6_spotAt_14 : decode cX6_spotAt 14 = .ok (.iload_n 1, 1) := by decide +kernel
theorem dX6_spotAt_15 : decode cX6_spotAt 15 = .ok (.bipush 10, 2) := by decide +kernel
theorem dX6_spotAt_17 : decode cX6_spotAt 17 = .ok (.if_icmp .ge 12, 3) := by decide +kernel
theorem dX6_spotAt_20 : decode cX6_spotAt 20 = .ok (.bipush 10, 2) := by decide +kernel
theorem dX6_spotAt_22 : decode cX6_spotAt 22 = .ok (.iload_n 1, 1) := by decide +kernel
theorem dX6_spotAt_23 : decode cX6_spotAt 23 = .ok (.imul, 1) := by decide +kernel
theorem dX6_spotAt_24 : decode cX6_spotAt 24 = .ok (.iload_n 0, 1) := by decide +kernel
theorem dX6_spotAt_25 : decode cX6_spotAt 25 = .ok (.iadd, 1) := by decide +kernel
theorem dX6_spotAt_26 : decode cX6_spotAt 26 = .ok (.goto 4, 3) := by decide +kernel
theorem dX6_spotAt_29 : decode cX6_spotAt 29 = .ok (.iconst (-1), 1) := by decide +kernel
theorem dX6_spotAt_30 : decode cX6_spotAt 30 = .ok (.ireturn, 1) := by decide +kernel
theorem dX6_stepsBetween_0 : decode cX6_stepsBetween 0 = .ok (.iload_n 1, 1) := by decide +kernel
theorem dX6_stepsBetween_1 : decode cX6_stepsBetween 1 = .ok (.invokestatic 90, 3) := by decide +kernel
theorem dX6_stepsBetween_4 : decode cX6_stepsBetween 4 = .ok (.ifCond .eq 10, 3) := by decide +kernel
theorem dX6_stepsBetween_7 : decode cX6_stepsBetween 7 = .ok (.iload_n 2, 1) := by decide +kernel
theorem dX6_stepsBetween_8 : decode cX6_stepsBetween 8 = .ok (.invokestatic 90, 3) := by decide +kernel
theorem dX6_stepsBetween_11 : decode cX6_stepsBetween 11 = .ok (.ifCond .ne 6, 3) := by decide +kernel
theorem dX6_stepsBetween_14 : decode cX6_stepsBetween 14 = .ok (.bipush 9, 2) := by decide +kernel
theorem dX6_stepsBetween_16 : decode cX6_stepsBetween 16 = .ok (.ireturn, 1) := by decide +kernel
theorem dX6_stepsBetween_17 : decode cX6_stepsBetween 17 = .ok (.aload_n 0, 1) := by decide +kernel
theorem dX6_stepsBetween_18 : decode cX6_stepsBetween 18 = .ok (.getfield 23, 3) := by decide +kernel
theorem dX6_stepsBetween_21 : decode cX6_stepsBetween 21 = .ok (.iload_n 1, 1) := by decide +kernel
theorem dX6_stepsBetween_22 : decode cX6_stepsBetween 22 = .ok (.baload, 1) := by decide +kernel
theorem dX6_stepsBetween_23 : decode cX6_stepsBetween 23 = .ok (.ifCond .ne 22, 3) := by decide +kernel
theorem dX6_stepsBetween_26 : decode cX6_stepsBetween 26 = .ok (.aload_n 0, 1) := by decide +kernel
theorem dX6_stepsBetween_27 : decode cX6_stepsBetween 27 = .ok (.aload_n 0, 1) := by decide +kernel
theorem dX6_stepsBetween_28 : decode cX6_stepsBetween 28 = .ok (.getfield 20, 3) := by decide +kernel
theorem dX6_stepsBetween_31 : decode cX6_stepsBetween 31 = .ok (.iload_n 1, 1) := by decide +kernel
theorem dX6_stepsBetween_32 : decode cX6_stepsBetween 32 = .ok (.aaload, 1) := by decide +kernel
theorem dX6_stepsBetween_33 : decode cX6_stepsBetween 33 = .ok (.iload_n 1, 1) := by decide +kernel
theorem dX6_stepsBetween_34 : decode cX6_stepsBetween 34 = .ok (.iconst 0, 1) := by decide +kernel
theorem dX6_stepsBetween_35 : decode cX6_stepsBetween 35 = .ok (.invokevirtual 86, 3) := by decide +kernel
theorem dX6_stepsBetween_38 : decode cX6_stepsBetween 38 = .ok (.aload_n 0, 1) := by decide +kernel
theorem dX6_stepsBetween_39 : decode cX6_stepsBetween 39 = .ok (.getfield 23, 3) := by decide +kernel
theorem dX6_stepsBetween_42 : decode cX6_stepsBetween 42 = .ok (.iload_n 1, 1) := by decide +kernel
theorem dX6_stepsBetween_43 : decode cX6_stepsBetween 43 = .ok (.iconst 1, 1) := by decide +kernel
theorem dX6_stepsBetween_44 : decode cX6_stepsBetween 44 = .ok (.bastore, 1) := by decide +kernel
theorem dX6_stepsBetween_45 : decode cX6_stepsBetween 45 = .ok (.aload_n 0, 1) := by decide +kernel
theorem dX6_stepsBetween_46 : decode cX6_stepsBetween 46 = .ok (.getfield 20, 3) := by decide +kernel
theorem dX6_stepsBetween_49 : decode cX6_stepsBetween 49 = .ok (.iload_n 1, 1) := by decide +kernel
theorem dX6_stepsBetween_50 : decode cX6_stepsBetween 50 = .ok (.aaload, 1) := by decide +kernel
theorem dX6_stepsBetween_51 : decode cX6_stepsBetween 51 = .ok (.iload_n 2, 1) := by decide +kernel
theorem dX6_stepsBetween_52 : decode cX6_stepsBetween 52 = .ok (.iaload, 1) := by decide +kernel
theorem dX6_stepsBetween_53 : decode cX6_stepsBetween 53 = .ok (.ireturn, 1) := by decide +kernel
theorem dX6_timesOf_0 : decode cX6_timesOf 0 = .ok (.iload_n 0, 1) := by decide +kernel
theorem dX6_timesOf_1 : decode cX6_timesOf 1 = .ok (.bipush 48, 2) := by decide +kernel
theorem dX6_timesOf_3 : decode cX6_timesOf 3 = .ok (.if_icmp .ne 6, 3) := by decide +kernel
theorem dX6_timesOf_6 : decode cX6_timesOf 6 = .ok (.bipush 10, 2) := by decide +kernel
theorem dX6_timesOf_8 : decode cX6_timesOf 8 = .ok (.ireturn, 1) := by decide +kernel
theorem dX6_timesOf_9 : decode cX6_timesOf 9 = .ok (.iload_n 0, 1) := by decide +kernel
theorem dX6_timesOf_10 : decode cX6_timesOf 10 = .ok (.bipush 50, 2) := by decide +kernel
theorem dX6_timesOf_12 : decode cX6_timesOf 12 = .ok (.if_icmp .lt 16, 3) := by decide +kernel
theorem dX6_timesOf_15 : decode cX6_timesOf 15 = .ok (.iload_n 0, 1) := by decide +kernel
theorem dX6_timesOf_16 : decode cX6_timesOf 16 = .ok (.bipush 57, 2) := by decide +kernel
theorem dX6_timesOf_18 : decode cX6_timesOf 18 = .ok (.if_icmp .gt 10, 3) := by decide +kernel
theorem dX6_timesOf_21 : decode cX6_timesOf 21 = .ok (.iload_n 0, 1) := by decide +kernel
theorem dX6_timesOf_22 : decode cX6_timesOf 22 = .ok (.bipush 48, 2) := by decide +kernel
theorem dX6_timesOf_24 : decode cX6_timesOf 24 = .ok (.isub, 1) := by decide +kernel
theorem dX6_timesOf_25 : decode cX6_timesOf 25 = .ok (.goto 4, 3) := by decide +kernel
theorem dX6_timesOf_28 : decode cX6_timesOf 28 = .ok (.iconst 0, 1) := by decide +kernel
theorem dX6_timesOf_29 : decode cX6_timesOf 29 = .ok (.ireturn, 1) := by decide +kernel
