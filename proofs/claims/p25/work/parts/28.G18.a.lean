theorem cf_X11_factOf : xCF yX11_factOf cX11_factOf 1 (some .int) 1 := ⟨xq 1497 (by decide +kernel) rfl, xq 179 (by decide +kernel) rfl, by decide +kernel⟩
theorem cf_X11_notes : xCF yX11_notes cX11_notes 3 none 2 := ⟨xq 1494 (by decide +kernel) rfl, xq 179 (by decide +kernel) rfl, by decide +kernel⟩
theorem cf_X11_opens : xCF yX11_opens cX11_opens 2 (some .boolean) 1 := ⟨xq 1481 (by decide +kernel) rfl, xq 179 (by decide +kernel) rfl, by decide +kernel⟩
theorem cf_X11_readsNumber : xCF yX11_readsNumber cX11_readsNumber 2 (some .boolean) 0 := ⟨xq 1490 (by decide +kernel) rfl, xq 179 (by decide +kernel) rfl, by decide +kernel⟩
theorem cf_X11_waitTop : xCF yX11_waitTop cX11_waitTop 1 (some .int) 0 := ⟨xq 1508 (by decide +kernel) rfl, xq 179 (by decide +kernel) rfl, by decide +kernel⟩
theorem wq118 : Cond.selects yX11_opens.cls yX11_opens yX11_opens ∈ xTB := xq 118 (by decide +kernel) rfl
theorem wq120 : Cond.selects yX11_readsNumber.cls yX11_readsNumber yX11_readsNumber ∈ xTB := xq 120 (by decide +kernel) rfl
theorem wq121 : Cond.selects yX11_notes.cls yX11_notes yX11_notes ∈ xTB := xq 121 (by decide +kernel) rfl
theorem wq123 : Cond.selects yX11_waitTop.cls yX11_waitTop yX11_waitTop ∈ xTB := xq 123 (by decide +kernel) rfl
theorem wq1478 : Cond.methodLink "ShadowCourtModel" (211) yX11_opens ∈ xTB := xq 1478 (by decide +kernel) rfl
theorem wq1480 : Cond.instanceMethod yX11_opens ∈ xTB := xq 1480 (by decide +kernel) rfl
theorem wq1487 : Cond.methodLink "ShadowCourtModel" (214) yX11_readsNumber ∈ xTB := xq 1487 (by decide +kernel) rfl
theorem wq1489 : Cond.instanceMethod yX11_readsNumber ∈ xTB := xq 1489 (by decide +kernel) rfl
theorem wq1491 : Cond.methodLink "ShadowCourtModel" (207) yX11_notes ∈ xTB := xq 1491 (by decide +kernel) rfl
theorem wq1493 : Cond.instanceMethod yX11_notes ∈ xTB := xq 1493 (by decide +kernel) rfl
theorem wq1495 : Cond.methodLink "ShadowCourtModel" (217) yX11_factOf ∈ xTB := xq 1495 (by decide +kernel) rfl
theorem wq1496 : Cond.static yX11_factOf ∈ xTB := xq 1496 (by decide +kernel) rfl
theorem wq1505 : Cond.methodLink "ShadowCourtModel" (204) yX11_waitTop ∈ xTB := xq 1505 (by decide +kernel) rfl
theorem wq1507 : Cond.instanceMethod yX11_waitTop ∈ xTB := xq 1507 (by decide +kernel) rfl
theorem dX11_closesSums_0 : decode cX11_closesSums 0 = .ok (.aload_n 0, 1) := by decide +kernel
theorem dX11_closesSums_1 : decode cX11_closesSums 1 = .ok (.invokevirtual 204, 3) := by decide +kernel
theorem dX11_closesSums_4 : decode cX11_closesSums 4 = .ok (.iconst 4, 1) := by decide +kernel
theorem dX11_closesSums_5 : decode cX11_closesSums 5 = .ok (.if_icmp .lt 12, 3) := by decide +kernel
theorem dX11_closesSums_8 : decode cX11_closesSums 8 = .ok (.aload_n 0, 1) := by decide +kernel
theorem dX11_closesSums_9 : decode cX11_closesSums 9 = .ok (.invokevirtual 204, 3) := by decide +kernel
theorem dX11_closesSums_12 : decode cX11_closesSums 12 = .ok (.bipush 6, 2) := by decide +kernel
theorem dX11_closesSums_14 : decode cX11_closesSums 14 = .ok (.if_icmp .le 23, 3) := by decide +kernel
theorem dX11_closesSums_17 : decode cX11_closesSums 17 = .ok (.iload_n 1, 1) := by decide +kernel
theorem dX11_closesSums_18 : decode cX11_closesSums 18 = .ok (.ifCond .eq 41, 3) := by decide +kernel
theorem dX11_closesSums_21 : decode cX11_closesSums 21 = .ok (.aload_n 0, 1) := by decide +kernel
theorem dX11_closesSums_22 : decode cX11_closesSums 22 = .ok (.invokevirtual 204, 3) := by decide +kernel
theorem dX11_closesSums_25 : decode cX11_closesSums 25 = .ok (.iconst 2, 1) := by decide +kernel
theorem dX11_closesSums_26 : decode cX11_closesSums 26 = .ok (.if_icmp .eq 11, 3) := by decide +kernel
theorem dX11_closesSums_29 : decode cX11_closesSums 29 = .ok (.aload_n 0, 1) := by decide +kernel
theorem dX11_closesSums_30 : decode cX11_closesSums 30 = .ok (.invokevirtual 204, 3) := by decide +kernel
theorem dX11_closesSums_33 : decode cX11_closesSums 33 = .ok (.iconst 3, 1) := by decide +kernel
theorem dX11_closesSums_34 : decode cX11_closesSums 34 = .ok (.if_icmp .ne 25, 3) := by decide +kernel
theorem dX11_closesSums_37 : decode cX11_closesSums 37 = .ok (.aload_n 0, 1) := by decide +kernel
theorem dX11_closesSums_38 : decode cX11_closesSums 38 = .ok (.aload_n 0, 1) := by decide +kernel
theorem dX11_closesSums_39 : decode cX11_closesSums 39 = .ok (.invokevirtual 204, 3) := by decide +kernel
theorem dX11_closesSums_42 : decode cX11_closesSums 42 = .ok (.iconst 0, 1) := by decide +kernel
theorem dX11_closesSums_43 : decode cX11_closesSums 43 = .ok (.invokevirtual 207, 3) := by decide +kernel
theorem dX11_closesSums_46 : decode cX11_closesSums 46 = .ok (.aload_n 0, 1) := by decide +kernel
theorem dX11_closesSums_47 : decode cX11_closesSums 47 = .ok (.aload_n 0, 1) := by decide +kernel
theorem dX11_closesSums_48 : decode cX11_closesSums 48 = .ok (.getfield 201, 3) := by decide +kernel
theorem dX11_closesSums_51 : decode cX11_closesSums 51 = .ok (.iconst 1, 1) := by decide +kernel
theorem dX11_closesSums_52 : decode cX11_closesSums 52 = .ok (.isub, 1) := by decide +kernel
theorem dX11_closesSums_53 : decode cX11_closesSums 53 = .ok (.putfield 201, 3) := by decide +kernel
theorem dX11_closesSums_56 : decode cX11_closesSums 56 = .ok (.goto (-56), 3) := by decide +kernel
theorem dX11_closesSums_59 : decode cX11_closesSums 59 = .ok (.return_, 1) := by decide +kernel
theorem dX11_hasOpenSum_0 : decode cX11_hasOpenSum 0 = .ok (.iload_n 1, 1) := by decide +kernel
theorem dX11_hasOpenSum_1 : decode cX11_hasOpenSum 1 = .ok (.istore_n 2, 1) := by decide +kernel
theorem dX11_hasOpenSum_2 : decode cX11_hasOpenSum 2 = .ok (.iload_n 2, 1) := by decide +kernel
theorem dX11_hasOpenSum_3 : decode cX11_hasOpenSum 3 = .ok (.aload_n 0, 1) := by decide +kernel
theorem dX11_hasOpenSum_4 : decode cX11_hasOpenSum 4 = .ok (.getfield 201, 3) := by decide +kernel
theorem dX11_hasOpenSum_7 : decode cX11_hasOpenSum 7 = .ok (.if_icmp .ge 25, 3) := by decide +kernel
theorem dX11_hasOpenSum_10 : decode cX11_hasOpenSum 10 = .ok (.aload_n 0, 1) := by decide +kernel
theorem dX11_hasOpenSum_11 : decode cX11_hasOpenSum 11 = .ok (.getfield 38, 3) := by decide +kernel
theorem dX11_hasOpenSum_14 : decode cX11_hasOpenSum 14 = .ok (.iload_n 2, 1) := by decide +kernel
theorem dX11_hasOpenSum_15 : decode cX11_hasOpenSum 15 = .ok (.iaload, 1) := by decide +kernel
theorem dX11_hasOpenSum_16 : decode cX11_hasOpenSum 16 = .ok (.ldc 197, 2) := by decide +kernel
theorem dX11_hasOpenSum_18 : decode cX11_hasOpenSum 18 = .ok (.idiv, 1) := by decide +kernel
theorem dX11_hasOpenSum_19 : decode cX11_hasOpenSum 19 = .ok (.bipush 14, 2) := by decide +kernel
theorem dX11_hasOpenSum_21 : decode cX11_hasOpenSum 21 = .ok (.if_icmp .ne 5, 3) := by decide +kernel
theorem dX11_hasOpenSum_24 : decode cX11_hasOpenSum 24 = .ok (.iconst 1, 1) := by decide +kernel
theorem dX11_hasOpenSum_25 : decode cX11_hasOpenSum 25 = .ok (.ireturn, 1) := by decide +kernel
theorem dX11_hasOpenSum_26 : decode cX11_hasOpenSum 26 = .ok (.iinc 2 1, 3) := by decide +kernel
theorem dX11_hasOpenSum_29 : decode cX11_hasOpenSum 29 = .ok (.goto (-27), 3) := by decide +kernel
theorem dX11_hasOpenSum_32 : decode cX11_hasOpenSum 32 = .ok (.iconst 0, 1) := by decide +kernel
theorem dX11_hasOpenSum_33 : decode cX11_hasOpenSum 33 = .ok (.ireturn, 1) := by decide +kernel
theorem dX11_readsFactor_0 : decode cX11_readsFactor 0 = .ok (.aload_n 0, 1) := by decide +kernel
theorem dX11_readsFactor_1 : decode cX11_readsFactor 1 = .ok (.invokevirtual 177, 3) := by decide +kernel
theorem dX11_readsFactor_4 : decode cX11_readsFactor 4 = .ok (.bipush 91, 2) := by decide +kernel
theorem dX11_readsFactor_6 : decode cX11_readsFactor 6 = .ok (.if_icmp .ne 14, 3) := by decide +kernel
theorem dX11_readsFactor_9 : decode cX11_readsFactor 9 = .ok (.aload_n 0, 1) := by decide +kernel
theorem dX11_readsFactor_10 : decode cX11_readsFactor 10 = .ok (.bipush 14, 2) := by decide +kernel
theorem dX11_readsFactor_12 : decode cX11_readsFactor 12 = .ok (.invokevirtual 211, 3) := by decide +kernel
theorem dX11_readsFactor_15 : decode cX11_readsFactor 15 = .ok (.ifCond .ne (-15), 3) := by decide +kernel
theorem dX11_readsFactor_18 : decode cX11_readsFactor 18 = .ok (.iconst 0, 1) := by decide +kernel
theorem dX11_readsFactor_19 : decode cX11_readsFactor 19 = .ok (.ireturn, 1) := by decide +kernel
theorem dX11_readsFactor_20 : decode cX11_readsFactor 20 = .ok (.aload_n 0, 1) := by decide +kernel
theorem dX11_readsFactor_21 : decode cX11_readsFactor 21 = .ok (.invokevirtual 190, 3) := by decide +kernel
theorem dX11_readsFactor_24 : decode cX11_readsFactor 24 = .ok (.ifCond .eq 23, 3) := by decide +kernel
theorem dX11_readsFactor_27 : decode cX11_readsFactor 27 = .ok (.aload_n 0, 1) := by decide +kernel
theorem dX11_readsFactor_28 : decode cX11_readsFactor 28 = .ok (.invokevirtual 214, 3) := by decide +kernel
theorem dX11_readsFactor_31 : decode cX11_readsFactor 31 = .ok (.ifCond .ne 5, 3) := by decide +kernel
theorem dX11_readsFactor_34 : decode cX11_readsFactor 34 = .ok (.iconst 0, 1) := by decide +kernel
theorem dX11_readsFactor_35 : decode cX11_readsFactor 35 = .ok (.ireturn, 1) := by decide +kernel
theorem dX11_readsFactor_36 : decode cX11_readsFactor 36 = .ok (.aload_n 0, 1) := by decide +kernel
theorem dX11_readsFactor_37 : decode cX11_readsFactor 37 = .ok (.iconst 0, 1) := by decide +kernel
theorem dX11_readsFactor_38 : decode cX11_readsFactor 38 = .ok (.aload_n 0, 1) := by decide +kernel
theorem dX11_readsFactor_39 : decode cX11_readsFactor 39 = .ok (.getfield 187, 3) := by decide +kernel
theorem dX11_readsFactor_42 : decode cX11_readsFactor 42 = .ok (.invokevirtual 207, 3) := by decide +kernel
theorem dX11_readsFactor_45 : decode cX11_readsFactor 45 = .ok (.iconst 1, 1) := by decide +kernel
theorem dX11_readsFactor_46 : decode cX11_readsFactor 46 = .ok (.ireturn, 1) := by decide +kernel
theorem dX11_readsFactor_47 : decode cX11_readsFactor 47 = .ok (.aload_n 0, 1) := by decide +kernel
theorem dX11_readsFactor_48 : decode cX11_readsFactor 48 = .ok (.invokevirtual 177, 3) := by decide +kernel
theorem dX11_readsFactor_51 : decode cX11_readsFactor 51 = .ok (.invokestatic 217, 3) := by decide +kernel
theorem dX11_readsFactor_54 : decode cX11_readsFactor 54 = .ok (.istore_n 1, 1) := by decide +kernel
theorem dX11_readsFactor_55 : decode cX11_readsFactor 55 = .ok (.iload_n 1, 1) := by decide +kernel
theorem dX11_readsFactor_56 : decode cX11_readsFactor 56 = .ok (.iconst (-1), 1) := by decide +kernel
theorem dX11_readsFactor_57 : decode cX11_readsFactor 57 = .ok (.if_icmp .ne 13, 3) := by decide +kernel
theorem dX11_readsFactor_60 : decode cX11_readsFactor 60 = .ok (.aload_n 0, 1) := by decide +kernel
theorem dX11_readsFactor_61 : decode cX11_readsFactor 61 = .ok (.iconst 1, 1) := by decide +kernel
theorem dX11_readsFactor_62 : decode cX11_readsFactor 62 = .ok (.aload_n 0, 1) := by decide +kernel
theorem dX11_readsFactor_63 : decode cX11_readsFactor 63 = .ok (.getfield 171, 3) := by decide +kernel
theorem dX11_readsFactor_66 : decode cX11_readsFactor 66 = .ok (.invokevirtual 184, 3) := by decide +kernel
theorem dX11_readsFactor_69 : decode cX11_readsFactor 69 = .ok (.ireturn, 1) := by decide +kernel
theorem dX11_readsFactor_70 : decode cX11_readsFactor 70 = .ok (.aload_n 0, 1) := by decide +kernel
theorem dX11_readsFactor_71 : decode cX11_readsFactor 71 = .ok (.iconst 1, 1) := by decide +kernel
theorem dX11_readsFactor_72 : decode cX11_readsFactor 72 = .ok (.iload_n 1, 1) := by decide +kernel
theorem dX11_readsFactor_73 : decode cX11_readsFactor 73 = .ok (.invokevirtual 207, 3) := by decide +kernel
theorem dX11_readsFactor_76 : decode cX11_readsFactor 76 = .ok (.aload_n 0, 1) := by decide +kernel
theorem dX11_readsFactor_77 : decode cX11_readsFactor 77 = .ok (.aload_n 0, 1) := by decide +kernel
theorem dX11_readsFactor_78 : decode cX11_readsFactor 78 = .ok (.getfield 171, 3) := by decide +kernel
theorem dX11_readsFactor_81 : decode cX11_readsFactor 81 = .ok (.iconst 1, 1) := by decide +kernel
theorem dX11_readsFactor_82 : decode cX11_readsFactor 82 = .ok (.iadd, 1) := by decide +kernel
theorem dX11_readsFactor_83 : decode cX11_readsFactor 83 = .ok (.putfield 171, 3) := by decide +kernel
theorem dX11_readsFactor_86 : decode cX11_readsFactor 86 = .ok (.iconst 1, 1) := by decide +kernel
theorem dX11_readsFactor_87 : decode cX11_readsFactor 87 = .ok (.ireturn, 1) := by decide +kernel

