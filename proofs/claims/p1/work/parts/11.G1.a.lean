theorem xin {ws : List Cond} (ps : List Nat) (h : ws.map some = ps.map (fun i => lw_tbl[i]?)) (hg : ws.all goodWord = true) : ∀ w ∈ ws, w ∈ xTB := fun w hw => by
  have h1 : some w ∈ ps.map (fun i => lw_tbl[i]?) := by rw [← h]; exact List.mem_map.mpr ⟨w, hw, rfl⟩
  obtain ⟨i, -, hi⟩ := List.mem_map.mp h1
  exact List.mem_filter.mpr ⟨List.mem_of_getElem? hi, List.all_eq_true.mp hg w hw⟩
theorem cls_X4 : xCls RX4 TX4 9 4 tyX4 := ⟨xin [266, 268, 270, 272, 274, 276, 278, 280, 282] (by decide +kernel) (by decide +kernel), rfl, tyX4_ok, nmX4⟩
theorem cls_X6 : xCls RX6 TX6 5 6 tyX6 := ⟨xin [231, 233, 235, 237, 239] (by decide +kernel) (by decide +kernel), rfl, tyX6_ok, nmX6⟩
theorem cf_X4_tellMinute : xCF yX4_tellMinute cX4_tellMinute 3 none 1 := ⟨xq 794 (by decide +kernel) rfl, xq 171 (by decide +kernel) rfl, by decide +kernel⟩
theorem cf_X6_isOpen : xCF yX6_isOpen cX6_isOpen 3 (some .boolean) 1 := ⟨xq 616 (by decide +kernel) rfl, xq 170 (by decide +kernel) rfl, by decide +kernel⟩
theorem cf_X6_kindAt : xCF yX6_kindAt cX6_kindAt 2 (some .int) 1 := ⟨xq 620 (by decide +kernel) rfl, xq 170 (by decide +kernel) rfl, by decide +kernel⟩
theorem cf_X6_spotAt : xCF yX6_spotAt cX6_spotAt 2 (some .int) 2 := ⟨xq 709 (by decide +kernel) rfl, xq 170 (by decide +kernel) rfl, by decide +kernel⟩
theorem wq9 : Cond.selects yX6_isOpen.cls yX6_isOpen yX6_isOpen ∈ xTB := xq 9 (by decide +kernel) rfl
theorem wq10 : Cond.selects yX6_kindAt.cls yX6_kindAt yX6_kindAt ∈ xTB := xq 10 (by decide +kernel) rfl
theorem wq40 : Cond.selects yX4_tellMinute.cls yX4_tellMinute yX4_tellMinute ∈ xTB := xq 40 (by decide +kernel) rfl
theorem wq226 : Cond.fieldLink "ShadowCourt$Market" (9) "ShadowCourt$Market" "kinds" "[I" ∈ xTB := xq 226 (by decide +kernel) rfl
theorem wq261 : Cond.fieldLink "ShadowCourt$Law" (31) "ShadowCourt$Law" "clauses" "I" ∈ xTB := xq 261 (by decide +kernel) rfl
theorem wq264 : Cond.fieldLink "ShadowCourt$Law" (37) "ShadowCourt$Law" "told" "[I" ∈ xTB := xq 264 (by decide +kernel) rfl
theorem wq615 : Cond.instanceMethod yX6_isOpen ∈ xTB := xq 615 (by decide +kernel) rfl
theorem wq617 : Cond.methodLink "ShadowCourt$Market" (36) yX6_kindAt ∈ xTB := xq 617 (by decide +kernel) rfl
theorem wq619 : Cond.instanceMethod yX6_kindAt ∈ xTB := xq 619 (by decide +kernel) rfl
theorem wq707 : Cond.methodLink "ShadowCourt$Market" (40) yX6_spotAt ∈ xTB := xq 707 (by decide +kernel) rfl
theorem wq708 : Cond.static yX6_spotAt ∈ xTB := xq 708 (by decide +kernel) rfl
theorem wq710 : Cond.methodLink "ShadowCourt$Market" (44) yX6_isOpen ∈ xTB := xq 710 (by decide +kernel) rfl
theorem wq793 : Cond.instanceMethod yX4_tellMinute ∈ xTB := xq 793 (by decide +kernel) rfl
theorem wq821 : Cond.methodLink "ShadowCourt$Law" (49) yX4_tellMinute ∈ xTB := xq 821 (by decide +kernel) rfl
theorem wn786 : Cond.fieldLinkNest "ShadowCourt$Market" (30) "ShadowCourt" "WAY_X" "[I" "ShadowCourt" ∈ xNL := xn 786 (by decide +kernel) rfl
theorem wn788 : Cond.fieldLinkNest "ShadowCourt$Market" (33) "ShadowCourt" "WAY_Y" "[I" "ShadowCourt" ∈ xNL := xn 788 (by decide +kernel) rfl
theorem dX4_isNight_0 : decode cX4_isNight 0 = .ok (.aload_n 0, 1) := by decide +kernel
theorem dX4_isNight_1 : decode cX4_isNight 1 = .ok (.iload_n 1, 1) := by decide +kernel
theorem dX4_isNight_2 : decode cX4_isNight 2 = .ok (.invokevirtual 49, 3) := by decide +kernel
theorem dX4_isNight_5 : decode cX4_isNight 5 = .ok (.iconst 0, 1) := by decide +kernel
theorem dX4_isNight_6 : decode cX4_isNight 6 = .ok (.istore_n 2, 1) := by decide +kernel
theorem dX4_isNight_7 : decode cX4_isNight 7 = .ok (.iload_n 2, 1) := by decide +kernel
theorem dX4_isNight_8 : decode cX4_isNight 8 = .ok (.aload_n 0, 1) := by decide +kernel
theorem dX4_isNight_9 : decode cX4_isNight 9 = .ok (.getfield 31, 3) := by decide +kernel
theorem dX4_isNight_12 : decode cX4_isNight 12 = .ok (.if_icmp .ge 35, 3) := by decide +kernel
theorem dX4_isNight_15 : decode cX4_isNight 15 = .ok (.aload_n 0, 1) := by decide +kernel
theorem dX4_isNight_16 : decode cX4_isNight 16 = .ok (.getfield 22, 3) := by decide +kernel
theorem dX4_isNight_19 : decode cX4_isNight 19 = .ok (.iload_n 2, 1) := by decide +kernel
theorem dX4_isNight_20 : decode cX4_isNight 20 = .ok (.iaload, 1) := by decide +kernel
theorem dX4_isNight_21 : decode cX4_isNight 21 = .ok (.bipush 110, 2) := by decide +kernel
theorem dX4_isNight_23 : decode cX4_isNight 23 = .ok (.if_icmp .ne 18, 3) := by decide +kernel
theorem dX4_isNight_26 : decode cX4_isNight 26 = .ok (.aload_n 0, 1) := by decide +kernel
theorem dX4_isNight_27 : decode cX4_isNight 27 = .ok (.aload_n 0, 1) := by decide +kernel
theorem dX4_isNight_28 : decode cX4_isNight 28 = .ok (.getfield 28, 3) := by decide +kernel
theorem dX4_isNight_31 : decode cX4_isNight 31 = .ok (.iload_n 2, 1) := by decide +kernel
theorem dX4_isNight_32 : decode cX4_isNight 32 = .ok (.iaload, 1) := by decide +kernel
theorem dX4_isNight_33 : decode cX4_isNight 33 = .ok (.invokevirtual 53, 3) := by decide +kernel
theorem dX4_isNight_36 : decode cX4_isNight 36 = .ok (.ifCond .eq 5, 3) := by decide +kernel
theorem dX4_isNight_39 : decode cX4_isNight 39 = .ok (.iconst 1, 1) := by decide +kernel
theorem dX4_isNight_40 : decode cX4_isNight 40 = .ok (.ireturn, 1) := by decide +kernel
theorem dX4_isNight_41 : decode cX4_isNight 41 = .ok (.iinc 2 1, 3) := by decide +kernel
theorem dX4_isNight_44 : decode cX4_isNight 44 = .ok (.goto (-37), 3) := by decide +kernel
theorem dX4_isNight_47 : decode cX4_isNight 47 = .ok (.iconst 0, 1) := by decide +kernel
theorem dX4_isNight_48 : decode cX4_isNight 48 = .ok (.ireturn, 1) := by decide +kernel
theorem dX4_tellMinute_0 : decode cX4_tellMinute 0 = .ok (.iconst 2, 1) := by decide +kernel
theorem dX4_tellMinute_1 : decode cX4_tellMinute 1 = .ok (.istore_n 2, 1) := by decide +kernel
theorem dX4_tellMinute_2 : decode cX4_tellMinute 2 = .ok (.iload_n 2, 1) := by decide +kernel
theorem dX4_tellMinute_3 : decode cX4_tellMinute 3 = .ok (.aload_n 0, 1) := by decide +kernel
theorem dX4_tellMinute_4 : decode cX4_tellMinute 4 = .ok (.getfield 37, 3) := by decide +kernel
theorem dX4_tellMinute_7 : decode cX4_tellMinute 7 = .ok (.arraylength, 1) := by decide +kernel
theorem dX4_tellMinute_8 : decode cX4_tellMinute 8 = .ok (.if_icmp .ge 16, 3) := by decide +kernel
theorem dX4_tellMinute_11 : decode cX4_tellMinute 11 = .ok (.aload_n 0, 1) := by decide +kernel
theorem dX4_tellMinute_12 : decode cX4_tellMinute 12 = .ok (.getfield 37, 3) := by decide +kernel
theorem dX4_tellMinute_15 : decode cX4_tellMinute 15 = .ok (.iload_n 2, 1) := by decide +kernel
theorem dX4_tellMinute_16 : decode cX4_tellMinute 16 = .ok (.iconst 0, 1) := by decide +kernel
theorem dX4_tellMinute_17 : decode cX4_tellMinute 17 = .ok (.iastore, 1) := by decide +kernel
theorem dX4_tellMinute_18 : decode cX4_tellMinute 18 = .ok (.iinc 2 1, 3) := by decide +kernel
theorem dX4_tellMinute_21 : decode cX4_tellMinute 21 = .ok (.goto (-19), 3) := by decide +kernel
theorem dX4_tellMinute_24 : decode cX4_tellMinute 24 = .ok (.aload_n 0, 1) := by decide +kernel
theorem dX4_tellMinute_25 : decode cX4_tellMinute 25 = .ok (.getfield 37, 3) := by decide +kernel
theorem dX4_tellMinute_28 : decode cX4_tellMinute 28 = .ok (.iconst 0, 1) := by decide +kernel
theorem dX4_tellMinute_29 : decode cX4_tellMinute 29 = .ok (.iload_n 1, 1) := by decide +kernel
theorem dX4_tellMinute_30 : decode cX4_tellMinute 30 = .ok (.iastore, 1) := by decide +kernel
theorem dX4_tellMinute_31 : decode cX4_tellMinute 31 = .ok (.aload_n 0, 1) := by decide +kernel
theorem dX4_tellMinute_32 : decode cX4_tellMinute 32 = .ok (.getfield 37, 3) := by decide +kernel
theorem dX4_tellMinute_35 : decode cX4_tellMinute 35 = .ok (.iconst 1, 1) := by decide +kernel
theorem dX4_tellMinute_36 : decode cX4_tellMinute 36 = .ok (.iload_n 1, 1) := by decide +kernel
theorem dX4_tellMinute_37 : decode cX4_tellMinute 37 = .ok (.bipush 60, 2) := by decide +kernel
theorem dX4_tellMinute_39 : decode cX4_tellMinute 39 = .ok (.idiv, 1) := by decide +kernel
theorem dX4_tellMinute_40 : decode cX4_tellMinute 40 = .ok (.bipush 24, 2) := by decide +kernel
theorem dX4_tellMinute_42 : decode cX4_tellMinute 42 = .ok (.irem, 1) := by decide +kernel
theorem dX4_tellMinute_43 : decode cX4_tellMinute 43 = .ok (.iastore, 1) := by decide +kernel
theorem dX4_tellMinute_44 : decode cX4_tellMinute 44 = .ok (.return_, 1) := by decide +kernel
theorem dX4_worthOf_0 : decode cX4_worthOf 0 = .ok (.iconst 0, 1) := by decide +kernel
theorem dX4_worthOf_1 : decode cX4_worthOf 1 = .ok (.istore_n 3, 1) := by decide +kernel
theorem dX4_worthOf_2 : decode cX4_worthOf 2 = .ok (.iload_n 3, 1) := by decide +kernel
theorem dX4_worthOf_3 : decode cX4_worthOf 3 = .ok (.aload_n 0, 1) := by decide +kernel
theorem dX4_worthOf_4 : decode cX4_worthOf 4 = .ok (.getfield 31, 3) := by decide +kernel
theorem dX4_worthOf_7 : decode cX4_worthOf 7 = .ok (.if_icmp .ge 51, 3) := by decide +kernel
theorem dX4_worthOf_10 : decode cX4_worthOf 10 = .ok (.aload_n 0, 1) := by decide +kernel
theorem dX4_worthOf_11 : decode cX4_worthOf 11 = .ok (.getfield 22, 3) := by decide +kernel
theorem dX4_worthOf_14 : decode cX4_worthOf 14 = .ok (.iload_n 3, 1) := by decide +kernel
theorem dX4_worthOf_15 : decode cX4_worthOf 15 = .ok (.iaload, 1) := by decide +kernel
theorem dX4_worthOf_16 : decode cX4_worthOf 16 = .ok (.iload_n 1, 1) := by decide +kernel
theorem dX4_worthOf_17 : decode cX4_worthOf 17 = .ok (.if_icmp .ne 35, 3) := by decide +kernel
theorem dX4_worthOf_20 : decode cX4_worthOf 20 = .ok (.aload_n 0, 1) := by decide +kernel
theorem dX4_worthOf_21 : decode cX4_worthOf 21 = .ok (.aload_n 0, 1) := by decide +kernel
theorem dX4_worthOf_22 : decode cX4_worthOf 22 = .ok (.getfield 28, 3) := by decide +kernel
theorem dX4_worthOf_25 : decode cX4_worthOf 25 = .ok (.iload_n 3, 1) := by decide +kernel
theorem dX4_worthOf_26 : decode cX4_worthOf 26 = .ok (.iaload, 1) := by decide +kernel
theorem dX4_worthOf_27 : decode cX4_worthOf 27 = .ok (.invokevirtual 53, 3) := by decide +kernel
theorem dX4_worthOf_30 : decode cX4_worthOf 30 = .ok (.ifCond .eq 22, 3) := by decide +kernel
theorem dX4_worthOf_33 : decode cX4_worthOf 33 = .ok (.iconst 0, 1) := by decide +kernel
theorem dX4_worthOf_34 : decode cX4_worthOf 34 = .ok (.iload_n 2, 1) := by decide +kernel
theorem dX4_worthOf_35 : decode cX4_worthOf 35 = .ok (.aload_n 0, 1) := by decide +kernel
theorem dX4_worthOf_36 : decode cX4_worthOf 36 = .ok (.aload_n 0, 1) := by decide +kernel
theorem dX4_worthOf_37 : decode cX4_worthOf 37 = .ok (.getfield 25, 3) := by decide +kernel
theorem dX4_worthOf_40 : decode cX4_worthOf 40 = .ok (.iload_n 3, 1) := by decide +kernel
theorem dX4_worthOf_41 : decode cX4_worthOf 41 = .ok (.iaload, 1) := by decide +kernel
theorem dX4_worthOf_42 : decode cX4_worthOf 42 = .ok (.invokevirtual 53, 3) := by decide +kernel
theorem dX4_worthOf_45 : decode cX4_worthOf 45 = .ok (.invokestatic 57, 3) := by decide +kernel
theorem dX4_worthOf_48 : decode cX4_worthOf 48 = .ok (.invokestatic 63, 3) := by decide +kernel
theorem dX4_worthOf_51 : decode cX4_worthOf 51 = .ok (.ireturn, 1) := by decide +kernel
theorem dX4_worthOf_52 : decode cX4_worthOf 52 = .ok (.iinc 3 1, 3) := by decide +kernel
theorem dX4_worthOf_55 : decode cX4_worthOf 55 = .ok (.goto (-53), 3) := by decide +kernel
theorem dX4_worthOf_58 : decode cX4_worthOf 58 = .ok (.iconst 0, 1) := by decide +kernel
theorem dX4_worthOf_59 : decode cX4_worthOf 59 = .ok (.ireturn, 1) := by decide +kernel
theorem dX6_beside_0 : decode cX6_beside 0 = .ok (.iload_n 0, 1) := by decide +kernel
theorem dX6_beside_1 : decode cX6_beside 1 = .ok (.ifCond .lt 19, 3) := by decide +kernel
theorem dX6_beside_4 : decode cX6_beside 4 = .ok (.iload_n 0, 1) := by decide +kernel
theorem dX6_beside_5 : decode cX6_beside 5 = .ok (.bipush 100, 2) := by decide +kernel
theorem dX6_beside_7 : decode cX6_beside 7 = .ok (.if_icmp .ge 13, 3) := by decide +kernel
theorem dX6_beside_10 : decode cX6_beside 10 = .ok (.iload_n 1, 1) := by decide +kernel
theorem dX6_beside_11 : decode cX6_beside 11 = .ok (.ifCond .lt 9, 3) := by decide +kernel
theorem dX6_beside_14 : decode cX6_beside 14 = .ok (.iload_n 1, 1) := by decide +kernel
theorem dX6_beside_15 : decode cX6_beside 15 = .ok (.bipush 8, 2) := by decide +kernel
theorem dX6_beside_17 : decode cX6_beside 17 = .ok (.if_icmp .lt 5, 3) := by decide +kernel
theorem dX6_beside_20 : decode cX6_beside 20 = .ok (.iconst (-1), 1) := by decide +kernel
theorem dX6_beside_21 : decode cX6_beside 21 = .ok (.ireturn, 1) := by decide +kernel
theorem dX6_beside_22 : decode cX6_beside 22 = .ok (.iload_n 0, 1) := by decide +kernel
theorem dX6_beside_23 : decode cX6_beside 23 = .ok (.bipush 10, 2) := by decide +kernel
theorem dX6_beside_25 : decode cX6_beside 25 = .ok (.irem, 1) := by decide +kernel
theorem dX6_beside_26 : decode cX6_beside 26 = .ok (.getstatic 30, 3) := by decide +kernel
theorem dX6_beside_29 : decode cX6_beside 29 = .ok (.iload_n 1, 1) := by decide +kernel
theorem dX6_beside_30 : decode cX6_beside 30 = .ok (.iaload, 1) := by decide +kernel
theorem dX6_beside_31 : decode cX6_beside 31 = .ok (.iadd, 1) := by decide +kernel
theorem dX6_beside_32 : decode cX6_beside 32 = .ok (.istore_n 2, 1) := by decide +kernel
theorem dX6_beside_33 : decode cX6_beside 33 = .ok (.iload_n 0, 1) := by decide +kernel
theorem dX6_beside_34 : decode cX6_beside 34 = .ok (.bipush 10, 2) := by decide +kernel
theorem dX6_beside_36 : decode cX6_beside 36 = .ok (.idiv, 1) := by decide +kernel
theorem dX6_beside_37 : decode cX6_beside 37 = .ok (.getstatic 33, 3) := by decide +kernel
theorem dX6_beside_40 : decode cX6_beside 40 = .ok (.iload_n 1, 1) := by decide +kernel
theorem dX6_beside_41 : decode cX6_beside 41 = .ok (.iaload, 1) := by decide +kernel
theorem dX6_beside_42 : decode cX6_beside 42 = .ok (.iadd, 1) := by decide +kernel
theorem dX6_beside_43 : decode cX6_beside 43 = .ok (.istore_n 3, 1) := by decide +kernel
theorem dX6_beside_44 : decode cX6_beside 44 = .ok (.iload_n 2, 1) := by decide +kernel
theorem dX6_beside_45 : decode cX6_beside 45 = .ok (.ifCond .lt 28, 3) := by decide +kernel
theorem dX6_beside_48 : decode cX6_beside 48 = .ok (.iload_n 2, 1) := by decide +kernel
theorem dX6_beside_49 : decode cX6_beside 49 = .ok (.bipush 10, 2) := by decide +kernel
theorem dX6_beside_51 : decode cX6_beside 51 = .ok (.if_icmp .ge 22, 3) := by decide +kernel
theorem dX6_beside_54 : decode cX6_beside 54 = .ok (.iload_n 3, 1) := by decide +kernel
theorem dX6_beside_55 : decode cX6_beside 55 = .ok (.ifCond .lt 18, 3) := by decide +kernel
theorem dX6_beside_58 : decode cX6_beside 58 = .ok (.iload_n 3, 1) := by decide +kernel
theorem dX6_beside_59 : decode cX6_beside 59 = .ok (.bipush 10, 2) := by decide +kernel
theorem dX6_beside_61 : decode cX6_beside 61 = .ok (.if_icmp .ge 12, 3) := by decide +kernel
theorem dX6_beside_64 : decode cX6_beside 64 = .ok (.bipush 10, 2) := by decide +kernel
theorem dX6_beside_66 : decode cX6_beside 66 = .ok (.iload_n 3, 1) := by decide +kernel
theorem dX6_beside_67 : decode cX6_beside 67 = .ok (.imul, 1) := by decide +kernel
theorem dX6_beside_68 : decode cX6_beside 68 = .ok (.iload_n 2, 1) := by decide +kernel
theorem dX6_beside_69 : decode cX6_beside 69 = .ok (.iadd, 1) := by decide +kernel
theorem dX6_beside_70 : decode cX6_beside 70 = .ok (.goto 4, 3) := by decide +kernel
theorem dX6_beside_73 : decode cX6_beside 73 = .ok (.iconst (-1), 1) := by decide +kernel
theorem dX6_beside_74 : decode cX6_beside 74 = .ok (.ireturn, 1) := by decide +kernel
theorem dX6_isOpen_0 : decode cX6_isOpen 0 = .ok (.aload_n 0, 1) := by decide +kernel
theorem dX6_isOpen_1 : decode cX6_isOpen 1 = .ok (.iload_n 1, 1) := by decide +kernel
theorem dX6_isOpen_2 : decode cX6_isOpen 2 = .ok (.invokevirtual 36, 3) := by decide +kernel
theorem dX6_isOpen_5 : decode cX6_isOpen 5 = .ok (.istore_n 2, 1) := by decide +kernel
theorem dX6_isOpen_6 : decode cX6_isOpen 6 = .ok (.iload_n 2, 1) := by decide +kernel
theorem dX6_isOpen_7 : decode cX6_isOpen 7 = .ok (.iconst 1, 1) := by decide +kernel
theorem dX6_isOpen_8 : decode cX6_isOpen 8 = .ok (.if_icmp .eq 12, 3) := by decide +kernel
theorem dX6_isOpen_11 : decode cX6_isOpen 11 = .ok (.iload_n 2, 1) := by decide +kernel
theorem dX6_isOpen_12 : decode cX6_isOpen 12 = .ok (.iconst 3, 1) := by decide +kernel
theorem dX6_isOpen_13 : decode cX6_isOpen 13 = .ok (.if_icmp .eq 7, 3) := by decide +kernel
theorem dX6_isOpen_16 : decode cX6_isOpen 16 = .ok (.iconst 1, 1) := by decide +kernel
theorem dX6_isOpen_17 : decode cX6_isOpen 17 = .ok (.goto 4, 3) := by decide +kernel
theorem dX6_isOpen_20 : decode cX6_isOpen 20 = .ok (.iconst 0, 1) := by decide +kernel
theorem dX6_isOpen_21 : decode cX6_isOpen 21 = .ok (.ireturn, 1) := by decide +kernel
theorem dX6_isSpot_0 : decode cX6_isSpot 0 = .ok (.iload_n 0, 1) := by decide +kernel
theorem dX6_isSpot_1 : decode cX6_isSpot 1 = .ok (.ifCond .lt 13, 3) := by decide +kernel
theorem dX6_isSpot_4 : decode cX6_isSpot 4 = .ok (.iload_n 0, 1) := by decide +kernel
theorem dX6_isSpot_5 : decode cX6_isSpot 5 = .ok (.bipush 100, 2) := by decide +kernel
theorem dX6_isSpot_7 : decode cX6_isSpot 7 = .ok (.if_icmp .ge 7, 3) := by decide +kernel
theorem dX6_isSpot_10 : decode cX6_isSpot 10 = .ok (.iconst 1, 1) := by decide +kernel
theorem dX6_isSpot_11 : decode cX6_isSpot 11 = .ok (.goto 4, 3) := by decide +kernel
theorem dX6_isSpot_14 : decode cX6_isSpot 14 = .ok (.iconst 0, 1) := by decide +kernel
theorem dX6_isSpot_15 : decode cX6_isSpot 15 = .ok (.ireturn, 1) := by decide +kernel
theorem dX6_kindAt_0 : decode cX6_kindAt 0 = .ok (.iload_n 1, 1) := by decide +kernel
theorem dX6_kindAt_1 : decode cX6_kindAt 1 = .ok (.ifCond .lt 18, 3) := by decide +kernel
theorem dX6_kindAt_4 : decode cX6_kindAt 4 = .ok (.iload_n 1, 1) := by decide +kernel
theorem dX6_kindAt_5 : decode cX6_kindAt 5 = .ok (.bipush 100, 2) := by decide +kernel
theorem dX6_kindAt_7 : decode cX6_kindAt 7 = .ok (.if_icmp .ge 12, 3) := by decide +kernel
theorem dX6_kindAt_10 : decode cX6_kindAt 10 = .ok (.aload_n 0, 1) := by decide +kernel
theorem dX6_kindAt_11 : decode cX6_kindAt 11 = .ok (.getfield 9, 3) := by decide +kernel
theorem dX6_kindAt_14 : decode cX6_kindAt 14 = .ok (.iload_n 1, 1) := by decide +kernel
theorem dX6_kindAt_15 : decode cX6_kindAt 15 = .ok (.iaload, 1) := by decide +kernel
theorem dX6_kindAt_16 : decode cX6_kindAt 16 = .ok (.goto 4, 3) := by decide +kernel
theorem dX6_kindAt_19 : decode cX6_kindAt 19 = .ok (.iconst 1, 1) := by decide +kernel
theorem dX6_kindAt_20 : decode cX6_kindAt 20 = .ok (.ireturn, 1) := by decide +kernel
theorem dX6_openSpot_0 : decode cX6_openSpot 0 = .ok (.iload_n 1, 1) := by decide +kernel
theorem dX6_openSpot_1 : decode cX6_openSpot 1 = .ok (.iload_n 2, 1) := by decide +kernel
theorem dX6_openSpot_2 : decode cX6_openSpot 2 = .ok (.invokestatic 40, 3) := by decide +kernel
theorem dX6_openSpot_5 : decode cX6_openSpot 5 = .ok (.istore_n 3, 1) := by decide +kernel
theorem dX6_openSpot_6 : decode cX6_openSpot 6 = .ok (.aload_n 0, 1) := by decide +kernel
theorem dX6_openSpot_7 : decode cX6_openSpot 7 = .ok (.iload_n 3, 1) := by decide +kernel
theorem dX6_openSpot_8 : decode cX6_openSpot 8 = .ok (.invokevirtual 44, 3) := by decide +kernel
theorem dX6_openSpot_11 : decode cX6_openSpot 11 = .ok (.ifCond .eq 7, 3) := by decide +kernel
theorem dX6_openSpot_14 : decode cX6_openSpot 14 = .ok (.iload_n 3, 1) := by decide +kernel
theorem dX6_openSpot_15 : decode cX6_openSpot 15 = .ok (.goto 4, 3) := by decide +kernel
theorem dX6_openSpot_18 : decode cX6_openSpot 18 = .ok (.iconst (-1), 1) := by decide +kernel
theorem dX6_openSpot_19 : decode cX6_openSpot 19 = .ok (.ireturn, 1) := by decide +kernel
theorem dX6_spotAt_0 : decode cX6_spotAt 0 = .ok (.iload_n 0, 1) := by decide +kernel
theorem dX6_spotAt_1 : decode cX6_spotAt 1 = .ok (.ifCond .lt 28, 3) := by decide +kernel
theorem dX6_spotAt_4 : decode cX6_spotAt 4 = .ok (.iload_n 0, 1) := by decide +kernel
theorem dX6_spotAt_5 : decode cX6_spotAt 5 = .ok (.bipush 10, 2) := by decide +kernel
theorem dX6_spotAt_7 : decode cX6_spotAt 7 = .ok (.if_icmp .ge 22, 3) := by decide +kernel
theorem dX6_spotAt_10 : decode cX6_spotAt 10 = .ok (.iload_n 1, 1) := by decide +kernel
theorem dX6_spotAt_11 : decode cX6_spotAt 11 = .ok (.ifCond .lt 18, 3) := by decide +kernel
theorem dX6_spotAt_14 : decode cX6_spotAt 14 = .ok (.iload_n 1, 1) := by decide +kernel
theorem dX6_spotAt_15 : decode cX6_spotAt 15 = .ok (.bipush 10, 2) := by decide +kernel
theorem dX6_spotAt_17 : decode cX6_spotAt 17 = .ok (.if_icmp .ge 12, 3) := by decide +kernel
theorem dX6_spotAt_20 : decode cX6_spotAt 20 = .ok (.bipush 10, 2) := by decide +kernel
theorem dX6_spotAt_22 : decode cX6_spotAt 22 = .ok (.iload_n 1, 1) := by decide +kernel
theorem dX6_spotAt_23 : decode cX6_spotAt 23 = .ok (.imul, 1) := by decide +kernel
theorem dX6_spotAt_24 : decode cX6_spotAt 24 = .ok (.iload_n 0, 1) := by decide +kernel
theorem dX6_spotAt_25 : decode cX6_spotAt 25 = .ok (.iadd, 1) := by decide +kernel
theorem dX6_spotAt_26 : decode cX6_spotAt 26 = .ok (.goto 4, 3) := by decide +kernel
theorem dX6_spotAt_29 : decode cX6_spotAt 29 = .ok (.iconst (-1), 1) := by decide +kernel
theorem dX6_spotAt_30 : decode cX6_spotAt 30 = .ok (.ireturn, 1) := by decide +kernel
