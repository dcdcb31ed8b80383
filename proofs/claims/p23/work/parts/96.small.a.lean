theorem st_X2_8 (h0 : Nat) (σ : xS) (k : Nat) (a : Int) : xobj h0 (xU σ k 8 a) k 2 = (xobj h0 σ k 2).set 8 (.int (xJ a)) := by simp [xobj, xU]
theorem ln_X2_8 (h0 : Nat) (σ : xS) (k : Nat) : 8 < (xobj h0 σ k 2).length := by simp [xobj]
theorem st_X8_1 (h0 : Nat) (σ : xS) (k : Nat) (a : Int) : xobj h0 (xU σ k 1 a) k 8 = (xobj h0 σ k 8).set 1 (.int (xJ a)) := by simp [xobj, xU]
theorem ln_X8_1 (h0 : Nat) (σ : xS) (k : Nat) : 1 < (xobj h0 σ k 8).length := by simp [xobj]
theorem cf_X10_isIn : xCF yX10_isIn cX10_isIn 3 (some .boolean) 3 := ⟨xq 563 (by decide +kernel) rfl, xq 168 (by decide +kernel) rfl, by decide +kernel⟩
theorem cf_X11_in : xCF yX11_in cX11_in 3 (some .boolean) 3 := ⟨xq 1384 (by decide +kernel) rfl, xq 179 (by decide +kernel) rfl, by decide +kernel⟩
theorem wq561 : Cond.methodLink "ShadowCourt" (99) yX10_isIn ∈ xTB := xq 561 (by decide +kernel) rfl
theorem wq562 : Cond.static yX10_isIn ∈ xTB := xq 562 (by decide +kernel) rfl
theorem wq1153 : Cond.constant "ShadowCourt" (299) (65535) ∈ xTB := xq 1153 (by decide +kernel) rfl
theorem wq1382 : Cond.methodLink "ShadowCourtModel" (150) yX11_in ∈ xTB := xq 1382 (by decide +kernel) rfl
theorem wq1383 : Cond.static yX11_in ∈ xTB := xq 1383 (by decide +kernel) rfl
theorem wq1758 : Cond.constant "ShadowCourtModel" (452) (65535) ∈ xTB := xq 1758 (by decide +kernel) rfl
theorem wn405 : Cond.fieldLinkNest "ShadowCourt" (300) "ShadowCourt$Day" "drawState" "I" "ShadowCourt" ∈ xNL := xn 405 (by decide +kernel) rfl
theorem wn786 : Cond.fieldLinkNest "ShadowCourt$Market" (30) "ShadowCourt" "WAY_X" "[I" "ShadowCourt" ∈ xNL := xn 786 (by decide +kernel) rfl
theorem wn788 : Cond.fieldLinkNest "ShadowCourt$Market" (33) "ShadowCourt" "WAY_Y" "[I" "ShadowCourt" ∈ xNL := xn 788 (by decide +kernel) rfl
theorem dX10_isIn_0 : decode cX10_isIn 0 = .ok (.iload_n 0, 1) := by decide +kernel
theorem dX10_isIn_1 : decode cX10_isIn 1 = .ok (.iload_n 1, 1) := by decide +kernel
theorem dX10_isIn_2 : decode cX10_isIn 2 = .ok (.if_icmp .lt 12, 3) := by decide +kernel
theorem dX10_isIn_5 : decode cX10_isIn 5 = .ok (.iload_n 0, 1) := by decide +kernel
theorem dX10_isIn_6 : decode cX10_isIn 6 = .ok (.iload_n 2, 1) := by decide +kernel
theorem dX10_isIn_7 : decode cX10_isIn 7 = .ok (.if_icmp .gt 7, 3) := by decide +kernel
theorem dX10_isIn_10 : decode cX10_isIn 10 = .ok (.iconst 1, 1) := by decide +kernel
theorem dX10_isIn_11 : decode cX10_isIn 11 = .ok (.goto 4, 3) := by decide +kernel
theorem dX10_isIn_14 : decode cX10_isIn 14 = .ok (.iconst 0, 1) := by decide +kernel
theorem dX10_isIn_15 : decode cX10_isIn 15 = .ok (.ireturn, 1) := by decide +kernel
theorem dX10_seed_0 : decode cX10_seed 0 = .ok (.iload_n 1, 1) := by decide +kernel
theorem dX10_seed_1 : decode cX10_seed 1 = .ok (.iconst 0, 1) := by decide +kernel
theorem dX10_seed_2 : decode cX10_seed 2 = .ok (.ldc_w 299, 3) := by decide +kernel
theorem dX10_seed_5 : decode cX10_seed 5 = .ok (.invokestatic 99, 3) := by decide +kernel
theorem dX10_seed_8 : decode cX10_seed 8 = .ok (.ifCond .ne 5, 3) := by decide +kernel
theorem dX10_seed_11 : decode cX10_seed 11 = .ok (.iconst 0, 1) := by decide +kernel
theorem dX10_seed_12 : decode cX10_seed 12 = .ok (.ireturn, 1) := by decide +kernel
theorem dX10_seed_13 : decode cX10_seed 13 = .ok (.aload_n 0, 1) := by decide +kernel
theorem dX10_seed_14 : decode cX10_seed 14 = .ok (.getfield 58, 3) := by decide +kernel
theorem dX10_seed_17 : decode cX10_seed 17 = .ok (.iload_n 1, 1) := by decide +kernel
theorem dX10_seed_18 : decode cX10_seed 18 = .ok (.putfield 300, 3) := by decide +kernel
theorem dX10_seed_21 : decode cX10_seed 21 = .ok (.iconst 1, 1) := by decide +kernel
theorem dX10_seed_22 : decode cX10_seed 22 = .ok (.ireturn, 1) := by decide +kernel
theorem dX11_bits_0 : decode cX11_bits 0 = .ok (.iconst 0, 1) := by decide +kernel
theorem dX11_bits_1 : decode cX11_bits 1 = .ok (.istore_n 1, 1) := by decide +kernel
theorem dX11_bits_2 : decode cX11_bits 2 = .ok (.iconst 0, 1) := by decide +kernel
theorem dX11_bits_3 : decode cX11_bits 3 = .ok (.istore_n 2, 1) := by decide +kernel
theorem dX11_bits_4 : decode cX11_bits 4 = .ok (.iload_n 2, 1) := by decide +kernel
theorem dX11_bits_5 : decode cX11_bits 5 = .ok (.bipush 10, 2) := by decide +kernel
theorem dX11_bits_7 : decode cX11_bits 7 = .ok (.if_icmp .ge 17, 3) := by decide +kernel
theorem dX11_bits_10 : decode cX11_bits 10 = .ok (.iload_n 1, 1) := by decide +kernel
theorem dX11_bits_11 : decode cX11_bits 11 = .ok (.iload_n 0, 1) := by decide +kernel
theorem dX11_bits_12 : decode cX11_bits 12 = .ok (.iload_n 2, 1) := by decide +kernel
theorem dX11_bits_13 : decode cX11_bits 13 = .ok (.ishr, 1) := by decide +kernel
theorem dX11_bits_14 : decode cX11_bits 14 = .ok (.iconst 1, 1) := by decide +kernel
theorem dX11_bits_15 : decode cX11_bits 15 = .ok (.iand, 1) := by decide +kernel
theorem dX11_bits_16 : decode cX11_bits 16 = .ok (.iadd, 1) := by decide +kernel
theorem dX11_bits_17 : decode cX11_bits 17 = .ok (.istore_n 1, 1) := by decide +kernel
theorem dX11_bits_18 : decode cX11_bits 18 = .ok (.iinc 2 1, 3) := by decide +kernel
theorem dX11_bits_21 : decode cX11_bits 21 = .ok (.goto (-17), 3) := by decide +kernel
theorem dX11_bits_24 : decode cX11_bits 24 = .ok (.iload_n 1, 1) := by decide +kernel
theorem dX11_bits_25 : decode cX11_bits 25 = .ok (.ireturn, 1) := by decide +kernel
theorem dX11_copies_0 : decode cX11_copies 0 = .ok (.iconst 0, 1) := by decide +kernel
theorem dX11_copies_1 : decode cX11_copies 1 = .ok (.istore_n 2, 1) := by decide +kernel
theorem dX11_copies_2 : decode cX11_copies 2 = .ok (.iload_n 2, 1) := by decide +kernel
theorem dX11_copies_3 : decode cX11_copies 3 = .ok (.bipush 39, 2) := by decide +kernel
theorem dX11_copies_5 : decode cX11_copies 5 = .ok (.if_icmp .ge 15, 3) := by decide +kernel
theorem dX11_copies_8 : decode cX11_copies 8 = .ok (.aload_n 1, 1) := by decide +kernel
theorem dX11_copies_9 : decode cX11_copies 9 = .ok (.iload_n 2, 1) := by decide +kernel
theorem dX11_copies_10 : decode cX11_copies 10 = .ok (.aload_n 0, 1) := by decide +kernel
theorem dX11_copies_11 : decode cX11_copies 11 = .ok (.iload_n 2, 1) := by decide +kernel
theorem dX11_copies_12 : decode cX11_copies 12 = .ok (.iaload, 1) := by decide +kernel
theorem dX11_copies_13 : decode cX11_copies 13 = .ok (.iastore, 1) := by decide +kernel
theorem dX11_copies_14 : decode cX11_copies 14 = .ok (.iinc 2 1, 3) := by decide +kernel
theorem dX11_copies_17 : decode cX11_copies 17 = .ok (.goto (-15), 3) := by decide +kernel
theorem dX11_copies_20 : decode cX11_copies 20 = .ok (.return_, 1) := by decide +kernel
theorem dX11_copiesWalks_0 : decode cX11_copiesWalks 0 = .ok (.iconst 0, 1) := by decide +kernel
theorem dX11_copiesWalks_1 : decode cX11_copiesWalks 1 = .ok (.istore 4, 2) := by decide +kernel
theorem dX11_copiesWalks_3 : decode cX11_copiesWalks 3 = .ok (.iload 4, 2) := by decide +kernel
theorem dX11_copiesWalks_5 : decode cX11_copiesWalks 5 = .ok (.iconst 2, 1) := by decide +kernel
theorem dX11_copiesWalks_6 : decode cX11_copiesWalks 6 = .ok (.if_icmp .ge 17, 3) := by decide +kernel
theorem dX11_copiesWalks_9 : decode cX11_copiesWalks 9 = .ok (.aload_n 2, 1) := by decide +kernel
theorem dX11_copiesWalks_10 : decode cX11_copiesWalks 10 = .ok (.iload 4, 2) := by decide +kernel
theorem dX11_copiesWalks_12 : decode cX11_copiesWalks 12 = .ok (.aload_n 0, 1) := by decide +kernel
theorem dX11_copiesWalks_13 : decode cX11_copiesWalks 13 = .ok (.iload 4, 2) := by decide +kernel
theorem dX11_copiesWalks_15 : decode cX11_copiesWalks 15 = .ok (.iaload, 1) := by decide +kernel
theorem dX11_copiesWalks_16 : decode cX11_copiesWalks 16 = .ok (.iastore, 1) := by decide +kernel
theorem dX11_copiesWalks_17 : decode cX11_copiesWalks 17 = .ok (.iinc 4 1, 3) := by decide +kernel
theorem dX11_copiesWalks_20 : decode cX11_copiesWalks 20 = .ok (.goto (-17), 3) := by decide +kernel
theorem dX11_copiesWalks_23 : decode cX11_copiesWalks 23 = .ok (.iconst 0, 1) := by decide +kernel
theorem dX11_copiesWalks_24 : decode cX11_copiesWalks 24 = .ok (.istore 4, 2) := by decide +kernel
theorem dX11_copiesWalks_26 : decode cX11_copiesWalks 26 = .ok (.iload 4, 2) := by decide +kernel
theorem dX11_copiesWalks_28 : decode cX11_copiesWalks 28 = .ok (.bipush 120, 2) := by decide +kernel
theorem dX11_copiesWalks_30 : decode cX11_copiesWalks 30 = .ok (.if_icmp .ge 17, 3) := by decide +kernel
theorem dX11_copiesWalks_33 : decode cX11_copiesWalks 33 = .ok (.aload_n 3, 1) := by decide +kernel
theorem dX11_copiesWalks_34 : decode cX11_copiesWalks 34 = .ok (.iload 4, 2) := by decide +kernel
theorem dX11_copiesWalks_36 : decode cX11_copiesWalks 36 = .ok (.aload_n 1, 1) := by decide +kernel
theorem dX11_copiesWalks_37 : decode cX11_copiesWalks 37 = .ok (.iload 4, 2) := by decide +kernel
theorem dX11_copiesWalks_39 : decode cX11_copiesWalks 39 = .ok (.baload, 1) := by decide +kernel
theorem dX11_copiesWalks_40 : decode cX11_copiesWalks 40 = .ok (.bastore, 1) := by decide +kernel
theorem dX11_copiesWalks_41 : decode cX11_copiesWalks 41 = .ok (.iinc 4 1, 3) := by decide +kernel
theorem dX11_copiesWalks_44 : decode cX11_copiesWalks 44 = .ok (.goto (-18), 3) := by decide +kernel
theorem dX11_copiesWalks_47 : decode cX11_copiesWalks 47 = .ok (.return_, 1) := by decide +kernel
theorem dX11_feels_0 : decode cX11_feels 0 = .ok (.iconst 0, 1) := by decide +kernel
theorem dX11_feels_1 : decode cX11_feels 1 = .ok (.istore_n 2, 1) := by decide +kernel
theorem dX11_feels_2 : decode cX11_feels 2 = .ok (.iload_n 2, 1) := by decide +kernel
theorem dX11_feels_3 : decode cX11_feels 3 = .ok (.bipush 7, 2) := by decide +kernel
theorem dX11_feels_5 : decode cX11_feels 5 = .ok (.if_icmp .ge 16, 3) := by decide +kernel
theorem dX11_feels_8 : decode cX11_feels 8 = .ok (.aload_n 0, 1) := by decide +kernel
theorem dX11_feels_9 : decode cX11_feels 9 = .ok (.getfield 86, 3) := by decide +kernel
theorem dX11_feels_12 : decode cX11_feels 12 = .ok (.iload_n 2, 1) := by decide +kernel
theorem dX11_feels_13 : decode cX11_feels 13 = .ok (.iconst 0, 1) := by decide +kernel
theorem dX11_feels_14 : decode cX11_feels 14 = .ok (.iastore, 1) := by decide +kernel
theorem dX11_feels_15 : decode cX11_feels 15 = .ok (.iinc 2 1, 3) := by decide +kernel
theorem dX11_feels_18 : decode cX11_feels 18 = .ok (.goto (-16), 3) := by decide +kernel
theorem dX11_feels_21 : decode cX11_feels 21 = .ok (.aload_n 0, 1) := by decide +kernel
theorem dX11_feels_22 : decode cX11_feels 22 = .ok (.getfield 86, 3) := by decide +kernel
theorem dX11_feels_25 : decode cX11_feels 25 = .ok (.iconst 0, 1) := by decide +kernel
theorem dX11_feels_26 : decode cX11_feels 26 = .ok (.iload_n 1, 1) := by decide +kernel
theorem dX11_feels_27 : decode cX11_feels 27 = .ok (.iastore, 1) := by decide +kernel
theorem dX11_feels_28 : decode cX11_feels 28 = .ok (.aload_n 0, 1) := by decide +kernel
theorem dX11_feels_29 : decode cX11_feels 29 = .ok (.getfield 86, 3) := by decide +kernel
theorem dX11_feels_32 : decode cX11_feels 32 = .ok (.iconst 1, 1) := by decide +kernel
theorem dX11_feels_33 : decode cX11_feels 33 = .ok (.iload_n 1, 1) := by decide +kernel
theorem dX11_feels_34 : decode cX11_feels 34 = .ok (.bipush 60, 2) := by decide +kernel
theorem dX11_feels_36 : decode cX11_feels 36 = .ok (.idiv, 1) := by decide +kernel
theorem dX11_feels_37 : decode cX11_feels 37 = .ok (.bipush 24, 2) := by decide +kernel
theorem dX11_feels_39 : decode cX11_feels 39 = .ok (.irem, 1) := by decide +kernel
theorem dX11_feels_40 : decode cX11_feels 40 = .ok (.iastore, 1) := by decide +kernel
theorem dX11_feels_41 : decode cX11_feels 41 = .ok (.return_, 1) := by decide +kernel
theorem dX11_has_0 : decode cX11_has 0 = .ok (.iload_n 0, 1) := by decide +kernel
theorem dX11_has_1 : decode cX11_has 1 = .ok (.iload_n 1, 1) := by decide +kernel
theorem dX11_has_2 : decode cX11_has 2 = .ok (.ishr, 1) := by decide +kernel
theorem dX11_has_3 : decode cX11_has 3 = .ok (.iconst 1, 1) := by decide +kernel
theorem dX11_has_4 : decode cX11_has 4 = .ok (.iand, 1) := by decide +kernel
theorem dX11_has_5 : decode cX11_has 5 = .ok (.iconst 1, 1) := by decide +kernel
theorem dX11_has_6 : decode cX11_has 6 = .ok (.if_icmp .ne 7, 3) := by decide +kernel
theorem dX11_has_9 : decode cX11_has 9 = .ok (.iconst 1, 1) := by decide +kernel
theorem dX11_has_10 : decode cX11_has 10 = .ok (.goto 4, 3) := by decide +kernel
theorem dX11_has_13 : decode cX11_has 13 = .ok (.iconst 0, 1) := by decide +kernel
theorem dX11_has_14 : decode cX11_has 14 = .ok (.ireturn, 1) := by decide +kernel
theorem dX11_in_0 : decode cX11_in 0 = .ok (.iload_n 0, 1) := by decide +kernel
theorem dX11_in_1 : decode cX11_in 1 = .ok (.iload_n 1, 1) := by decide +kernel
theorem dX11_in_2 : decode cX11_in 2 = .ok (.if_icmp .lt 12, 3) := by decide +kernel
theorem dX11_in_5 : decode cX11_in 5 = .ok (.iload_n 0, 1) := by decide +kernel
theorem dX11_in_6 : decode cX11_in 6 = .ok (.iload_n 2, 1) := by decide +kernel
theorem dX11_in_7 : decode cX11_in 7 = .ok (.if_icmp .gt 7, 3) := by decide +kernel
theorem dX11_in_10 : decode cX11_in 10 = .ok (.iconst 1, 1) := by decide +kernel
theorem dX11_in_11 : decode cX11_in 11 = .ok (.goto 4, 3) := by decide +kernel
theorem dX11_in_14 : decode cX11_in 14 = .ok (.iconst 0, 1) := by decide +kernel
theorem dX11_in_15 : decode cX11_in 15 = .ok (.ireturn, 1) := by decide +kernel
theorem dX11_isFive_0 : decode cX11_isFive 0 = .ok (.iload_n 0, 1) := by decide +kernel
theorem dX11_isFive_1 : decode cX11_isFive 1 = .ok (.ifCond .lt 12, 3) := by decide +kernel
theorem dX11_isFive_4 : decode cX11_isFive 4 = .ok (.iload_n 0, 1) := by decide +kernel
theorem dX11_isFive_5 : decode cX11_isFive 5 = .ok (.iload_n 1, 1) := by decide +kernel
theorem dX11_isFive_6 : decode cX11_isFive 6 = .ok (.if_icmp .ge 7, 3) := by decide +kernel
theorem dX11_isFive_9 : decode cX11_isFive 9 = .ok (.iconst 1, 1) := by decide +kernel
theorem dX11_isFive_10 : decode cX11_isFive 10 = .ok (.goto 4, 3) := by decide +kernel
theorem dX11_isFive_13 : decode cX11_isFive 13 = .ok (.iconst 0, 1) := by decide +kernel
theorem dX11_isFive_14 : decode cX11_isFive 14 = .ok (.ireturn, 1) := by decide +kernel
theorem dX11_isOn_0 : decode cX11_isOn 0 = .ok (.iload_n 0, 1) := by decide +kernel
theorem dX11_isOn_1 : decode cX11_isOn 1 = .ok (.iconst 0, 1) := by decide +kernel
theorem dX11_isOn_2 : decode cX11_isOn 2 = .ok (.bipush 9, 2) := by decide +kernel
theorem dX11_isOn_4 : decode cX11_isOn 4 = .ok (.invokestatic 150, 3) := by decide +kernel
theorem dX11_isOn_7 : decode cX11_isOn 7 = .ok (.ifCond .eq 17, 3) := by decide +kernel
theorem dX11_isOn_10 : decode cX11_isOn 10 = .ok (.iload_n 1, 1) := by decide +kernel
theorem dX11_isOn_11 : decode cX11_isOn 11 = .ok (.iconst 0, 1) := by decide +kernel
theorem dX11_isOn_12 : decode cX11_isOn 12 = .ok (.bipush 9, 2) := by decide +kernel
theorem dX11_isOn_14 : decode cX11_isOn 14 = .ok (.invokestatic 150, 3) := by decide +kernel
theorem dX11_isOn_17 : decode cX11_isOn 17 = .ok (.ifCond .eq 7, 3) := by decide +kernel
theorem dX11_isOn_20 : decode cX11_isOn 20 = .ok (.iconst 1, 1) := by decide +kernel
theorem dX11_isOn_21 : decode cX11_isOn 21 = .ok (.goto 4, 3) := by decide +kernel
theorem dX11_isOn_24 : decode cX11_isOn 24 = .ok (.iconst 0, 1) := by decide +kernel
theorem dX11_isOn_25 : decode cX11_isOn 25 = .ok (.ireturn, 1) := by decide +kernel
theorem dX11_max_0 : decode cX11_max 0 = .ok (.iload_n 0, 1) := by decide +kernel
theorem dX11_max_1 : decode cX11_max 1 = .ok (.iload_n 1, 1) := by decide +kernel
theorem dX11_max_2 : decode cX11_max 2 = .ok (.if_icmp .le 7, 3) := by decide +kernel
theorem dX11_max_5 : decode cX11_max 5 = .ok (.iload_n 0, 1) := by decide +kernel
theorem dX11_max_6 : decode cX11_max 6 = .ok (.goto 4, 3) := by decide +kernel
theorem dX11_max_9 : decode cX11_max 9 = .ok (.iload_n 1, 1) := by decide +kernel
theorem dX11_max_10 : decode cX11_max 10 = .ok (.ireturn, 1) := by decide +kernel
theorem dX11_seed_0 : decode cX11_seed 0 = .ok (.iload_n 1, 1) := by decide +kernel
theorem dX11_seed_1 : decode cX11_seed 1 = .ok (.iconst 0, 1) := by decide +kernel
theorem dX11_seed_2 : decode cX11_seed 2 = .ok (.ldc_w 452, 3) := by decide +kernel
theorem dX11_seed_5 : decode cX11_seed 5 = .ok (.invokestatic 150, 3) := by decide +kernel
theorem dX11_seed_8 : decode cX11_seed 8 = .ok (.ifCond .ne 5, 3) := by decide +kernel
theorem dX11_seed_11 : decode cX11_seed 11 = .ok (.iconst 0, 1) := by decide +kernel
theorem dX11_seed_12 : decode cX11_seed 12 = .ok (.ireturn, 1) := by decide +kernel
theorem dX11_seed_13 : decode cX11_seed 13 = .ok (.aload_n 0, 1) := by decide +kernel
theorem dX11_seed_14 : decode cX11_seed 14 = .ok (.getfield 7, 3) := by decide +kernel
theorem dX11_seed_17 : decode cX11_seed 17 = .ok (.bipush 38, 2) := by decide +kernel
theorem dX11_seed_19 : decode cX11_seed 19 = .ok (.iload_n 1, 1) := by decide +kernel
theorem dX11_seed_20 : decode cX11_seed 20 = .ok (.iastore, 1) := by decide +kernel
theorem dX11_seed_21 : decode cX11_seed 21 = .ok (.iconst 1, 1) := by decide +kernel
theorem dX11_seed_22 : decode cX11_seed 22 = .ok (.ireturn, 1) := by decide +kernel
theorem dX2_setFelon_0 : decode cX2_setFelon 0 = .ok (.iload_n 1, 1) := by decide +kernel
theorem dX2_setFelon_1 : decode cX2_setFelon 1 = .ok (.ifCond .lt 37, 3) := by decide +kernel
theorem dX2_setFelon_4 : decode cX2_setFelon 4 = .ok (.iload_n 1, 1) := by decide +kernel
theorem dX2_setFelon_5 : decode cX2_setFelon 5 = .ok (.bipush 10, 2) := by decide +kernel
theorem dX2_setFelon_7 : decode cX2_setFelon 7 = .ok (.if_icmp .ge 31, 3) := by decide +kernel
theorem dX2_setFelon_10 : decode cX2_setFelon 10 = .ok (.aload_n 0, 1) := by decide +kernel
theorem dX2_setFelon_11 : decode cX2_setFelon 11 = .ok (.getfield 23, 3) := by decide +kernel
theorem dX2_setFelon_14 : decode cX2_setFelon 14 = .ok (.iload_n 1, 1) := by decide +kernel
theorem dX2_setFelon_15 : decode cX2_setFelon 15 = .ok (.iload_n 2, 1) := by decide +kernel
theorem dX2_setFelon_16 : decode cX2_setFelon 16 = .ok (.iastore, 1) := by decide +kernel
theorem dX2_setFelon_17 : decode cX2_setFelon 17 = .ok (.aload_n 0, 1) := by decide +kernel
theorem dX2_setFelon_18 : decode cX2_setFelon 18 = .ok (.getfield 26, 3) := by decide +kernel
theorem dX2_setFelon_21 : decode cX2_setFelon 21 = .ok (.iload_n 1, 1) := by decide +kernel
theorem dX2_setFelon_22 : decode cX2_setFelon 22 = .ok (.iload_n 3, 1) := by decide +kernel
theorem dX2_setFelon_23 : decode cX2_setFelon 23 = .ok (.iastore, 1) := by decide +kernel
theorem dX2_setFelon_24 : decode cX2_setFelon 24 = .ok (.aload_n 0, 1) := by decide +kernel
theorem dX2_setFelon_25 : decode cX2_setFelon 25 = .ok (.getfield 29, 3) := by decide +kernel
theorem dX2_setFelon_28 : decode cX2_setFelon 28 = .ok (.iload_n 1, 1) := by decide +kernel
theorem dX2_setFelon_29 : decode cX2_setFelon 29 = .ok (.iconst 0, 1) := by decide +kernel
theorem dX2_setFelon_30 : decode cX2_setFelon 30 = .ok (.iastore, 1) := by decide +kernel
theorem dX2_setFelon_31 : decode cX2_setFelon 31 = .ok (.aload_n 0, 1) := by decide +kernel
theorem dX2_setFelon_32 : decode cX2_setFelon 32 = .ok (.getfield 32, 3) := by decide +kernel
theorem dX2_setFelon_35 : decode cX2_setFelon 35 = .ok (.iload_n 1, 1) := by decide +kernel
theorem dX2_setFelon_36 : decode cX2_setFelon 36 = .ok (.iconst 0, 1) := by decide +kernel
theorem dX2_setFelon_37 : decode cX2_setFelon 37 = .ok (.bastore, 1) := by decide +kernel
theorem dX2_setFelon_38 : decode cX2_setFelon 38 = .ok (.return_, 1) := by decide +kernel
theorem dX4_tellMinute_0 : decode cX4_tellMinute 0 = .ok (.iconst 2, 1) := by decide +kernel
theorem dX4_tellMinute_1 : decode cX4_tellMinute 1 = .ok (.istore_n 2, 1) := by decide +kernel
theorem dX4_tellMinute_2 : decode cX4_tellMinute 2 = .ok (.iload_n 2, 1) := by decide +kernel
theorem dX4_tellMinute_3 : decode cX4_tellMinute 3 = .ok (.aload_n 0, 1) := by decide +kernel
theorem dX4_tellMinute_4 : decode cX4_tellMinute 4 = .ok (.getfield 37, 3) := by decide +kernel
theorem dX4_tellMinute_7 : decode cX4_tellMinute 7 = .ok (.arraylength, 1) := by decide +kernel
theorem dX4_tellMinute_8 : decode cX4_tellMinute 8 = .ok (.if_icmp .ge 16, 3) := by decide +kernel
theorem dX4_tellMinute_11 : decode cX4_tellMinute 11 = .ok (.aload_n 0, 1) := by decide +kernel
theorem dX4_tellMinute_12 : decode cX4_tellMinute 12 = .ok (.getfield 37, 3) := by decide +kernel
theorem dX4_tellMinute_15 : decode cX4_tellMinute 15 = .ok (.iload_n 2, 1) := by decide +kernel
theorem dX4_tellMinute_16 : decode cX4_tellMinute 16 = .ok (.iconst 0, 1) := by decide +kernel
theorem dX4_tellMinute_17 : decode cX4_tellMinute 17 = .ok (.iastore, 1) := by decide +kernel
theorem dX4_tellMinute_18 : decode cX4_tellMinute 18 = .ok (.iinc 2 1, 3) := by decide +kernel
theorem dX4_tellMinute_21 : decode cX4_tellMinute 21 = .ok (.goto (-19), 3) := by decide +kernel
theorem dX4_tellMinute_24 : decode cX4_tellMinute 24 = .ok (.aload_n 0, 1) := by decide +kernel
theorem dX4_tellMinute_25 : decode cX4_tellMinute 25 = .ok (.getfield 37, 3) := by decide +kernel
theorem dX4_tellMinute_28 : decode cX4_tellMinute 28 = .ok (.iconst 0, 1) := by decide +kernel
theorem dX4_tellMinute_29 : decode cX4_tellMinute 29 = .ok (.iload_n 1, 1) := by decide +kernel
theorem dX4_tellMinute_30 : decode cX4_tellMinute 30 = .ok (.iastore, 1) := by decide +kernel
theorem dX4_tellMinute_31 : decode cX4_tellMinute 31 = .ok (.aload_n 0, 1) := by decide +kernel
theorem dX4_tellMinute_32 : decode cX4_tellMinute 32 = .ok (.getfield 37, 3) := by decide +kernel
theorem dX4_tellMinute_35 : decode cX4_tellMinute 35 = .ok (.iconst 1, 1) := by decide +kernel
theorem dX4_tellMinute_36 : decode cX4_tellMinute 36 = .ok (.iload_n 1, 1) := by decide +kernel
theorem dX4_tellMinute_37 : decode cX4_tellMinute 37 = .ok (.bipush 60, 2) := by decide +kernel
theorem dX4_tellMinute_39 : decode cX4_tellMinute 39 = .ok (.idiv, 1) := by decide +kernel
theorem dX4_tellMinute_40 : decode cX4_tellMinute 40 = .ok (.bipush 24, 2) := by decide +kernel
theorem dX4_tellMinute_42 : decode cX4_tellMinute 42 = .ok (.irem, 1) := by decide +kernel
theorem dX4_tellMinute_43 : decode cX4_tellMinute 43 = .ok (.iastore, 1) := by decide +kernel
theorem dX4_tellMinute_44 : decode cX4_tellMinute 44 = .ok (.return_, 1) := by decide +kernel
theorem dX6_beside_0 : decode cX6_beside 0 = .ok (.iload_n 0, 1) := by decide +kernel
theorem dX6_beside_1 : decode cX6_beside 1 = .ok (.ifCond .lt 19, 3) := by decide +kernel
theorem dX6_beside_4 : decode cX6_beside 4 = .ok (.iload_n 0, 1) := by decide +kernel
theorem dX6_beside_5 : decode cX6_beside 5 = .ok (.bipush 100, 2) := by decide +kernel
theorem dX6_beside_7 : decode cX6_beside 7 = .ok (.if_icmp .ge 13, 3) := by decide +kernel
theorem dX6_beside_10 : decode cX6_beside 10 = .ok (.iload_n 1, 1) := by decide +kernel
theorem dX6_beside_11 : decode cX6_beside 11 = .ok (.ifCond .lt 9, 3) := by decide +kernel
theorem dX6_beside_14 : decode cX6_beside 14 = .ok (.iload_n 1, 1) := by decide +kernel
theorem dX6_beside_15 : decode cX6_beside 15 = .ok (.bipush 8, 2) := by decide +kernel
theorem dX6_beside_17 : decode cX6_beside 17 = .ok (.if_icmp .lt 5, 3) := by decide +kernel
theorem dX6_beside_20 : decode cX6_beside 20 = .ok (.iconst (-1), 1) := by decide +kernel
theorem dX6_beside_21 : decode cX6_beside 21 = .ok (.ireturn, 1) := by decide +kernel
theorem dX6_beside_22 : decode cX6_beside 22 = .ok (.iload_n 0, 1) := by decide +kernel
theorem dX6_beside_23 : decode cX6_beside 23 = .ok (.bipush 10, 2) := by decide +kernel
theorem dX6_beside_25 : decode cX6_beside 25 = .ok (.irem, 1) := by decide +kernel
theorem dX6_beside_26 : decode cX6_beside 26 = .ok (.getstatic 30, 3) := by decide +kernel
theorem dX6_beside_29 : decode cX6_beside 29 = .ok (.iload_n 1, 1) := by decide +kernel
theorem dX6_beside_30 : decode cX6_beside 30 = .ok (.iaload, 1) := by decide +kernel
theorem dX6_beside_31 : decode cX6_beside 31 = .ok (.iadd, 1) := by decide +kernel
theorem dX6_beside_32 : decode cX6_beside 32 = .ok (.istore_n 2, 1) := by decide +kernel
theorem dX6_beside_33 : decode cX6_beside 33 = .ok (.iload_n 0, 1) := by decide +kernel
theorem dX6_beside_34 : decode cX6_beside 34 = .ok (.bipush 10, 2) := by decide +kernel
theorem dX6_beside_36 : decode cX6_beside 36 = .ok (.idiv, 1) := by decide +kernel
theorem dX6_beside_37 : decode cX6_beside 37 = .ok (.getstatic 33, 3) := by decide +kernel
theorem dX6_beside_40 : decode cX6_beside 40 = .ok (.iload_n 1, 1) := by decide +kernel
theorem dX6_beside_41 : decode cX6_beside 41 = .ok (.iaload, 1) := by decide +kernel
theorem dX6_beside_42 : decode cX6_beside 42 = .ok (.iadd, 1) := by decide +kernel
theorem dX6_beside_43 : decode cX6_beside 43 = .ok (.istore_n 3, 1) := by decide +kernel
theorem dX6_beside_44 : decode cX6_beside 44 = .ok (.iload_n 2, 1) := by decide +kernel
theorem dX6_beside_45 : decode cX6_beside 45 = .ok (.ifCond .lt 28, 3) := by decide +kernel
theorem dX6_beside_48 : decode cX6_beside 48 = .ok (.iload_n 2, 1) := by decide +kernel
theorem dX6_beside_49 : decode cX6_beside 49 = .ok (.bipush 10, 2) := by decide +kernel
theorem dX6_beside_51 : decode cX6_beside 51 = .ok (.if_icmp .ge 22, 3) := by decide +kernel
theorem dX6_beside_54 : decode cX6_beside 54 = .ok (.iload_n 3, 1) := by decide +kernel
theorem dX6_beside_55 : decode cX6_beside 55 = .ok (.ifCond .lt 18, 3) := by decide +kernel
theorem dX6_beside_58 : decode cX6_beside 58 = .ok (.iload_n 3, 1) := by decide +kernel
theorem dX6_beside_59 : decode cX6_beside 59 = .ok (.bipush 10, 2) := by decide +kernel
theorem dX6_beside_61 : decode cX6_beside 61 = .ok (.if_icmp .ge 12, 3) := by decide +kernel
theorem dX6_beside_64 : decode cX6_beside 64 = .ok (.bipush 10, 2) := by decide +kernel
theorem dX6_beside_66 : decode cX6_beside 66 = .ok (.iload_n 3, 1) := by decide +kernel
theorem dX6_beside_67 : decode cX6_beside 67 = .ok (.imul, 1) := by decide +kernel
theorem dX6_beside_68 : decode cX6_beside 68 = .ok (.iload_n 2, 1) := by decide +kernel
theorem dX6_beside_69 : decode cX6_beside 69 = .ok (.iadd, 1) := by decide +kernel
theorem dX6_beside_70 : decode cX6_beside 70 = .ok (.goto 4, 3) := by decide +kernel
theorem dX6_beside_73 : decode cX6_beside 73 = .ok (.iconst (-1), 1) := by decide +kernel
theorem dX6_beside_74 : decode cX6_beside 74 = .ok (.ireturn, 1) := by decide +kernel
theorem dX6_isSpot_0 : decode cX6_isSpot 0 = .ok (.iload_n 0, 1) := by decide +kernel
theorem dX6_isSpot_1 : decode cX6_isSpot 1 = .ok (.ifCond .lt 13, 3) := by decide +kernel
theorem dX6_isSpot_4 : decode cX6_isSpot 4 = .ok (.iload_n 0, 1) := by decide +kernel
theorem dX6_isSpot_5 : decode cX6_isSpot 5 = .ok (.bipush 100, 2) := by decide +kernel
theorem dX6_isSpot_7 : decode cX6_isSpot 7 = .ok (.if_icmp .ge 7, 3) := by decide +kernel
theorem dX6_isSpot_10 : decode cX6_isSpot 10 = .ok (.iconst 1, 1) := by decide +kernel
theorem dX6_isSpot_11 : decode cX6_isSpot 11 = .ok (.goto 4, 3) := by decide +kernel
theorem dX6_isSpot_14 : decode cX6_isSpot 14 = .ok (.iconst 0, 1) := by decide +kernel
theorem dX6_isSpot_15 : decode cX6_isSpot 15 = .ok (.ireturn, 1) := by decide +kernel
theorem dX6_spotAt_0 : decode cX6_spotAt 0 = .ok (.iload_n 0, 1) := by decide +kernel
theorem dX6_spotAt_1 : decode cX6_spotAt 1 = .ok (.ifCond .lt 28, 3) := by decide +kernel
theorem dX6_spotAt_4 : decode cX6_spotAt 4 = .ok (.iload_n 0, 1) := by decide +kernel
theorem dX6_spotAt_5 : decode cX6_spotAt 5 = .ok (.bipush 10, 2) := by decide +kernel
theorem dX6_spotAt_7 : decode cX6_spotAt 7 = .ok (.if_icmp .ge 22, 3) := by decide +kernel
theorem dX6_spotAt_10 : decode cX6_spotAt 10 = .ok (.iload_n 1, 1) := by decide +kernel
theorem dX6_spotAt_11 : decode cX6_spotAt 11 = .ok (.ifCond .lt 18, 3) := by decide +kernel
theorem dX6_spotAt_14 : decode cX6_spotAt 14 = .ok (.iload_n 1, 1) := by decide +kernel
theorem dX6_spotAt_15 : decode cX6_spotAt 15 = .ok (.bipush 10, 2) := by decide +kernel
theorem dX6_spotAt_17 : decode cX6_spotAt 17 = .ok (.if_icmp .ge 12, 3) := by decide +kernel
theorem dX6_spotAt_20 : decode cX6_spotAt 20 = .ok (.bipush 10, 2) := by decide +kernel
theorem dX6_spotAt_22 : decode cX6_spotAt 22 = .ok (.iload_n 1, 1) := by decide +kernel
theorem dX6_spotAt_23 : decode cX6_spotAt 23 = .ok (.imul, 1) := by decide +kernel
theorem dX6_spotAt_24 : decode cX6_spotAt 24 = .ok (.iload_n 0, 1) := by decide +kernel
theorem dX6_spotAt_25 : decode cX6_spotAt 25 = .ok (.iadd, 1) := by decide +kernel
theorem dX6_spotAt_26 : decode cX6_spotAt 26 = .ok (.goto 4, 3) := by decide +kernel
theorem dX6_spotAt_29 : decode cX6_spotAt 29 = .ok (.iconst (-1), 1) := by decide +kernel
theorem dX6_spotAt_30 : decode cX6_spotAt 30 = .ok (.ireturn, 1) := by decide +kernel
theorem dX8_drop_0 : decode cX8_drop 0 = .ok (.aload_n 0, 1) := by decide +kernel
theorem dX8_drop_1 : decode cX8_drop 1 = .ok (.iconst 0, 1) := by decide +kernel
theorem dX8_drop_2 : decode cX8_drop 2 = .ok (.putfield 15, 3) := by decide +kernel
theorem dX8_drop_5 : decode cX8_drop 5 = .ok (.return_, 1) := by decide +kernel
