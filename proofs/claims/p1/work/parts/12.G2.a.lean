theorem cls_X2 : xCls RX2 TX2 12 2 tyX2 := ⟨xin [415, 417, 419, 421, 423, 425, 427, 429, 431, 433, 435, 437] (by decide +kernel) (by decide +kernel), rfl, tyX2_ok, nmX2⟩
theorem st_X2_8 (h0 : Nat) (σ : xS) (k : Nat) (a : Int) : xobj h0 (xU σ k 8 a) k 2 = (xobj h0 σ k 2).set 8 (.int (xJ a)) := by simp [xobj, xU]
theorem ln_X2_8 (h0 : Nat) (σ : xS) (k : Nat) : 8 < (xobj h0 σ k 2).length := by simp [xobj]
theorem st_X2_9 (h0 : Nat) (σ : xS) (k : Nat) (a : Int) : xobj h0 (xU σ k 9 a) k 2 = (xobj h0 σ k 2).set 9 (.int (xJ a)) := by simp [xobj, xU]
theorem ln_X2_9 (h0 : Nat) (σ : xS) (k : Nat) : 9 < (xobj h0 σ k 2).length := by simp [xobj]
theorem st_X2_10 (h0 : Nat) (σ : xS) (k : Nat) (a : Int) : xobj h0 (xU σ k 10 a) k 2 = (xobj h0 σ k 2).set 10 (.int (xJ a)) := by simp [xobj, xU]
theorem ln_X2_10 (h0 : Nat) (σ : xS) (k : Nat) : 10 < (xobj h0 σ k 2).length := by simp [xobj]
theorem st_X2_11 (h0 : Nat) (σ : xS) (k : Nat) (a : Int) : xobj h0 (xU σ k 11 a) k 2 = (xobj h0 σ k 2).set 11 (.int (xJ a)) := by simp [xobj, xU]
theorem ln_X2_11 (h0 : Nat) (σ : xS) (k : Nat) : 11 < (xobj h0 σ k 2).length := by simp [xobj]
theorem cf_X2_hasFelon : xCF yX2_hasFelon cX2_hasFelon 2 (some .boolean) 1 := ⟨xq 863 (by decide +kernel) rfl, xq 176 (by decide +kernel) rfl, by decide +kernel⟩
theorem wq53 : Cond.selects yX2_hasFelon.cls yX2_hasFelon yX2_hasFelon ∈ xTB := xq 53 (by decide +kernel) rfl
theorem wq383 : Cond.fieldLink "ShadowCourt$Day" (9) "ShadowCourt$Day" "judgeSpot" "[I" ∈ xTB := xq 383 (by decide +kernel) rfl
theorem wq388 : Cond.fieldLink "ShadowCourt$Day" (23) "ShadowCourt$Day" "felonSpot" "[I" ∈ xTB := xq 388 (by decide +kernel) rfl
theorem wq392 : Cond.fieldLink "ShadowCourt$Day" (26) "ShadowCourt$Day" "owed" "[I" ∈ xTB := xq 392 (by decide +kernel) rfl
theorem wq404 : Cond.fieldLink "ShadowCourt$Day" (40) "ShadowCourt$Day" "drawState" "I" ∈ xTB := xq 404 (by decide +kernel) rfl
theorem wq406 : Cond.fieldLink "ShadowCourt$Day" (43) "ShadowCourt$Day" "timesAway" "I" ∈ xTB := xq 406 (by decide +kernel) rfl
theorem wq409 : Cond.fieldLink "ShadowCourt$Day" (46) "ShadowCourt$Day" "cloudyMinutes" "I" ∈ xTB := xq 409 (by decide +kernel) rfl
theorem wq412 : Cond.fieldLink "ShadowCourt$Day" (49) "ShadowCourt$Day" "felonSteps" "I" ∈ xTB := xq 412 (by decide +kernel) rfl
theorem wq799 : Cond.constant "ShadowCourt$Day" (60) (65536) ∈ xTB := xq 799 (by decide +kernel) rfl
theorem wq860 : Cond.methodLink "ShadowCourt$Day" (52) yX2_hasFelon ∈ xTB := xq 860 (by decide +kernel) rfl
theorem wq862 : Cond.instanceMethod yX2_hasFelon ∈ xTB := xq 862 (by decide +kernel) rfl
theorem dX2_clearCounts_0 : decode cX2_clearCounts 0 = .ok (.aload_n 0, 1) := by decide +kernel
theorem dX2_clearCounts_1 : decode cX2_clearCounts 1 = .ok (.iconst 0, 1) := by decide +kernel
theorem dX2_clearCounts_2 : decode cX2_clearCounts 2 = .ok (.putfield 43, 3) := by decide +kernel
theorem dX2_clearCounts_5 : decode cX2_clearCounts 5 = .ok (.aload_n 0, 1) := by decide +kernel
theorem dX2_clearCounts_6 : decode cX2_clearCounts 6 = .ok (.iconst 0, 1) := by decide +kernel
theorem dX2_clearCounts_7 : decode cX2_clearCounts 7 = .ok (.putfield 46, 3) := by decide +kernel
theorem dX2_clearCounts_10 : decode cX2_clearCounts 10 = .ok (.aload_n 0, 1) := by decide +kernel
theorem dX2_clearCounts_11 : decode cX2_clearCounts 11 = .ok (.iconst 0, 1) := by decide +kernel
theorem dX2_clearCounts_12 : decode cX2_clearCounts 12 = .ok (.putfield 49, 3) := by decide +kernel
theorem dX2_clearCounts_15 : decode cX2_clearCounts 15 = .ok (.return_, 1) := by decide +kernel
theorem dX2_draw_0 : decode cX2_draw 0 = .ok (.aload_n 0, 1) := by decide +kernel
theorem dX2_draw_1 : decode cX2_draw 1 = .ok (.sipush 25173, 3) := by decide +kernel
theorem dX2_draw_4 : decode cX2_draw 4 = .ok (.aload_n 0, 1) := by decide +kernel
theorem dX2_draw_5 : decode cX2_draw 5 = .ok (.getfield 40, 3) := by decide +kernel
theorem dX2_draw_8 : decode cX2_draw 8 = .ok (.imul, 1) := by decide +kernel
theorem dX2_draw_9 : decode cX2_draw 9 = .ok (.sipush 13849, 3) := by decide +kernel
theorem dX2_draw_12 : decode cX2_draw 12 = .ok (.iadd, 1) := by decide +kernel
theorem dX2_draw_13 : decode cX2_draw 13 = .ok (.ldc 60, 2) := by decide +kernel
theorem dX2_draw_15 : decode cX2_draw 15 = .ok (.irem, 1) := by decide +kernel
theorem dX2_draw_16 : decode cX2_draw 16 = .ok (.putfield 40, 3) := by decide +kernel
theorem dX2_draw_19 : decode cX2_draw 19 = .ok (.aload_n 0, 1) := by decide +kernel
theorem dX2_draw_20 : decode cX2_draw 20 = .ok (.getfield 40, 3) := by decide +kernel
theorem dX2_draw_23 : decode cX2_draw 23 = .ok (.bipush 10, 2) := by decide +kernel
theorem dX2_draw_25 : decode cX2_draw 25 = .ok (.irem, 1) := by decide +kernel
theorem dX2_draw_26 : decode cX2_draw 26 = .ok (.ireturn, 1) := by decide +kernel
theorem dX2_hasFelon_0 : decode cX2_hasFelon 0 = .ok (.iload_n 1, 1) := by decide +kernel
theorem dX2_hasFelon_1 : decode cX2_hasFelon 1 = .ok (.ifCond .lt 23, 3) := by decide +kernel
theorem dX2_hasFelon_4 : decode cX2_hasFelon 4 = .ok (.iload_n 1, 1) := by decide +kernel
theorem dX2_hasFelon_5 : decode cX2_hasFelon 5 = .ok (.bipush 10, 2) := by decide +kernel
theorem dX2_hasFelon_7 : decode cX2_hasFelon 7 = .ok (.if_icmp .ge 17, 3) := by decide +kernel
theorem dX2_hasFelon_10 : decode cX2_hasFelon 10 = .ok (.aload_n 0, 1) := by decide +kernel
theorem dX2_hasFelon_11 : decode cX2_hasFelon 11 = .ok (.getfield 23, 3) := by decide +kernel
theorem dX2_hasFelon_14 : decode cX2_hasFelon 14 = .ok (.iload_n 1, 1) := by decide +kernel
theorem dX2_hasFelon_15 : decode cX2_hasFelon 15 = .ok (.iaload, 1) := by decide +kernel
theorem dX2_hasFelon_16 : decode cX2_hasFelon 16 = .ok (.iconst (-1), 1) := by decide +kernel
theorem dX2_hasFelon_17 : decode cX2_hasFelon 17 = .ok (.if_icmp .eq 7, 3) := by decide +kernel
theorem dX2_hasFelon_20 : decode cX2_hasFelon 20 = .ok (.iconst 1, 1) := by decide +kernel
theorem dX2_hasFelon_21 : decode cX2_hasFelon 21 = .ok (.goto 4, 3) := by decide +kernel
theorem dX2_hasFelon_24 : decode cX2_hasFelon 24 = .ok (.iconst 0, 1) := by decide +kernel
theorem dX2_hasFelon_25 : decode cX2_hasFelon 25 = .ok (.ireturn, 1) := by decide +kernel
theorem dX2_hasJudge_0 : decode cX2_hasJudge 0 = .ok (.iload_n 1, 1) := by decide +kernel
theorem dX2_hasJudge_1 : decode cX2_hasJudge 1 = .ok (.ifCond .lt 22, 3) := by decide +kernel
theorem dX2_hasJudge_4 : decode cX2_hasJudge 4 = .ok (.iload_n 1, 1) := by decide +kernel
theorem dX2_hasJudge_5 : decode cX2_hasJudge 5 = .ok (.iconst 2, 1) := by decide +kernel
theorem dX2_hasJudge_6 : decode cX2_hasJudge 6 = .ok (.if_icmp .ge 17, 3) := by decide +kernel
theorem dX2_hasJudge_9 : decode cX2_hasJudge 9 = .ok (.aload_n 0, 1) := by decide +kernel
theorem dX2_hasJudge_10 : decode cX2_hasJudge 10 = .ok (.getfield 9, 3) := by decide +kernel
theorem dX2_hasJudge_13 : decode cX2_hasJudge 13 = .ok (.iload_n 1, 1) := by decide +kernel
theorem dX2_hasJudge_14 : decode cX2_hasJudge 14 = .ok (.iaload, 1) := by decide +kernel
theorem dX2_hasJudge_15 : decode cX2_hasJudge 15 = .ok (.iconst (-1), 1) := by decide +kernel
theorem dX2_hasJudge_16 : decode cX2_hasJudge 16 = .ok (.if_icmp .eq 7, 3) := by decide +kernel
theorem dX2_hasJudge_19 : decode cX2_hasJudge 19 = .ok (.iconst 1, 1) := by decide +kernel
theorem dX2_hasJudge_20 : decode cX2_hasJudge 20 = .ok (.goto 4, 3) := by decide +kernel
theorem dX2_hasJudge_23 : decode cX2_hasJudge 23 = .ok (.iconst 0, 1) := by decide +kernel
theorem dX2_hasJudge_24 : decode cX2_hasJudge 24 = .ok (.ireturn, 1) := by decide +kernel
theorem dX2_howManyDrowned_0 : decode cX2_howManyDrowned 0 = .ok (.iconst 0, 1) := by decide +kernel
theorem dX2_howManyDrowned_1 : decode cX2_howManyDrowned 1 = .ok (.istore_n 1, 1) := by decide +kernel
theorem dX2_howManyDrowned_2 : decode cX2_howManyDrowned 2 = .ok (.iconst 0, 1) := by decide +kernel
theorem dX2_howManyDrowned_3 : decode cX2_howManyDrowned 3 = .ok (.istore_n 2, 1) := by decide +kernel
theorem dX2_howManyDrowned_4 : decode cX2_howManyDrowned 4 = .ok (.iload_n 2, 1) := by decide +kernel
theorem dX2_howManyDrowned_5 : decode cX2_howManyDrowned 5 = .ok (.bipush 10, 2) := by decide +kernel
theorem dX2_howManyDrowned_7 : decode cX2_howManyDrowned 7 = .ok (.if_icmp .ge 34, 3) := by decide +kernel
theorem dX2_howManyDrowned_10 : decode cX2_howManyDrowned 10 = .ok (.iload_n 1, 1) := by decide +kernel
theorem dX2_howManyDrowned_11 : decode cX2_howManyDrowned 11 = .ok (.aload_n 0, 1) := by decide +kernel
theorem dX2_howManyDrowned_12 : decode cX2_howManyDrowned 12 = .ok (.iload_n 2, 1) := by decide +kernel
theorem dX2_howManyDrowned_13 : decode cX2_howManyDrowned 13 = .ok (.invokevirtual 52, 3) := by decide +kernel
theorem dX2_howManyDrowned_16 : decode cX2_howManyDrowned 16 = .ok (.ifCond .eq 16, 3) := by decide +kernel
theorem dX2_howManyDrowned_19 : decode cX2_howManyDrowned 19 = .ok (.aload_n 0, 1) := by decide +kernel
theorem dX2_howManyDrowned_20 : decode cX2_howManyDrowned 20 = .ok (.getfield 32, 3) := by decide +kernel
theorem dX2_howManyDrowned_23 : decode cX2_howManyDrowned 23 = .ok (.iload_n 2, 1) := by decide +kernel
theorem dX2_howManyDrowned_24 : decode cX2_howManyDrowned 24 = .ok (.baload, 1) := by decide +kernel
theorem dX2_howManyDrowned_25 : decode cX2_howManyDrowned 25 = .ok (.ifCond .eq 7, 3) := by decide +kernel
theorem dX2_howManyDrowned_28 : decode cX2_howManyDrowned 28 = .ok (.iconst 1, 1) := by decide +kernel
theorem dX2_howManyDrowned_29 : decode cX2_howManyDrowned 29 = .ok (.goto 4, 3) := by decide +kernel
theorem dX2_howManyDrowned_32 : decode cX2_howManyDrowned 32 = .ok (.iconst 0, 1) := by decide +kernel
theorem dX2_howManyDrowned_33 : decode cX2_howManyDrowned 33 = .ok (.iadd, 1) := by decide +kernel
theorem dX2_howManyDrowned_34 : decode cX2_howManyDrowned 34 = .ok (.istore_n 1, 1) := by decide +kernel
theorem dX2_howManyDrowned_35 : decode cX2_howManyDrowned 35 = .ok (.iinc 2 1, 3) := by decide +kernel
theorem dX2_howManyDrowned_38 : decode cX2_howManyDrowned 38 = .ok (.goto (-34), 3) := by decide +kernel
theorem dX2_howManyDrowned_41 : decode cX2_howManyDrowned 41 = .ok (.iload_n 1, 1) := by decide +kernel
theorem dX2_howManyDrowned_42 : decode cX2_howManyDrowned 42 = .ok (.ireturn, 1) := by decide +kernel
theorem dX2_howManyOweNothing_0 : decode cX2_howManyOweNothing 0 = .ok (.iconst 0, 1) := by decide +kernel
theorem dX2_howManyOweNothing_1 : decode cX2_howManyOweNothing 1 = .ok (.istore_n 1, 1) := by decide +kernel
theorem dX2_howManyOweNothing_2 : decode cX2_howManyOweNothing 2 = .ok (.iconst 0, 1) := by decide +kernel
theorem dX2_howManyOweNothing_3 : decode cX2_howManyOweNothing 3 = .ok (.istore_n 2, 1) := by decide +kernel
theorem dX2_howManyOweNothing_4 : decode cX2_howManyOweNothing 4 = .ok (.iload_n 2, 1) := by decide +kernel
theorem dX2_howManyOweNothing_5 : decode cX2_howManyOweNothing 5 = .ok (.bipush 10, 2) := by decide +kernel
theorem dX2_howManyOweNothing_7 : decode cX2_howManyOweNothing 7 = .ok (.if_icmp .ge 34, 3) := by decide +kernel
theorem dX2_howManyOweNothing_10 : decode cX2_howManyOweNothing 10 = .ok (.iload_n 1, 1) := by decide +kernel
theorem dX2_howManyOweNothing_11 : decode cX2_howManyOweNothing 11 = .ok (.aload_n 0, 1) := by decide +kernel
theorem dX2_howManyOweNothing_12 : decode cX2_howManyOweNothing 12 = .ok (.iload_n 2, 1) := by decide +kernel
theorem dX2_howManyOweNothing_13 : decode cX2_howManyOweNothing 13 = .ok (.invokevirtual 52, 3) := by decide +kernel
theorem dX2_howManyOweNothing_16 : decode cX2_howManyOweNothing 16 = .ok (.ifCond .eq 16, 3) := by decide +kernel
theorem dX2_howManyOweNothing_19 : decode cX2_howManyOweNothing 19 = .ok (.aload_n 0, 1) := by decide +kernel
theorem dX2_howManyOweNothing_20 : decode cX2_howManyOweNothing 20 = .ok (.getfield 26, 3) := by decide +kernel
theorem dX2_howManyOweNothing_23 : decode cX2_howManyOweNothing 23 = .ok (.iload_n 2, 1) := by decide +kernel
theorem dX2_howManyOweNothing_24 : decode cX2_howManyOweNothing 24 = .ok (.iaload, 1) := by decide +kernel
theorem dX2_howManyOweNothing_25 : decode cX2_howManyOweNothing 25 = .ok (.ifCond .ne 7, 3) := by decide +kernel
theorem dX2_howManyOweNothing_28 : decode cX2_howManyOweNothing 28 = .ok (.iconst 1, 1) := by decide +kernel
theorem dX2_howManyOweNothing_29 : decode cX2_howManyOweNothing 29 = .ok (.goto 4, 3) := by decide +kernel
theorem dX2_howManyOweNothing_32 : decode cX2_howManyOweNothing 32 = .ok (.iconst 0, 1) := by decide +kernel
theorem dX2_howManyOweNothing_33 : decode cX2_howManyOweNothing 33 = .ok (.iadd, 1) := by decide +kernel
theorem dX2_howManyOweNothing_34 : decode cX2_howManyOweNothing 34 = .ok (.istore_n 1, 1) := by decide +kernel
theorem dX2_howManyOweNothing_35 : decode cX2_howManyOweNothing 35 = .ok (.iinc 2 1, 3) := by decide +kernel
theorem dX2_howManyOweNothing_38 : decode cX2_howManyOweNothing 38 = .ok (.goto (-34), 3) := by decide +kernel
theorem dX2_howManyOweNothing_41 : decode cX2_howManyOweNothing 41 = .ok (.iload_n 1, 1) := by decide +kernel
theorem dX2_howManyOweNothing_42 : decode cX2_howManyOweNothing 42 = .ok (.ireturn, 1) := by decide +kernel
theorem dX2_mustServe_0 : decode cX2_mustServe 0 = .ok (.aload_n 0, 1) := by decide +kernel
theorem dX2_mustServe_1 : decode cX2_mustServe 1 = .ok (.iload_n 1, 1) := by decide +kernel
theorem dX2_mustServe_2 : decode cX2_mustServe 2 = .ok (.invokevirtual 52, 3) := by decide +kernel
theorem dX2_mustServe_5 : decode cX2_mustServe 5 = .ok (.ifCond .eq 25, 3) := by decide +kernel
theorem dX2_mustServe_8 : decode cX2_mustServe 8 = .ok (.aload_n 0, 1) := by decide +kernel
theorem dX2_mustServe_9 : decode cX2_mustServe 9 = .ok (.getfield 26, 3) := by decide +kernel
theorem dX2_mustServe_12 : decode cX2_mustServe 12 = .ok (.iload_n 1, 1) := by decide +kernel
theorem dX2_mustServe_13 : decode cX2_mustServe 13 = .ok (.iaload, 1) := by decide +kernel
theorem dX2_mustServe_14 : decode cX2_mustServe 14 = .ok (.ifCond .le 16, 3) := by decide +kernel
theorem dX2_mustServe_17 : decode cX2_mustServe 17 = .ok (.aload_n 0, 1) := by decide +kernel
theorem dX2_mustServe_18 : decode cX2_mustServe 18 = .ok (.getfield 32, 3) := by decide +kernel
theorem dX2_mustServe_21 : decode cX2_mustServe 21 = .ok (.iload_n 1, 1) := by decide +kernel
theorem dX2_mustServe_22 : decode cX2_mustServe 22 = .ok (.baload, 1) := by decide +kernel
theorem dX2_mustServe_23 : decode cX2_mustServe 23 = .ok (.ifCond .ne 7, 3) := by decide +kernel
theorem dX2_mustServe_26 : decode cX2_mustServe 26 = .ok (.iconst 1, 1) := by decide +kernel
theorem dX2_mustServe_27 : decode cX2_mustServe 27 = .ok (.goto 4, 3) := by decide +kernel
theorem dX2_mustServe_30 : decode cX2_mustServe 30 = .ok (.iconst 0, 1) := by decide +kernel
theorem dX2_mustServe_31 : decode cX2_mustServe 31 = .ok (.ireturn, 1) := by decide +kernel
theorem dX2_owedByAll_0 : decode cX2_owedByAll 0 = .ok (.iconst 0, 1) := by decide +kernel
theorem dX2_owedByAll_1 : decode cX2_owedByAll 1 = .ok (.istore_n 1, 1) := by decide +kernel
theorem dX2_owedByAll_2 : decode cX2_owedByAll 2 = .ok (.iconst 0, 1) := by decide +kernel
theorem dX2_owedByAll_3 : decode cX2_owedByAll 3 = .ok (.istore_n 2, 1) := by decide +kernel
theorem dX2_owedByAll_4 : decode cX2_owedByAll 4 = .ok (.iload_n 2, 1) := by decide +kernel
theorem dX2_owedByAll_5 : decode cX2_owedByAll 5 = .ok (.bipush 10, 2) := by decide +kernel
theorem dX2_owedByAll_7 : decode cX2_owedByAll 7 = .ok (.if_icmp .ge 18, 3) := by decide +kernel
theorem dX2_owedByAll_10 : decode cX2_owedByAll 10 = .ok (.iload_n 1, 1) := by decide +kernel
theorem dX2_owedByAll_11 : decode cX2_owedByAll 11 = .ok (.aload_n 0, 1) := by decide +kernel
theorem dX2_owedByAll_12 : decode cX2_owedByAll 12 = .ok (.getfield 26, 3) := by decide +kernel
theorem dX2_owedByAll_15 : decode cX2_owedByAll 15 = .ok (.iload_n 2, 1) := by decide +kernel
theorem dX2_owedByAll_16 : decode cX2_owedByAll 16 = .ok (.iaload, 1) := by decide +kernel
theorem dX2_owedByAll_17 : decode cX2_owedByAll 17 = .ok (.iadd, 1) := by decide +kernel
theorem dX2_owedByAll_18 : decode cX2_owedByAll 18 = .ok (.istore_n 1, 1) := by decide +kernel
theorem dX2_owedByAll_19 : decode cX2_owedByAll 19 = .ok (.iinc 2 1, 3) := by decide +kernel
theorem dX2_owedByAll_22 : decode cX2_owedByAll 22 = .ok (.goto (-18), 3) := by decide +kernel
theorem dX2_owedByAll_25 : decode cX2_owedByAll 25 = .ok (.iload_n 1, 1) := by decide +kernel
theorem dX2_owedByAll_26 : decode cX2_owedByAll 26 = .ok (.ireturn, 1) := by decide +kernel
