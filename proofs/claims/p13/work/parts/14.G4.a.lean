theorem cls_X2 : xCls RX2 TX2 12 2 tyX2 := ⟨xin [415, 417, 419, 421, 423, 425, 427, 429, 431, 433, 435, 437] (by decide +kernel) (by decide +kernel), rfl, tyX2_ok, nmX2⟩
theorem st_X2_7 (h0 : Nat) (σ : xS) (k : Nat) (a : Int) : xobj h0 (xU σ k 7 a) k 2 = (xobj h0 σ k 2).set 7 (.int (xJ a)) := by simp [xobj, xU]
theorem ln_X2_7 (h0 : Nat) (σ : xS) (k : Nat) : 7 < (xobj h0 σ k 2).length := by simp [xobj]
theorem st_X2_8 (h0 : Nat) (σ : xS) (k : Nat) (a : Int) : xobj h0 (xU σ k 8 a) k 2 = (xobj h0 σ k 2).set 8 (.int (xJ a)) := by simp [xobj, xU]
theorem ln_X2_8 (h0 : Nat) (σ : xS) (k : Nat) : 8 < (xobj h0 σ k 2).length := by simp [xobj]
theorem st_X2_9 (h0 : Nat) (σ : xS) (k : Nat) (a : Int) : xobj h0 (xU σ k 9 a) k 2 = (xobj h0 σ k 2).set 9 (.int (xJ a)) := by simp [xobj, xU]
theorem ln_X2_9 (h0 : Nat) (σ : xS) (k : Nat) : 9 < (xobj h0 σ k 2).length := by simp [xobj]
theorem st_X2_10 (h0 : Nat) (σ : xS) (k : Nat) (a : Int) : xobj h0 (xU σ k 10 a) k 2 = (xobj h0 σ k 2).set 10 (.int (xJ a)) := by simp [xobj, xU]
theorem ln_X2_10 (h0 : Nat) (σ : xS) (k : Nat) : 10 < (xobj h0 σ k 2).length := by simp [xobj]
theorem st_X2_11 (h0 : Nat) (σ : xS) (k : Nat) (a : Int) : xobj h0 (xU σ k 11 a) k 2 = (xobj h0 σ k 2).set 11 (.int (xJ a)) := by simp [xobj, xU]
theorem ln_X2_11 (h0 : Nat) (σ : xS) (k : Nat) : 11 < (xobj h0 σ k 2).length := by simp [xobj]
theorem cf_X2_hasFelon : xCF yX2_hasFelon cX2_hasFelon 2 (some .boolean) 1 := ⟨xq 863 (by decide +kernel) rfl, xq 176 (by decide +kernel) rfl, by decide +kernel⟩
theorem cf_X2_stepsLeft : xCF yX2_stepsLeft cX2_stepsLeft 2 (some .int) 1 := ⟨xq 782 (by decide +kernel) rfl, xq 176 (by decide +kernel) rfl, by decide +kernel⟩
theorem wq39 : Cond.selects yX2_stepsLeft.cls yX2_stepsLeft yX2_stepsLeft ∈ xTB := xq 39 (by decide +kernel) rfl
theorem wq53 : Cond.selects yX2_hasFelon.cls yX2_hasFelon yX2_hasFelon ∈ xTB := xq 53 (by decide +kernel) rfl
theorem wq383 : Cond.fieldLink "ShadowCourt$Day" (9) "ShadowCourt$Day" "judgeSpot" "[I" ∈ xTB := xq 383 (by decide +kernel) rfl
theorem wq386 : Cond.fieldLink "ShadowCourt$Day" (17) "ShadowCourt$Day" "walks" "[[I" ∈ xTB := xq 386 (by decide +kernel) rfl
theorem wq387 : Cond.fieldLink "ShadowCourt$Day" (20) "ShadowCourt$Day" "stepsDone" "[I" ∈ xTB := xq 387 (by decide +kernel) rfl
theorem wq388 : Cond.fieldLink "ShadowCourt$Day" (23) "ShadowCourt$Day" "felonSpot" "[I" ∈ xTB := xq 388 (by decide +kernel) rfl
theorem wq392 : Cond.fieldLink "ShadowCourt$Day" (26) "ShadowCourt$Day" "owed" "[I" ∈ xTB := xq 392 (by decide +kernel) rfl
theorem wq395 : Cond.fieldLink "ShadowCourt$Day" (29) "ShadowCourt$Day" "away" "[I" ∈ xTB := xq 395 (by decide +kernel) rfl
theorem wq398 : Cond.fieldLink "ShadowCourt$Day" (32) "ShadowCourt$Day" "drowned" "[Z" ∈ xTB := xq 398 (by decide +kernel) rfl
theorem wq401 : Cond.fieldLink "ShadowCourt$Day" (36) "ShadowCourt$Day" "minute" "I" ∈ xTB := xq 401 (by decide +kernel) rfl
theorem wq404 : Cond.fieldLink "ShadowCourt$Day" (40) "ShadowCourt$Day" "drawState" "I" ∈ xTB := xq 404 (by decide +kernel) rfl
theorem wq406 : Cond.fieldLink "ShadowCourt$Day" (43) "ShadowCourt$Day" "timesAway" "I" ∈ xTB := xq 406 (by decide +kernel) rfl
theorem wq409 : Cond.fieldLink "ShadowCourt$Day" (46) "ShadowCourt$Day" "cloudyMinutes" "I" ∈ xTB := xq 409 (by decide +kernel) rfl
theorem wq412 : Cond.fieldLink "ShadowCourt$Day" (49) "ShadowCourt$Day" "felonSteps" "I" ∈ xTB := xq 412 (by decide +kernel) rfl
theorem wq779 : Cond.methodLink "ShadowCourt$Day" (56) yX2_stepsLeft ∈ xTB := xq 779 (by decide +kernel) rfl
theorem wq781 : Cond.instanceMethod yX2_stepsLeft ∈ xTB := xq 781 (by decide +kernel) rfl
theorem wq799 : Cond.constant "ShadowCourt$Day" (60) (65536) ∈ xTB := xq 799 (by decide +kernel) rfl
theorem wq860 : Cond.methodLink "ShadowCourt$Day" (52) yX2_hasFelon ∈ xTB := xq 860 (by decide +kernel) rfl
theorem wq862 : Cond.instanceMethod yX2_hasFelon ∈ xTB := xq 862 (by decide +kernel) rfl
theorem dX2_clearCounts_0 : decode cX2_clearCounts 0 = .ok (.aload_n 0, 1) := by decide +kernel
theorem dX2_clearCounts_1 : decode cX2_clearCounts 1 = .ok (.iconst 0, 1) := by decide +kernel
theorem dX2_clearCounts_2 : decode cX2_clearCounts 2 = .ok (.putfield 43, 3) := by decide +kernel
theorem dX2_clearCounts_5 : decode cX2_clearCounts 5 = .ok (.aload_n 0, 1) := by decide +kernel
theorem dX2_clearCounts_6 : decode cX2_clearCounts 6 = .ok (.iconst 0, 1) := by decide +kernel
theorem dX2_clearCounts_7 : decode cX2_clearCounts 7 = .ok (.putfield 46, 3) := by decide +kernel
theorem dX2_clearCounts_10 : decode cX2_clearCounts 10 = .ok (.aload_n 0, 1) := by decide +kernel
theorem dX2_clearCounts_11 : decode cX2_clearCounts 11 = .ok (.iconst 0, 1) := by decide +kernel
theorem dX2_clearCounts_12 : decode cX2_clearCounts 12 = .ok (.putfield 49, 3) := by decide +kernel
theorem dX2_clearCounts_15 : decode cX2_clearCounts 15 = .ok (.return_, 1) := by decide +kernel
theorem dX2_copyFrom_0 : decode cX2_copyFrom 0 = .ok (.iconst 0, 1) := by decide +kernel
theorem dX2_copyFrom_1 : decode cX2_copyFrom 1 = .ok (.istore_n 2, 1) := by decide +kernel
theorem dX2_copyFrom_2 : decode cX2_copyFrom 2 = .ok (.iload_n 2, 1) := by decide +kernel
theorem dX2_copyFrom_3 : decode cX2_copyFrom 3 = .ok (.iconst 2, 1) := by decide +kernel
theorem dX2_copyFrom_4 : decode cX2_copyFrom 4 = .ok (.if_icmp .ge 45, 3) := by decide +kernel
theorem dX2_copyFrom_7 : decode cX2_copyFrom 7 = .ok (.aload_n 0, 1) := by decide +kernel
theorem dX2_copyFrom_8 : decode cX2_copyFrom 8 = .ok (.getfield 9, 3) := by decide +kernel
theorem dX2_copyFrom_11 : decode cX2_copyFrom 11 = .ok (.iload_n 2, 1) := by decide +kernel
theorem dX2_copyFrom_12 : decode cX2_copyFrom 12 = .ok (.aload_n 1, 1) := by decide +kernel
theorem dX2_copyFrom_13 : decode cX2_copyFrom 13 = .ok (.getfield 9, 3) := by decide +kernel
theorem dX2_copyFrom_16 : decode cX2_copyFrom 16 = .ok (.iload_n 2, 1) := by decide +kernel
theorem dX2_copyFrom_17 : decode cX2_copyFrom 17 = .ok (.iaload, 1) := by decide +kernel
theorem dX2_copyFrom_18 : decode cX2_copyFrom 18 = .ok (.iastore, 1) := by decide +kernel
theorem dX2_copyFrom_19 : decode cX2_copyFrom 19 = .ok (.aload_n 0, 1) := by decide +kernel
theorem dX2_copyFrom_20 : decode cX2_copyFrom 20 = .ok (.getfield 17, 3) := by decide +kernel
theorem dX2_copyFrom_23 : decode cX2_copyFrom 23 = .ok (.iload_n 2, 1) := by decide +kernel
theorem dX2_copyFrom_24 : decode cX2_copyFrom 24 = .ok (.aload_n 1, 1) := by decide +kernel
theorem dX2_copyFrom_25 : decode cX2_copyFrom 25 = .ok (.getfield 17, 3) := by decide +kernel
theorem dX2_copyFrom_28 : decode cX2_copyFrom 28 = .ok (.iload_n 2, 1) := by decide +kernel
theorem dX2_copyFrom_29 : decode cX2_copyFrom 29 = .ok (.aaload, 1) := by decide +kernel
theorem dX2_copyFrom_30 : decode cX2_copyFrom 30 = .ok (.aastore, 1) := by decide +kernel
theorem dX2_copyFrom_31 : decode cX2_copyFrom 31 = .ok (.aload_n 0, 1) := by decide +kernel
theorem dX2_copyFrom_32 : decode cX2_copyFrom 32 = .ok (.getfield 20, 3) := by decide +kernel
theorem dX2_copyFrom_35 : decode cX2_copyFrom 35 = .ok (.iload_n 2, 1) := by decide +kernel
theorem dX2_copyFrom_36 : decode cX2_copyFrom 36 = .ok (.aload_n 1, 1) := by decide +kernel
theorem dX2_copyFrom_37 : decode cX2_copyFrom 37 = .ok (.getfield 20, 3) := by decide +kernel
theorem dX2_copyFrom_40 : decode cX2_copyFrom 40 = .ok (.iload_n 2, 1) := by decide +kernel
theorem dX2_copyFrom_41 : decode cX2_copyFrom 41 = .ok (.iaload, 1) := by decide +kernel
theorem dX2_copyFrom_42 : decode cX2_copyFrom 42 = .ok (.iastore, 1) := by decide +kernel
theorem dX2_copyFrom_43 : decode cX2_copyFrom 43 = .ok (.iinc 2 1, 3) := by decide +kernel
theorem dX2_copyFrom_46 : decode cX2_copyFrom 46 = .ok (.goto (-44), 3) := by decide +kernel
theorem dX2_copyFrom_49 : decode cX2_copyFrom 49 = .ok (.iconst 0, 1) := by decide +kernel
theorem dX2_copyFrom_50 : decode cX2_copyFrom 50 = .ok (.istore_n 2, 1) := by decide +kernel
theorem dX2_copyFrom_51 : decode cX2_copyFrom 51 = .ok (.iload_n 2, 1) := by decide +kernel
theorem dX2_copyFrom_52 : decode cX2_copyFrom 52 = .ok (.bipush 10, 2) := by decide +kernel
theorem dX2_copyFrom_54 : decode cX2_copyFrom 54 = .ok (.if_icmp .ge 57, 3) := by decide +kernel
theorem dX2_copyFrom_57 : decode cX2_copyFrom 57 = .ok (.aload_n 0, 1) := by decide +kernel
theorem dX2_copyFrom_58 : decode cX2_copyFrom 58 = .ok (.getfield 23, 3) := by decide +kernel
theorem dX2_copyFrom_61 : decode cX2_copyFrom 61 = .ok (.iload_n 2, 1) := by decide +kernel
theorem dX2_copyFrom_62 : decode cX2_copyFrom 62 = .ok (.aload_n 1, 1) := by decide +kernel
theorem dX2_copyFrom_63 : decode cX2_copyFrom 63 = .ok (.getfield 23, 3) := by decide +kernel
theorem dX2_copyFrom_66 : decode cX2_copyFrom 66 = .ok (.iload_n 2, 1) := by decide +kernel
theorem dX2_copyFrom_67 : decode cX2_copyFrom 67 = .ok (.iaload, 1) := by decide +kernel
theorem dX2_copyFrom_68 : decode cX2_copyFrom 68 = .ok (.iastore, 1) := by decide +kernel
theorem dX2_copyFrom_69 : decode cX2_copyFrom 69 = .ok (.aload_n 0, 1) := by decide +kernel
theorem dX2_copyFrom_70 : decode cX2_copyFrom 70 = .ok (.getfield 26, 3) := by decide +kernel
theorem dX2_copyFrom_73 : decode cX2_copyFrom 73 = .ok (.iload_n 2, 1) := by decide +kernel
theorem dX2_copyFrom_74 : decode cX2_copyFrom 74 = .ok (.aload_n 1, 1) := by decide +kernel
theorem dX2_copyFrom_75 : decode cX2_copyFrom 75 = .ok (.getfield 26, 3) := by decide +kernel
theorem dX2_copyFrom_78 : decode cX2_copyFrom 78 = .ok (.iload_n 2, 1) := by decide +kernel
theorem dX2_copyFrom_79 : decode cX2_copyFrom 79 = .ok (.iaload, 1) := by decide +kernel
theorem dX2_copyFrom_80 : decode cX2_copyFrom 80 = .ok (.iastore, 1) := by decide +kernel
theorem dX2_copyFrom_81 : decode cX2_copyFrom 81 = .ok (.aload_n 0, 1) := by decide +kernel
theorem dX2_copyFrom_82 : decode cX2_copyFrom 82 = .ok (.getfield 29, 3) := by decide +kernel
theorem dX2_copyFrom_85 : decode cX2_copyFrom 85 = .ok (.iload_n 2, 1) := by decide +kernel
theorem dX2_copyFrom_86 : decode cX2_copyFrom 86 = .ok (.aload_n 1, 1) := by decide +kernel
theorem dX2_copyFrom_87 : decode cX2_copyFrom 87 = .ok (.getfield 29, 3) := by decide +kernel
theorem dX2_copyFrom_90 : decode cX2_copyFrom 90 = .ok (.iload_n 2, 1) := by decide +kernel
theorem dX2_copyFrom_91 : decode cX2_copyFrom 91 = .ok (.iaload, 1) := by decide +kernel
theorem dX2_copyFrom_92 : decode cX2_copyFrom 92 = .ok (.iastore, 1) := by decide +kernel
theorem dX2_copyFrom_93 : decode cX2_copyFrom 93 = .ok (.aload_n 0, 1) := by decide +kernel
theorem dX2_copyFrom_94 : decode cX2_copyFrom 94 = .ok (.getfield 32, 3) := by decide +kernel
theorem dX2_copyFrom_97 : decode cX2_copyFrom 97 = .ok (.iload_n 2, 1) := by decide +kernel
theorem dX2_copyFrom_98 : decode cX2_copyFrom 98 = .ok (.aload_n 1, 1) := by decide +kernel
theorem dX2_copyFrom_99 : decode cX2_copyFrom 99 = .ok (.getfield 32, 3) := by decide +kernel
theorem dX2_copyFrom_102 : decode cX2_copyFrom 102 = .ok (.iload_n 2, 1) := by decide +kernel
theorem dX2_copyFrom_103 : decode cX2_copyFrom 103 = .ok (.baload, 1) := by decide +kernel
theorem dX2_copyFrom_104 : decode cX2_copyFrom 104 = .ok (.bastore, 1) := by decide +kernel
theorem dX2_copyFrom_105 : decode cX2_copyFrom 105 = .ok (.iinc 2 1, 3) := by decide +kernel
theorem dX2_copyFrom_108 : decode cX2_copyFrom 108 = .ok (.goto (-57), 3) := by decide +kernel
theorem dX2_copyFrom_111 : decode cX2_copyFrom 111 = .ok (.aload_n 0, 1) := by decide +kernel
theorem dX2_copyFrom_112 : decode cX2_copyFrom 112 = .ok (.aload_n 1, 1) := by decide +kernel
theorem dX2_copyFrom_113 : decode cX2_copyFrom 113 = .ok (.getfield 36, 3) := by decide +kernel
theorem dX2_copyFrom_116 : decode cX2_copyFrom 116 = .ok (.putfield 36, 3) := by decide +kernel
theorem dX2_copyFrom_119 : decode cX2_copyFrom 119 = .ok (.aload_n 0, 1) := by decide +kernel
theorem dX2_copyFrom_120 : decode cX2_copyFrom 120 = .ok (.aload_n 1, 1) := by decide +kernel
theorem dX2_copyFrom_121 : decode cX2_copyFrom 121 = .ok (.getfield 40, 3) := by decide +kernel
theorem dX2_copyFrom_124 : decode cX2_copyFrom 124 = .ok (.putfield 40, 3) := by decide +kernel
theorem dX2_copyFrom_127 : decode cX2_copyFrom 127 = .ok (.aload_n 0, 1) := by decide +kernel
theorem dX2_copyFrom_128 : decode cX2_copyFrom 128 = .ok (.aload_n 1, 1) := by decide +kernel
theorem dX2_copyFrom_129 : decode cX2_copyFrom 129 = .ok (.getfield 43, 3) := by decide +kernel
theorem dX2_copyFrom_132 : decode cX2_copyFrom 132 = .ok (.putfield 43, 3) := by decide +kernel
theorem dX2_copyFrom_135 : decode cX2_copyFrom 135 = .ok (.aload_n 0, 1) := by decide +kernel
theorem dX2_copyFrom_136 : decode cX2_copyFrom 136 = .ok (.aload_n 1, 1) := by decide +kernel
theorem dX2_copyFrom_137 : decode cX2_copyFrom 137 = .ok (.getfield 46, 3) := by decide +kernel
theorem dX2_copyFrom_140 : decode cX2_copyFrom 140 = .ok (.putfield 46, 3) := by decide +kernel
theorem dX2_copyFrom_143 : decode cX2_copyFrom 143 = .ok (.aload_n 0, 1) := by decide +kernel
theorem dX2_copyFrom_144 : decode cX2_copyFrom 144 = .ok (.aload_n 1, 1) := by decide +kernel
theorem dX2_copyFrom_145 : decode cX2_copyFrom 145 = .ok (.getfield 49, 3) := by decide +kernel
theorem dX2_copyFrom_148 : decode cX2_copyFrom 148 = .ok (.putfield 49, 3) := by decide +kernel
theorem dX2_copyFrom_151 : decode cX2_copyFrom 151 = .ok (.return_, 1) := by decide +kernel
theorem dX2_draw_0 : decode cX2_draw 0 = .ok (.aload_n 0, 1) := by decide +kernel
theorem dX2_draw_1 : decode cX2_draw 1 = .ok (.sipush 25173, 3) := by decide +kernel
theorem dX2_draw_4 : decode cX2_draw 4 = .ok (.aload_n 0, 1) := by decide +kernel
theorem dX2_draw_5 : decode cX2_draw 5 = .ok (.getfield 40, 3) := by decide +kernel
theorem dX2_draw_8 : decode cX2_draw 8 = .ok (.imul, 1) := by decide +kernel
theorem dX2_draw_9 : decode cX2_draw 9 = .ok (.sipush 13849, 3) := by decide +kernel
theorem dX2_draw_12 : decode cX2_draw 12 = .ok (.iadd, 1) := by decide +kernel
theorem dX2_draw_13 : decode cX2_draw 13 = .ok (.ldc 60, 2) := by decide +kernel
theorem dX2_draw_15 : decode cX2_draw 15 = .ok (.irem, 1) := by decide +kernel
theorem dX2_draw_16 : decode cX2_draw 16 = .ok (.putfield 40, 3) := by decide +kernel
theorem dX2_draw_19 : decode cX2_draw 19 = .ok (.aload_n 0, 1) := by decide +kernel
theorem dX2_draw_20 : decode cX2_draw 20 = .ok (.getfield 40, 3) := by decide +kernel
theorem dX2_draw_23 : decode cX2_draw 23 = .ok (.bipush 10, 2) := by decide +kernel
theorem dX2_draw_25 : decode cX2_draw 25 = .ok (.irem, 1) := by decide +kernel
theorem dX2_draw_26 : decode cX2_draw 26 = .ok (.ireturn, 1) := by decide +kernel
theorem dX2_hasFelon_0 : decode cX2_hasFelon 0 = .ok (.iload_n 1, 1) := by decide +kernel
theorem dX2_hasFelon_1 : decode cX2_hasFelon 1 = .ok (.ifCond .lt 23, 3) := by decide +kernel
theorem dX2_hasFelon_4 : decode cX2_hasFelon 4 = .ok (.iload_n 1, 1) := by decide +kernel
theorem dX2_hasFelon_5 : decode cX2_hasFelon 5 = .ok (.bipush 10, 2) := by decide +kernel
theorem dX2_hasFelon_7 : decode cX2_hasFelon 7 = .ok (.if_icmp .ge 17, 3) := by decide +kernel
theorem dX2_hasFelon_10 : decode cX2_hasFelon 10 = .ok (.aload_n 0, 1) := by decide +kernel
theorem dX2_hasFelon_11 : decode cX2_hasFelon 11 = .ok (.getfield 23, 3) := by decide +kernel
theorem dX2_hasFelon_14 : decode cX2_hasFelon 14 = .ok (.iload_n 1, 1) := by decide +kernel
theorem dX2_hasFelon_15 : decode cX2_hasFelon 15 = .ok (.iaload, 1) := by decide +kernel
theorem dX2_hasFelon_16 : decode cX2_hasFelon 16 = .ok (.iconst (-1), 1) := by decide +kernel
theorem dX2_hasFelon_17 : decode cX2_hasFelon 17 = .ok (.if_icmp .eq 7, 3) := by decide +kernel
theorem dX2_hasFelon_20 : decode cX2_hasFelon 20 = .ok (.iconst 1, 1) := by decide +kernel
theorem dX2_hasFelon_21 : decode cX2_hasFelon 21 = .ok (.goto 4, 3) := by decide +kernel
theorem dX2_hasFelon_24 : decode cX2_hasFelon 24 = .ok (.iconst 0, 1) := by decide +kernel
theorem dX2_hasFelon_25 : decode cX2_hasFelon 25 = .ok (.ireturn, 1) := by decide +kernel
theorem dX2_hasJudge_0 : decode cX2_hasJudge 0 = .ok (.iload_n 1, 1) := by decide +kernel
theorem dX2_hasJudge_1 : decode cX2_hasJudge 1 = .ok (.ifCond .lt 22, 3) := by decide +kernel
theorem dX2_hasJudge_4 : decode cX2_hasJudge 4 = .ok (.iload_n 1, 1) := by decide +kernel
theorem dX2_hasJudge_5 : decode cX2_hasJudge 5 = .ok (.iconst 2, 1) := by decide +kernel
theorem dX2_hasJudge_6 : decode cX2_hasJudge 6 = .ok (.if_icmp .ge 17, 3) := by decide +kernel
theorem dX2_hasJudge_9 : decode cX2_hasJudge 9 = .ok (.aload_n 0, 1) := by decide +kernel
theorem dX2_hasJudge_10 : decode cX2_hasJudge 10 = .ok (.getfield 9, 3) := by decide +kernel
theorem dX2_hasJudge_13 : decode cX2_hasJudge 13 = .ok (.iload_n 1, 1) := by decide +kernel
theorem dX2_hasJudge_14 : decode cX2_hasJudge 14 = .ok (.iaload, 1) := by decide +kernel
theorem dX2_hasJudge_15 : decode cX2_hasJudge 15 = .ok (.iconst (-1), 1) := by decide +kernel
theorem dX2_hasJudge_16 : decode cX2_hasJudge 16 = .ok (.if_icmp .eq 7, 3) := by decide +kernel
theorem dX2_hasJudge_19 : decode cX2_hasJudge 19 = .ok (.iconst 1, 1) := by decide +kernel
theorem dX2_hasJudge_20 : decode cX2_hasJudge 20 = .ok (.goto 4, 3) := by decide +kernel
theorem dX2_hasJudge_23 : decode cX2_hasJudge 23 = .ok (.iconst 0, 1) := by decide +kernel
theorem dX2_hasJudge_24 : decode cX2_hasJudge 24 = .ok (.ireturn, 1) := by decide +kernel
theorem dX2_howManyDrowned_0 : decode cX2_howManyDrowned 0 = .ok (.iconst 0, 1) := by decide +kernel
theorem dX2_howManyDrowned_1 : decode cX2_howManyDrowned 1 = .ok (.istore_n 1, 1) := by decide +kernel
theorem dX2_howManyDrowned_2 : decode cX2_howManyDrowned 2 = .ok (.iconst 0, 1) := by decide +kernel
theorem dX2_howManyDrowned_3 : decode cX2_howManyDrowned 3 = .ok (.istore_n 2, 1) := by decide +kernel
theorem dX2_howManyDrowned_4 : decode cX2_howManyDrowned 4 = .ok (.iload_n 2, 1) := by decide +kernel
theorem dX2_howManyDrowned_5 : decode cX2_howManyDrowned 5 = .ok (.bipush 10, 2) := by decide +kernel
theorem dX2_howManyDrowned_7 : decode cX2_howManyDrowned 7 = .ok (.if_icmp .ge 34, 3) := by decide +kernel
theorem dX2_howManyDrowned_10 : decode cX2_howManyDrowned 10 = .ok (.iload_n 1, 1) := by decide +kernel
theorem dX2_howManyDrowned_11 : decode cX2_howManyDrowned 11 = .ok (.aload_n 0, 1) := by decide +kernel
theorem dX2_howManyDrowned_12 : decode cX2_howManyDrowned 12 = .ok (.iload_n 2, 1) := by decide +kernel
theorem dX2_howManyDrowned_13 : decode cX2_howManyDrowned 13 = .ok (.invokevirtual 52, 3) := by decide +kernel
theorem dX2_howManyDrowned_16 : decode cX2_howManyDrowned 16 = .ok (.ifCond .eq 16, 3) := by decide +kernel
theorem dX2_howManyDrowned_19 : decode cX2_howManyDrowned 19 = .ok (.aload_n 0, 1) := by decide +kernel
theorem dX2_howManyDrowned_20 : decode cX2_howManyDrowned 20 = .ok (.getfield 32, 3) := by decide +kernel
theorem dX2_howManyDrowned_23 : decode cX2_howManyDrowned 23 = .ok (.iload_n 2, 1) := by decide +kernel
theorem dX2_howManyDrowned_24 : decode cX2_howManyDrowned 24 = .ok (.baload, 1) := by decide +kernel
theorem dX2_howManyDrowned_25 : decode cX2_howManyDrowned 25 = .ok (.ifCond .eq 7, 3) := by decide +kernel
theorem dX2_howManyDrowned_28 : decode cX2_howManyDrowned 28 = .ok (.iconst 1, 1) := by decide +kernel
theorem dX2_howManyDrowned_29 : decode cX2_howManyDrowned 29 = .ok (.goto 4, 3) := by decide +kernel
theorem dX2_howManyDrowned_32 : decode cX2_howManyDrowned 32 = .ok (.iconst 0, 1) := by decide +kernel
theorem dX2_howManyDrowned_33 : decode cX2_howManyDrowned 33 = .ok (.iadd, 1) := by decide +kernel
theorem dX2_howManyDrowned_34 : decode cX2_howManyDrowned 34 = .ok (.istore_n 1, 1) := by decide +kernel
theorem dX2_howManyDrowned_35 : decode cX2_howManyDrowned 35 = .ok (.iinc 2 1, 3) := by decide +kernel
theorem dX2_howManyDrowned_38 : decode cX2_howManyDrowned 38 = .ok (.goto (-34), 3) := by decide +kernel
theorem dX2_howManyDrowned_41 : decode cX2_howManyDrowned 41 = .ok (.iload_n 1, 1) := by decide +kernel
theorem dX2_howManyDrowned_42 : decode cX2_howManyDrowned 42 = .ok (.ireturn, 1) := by decide +kernel
theorem dX2_howManyOweNothing_0 : decode cX2_howManyOweNothing 0 = .ok (.iconst 0, 1) := by decide +kernel
theorem dX2_howManyOweNothing_1 : decode cX2_howManyOweNothing 1 = .ok (.istore_n 1, 1) := by decide +kernel
theorem dX2_howManyOweNothing_2 : decode cX2_howManyOweNothing 2 = .ok (.iconst 0, 1) := by decide +kernel
theorem dX2_howManyOweNothing_3 : decode cX2_howManyOweNothing 3 = .ok (.istore_n 2, 1) := by decide +kernel
theorem dX2_howManyOweNothing_4 : decode cX2_howManyOweNothing 4 = .ok (.iload_n 2, 1) := by decide +kernel
theorem dX2_howManyOweNothing_5 : decode cX2_howManyOweNothing 5 = .ok (.bipush 10, 2) := by decide +kernel
theorem dX2_howManyOweNothing_7 : decode cX2_howManyOweNothing 7 = .ok (.if_icmp .ge 34, 3) := by decide +kernel
theorem dX2_howManyOweNothing_10 : decode cX2_howManyOweNothing 10 = .ok (.iload_n 1, 1) := by decide +kernel
theorem dX2_howManyOweNothing_11 : decode cX2_howManyOweNothing 11 = .ok (.aload_n 0, 1) := by decide +kernel
theorem dX2_howManyOweNothing_12 : decode cX2_howManyOweNothing 12 = .ok (.iload_n 2, 1) := by decide +kernel
theorem dX2_howManyOweNothing_13 : decode cX2_howManyOweNothing 13 = .ok (.invokevirtual 52, 3) := by decide +kernel
theorem dX2_howManyOweNothing_16 : decode cX2_howManyOweNothing 16 = .ok (.ifCond .eq 16, 3) := by decide +kernel
theorem dX2_howManyOweNothing_19 : decode cX2_howManyOweNothing 19 = .ok (.aload_n 0, 1) := by decide +kernel
theorem dX2_howManyOweNothing_20 : decode cX2_howManyOweNothing 20 = .ok (.getfield 26, 3) := by decide +kernel
theorem dX2_howManyOweNothing_23 : decode cX2_howManyOweNothing 23 = .ok (.iload_n 2, 1) := by decide +kernel
theorem dX2_howManyOweNothing_24 : decode cX2_howManyOweNothing 24 = .ok (.iaload, 1) := by decide +kernel
theorem dX2_howManyOweNothing_25 : decode cX2_howManyOweNothing 25 = .ok (.ifCond .ne 7, 3) := by decide +kernel
theorem dX2_howManyOweNothing_28 : decode cX2_howManyOweNothing 28 = .ok (.iconst 1, 1) := by decide +kernel
theorem dX2_howManyOweNothing_29 : decode cX2_howManyOweNothing 29 = .ok (.goto 4, 3) := by decide +kernel
theorem dX2_howManyOweNothing_32 : decode cX2_howManyOweNothing 32 = .ok (.iconst 0, 1) := by decide +kernel
theorem dX2_howManyOweNothing_33 : decode cX2_howManyOweNothing 33 = .ok (.iadd, 1) := by decide +kernel
theorem dX2_howManyOweNothing_34 : decode cX2_howManyOweNothing 34 = .ok (.istore_n 1, 1) := by decide +kernel
theorem dX2_howManyOweNothing_35 : decode cX2_howManyOweNothing 35 = .ok (.iinc 2 1, 3) := by decide +kernel
theorem dX2_howManyOweNothing_38 : decode cX2_howManyOweNothing 38 = .ok (.goto (-34), 3) := by decide +kernel
theorem dX2_howManyOweNothing_41 : decode cX2_howManyOweNothing 41 = .ok (.iload_n 1, 1) := by decide +kernel
theorem dX2_howManyOweNothing_42 : decode cX2_howManyOweNothing 42 = .ok (.ireturn, 1) := by decide +kernel
theorem dX2_mustServe_0 : decode cX2_mustServe 0 = .ok (.aload_n 0, 1) := by decide +kernel
theorem dX2_mustServe_1 : decode cX2_mustServe 1 = .ok (.iload_n 1, 1) := by decide +kernel
theorem dX2_mustServe_2 : decode cX2_mustServe 2 = .ok (.invokevirtual 52, 3) := by decide +kernel
theorem dX2_mustServe_5 : decode cX2_mustServe 5 = .ok (.ifCond .eq 25, 3) := by decide +kernel
theorem dX2_mustServe_8 : decode cX2_mustServe 8 = .ok (.aload_n 0, 1) := by decide +kernel
theorem dX2_mustServe_9 : decode cX2_mustServe 9 = .ok (.getfield 26, 3) := by decide +kernel
theorem dX2_mustServe_12 : decode cX2_mustServe 12 = .ok (.iload_n 1, 1) := by decide +kernel
theorem dX2_mustServe_13 : decode cX2_mustServe 13 = .ok (.iaload, 1) := by decide +kernel
theorem dX2_mustServe_14 : decode cX2_mustServe 14 = .ok (.ifCond .le 16, 3) := by decide +kernel
theorem dX2_mustServe_17 : decode cX2_mustServe 17 = .ok (.aload_n 0, 1) := by decide +kernel
theorem dX2_mustServe_18 : decode cX2_mustServe 18 = .ok (.getfield 32, 3) := by decide +kernel
theorem dX2_mustServe_21 : decode cX2_mustServe 21 = .ok (.iload_n 1, 1) := by decide +kernel
theorem dX2_mustServe_22 : decode cX2_mustServe 22 = .ok (.baload, 1) := by decide +kernel
theorem dX2_mustServe_23 : decode cX2_mustServe 23 = .ok (.ifCond .ne 7, 3) := by decide +kernel
theorem dX2_mustServe_26 : decode cX2_mustServe 26 = .ok (.iconst 1, 1) := by decide +kernel
theorem dX2_mustServe_27 : decode cX2_mustServe 27 = .ok (.goto 4, 3) := by decide +kernel
theorem dX2_mustServe_30 : decode cX2_mustServe 30 = .ok (.iconst 0, 1) := by decide +kernel
theorem dX2_mustServe_31 : decode cX2_mustServe 31 = .ok (.ireturn, 1) := by decide +kernel
theorem dX2_owedByAll_0 : decode cX2_owedByAll 0 = .ok (.iconst 0, 1) := by decide +kernel
theorem dX2_owedByAll_1 : decode cX2_owedByAll 1 = .ok (.istore_n 1, 1) := by decide +kernel
theorem dX2_owedByAll_2 : decode cX2_owedByAll 2 = .ok (.iconst 0, 1) := by decide +kernel
theorem dX2_owedByAll_3 : decode cX2_owedByAll 3 = .ok (.istore_n 2, 1) := by decide +kernel
theorem dX2_owedByAll_4 : decode cX2_owedByAll 4 = .ok (.iload_n 2, 1) := by decide +kernel
theorem dX2_owedByAll_5 : decode cX2_owedByAll 5 = .ok (.bipush 10, 2) := by decide +kernel
theorem dX2_owedByAll_7 : decode cX2_owedByAll 7 = .ok (.if_icmp .ge 18, 3) := by decide +kernel
theorem dX2_owedByAll_10 : decode cX2_owedByAll 10 = .ok (.iload_n 1, 1) := by decide +kernel
theorem dX2_owedByAll_11 : decode cX2_owedByAll 11 = .ok (.aload_n 0, 1) := by decide +kernel
theorem dX2_owedByAll_12 : decode cX2_owedByAll 12 = .ok (.getfield 26, 3) := by decide +kernel
theorem dX2_owedByAll_15 : decode cX2_owedByAll 15 = .ok (.iload_n 2, 1) := by decide +kernel
theorem dX2_owedByAll_16 : decode cX2_owedByAll 16 = .ok (.iaload, 1) := by decide +kernel
theorem dX2_owedByAll_17 : decode cX2_owedByAll 17 = .ok (.iadd, 1) := by decide +kernel
theorem dX2_owedByAll_18 : decode cX2_owedByAll 18 = .ok (.istore_n 1, 1) := by decide +kernel
theorem dX2_owedByAll_19 : decode cX2_owedByAll 19 = .ok (.iinc 2 1, 3) := by decide +kernel
theorem dX2_owedByAll_22 : decode cX2_owedByAll 22 = .ok (.goto (-18), 3) := by decide +kernel
theorem dX2_owedByAll_25 : decode cX2_owedByAll 25 = .ok (.iload_n 1, 1) := by decide +kernel
theorem dX2_owedByAll_26 : decode cX2_owedByAll 26 = .ok (.ireturn, 1) := by decide +kernel
theorem dX2_setFelon_0 : decode cX2_setFelon 0 = .ok (.iload_n 1, 1) := by decide +kernel
theorem dX2_setFelon_1 : decode cX2_setFelon 1 = .ok (.ifCond .lt 37, 3) := by decide +kernel
theorem dX2_setFelon_4 : decode cX2_setFelon 4 = .ok (.iload_n 1, 1) := by decide +kernel
theorem dX2_setFelon_5 : decode cX2_setFelon 5 = .ok (.bipush 10, 2) := by decide +kernel
theorem dX2_setFelon_7 : decode cX2_setFelon 7 = .ok (.if_icmp .ge 31, 3) := by decide +kernel
theorem dX2_setFelon_10 : decode cX2_setFelon 10 = .ok (.aload_n 0, 1) := by decide +kernel
theorem dX2_setFelon_11 : decode cX2_setFelon 11 = .ok (.getfield 23, 3) := by decide +kernel
theorem dX2_setFelon_14 : decode cX2_setFelon 14 = .ok (.iload_n 1, 1) := by decide +kernel
theorem dX2_setFelon_15 : decode cX2_setFelon 15 = .ok (.iload_n 2, 1) := by decide +kernel
theorem dX2_setFelon_16 : decode cX2_setFelon 16 = .ok (.iastore, 1) := by decide +kernel
theorem dX2_setFelon_17 : decode cX2_setFelon 17 = .ok (.aload_n 0, 1) := by decide +kernel
theorem dX2_setFelon_18 : decode cX2_setFelon 18 = .ok (.getfield 26, 3) := by decide +kernel
theorem dX2_setFelon_21 : decode cX2_setFelon 21 = .ok (.iload_n 1, 1) := by decide +kernel
theorem dX2_setFelon_22 : decode cX2_setFelon 22 = .ok (.iload_n 3, 1) := by decide +kernel
theorem dX2_setFelon_23 : decode cX2_setFelon 23 = .ok (.iastore, 1) := by decide +kernel
theorem dX2_setFelon_24 : decode cX2_setFelon 24 = .ok (.aload_n 0, 1) := by decide +kernel
theorem dX2_setFelon_25 : decode cX2_setFelon 25 = .ok (.getfield 29, 3) := by decide +kernel
theorem dX2_setFelon_28 : decode cX2_setFelon 28 = .ok (.iload_n 1, 1) := by decide +kernel
theorem dX2_setFelon_29 : decode cX2_setFelon 29 = .ok (.iconst 0, 1) := by decide +kernel
theorem dX2_setFelon_30 : decode cX2_setFelon 30 = .ok (.iastore, 1) := by decide +kernel
theorem dX2_setFelon_31 : decode cX2_setFelon 31 = .ok (.aload_n 0, 1) := by decide +kernel
theorem dX2_setFelon_32 : decode cX2_setFelon 32 = .ok (.getfield 32, 3) := by decide +kernel
theorem dX2_setFelon_35 : decode cX2_setFelon 35 = .ok (.iload_n 1, 1) := by decide +kernel
theorem dX2_setFelon_36 : decode cX2_setFelon 36 = .ok (.iconst 0, 1) := by decide +kernel
theorem dX2_setFelon_37 : decode cX2_setFelon 37 = .ok (.bastore, 1) := by decide +kernel
theorem dX2_setFelon_38 : decode cX2_setFelon 38 = .ok (.return_, 1) := by decide +kernel
theorem dX2_setWalk_0 : decode cX2_setWalk 0 = .ok (.iload_n 1, 1) := by decide +kernel
theorem dX2_setWalk_1 : decode cX2_setWalk 1 = .ok (.ifCond .lt 26, 3) := by decide +kernel
theorem dX2_setWalk_4 : decode cX2_setWalk 4 = .ok (.iload_n 1, 1) := by decide +kernel
theorem dX2_setWalk_5 : decode cX2_setWalk 5 = .ok (.iconst 2, 1) := by decide +kernel
theorem dX2_setWalk_6 : decode cX2_setWalk 6 = .ok (.if_icmp .ge 21, 3) := by decide +kernel
theorem dX2_setWalk_9 : decode cX2_setWalk 9 = .ok (.aload_n 2, 1) := by decide +kernel
theorem dX2_setWalk_10 : decode cX2_setWalk 10 = .ok (.ifnull 17, 3) := by decide +kernel
theorem dX2_setWalk_13 : decode cX2_setWalk 13 = .ok (.aload_n 0, 1) := by decide +kernel
theorem dX2_setWalk_14 : decode cX2_setWalk 14 = .ok (.getfield 17, 3) := by decide +kernel
theorem dX2_setWalk_17 : decode cX2_setWalk 17 = .ok (.iload_n 1, 1) := by decide +kernel
theorem dX2_setWalk_18 : decode cX2_setWalk 18 = .ok (.aload_n 2, 1) := by decide +kernel
theorem dX2_setWalk_19 : decode cX2_setWalk 19 = .ok (.aastore, 1) := by decide +kernel
theorem dX2_setWalk_20 : decode cX2_setWalk 20 = .ok (.aload_n 0, 1) := by decide +kernel
theorem dX2_setWalk_21 : decode cX2_setWalk 21 = .ok (.getfield 20, 3) := by decide +kernel
theorem dX2_setWalk_24 : decode cX2_setWalk 24 = .ok (.iload_n 1, 1) := by decide +kernel
theorem dX2_setWalk_25 : decode cX2_setWalk 25 = .ok (.iconst 0, 1) := by decide +kernel
theorem dX2_setWalk_26 : decode cX2_setWalk 26 = .ok (.iastore, 1) := by decide +kernel
theorem dX2_setWalk_27 : decode cX2_setWalk 27 = .ok (.return_, 1) := by decide +kernel
theorem dX2_stepsLeft_0 : decode cX2_stepsLeft 0 = .ok (.iload_n 1, 1) := by decide +kernel
theorem dX2_stepsLeft_1 : decode cX2_stepsLeft 1 = .ok (.ifCond .lt 25, 3) := by decide +kernel
theorem dX2_stepsLeft_4 : decode cX2_stepsLeft 4 = .ok (.iload_n 1, 1) := by decide +kernel
theorem dX2_stepsLeft_5 : decode cX2_stepsLeft 5 = .ok (.iconst 2, 1) := by decide +kernel
theorem dX2_stepsLeft_6 : decode cX2_stepsLeft 6 = .ok (.if_icmp .ge 20, 3) := by decide +kernel
theorem dX2_stepsLeft_9 : decode cX2_stepsLeft 9 = .ok (.aload_n 0, 1) := by decide +kernel
theorem dX2_stepsLeft_10 : decode cX2_stepsLeft 10 = .ok (.getfield 17, 3) := by decide +kernel
theorem dX2_stepsLeft_13 : decode cX2_stepsLeft 13 = .ok (.iload_n 1, 1) := by decide +kernel
theorem dX2_stepsLeft_14 : decode cX2_stepsLeft 14 = .ok (.aaload, 1) := by decide +kernel
theorem dX2_stepsLeft_15 : decode cX2_stepsLeft 15 = .ok (.arraylength, 1) := by decide +kernel
theorem dX2_stepsLeft_16 : decode cX2_stepsLeft 16 = .ok (.aload_n 0, 1) := by decide +kernel
theorem dX2_stepsLeft_17 : decode cX2_stepsLeft 17 = .ok (.getfield 20, 3) := by decide +kernel
theorem dX2_stepsLeft_20 : decode cX2_stepsLeft 20 = .ok (.iload_n 1, 1) := by decide +kernel
theorem dX2_stepsLeft_21 : decode cX2_stepsLeft 21 = .ok (.iaload, 1) := by decide +kernel
theorem dX2_stepsLeft_22 : decode cX2_stepsLeft 22 = .ok (.isub, 1) := by decide +kernel
theorem dX2_stepsLeft_23 : decode cX2_stepsLeft 23 = .ok (.goto 4, 3) := by decide +kernel
theorem dX2_stepsLeft_26 : decode cX2_stepsLeft 26 = .ok (.iconst 0, 1) := by decide +kernel
theorem dX2_stepsLeft_27 : decode cX2_stepsLeft 27 = .ok (.ireturn, 1) := by decide +kernel
theorem dX2_takeStep_0 : decode cX2_takeStep 0 = .ok (.aload_n 0, 1) := by decide +kernel
theorem dX2_takeStep_1 : decode cX2_takeStep 1 = .ok (.iload_n 1, 1) := by decide +kernel
theorem dX2_takeStep_2 : decode cX2_takeStep 2 = .ok (.invokevirtual 56, 3) := by decide +kernel
theorem dX2_takeStep_5 : decode cX2_takeStep 5 = .ok (.ifCond .le 12, 3) := by decide +kernel
theorem dX2_takeStep_8 : decode cX2_takeStep 8 = .ok (.aload_n 0, 1) := by decide +kernel
theorem dX2_takeStep_9 : decode cX2_takeStep 9 = .ok (.getfield 20, 3) := by decide +kernel
theorem dX2_takeStep_12 : decode cX2_takeStep 12 = .ok (.iload_n 1, 1) := by decide +kernel
theorem dX2_takeStep_13 : decode cX2_takeStep 13 = .ok (.iaload, 1) := by decide +kernel
theorem dX2_takeStep_14 : decode cX2_takeStep 14 = .ok (.ifCond .ge 5, 3) := by decide +kernel
theorem dX2_takeStep_17 : decode cX2_takeStep 17 = .ok (.iconst 4, 1) := by decide +kernel
theorem dX2_takeStep_18 : decode cX2_takeStep 18 = .ok (.ireturn, 1) := by decide +kernel
theorem dX2_takeStep_19 : decode cX2_takeStep 19 = .ok (.aload_n 0, 1) := by decide +kernel
theorem dX2_takeStep_20 : decode cX2_takeStep 20 = .ok (.getfield 17, 3) := by decide +kernel
theorem dX2_takeStep_23 : decode cX2_takeStep 23 = .ok (.iload_n 1, 1) := by decide +kernel
theorem dX2_takeStep_24 : decode cX2_takeStep 24 = .ok (.aaload, 1) := by decide +kernel
theorem dX2_takeStep_25 : decode cX2_takeStep 25 = .ok (.aload_n 0, 1) := by decide +kernel
theorem dX2_takeStep_26 : decode cX2_takeStep 26 = .ok (.getfield 20, 3) := by decide +kernel
theorem dX2_takeStep_29 : decode cX2_takeStep 29 = .ok (.iload_n 1, 1) := by decide +kernel
theorem dX2_takeStep_30 : decode cX2_takeStep 30 = .ok (.iaload, 1) := by decide +kernel
theorem dX2_takeStep_31 : decode cX2_takeStep 31 = .ok (.iaload, 1) := by decide +kernel
theorem dX2_takeStep_32 : decode cX2_takeStep 32 = .ok (.istore_n 2, 1) := by decide +kernel
theorem dX2_takeStep_33 : decode cX2_takeStep 33 = .ok (.aload_n 0, 1) := by decide +kernel
theorem dX2_takeStep_34 : decode cX2_takeStep 34 = .ok (.getfield 20, 3) := by decide +kernel
theorem dX2_takeStep_37 : decode cX2_takeStep 37 = .ok (.iload_n 1, 1) := by decide +kernel
theorem dX2_takeStep_38 : decode cX2_takeStep 38 = .ok (.dup2, 1) := by decide +kernel
theorem dX2_takeStep_39 : decode cX2_takeStep 39 = .ok (.iaload, 1) := by decide +kernel
theorem dX2_takeStep_40 : decode cX2_takeStep 40 = .ok (.iconst 1, 1) := by decide +kernel
theorem dX2_takeStep_41 : decode cX2_takeStep 41 = .ok (.iadd, 1) := by decide +kernel
theorem dX2_takeStep_42 : decode cX2_takeStep 42 = .ok (.iastore, 1) := by decide +kernel
theorem dX2_takeStep_43 : decode cX2_takeStep 43 = .ok (.iload_n 2, 1) := by decide +kernel
theorem dX2_takeStep_44 : decode cX2_takeStep 44 = .ok (.ireturn, 1) := by decide +kernel


set_option maxHeartbeats 4000000 in
set_option maxRecDepth 100000 in
theorem c_X2_hasFelon (l : Launch) (D : va_G) (g : xG) (T : Nat × Nat × Nat) (h0 : Nat) (s0 : xS) (hσ : xRR s0) (d : Nat) (hd : xDay d) (f : Int) (rf : xR f) (p0 : IC s0) : Met l yX2_hasFelon (xws yX2_hasFelon cX2_hasFelon 2 (some .boolean)) { frames := 0, cells := 0, slots := 0, locals := 0 } (xP [.ref (h0 + d), .int (xJ f)] D g T h0 s0) (xQi D g h0 (fun r τ => s0 = τ ∧ (r = 0 ∨ (r = 1 ∧ 0 ≤ f ∧ f < 10)))) 0 0 (xA h0) := by
  refine x_met hσ (by decide) (Nat.le_of_ble_eq_true rfl) ?_
  intro p e s m args below meth c hx hb hr hml hown hT hlk hnm hE hW ls hl
  have hl : lv_has ls 2 [(0, .ref (h0 + d)), (1, .int (xJ f))] := hl
  obtain ⟨Q, eQ⟩ : ∃ Q, Q = MQ below (xQi D g h0 (fun r τ => s0 = τ ∧ (r = 0 ∨ (r = 1 ∧ 0 ≤ f ∧ f < 10)))) args s 0 0 (xA h0) := ⟨_, rfl⟩
  rw [← eQ]
  generalize hHe : ([] : List Loc) = locs at hW ⊢
  obtain ⟨H, eH⟩ : ∃ H, H = s.heap := ⟨_, rfl⟩
  rw [← eH] at hW ⊢
  have hbd : (136 ≤ d ∧ d < 209) ∧ (d ≤ 146 ∨ 158 ≤ d) := by unfold xDay at hd; omega
  have k1_1 : s0 1 1 = s0 1 1 := rfl
  refine x_iload_n hx hb hl 1 rfl dX2_hasFelon_0 rfl ?_
  refine x_if_lt (tgt := 24) hx hb rf dX2_hasFelon_1 (by decide) (fun c1 => ?_) (fun c1 => ?_)
  · skip
    refine x_iconst hx hb dX2_hasFelon_24 ?_
    rw [eQ]
    exact x_zret hx hb hr hlk hW (by omega) ⟨rfl, by omega⟩ dX2_hasFelon_25
  refine x_iload_n hx hb hl 1 rfl dX2_hasFelon_4 rfl ?_
  refine x_bipush hx hb dX2_hasFelon_5 (by decide) ?_
  refine x_icmp_ge (tgt := 24) hx hb rf (by decide) dX2_hasFelon_7 (by decide) (fun c2 => ?_) (fun c2 => ?_)
  · skip
    refine x_iconst hx hb dX2_hasFelon_24 ?_
    rw [eQ]
    exact x_zret hx hb hr hlk hW (by omega) ⟨rfl, by omega⟩ dX2_hasFelon_25
  refine x_aload_n hx hb hl 0 rfl dX2_hasFelon_10 rfl ?_
  refine x_get (j := 3) (v := .ref (h0 + (d + 6))) hx hb hown hT hE hW cls_X2 (Or.inl (by omega)) (so_day0 h0 g hd _) (by decide) rfl wq388 dX2_hasFelon_11 ?_
  refine x_iload_n hx hb hl 1 rfl dX2_hasFelon_14 rfl ?_
  refine x_iald hx hb hE hW (Or.inl (by omega)) (sa_day6 h0 g hd _) (by omega) (by decide) dX2_hasFelon_15 ?_
  refine x_rd hW (fun x3 ex3 rx3 => ?_)
  refine x_iconst hx hb dX2_hasFelon_16 ?_
  refine x_icmp_eq (tgt := 24) hx hb rx3 (by decide) dX2_hasFelon_17 (by decide) (fun c4 => ?_) (fun c4 => ?_)
  · skip
    refine x_iconst hx hb dX2_hasFelon_24 ?_
    rw [eQ]
    exact x_zret hx hb hr hlk hW (by omega) ⟨rfl, by omega⟩ dX2_hasFelon_25
  refine x_iconst hx hb dX2_hasFelon_20 ?_
  refine lv_goto (tgt := 25) hx hb dX2_hasFelon_21 (by decide) ?_
  rw [eQ]
  exact x_zret hx hb hr hlk hW (by omega) ⟨rfl, by omega⟩ dX2_hasFelon_25
set_option maxHeartbeats 4000000 in
set_option maxRecDepth 100000 in
theorem c_X2_stepsLeft (l : Launch) (D : va_G) (g : xG) (T : Nat × Nat × Nat) (h0 : Nat) (s0 : xS) (hσ : xRR s0) (d : Nat) (hd : xDay d) (j : Int) (rj : xR j) (p0 : IC s0) : Met l yX2_stepsLeft (xws yX2_stepsLeft cX2_stepsLeft 2 (some .int)) { frames := 0, cells := 0, slots := 0, locals := 0 } (xP [.ref (h0 + d), .int (xJ j)] D g T h0 s0) (xQi D g h0 (fun r τ => s0 = τ ∧ ((0 ≤ j ∧ j < 2 ∧ r = (xlen s0 (s0 (d + 2) j).toNat : Int) - s0 (d + 5) j) ∨ ((j < 0 ∨ 2 ≤ j) ∧ r = 0)))) 0 0 (xA h0) := by
  refine x_met hσ (by decide) (Nat.le_of_ble_eq_true rfl) ?_
  intro p e s m args below meth c hx hb hr hml hown hT hlk hnm hE hW ls hl
  have hl : lv_has ls 2 [(0, .ref (h0 + d)), (1, .int (xJ j))] := hl
  obtain ⟨Q, eQ⟩ : ∃ Q, Q = MQ below (xQi D g h0 (fun r τ => s0 = τ ∧ ((0 ≤ j ∧ j < 2 ∧ r = (xlen s0 (s0 (d + 2) j).toNat : Int) - s0 (d + 5) j) ∨ ((j < 0 ∨ 2 ≤ j) ∧ r = 0)))) args s 0 0 (xA h0) := ⟨_, rfl⟩
  rw [← eQ]
  generalize hHe : ([] : List Loc) = locs at hW ⊢
  obtain ⟨H, eH⟩ : ∃ H, H = s.heap := ⟨_, rfl⟩
  rw [← eH] at hW ⊢
  have hbd : (136 ≤ d ∧ d < 209) ∧ (d ≤ 146 ∨ 158 ≤ d) := by unfold xDay at hd; omega
  have k1_1 : s0 1 1 = s0 1 1 := rfl
  refine x_iload_n hx hb hl 1 rfl dX2_stepsLeft_0 rfl ?_
  refine x_if_lt (tgt := 26) hx hb rj dX2_stepsLeft_1 (by decide) (fun c1 => ?_) (fun c1 => ?_)
  · skip
    refine x_iconst hx hb dX2_stepsLeft_26 ?_
    rw [eQ]
    exact x_iret hx hb hr hlk hW (by decide) ⟨rfl, by omega⟩ dX2_stepsLeft_27
  refine x_iload_n hx hb hl 1 rfl dX2_stepsLeft_4 rfl ?_
  refine x_iconst hx hb dX2_stepsLeft_5 ?_
  refine x_icmp_ge (tgt := 26) hx hb rj (by decide) dX2_stepsLeft_6 (by decide) (fun c2 => ?_) (fun c2 => ?_)
  · skip
    refine x_iconst hx hb dX2_stepsLeft_26 ?_
    rw [eQ]
    exact x_iret hx hb hr hlk hW (by decide) ⟨rfl, by omega⟩ dX2_stepsLeft_27
  refine x_aload_n hx hb hl 0 rfl dX2_stepsLeft_9 rfl ?_
  refine x_get (j := 1) (v := .ref (h0 + (d + 2))) hx hb hown hT hE hW cls_X2 (Or.inl (by omega)) (so_day0 h0 g hd _) (by decide) rfl wq386 dX2_stepsLeft_10 ?_
  refine x_iload_n hx hb hl 1 rfl dX2_stepsLeft_13 rfl ?_
  refine x_aaldR (t0 := 3) (n := 2) (r := (s0 (d + 2) j).toNat) hx hb hE hW (by omega) rfl rfl (sg_day2 h0 g hd _) (by omega) (by decide) (by rw [xrow_day hd, Int.toNat_of_nonneg (by omega)]) dX2_stepsLeft_14 ?_
  obtain ⟨v3, ev3, rv3⟩ : ∃ v : Int, v = s0 (d + 2) j ∧ xR v := ⟨_, rfl, hW.2.1 _ _⟩
  have zv3 : (xlen s0 v3.toNat : Int) = xlen s0 (s0 (d + 2) j).toNat := by rw [ev3]
  have yv3 := xlen_le hW.2.1 v3.toNat
  rw [← ev3]
  refine x_alenW hx hb hE hW (by rw [ev3]; exact IC.w p0 hd _ (by omega) (by omega)) dX2_stepsLeft_15 (fun x4 ex4 bx4 => ?_)
  refine x_aload_n hx hb hl 0 rfl dX2_stepsLeft_16 rfl ?_
  refine x_get (j := 2) (v := .ref (h0 + (d + 5))) hx hb hown hT hE hW cls_X2 (Or.inl (by omega)) (so_day0 h0 g hd _) (by decide) rfl wq387 dX2_stepsLeft_17 ?_
  refine x_iload_n hx hb hl 1 rfl dX2_stepsLeft_20 rfl ?_
  refine x_iald hx hb hE hW (Or.inl (by omega)) (sa_day5 h0 g hd _) (by omega) (by decide) dX2_stepsLeft_21 ?_
  refine x_rd hW (fun x5 ex5 rx5 => ?_)
  have bx5 : 0 ≤ x5 := by rw [ex5]; exact IC.p p0 hd _ (by omega) (by omega)
  refine x_isub hx hb dX2_stepsLeft_22 ?_
  refine lv_goto (tgt := 27) hx hb dX2_stepsLeft_23 (by decide) ?_
  rw [eQ]
  exact x_iret hx hb hr hlk hW (by omega) ⟨rfl, by omega⟩ dX2_stepsLeft_27

theorem cls_X0 : xCls RX0 TX0 6 0 tyX0 := ⟨xin [363, 365, 367, 369, 371, 373] (by decide +kernel) (by decide +kernel), rfl, tyX0_ok, nmX0⟩
theorem cls_X7 : xCls RX7 TX7 4 7 tyX7 := ⟨xin [342, 344, 346, 348] (by decide +kernel) (by decide +kernel), rfl, tyX7_ok, nmX7⟩
theorem st_X7_3 (h0 : Nat) (σ : xS) (k : Nat) (a : Int) : xobj h0 (xU σ k 3 a) k 7 = (xobj h0 σ k 7).set 3 (.int (xJ a)) := by simp [xobj, xU]
theorem ln_X7_3 (h0 : Nat) (σ : xS) (k : Nat) : 3 < (xobj h0 σ k 7).length := by simp [xobj]
theorem cf_X0_cast : xCF yX0_cast cX0_cast 6 none 3 := ⟨xq 825 (by decide +kernel) rfl, xq 174 (by decide +kernel) rfl, by decide +kernel⟩
theorem cf_X0_castCloudless : xCF yX0_castCloudless cX0_castCloudless 2 none 1 := ⟨xq 944 (by decide +kernel) rfl, xq 174 (by decide +kernel) rfl, by decide +kernel⟩
theorem cf_X0_castOfLamp : xCF yX0_castOfLamp cX0_castOfLamp 6 none 2 := ⟨xq 846 (by decide +kernel) rfl, xq 174 (by decide +kernel) rfl, by decide +kernel⟩
theorem cf_X0_felonsGo : xCF yX0_felonsGo cX0_felonsGo 8 none 3 := ⟨xq 876 (by decide +kernel) rfl, xq 174 (by decide +kernel) rfl, by decide +kernel⟩
theorem cf_X0_findShadow : xCF yX0_findShadow cX0_findShadow 9 (some .int) 3 := ⟨xq 884 (by decide +kernel) rfl, xq 174 (by decide +kernel) rfl, by decide +kernel⟩
theorem cf_X0_judgesStep : xCF yX0_judgesStep cX0_judgesStep 5 none 1 := ⟨xq 770 (by decide +kernel) rfl, xq 174 (by decide +kernel) rfl, by decide +kernel⟩
theorem cf_X0_lineUp : xCF yX0_lineUp cX0_lineUp 7 (some .int) 2 := ⟨xq 855 (by decide +kernel) rfl, xq 174 (by decide +kernel) rfl, by decide +kernel⟩
theorem cf_X0_reachOf : xCF yX0_reachOf cX0_reachOf 3 (some .int) 2 := ⟨xq 880 (by decide +kernel) rfl, xq 174 (by decide +kernel) rfl, by decide +kernel⟩
theorem cf_X0_tellFelon : xCF yX0_tellFelon cX0_tellFelon 4 none 2 := ⟨xq 867 (by decide +kernel) rfl, xq 174 (by decide +kernel) rfl, by decide +kernel⟩
theorem cf_X10_holds : xCF yX10_holds cX10_holds 3 (some .boolean) 2 := ⟨xq 851 (by decide +kernel) rfl, xq 168 (by decide +kernel) rfl, by decide +kernel⟩
theorem cf_X2_draw : xCF yX2_draw cX2_draw 1 (some .int) 0 := ⟨xq 798 (by decide +kernel) rfl, xq 176 (by decide +kernel) rfl, by decide +kernel⟩
theorem cf_X2_hasJudge : xCF yX2_hasJudge cX2_hasJudge 2 (some .boolean) 1 := ⟨xq 774 (by decide +kernel) rfl, xq 176 (by decide +kernel) rfl, by decide +kernel⟩
theorem cf_X2_mustServe : xCF yX2_mustServe cX2_mustServe 2 (some .boolean) 1 := ⟨xq 859 (by decide +kernel) rfl, xq 176 (by decide +kernel) rfl, by decide +kernel⟩
theorem cf_X2_owedByAll : xCF yX2_owedByAll cX2_owedByAll 3 (some .int) 0 := ⟨xq 766 (by decide +kernel) rfl, xq 176 (by decide +kernel) rfl, by decide +kernel⟩
theorem cf_X2_takeStep : xCF yX2_takeStep cX2_takeStep 3 (some .int) 1 := ⟨xq 778 (by decide +kernel) rfl, xq 176 (by decide +kernel) rfl, by decide +kernel⟩
theorem cf_X4_isNight : xCF yX4_isNight cX4_isNight 3 (some .boolean) 1 := ⟨xq 820 (by decide +kernel) rfl, xq 171 (by decide +kernel) rfl, by decide +kernel⟩
theorem cf_X4_tellFelon : xCF yX4_tellFelon cX4_tellFelon 6 none 5 := ⟨xq 872 (by decide +kernel) rfl, xq 171 (by decide +kernel) rfl, by decide +kernel⟩
theorem cf_X4_tellJudge : xCF yX4_tellJudge cX4_tellJudge 3 none 2 := ⟨xq 836 (by decide +kernel) rfl, xq 171 (by decide +kernel) rfl, by decide +kernel⟩
theorem cf_X4_worthOf : xCF yX4_worthOf cX4_worthOf 4 (some .int) 2 := ⟨xq 803 (by decide +kernel) rfl, xq 171 (by decide +kernel) rfl, by decide +kernel⟩
theorem cf_X6_stepsBetween : xCF yX6_stepsBetween cX6_stepsBetween 3 (some .int) 2 := ⟨xq 889 (by decide +kernel) rfl, xq 170 (by decide +kernel) rfl, by decide +kernel⟩
theorem cf_X7_clear : xCF yX7_clear cX7_clear 3 none 0 := ⟨xq 829 (by decide +kernel) rfl, xq 175 (by decide +kernel) rfl, by decide +kernel⟩
theorem cf_X7_fall : xCF yX7_fall cX7_fall 7 none 4 := ⟨xq 840 (by decide +kernel) rfl, xq 175 (by decide +kernel) rfl, by decide +kernel⟩
theorem cf_X7_layersAt : xCF yX7_layersAt cX7_layersAt 2 (some .int) 1 := ⟨xq 900 (by decide +kernel) rfl, xq 175 (by decide +kernel) rfl, by decide +kernel⟩
theorem wq35 : Cond.selects yX2_owedByAll.cls yX2_owedByAll yX2_owedByAll ∈ xTB := xq 35 (by decide +kernel) rfl
theorem wq36 : Cond.selects yX0_judgesStep.cls yX0_judgesStep yX0_judgesStep ∈ xTB := xq 36 (by decide +kernel) rfl
theorem wq37 : Cond.selects yX2_hasJudge.cls yX2_hasJudge yX2_hasJudge ∈ xTB := xq 37 (by decide +kernel) rfl
theorem wq38 : Cond.selects yX2_takeStep.cls yX2_takeStep yX2_takeStep ∈ xTB := xq 38 (by decide +kernel) rfl
theorem wq41 : Cond.selects yX2_draw.cls yX2_draw yX2_draw ∈ xTB := xq 41 (by decide +kernel) rfl
theorem wq42 : Cond.selects yX4_worthOf.cls yX4_worthOf yX4_worthOf ∈ xTB := xq 42 (by decide +kernel) rfl
theorem wq45 : Cond.selects yX4_isNight.cls yX4_isNight yX4_isNight ∈ xTB := xq 45 (by decide +kernel) rfl
theorem wq46 : Cond.selects yX0_cast.cls yX0_cast yX0_cast ∈ xTB := xq 46 (by decide +kernel) rfl
theorem wq47 : Cond.selects yX7_clear.cls yX7_clear yX7_clear ∈ xTB := xq 47 (by decide +kernel) rfl
theorem wq48 : Cond.selects yX4_tellJudge.cls yX4_tellJudge yX4_tellJudge ∈ xTB := xq 48 (by decide +kernel) rfl
theorem wq49 : Cond.selects yX7_fall.cls yX7_fall yX7_fall ∈ xTB := xq 49 (by decide +kernel) rfl
theorem wq50 : Cond.selects yX0_castOfLamp.cls yX0_castOfLamp yX0_castOfLamp ∈ xTB := xq 50 (by decide +kernel) rfl
theorem wq51 : Cond.selects yX0_lineUp.cls yX0_lineUp yX0_lineUp ∈ xTB := xq 51 (by decide +kernel) rfl
theorem wq52 : Cond.selects yX2_mustServe.cls yX2_mustServe yX2_mustServe ∈ xTB := xq 52 (by decide +kernel) rfl
theorem wq54 : Cond.selects yX0_tellFelon.cls yX0_tellFelon yX0_tellFelon ∈ xTB := xq 54 (by decide +kernel) rfl
theorem wq55 : Cond.selects yX4_tellFelon.cls yX4_tellFelon yX4_tellFelon ∈ xTB := xq 55 (by decide +kernel) rfl
theorem wq56 : Cond.selects yX0_felonsGo.cls yX0_felonsGo yX0_felonsGo ∈ xTB := xq 56 (by decide +kernel) rfl
theorem wq57 : Cond.selects yX0_reachOf.cls yX0_reachOf yX0_reachOf ∈ xTB := xq 57 (by decide +kernel) rfl
theorem wq58 : Cond.selects yX0_findShadow.cls yX0_findShadow yX0_findShadow ∈ xTB := xq 58 (by decide +kernel) rfl
theorem wq59 : Cond.selects yX6_stepsBetween.cls yX6_stepsBetween yX6_stepsBetween ∈ xTB := xq 59 (by decide +kernel) rfl
theorem wq61 : Cond.selects yX7_layersAt.cls yX7_layersAt yX7_layersAt ∈ xTB := xq 61 (by decide +kernel) rfl
theorem wq69 : Cond.selects yX0_castCloudless.cls yX0_castCloudless yX0_castCloudless ∈ xTB := xq 69 (by decide +kernel) rfl
theorem wq330 : Cond.fieldLink "ShadowCourt$Shadows" (9) "ShadowCourt$Shadows" "layers" "[I" ∈ xTB := xq 330 (by decide +kernel) rfl
theorem wq331 : Cond.fieldLink "ShadowCourt$Shadows" (15) "ShadowCourt$Shadows" "spots" "[I" ∈ xTB := xq 331 (by decide +kernel) rfl
theorem wq335 : Cond.fieldLink "ShadowCourt$Shadows" (18) "ShadowCourt$Shadows" "isTaken" "[Z" ∈ xTB := xq 335 (by decide +kernel) rfl
theorem wq337 : Cond.fieldLink "ShadowCourt$Shadows" (22) "ShadowCourt$Shadows" "size" "I" ∈ xTB := xq 337 (by decide +kernel) rfl
theorem wq351 : Cond.fieldLink "ShadowCourt$Clock" (9) "ShadowCourt$Clock" "market" "LShadowCourt$Market;" ∈ xTB := xq 351 (by decide +kernel) rfl
theorem wq354 : Cond.fieldLink "ShadowCourt$Clock" (15) "ShadowCourt$Clock" "law" "LShadowCourt$Law;" ∈ xTB := xq 354 (by decide +kernel) rfl
theorem wq355 : Cond.fieldLink "ShadowCourt$Clock" (19) "ShadowCourt$Clock" "lampSpot" "[I" ∈ xTB := xq 355 (by decide +kernel) rfl
theorem wq357 : Cond.fieldLink "ShadowCourt$Clock" (26) "ShadowCourt$Clock" "shadows" "LShadowCourt$Shadows;" ∈ xTB := xq 357 (by decide +kernel) rfl
theorem wq361 : Cond.fieldLink "ShadowCourt$Clock" (30) "ShadowCourt$Clock" "line" "[I" ∈ xTB := xq 361 (by decide +kernel) rfl
theorem wq362 : Cond.fieldLink "ShadowCourt$Clock" (33) "ShadowCourt$Clock" "ranks" "[I" ∈ xTB := xq 362 (by decide +kernel) rfl
theorem wq765 : Cond.instanceMethod yX2_owedByAll ∈ xTB := xq 765 (by decide +kernel) rfl
theorem wq767 : Cond.methodLink "ShadowCourt$Clock" (46) yX0_judgesStep ∈ xTB := xq 767 (by decide +kernel) rfl
theorem wq769 : Cond.instanceMethod yX0_judgesStep ∈ xTB := xq 769 (by decide +kernel) rfl
theorem wq773 : Cond.instanceMethod yX2_hasJudge ∈ xTB := xq 773 (by decide +kernel) rfl
theorem wq777 : Cond.instanceMethod yX2_takeStep ∈ xTB := xq 777 (by decide +kernel) rfl
theorem wq797 : Cond.instanceMethod yX2_draw ∈ xTB := xq 797 (by decide +kernel) rfl
theorem wq802 : Cond.instanceMethod yX4_worthOf ∈ xTB := xq 802 (by decide +kernel) rfl
theorem wq819 : Cond.instanceMethod yX4_isNight ∈ xTB := xq 819 (by decide +kernel) rfl
theorem wq822 : Cond.methodLink "ShadowCourt$Clock" (70) yX0_cast ∈ xTB := xq 822 (by decide +kernel) rfl
theorem wq824 : Cond.instanceMethod yX0_cast ∈ xTB := xq 824 (by decide +kernel) rfl
theorem wq828 : Cond.instanceMethod yX7_clear ∈ xTB := xq 828 (by decide +kernel) rfl
theorem wq835 : Cond.instanceMethod yX4_tellJudge ∈ xTB := xq 835 (by decide +kernel) rfl
theorem wq839 : Cond.instanceMethod yX7_fall ∈ xTB := xq 839 (by decide +kernel) rfl
theorem wq843 : Cond.methodLink "ShadowCourt$Clock" (111) yX0_castOfLamp ∈ xTB := xq 843 (by decide +kernel) rfl
theorem wq845 : Cond.instanceMethod yX0_castOfLamp ∈ xTB := xq 845 (by decide +kernel) rfl
theorem wq850 : Cond.static yX10_holds ∈ xTB := xq 850 (by decide +kernel) rfl
theorem wq852 : Cond.methodLink "ShadowCourt$Clock" (74) yX0_lineUp ∈ xTB := xq 852 (by decide +kernel) rfl
theorem wq854 : Cond.instanceMethod yX0_lineUp ∈ xTB := xq 854 (by decide +kernel) rfl
theorem wq858 : Cond.instanceMethod yX2_mustServe ∈ xTB := xq 858 (by decide +kernel) rfl
theorem wq864 : Cond.methodLink "ShadowCourt$Clock" (150) yX0_tellFelon ∈ xTB := xq 864 (by decide +kernel) rfl
theorem wq866 : Cond.instanceMethod yX0_tellFelon ∈ xTB := xq 866 (by decide +kernel) rfl
theorem wq871 : Cond.instanceMethod yX4_tellFelon ∈ xTB := xq 871 (by decide +kernel) rfl
theorem wq873 : Cond.methodLink "ShadowCourt$Clock" (78) yX0_felonsGo ∈ xTB := xq 873 (by decide +kernel) rfl
theorem wq875 : Cond.instanceMethod yX0_felonsGo ∈ xTB := xq 875 (by decide +kernel) rfl
theorem wq877 : Cond.methodLink "ShadowCourt$Clock" (155) yX0_reachOf ∈ xTB := xq 877 (by decide +kernel) rfl
theorem wq879 : Cond.instanceMethod yX0_reachOf ∈ xTB := xq 879 (by decide +kernel) rfl
theorem wq881 : Cond.methodLink "ShadowCourt$Clock" (158) yX0_findShadow ∈ xTB := xq 881 (by decide +kernel) rfl
theorem wq883 : Cond.instanceMethod yX0_findShadow ∈ xTB := xq 883 (by decide +kernel) rfl
theorem wq888 : Cond.instanceMethod yX6_stepsBetween ∈ xTB := xq 888 (by decide +kernel) rfl
theorem wq896 : Cond.methodLink "ShadowCourt$Clock" (168) (⟨"java/lang/Math", "min", "(II)I"⟩ : MethodName) ∈ xTB := xq 896 (by decide +kernel) rfl
theorem wq899 : Cond.instanceMethod yX7_layersAt ∈ xTB := xq 899 (by decide +kernel) rfl
theorem wq901 : Cond.methodLink "ShadowCourt$Clock" (177) (⟨"java/lang/Math", "max", "(II)I"⟩ : MethodName) ∈ xTB := xq 901 (by decide +kernel) rfl
theorem wq941 : Cond.methodLink "ShadowCourt$Clock" (128) yX0_castCloudless ∈ xTB := xq 941 (by decide +kernel) rfl
theorem wq943 : Cond.instanceMethod yX0_castCloudless ∈ xTB := xq 943 (by decide +kernel) rfl
theorem wq980 : Cond.methodLink "ShadowCourt$Shadows" (40) yX7_layersAt ∈ xTB := xq 980 (by decide +kernel) rfl
theorem wn334 : Cond.fieldLinkNest "ShadowCourt$Clock" (183) "ShadowCourt$Shadows" "spots" "[I" "ShadowCourt" ∈ xNL := xn 334 (by decide +kernel) rfl
theorem wn336 : Cond.fieldLinkNest "ShadowCourt$Clock" (173) "ShadowCourt$Shadows" "isTaken" "[Z" "ShadowCourt" ∈ xNL := xn 336 (by decide +kernel) rfl
theorem wn340 : Cond.fieldLinkNest "ShadowCourt$Clock" (125) "ShadowCourt$Shadows" "size" "I" "ShadowCourt" ∈ xNL := xn 340 (by decide +kernel) rfl
theorem wn384 : Cond.fieldLinkNest "ShadowCourt$Clock" (89) "ShadowCourt$Day" "judgeSpot" "[I" "ShadowCourt" ∈ xNL := xn 384 (by decide +kernel) rfl
theorem wn390 : Cond.fieldLinkNest "ShadowCourt$Clock" (137) "ShadowCourt$Day" "felonSpot" "[I" "ShadowCourt" ∈ xNL := xn 390 (by decide +kernel) rfl
theorem wn393 : Cond.fieldLinkNest "ShadowCourt$Clock" (140) "ShadowCourt$Day" "owed" "[I" "ShadowCourt" ∈ xNL := xn 393 (by decide +kernel) rfl
theorem wn396 : Cond.fieldLinkNest "ShadowCourt$Clock" (143) "ShadowCourt$Day" "away" "[I" "ShadowCourt" ∈ xNL := xn 396 (by decide +kernel) rfl
theorem wn400 : Cond.fieldLinkNest "ShadowCourt$Clock" (180) "ShadowCourt$Day" "drowned" "[Z" "ShadowCourt" ∈ xNL := xn 400 (by decide +kernel) rfl
theorem wn402 : Cond.fieldLinkNest "ShadowCourt$Clock" (42) "ShadowCourt$Day" "minute" "I" "ShadowCourt" ∈ xNL := xn 402 (by decide +kernel) rfl
theorem wn408 : Cond.fieldLinkNest "ShadowCourt$Clock" (165) "ShadowCourt$Day" "timesAway" "I" "ShadowCourt" ∈ xNL := xn 408 (by decide +kernel) rfl
theorem wn410 : Cond.fieldLinkNest "ShadowCourt$Clock" (63) "ShadowCourt$Day" "cloudyMinutes" "I" "ShadowCourt" ∈ xNL := xn 410 (by decide +kernel) rfl
theorem wn414 : Cond.fieldLinkNest "ShadowCourt$Clock" (189) "ShadowCourt$Day" "felonSteps" "I" "ShadowCourt" ∈ xNL := xn 414 (by decide +kernel) rfl
theorem wn763 : Cond.methodLinkNest "ShadowCourt$Clock" (36) yX2_owedByAll "ShadowCourt" ∈ xNL := xn 763 (by decide +kernel) rfl
theorem wn771 : Cond.methodLinkNest "ShadowCourt$Clock" (82) yX2_hasJudge "ShadowCourt" ∈ xNL := xn 771 (by decide +kernel) rfl
theorem wn775 : Cond.methodLinkNest "ShadowCourt$Clock" (85) yX2_takeStep "ShadowCourt" ∈ xNL := xn 775 (by decide +kernel) rfl
theorem wn783 : Cond.methodLinkNest "ShadowCourt$Clock" (92) yX6_beside "ShadowCourt" ∈ xNL := xn 783 (by decide +kernel) rfl
theorem wn790 : Cond.methodLinkNest "ShadowCourt$Clock" (97) yX6_isOpen "ShadowCourt" ∈ xNL := xn 790 (by decide +kernel) rfl
theorem wn791 : Cond.methodLinkNest "ShadowCourt$Clock" (50) yX4_tellMinute "ShadowCourt" ∈ xNL := xn 791 (by decide +kernel) rfl
theorem wn795 : Cond.methodLinkNest "ShadowCourt$Clock" (56) yX2_draw "ShadowCourt" ∈ xNL := xn 795 (by decide +kernel) rfl
theorem wn800 : Cond.methodLinkNest "ShadowCourt$Clock" (59) yX4_worthOf "ShadowCourt" ∈ xNL := xn 800 (by decide +kernel) rfl
theorem wn817 : Cond.methodLinkNest "ShadowCourt$Clock" (66) yX4_isNight "ShadowCourt" ∈ xNL := xn 817 (by decide +kernel) rfl
theorem wn826 : Cond.methodLinkNest "ShadowCourt$Clock" (100) yX7_clear "ShadowCourt" ∈ xNL := xn 826 (by decide +kernel) rfl
theorem wn830 : Cond.methodLinkNest "ShadowCourt$Shadows" (26) yX6_isSpot "ShadowCourt" ∈ xNL := xn 830 (by decide +kernel) rfl
theorem wn833 : Cond.methodLinkNest "ShadowCourt$Clock" (103) yX4_tellJudge "ShadowCourt" ∈ xNL := xn 833 (by decide +kernel) rfl
theorem wn837 : Cond.methodLinkNest "ShadowCourt$Clock" (107) yX7_fall "ShadowCourt" ∈ xNL := xn 837 (by decide +kernel) rfl
theorem wn841 : Cond.methodLinkNest "ShadowCourt$Shadows" (32) yX6_beside "ShadowCourt" ∈ xNL := xn 841 (by decide +kernel) rfl
theorem wn842 : Cond.methodLinkNest "ShadowCourt$Shadows" (36) yX6_kindAt "ShadowCourt" ∈ xNL := xn 842 (by decide +kernel) rfl
theorem wn847 : Cond.fieldLinkNest "ShadowCourt$Clock" (115) "ShadowCourt" "WAY_X" "[I" "ShadowCourt" ∈ xNL := xn 847 (by decide +kernel) rfl
theorem wn848 : Cond.methodLinkNest "ShadowCourt$Clock" (118) yX6_kindAt "ShadowCourt" ∈ xNL := xn 848 (by decide +kernel) rfl
theorem wn849 : Cond.methodLinkNest "ShadowCourt$Clock" (121) yX10_holds "ShadowCourt" ∈ xNL := xn 849 (by decide +kernel) rfl
theorem wn856 : Cond.methodLinkNest "ShadowCourt$Clock" (152) yX2_mustServe "ShadowCourt" ∈ xNL := xn 856 (by decide +kernel) rfl
theorem wn868 : Cond.methodLinkNest "ShadowCourt$Clock" (134) yX2_hasFelon "ShadowCourt" ∈ xNL := xn 868 (by decide +kernel) rfl
theorem wn869 : Cond.methodLinkNest "ShadowCourt$Clock" (146) yX4_tellFelon "ShadowCourt" ∈ xNL := xn 869 (by decide +kernel) rfl
theorem wn885 : Cond.methodLinkNest "ShadowCourt$Clock" (162) yX6_isSpot "ShadowCourt" ∈ xNL := xn 885 (by decide +kernel) rfl
theorem wn886 : Cond.methodLinkNest "ShadowCourt$Clock" (186) yX6_stepsBetween "ShadowCourt" ∈ xNL := xn 886 (by decide +kernel) rfl
theorem wn897 : Cond.methodLinkNest "ShadowCourt$Clock" (131) yX7_layersAt "ShadowCourt" ∈ xNL := xn 897 (by decide +kernel) rfl
theorem dX0_cast_0 : decode cX0_cast 0 = .ok (.aload_n 0, 1) := by decide +kernel
theorem dX0_cast_1 : decode cX0_cast 1 = .ok (.getfield 26, 3) := by decide +kernel
theorem dX0_cast_4 : decode cX0_cast 4 = .ok (.invokevirtual 100, 3) := by decide +kernel
theorem dX0_cast_7 : decode cX0_cast 7 = .ok (.iconst 0, 1) := by decide +kernel
theorem dX0_cast_8 : decode cX0_cast 8 = .ok (.istore 4, 2) := by decide +kernel
theorem dX0_cast_10 : decode cX0_cast 10 = .ok (.iload 4, 2) := by decide +kernel
theorem dX0_cast_12 : decode cX0_cast 12 = .ok (.iconst 2, 1) := by decide +kernel
theorem dX0_cast_13 : decode cX0_cast 13 = .ok (.if_icmp .ge 84, 3) := by decide +kernel
theorem dX0_cast_16 : decode cX0_cast 16 = .ok (.iload_n 2, 1) := by decide +kernel
theorem dX0_cast_17 : decode cX0_cast 17 = .ok (.ifCond .eq 80, 3) := by decide +kernel
theorem dX0_cast_20 : decode cX0_cast 20 = .ok (.aload_n 1, 1) := by decide +kernel
theorem dX0_cast_21 : decode cX0_cast 21 = .ok (.iload 4, 2) := by decide +kernel
theorem dX0_cast_23 : decode cX0_cast 23 = .ok (.invokevirtual 82, 3) := by decide +kernel
theorem dX0_cast_26 : decode cX0_cast 26 = .ok (.ifCond .eq 65, 3) := by decide +kernel
theorem dX0_cast_29 : decode cX0_cast 29 = .ok (.aload_n 0, 1) := by decide +kernel
theorem dX0_cast_30 : decode cX0_cast 30 = .ok (.getfield 15, 3) := by decide +kernel
theorem dX0_cast_33 : decode cX0_cast 33 = .ok (.aload_n 1, 1) := by decide +kernel
theorem dX0_cast_34 : decode cX0_cast 34 = .ok (.getfield 42, 3) := by decide +kernel
theorem dX0_cast_37 : decode cX0_cast 37 = .ok (.iload 4, 2) := by decide +kernel
theorem dX0_cast_39 : decode cX0_cast 39 = .ok (.invokevirtual 103, 3) := by decide +kernel
theorem dX0_cast_42 : decode cX0_cast 42 = .ok (.aload_n 0, 1) := by decide +kernel
theorem dX0_cast_43 : decode cX0_cast 43 = .ok (.getfield 15, 3) := by decide +kernel
theorem dX0_cast_46 : decode cX0_cast 46 = .ok (.bipush 108, 2) := by decide +kernel
theorem dX0_cast_48 : decode cX0_cast 48 = .ok (.bipush 9, 2) := by decide +kernel
theorem dX0_cast_50 : decode cX0_cast 50 = .ok (.invokevirtual 59, 3) := by decide +kernel
theorem dX0_cast_53 : decode cX0_cast 53 = .ok (.istore 5, 2) := by decide +kernel
theorem dX0_cast_55 : decode cX0_cast 55 = .ok (.iload 5, 2) := by decide +kernel
theorem dX0_cast_57 : decode cX0_cast 57 = .ok (.ifCond .le 34, 3) := by decide +kernel
theorem dX0_cast_60 : decode cX0_cast 60 = .ok (.aload_n 0, 1) := by decide +kernel
theorem dX0_cast_61 : decode cX0_cast 61 = .ok (.getfield 26, 3) := by decide +kernel
theorem dX0_cast_64 : decode cX0_cast 64 = .ok (.aload_n 0, 1) := by decide +kernel
theorem dX0_cast_65 : decode cX0_cast 65 = .ok (.getfield 9, 3) := by decide +kernel
theorem dX0_cast_68 : decode cX0_cast 68 = .ok (.aload_n 1, 1) := by decide +kernel
theorem dX0_cast_69 : decode cX0_cast 69 = .ok (.getfield 89, 3) := by decide +kernel
theorem dX0_cast_72 : decode cX0_cast 72 = .ok (.iload 4, 2) := by decide +kernel
theorem dX0_cast_74 : decode cX0_cast 74 = .ok (.iaload, 1) := by decide +kernel
theorem dX0_cast_75 : decode cX0_cast 75 = .ok (.aload_n 0, 1) := by decide +kernel
theorem dX0_cast_76 : decode cX0_cast 76 = .ok (.getfield 15, 3) := by decide +kernel
theorem dX0_cast_79 : decode cX0_cast 79 = .ok (.bipush 97, 2) := by decide +kernel
theorem dX0_cast_81 : decode cX0_cast 81 = .ok (.bipush 7, 2) := by decide +kernel
theorem dX0_cast_83 : decode cX0_cast 83 = .ok (.invokevirtual 59, 3) := by decide +kernel
theorem dX0_cast_86 : decode cX0_cast 86 = .ok (.iload 5, 2) := by decide +kernel
theorem dX0_cast_88 : decode cX0_cast 88 = .ok (.invokevirtual 107, 3) := by decide +kernel
theorem dX0_cast_91 : decode cX0_cast 91 = .ok (.iinc 4 1, 3) := by decide +kernel
theorem dX0_cast_94 : decode cX0_cast 94 = .ok (.goto (-84), 3) := by decide +kernel
theorem dX0_cast_97 : decode cX0_cast 97 = .ok (.iconst 0, 1) := by decide +kernel
theorem dX0_cast_98 : decode cX0_cast 98 = .ok (.istore 4, 2) := by decide +kernel
theorem dX0_cast_100 : decode cX0_cast 100 = .ok (.iload 4, 2) := by decide +kernel
theorem dX0_cast_102 : decode cX0_cast 102 = .ok (.iconst 4, 1) := by decide +kernel
theorem dX0_cast_103 : decode cX0_cast 103 = .ok (.if_icmp .ge 25, 3) := by decide +kernel
theorem dX0_cast_106 : decode cX0_cast 106 = .ok (.iload_n 3, 1) := by decide +kernel
theorem dX0_cast_107 : decode cX0_cast 107 = .ok (.ifCond .eq 21, 3) := by decide +kernel
theorem dX0_cast_110 : decode cX0_cast 110 = .ok (.aload_n 0, 1) := by decide +kernel
theorem dX0_cast_111 : decode cX0_cast 111 = .ok (.aload_n 1, 1) := by decide +kernel
theorem dX0_cast_112 : decode cX0_cast 112 = .ok (.aload_n 0, 1) := by decide +kernel
theorem dX0_cast_113 : decode cX0_cast 113 = .ok (.getfield 19, 3) := by decide +kernel
theorem dX0_cast_116 : decode cX0_cast 116 = .ok (.iload 4, 2) := by decide +kernel
theorem dX0_cast_118 : decode cX0_cast 118 = .ok (.iaload, 1) := by decide +kernel
theorem dX0_cast_119 : decode cX0_cast 119 = .ok (.invokevirtual 111, 3) := by decide +kernel
theorem dX0_cast_122 : decode cX0_cast 122 = .ok (.iinc 4 1, 3) := by decide +kernel
theorem dX0_cast_125 : decode cX0_cast 125 = .ok (.goto (-25), 3) := by decide +kernel
theorem dX0_cast_128 : decode cX0_cast 128 = .ok (.return_, 1) := by decide +kernel
theorem dX0_castCloudless_0 : decode cX0_castCloudless 0 = .ok (.aload_n 0, 1) := by decide +kernel
theorem dX0_castCloudless_1 : decode cX0_castCloudless 1 = .ok (.aload_n 1, 1) := by decide +kernel
theorem dX0_castCloudless_2 : decode cX0_castCloudless 2 = .ok (.iconst 1, 1) := by decide +kernel
theorem dX0_castCloudless_3 : decode cX0_castCloudless 3 = .ok (.aload_n 0, 1) := by decide +kernel
theorem dX0_castCloudless_4 : decode cX0_castCloudless 4 = .ok (.getfield 15, 3) := by decide +kernel
theorem dX0_castCloudless_7 : decode cX0_castCloudless 7 = .ok (.aload_n 1, 1) := by decide +kernel
theorem dX0_castCloudless_8 : decode cX0_castCloudless 8 = .ok (.getfield 42, 3) := by decide +kernel
theorem dX0_castCloudless_11 : decode cX0_castCloudless 11 = .ok (.invokevirtual 66, 3) := by decide +kernel
theorem dX0_castCloudless_14 : decode cX0_castCloudless 14 = .ok (.invokevirtual 70, 3) := by decide +kernel
theorem dX0_castCloudless_17 : decode cX0_castCloudless 17 = .ok (.return_, 1) := by decide +kernel
theorem dX0_castOfLamp_0 : decode cX0_castOfLamp 0 = .ok (.iconst 0, 1) := by decide +kernel
theorem dX0_castOfLamp_1 : decode cX0_castOfLamp 1 = .ok (.istore_n 3, 1) := by decide +kernel
theorem dX0_castOfLamp_2 : decode cX0_castOfLamp 2 = .ok (.iload_n 3, 1) := by decide +kernel
theorem dX0_castOfLamp_3 : decode cX0_castOfLamp 3 = .ok (.getstatic 115, 3) := by decide +kernel
theorem dX0_castOfLamp_6 : decode cX0_castOfLamp 6 = .ok (.arraylength, 1) := by decide +kernel
theorem dX0_castOfLamp_7 : decode cX0_castOfLamp 7 = .ok (.if_icmp .ge 83, 3) := by decide +kernel
theorem dX0_castOfLamp_10 : decode cX0_castOfLamp 10 = .ok (.iload_n 2, 1) := by decide +kernel
theorem dX0_castOfLamp_11 : decode cX0_castOfLamp 11 = .ok (.iconst (-1), 1) := by decide +kernel
theorem dX0_castOfLamp_12 : decode cX0_castOfLamp 12 = .ok (.if_icmp .eq 78, 3) := by decide +kernel
theorem dX0_castOfLamp_15 : decode cX0_castOfLamp 15 = .ok (.iload_n 2, 1) := by decide +kernel
theorem dX0_castOfLamp_16 : decode cX0_castOfLamp 16 = .ok (.istore 4, 2) := by decide +kernel
theorem dX0_castOfLamp_18 : decode cX0_castOfLamp 18 = .ok (.iconst 0, 1) := by decide +kernel
theorem dX0_castOfLamp_19 : decode cX0_castOfLamp 19 = .ok (.istore 5, 2) := by decide +kernel
theorem dX0_castOfLamp_21 : decode cX0_castOfLamp 21 = .ok (.iload 5, 2) := by decide +kernel
theorem dX0_castOfLamp_23 : decode cX0_castOfLamp 23 = .ok (.iconst 4, 1) := by decide +kernel
theorem dX0_castOfLamp_24 : decode cX0_castOfLamp 24 = .ok (.if_icmp .ge 60, 3) := by decide +kernel
theorem dX0_castOfLamp_27 : decode cX0_castOfLamp 27 = .ok (.iload 4, 2) := by decide +kernel
theorem dX0_castOfLamp_29 : decode cX0_castOfLamp 29 = .ok (.iload_n 3, 1) := by decide +kernel
theorem dX0_castOfLamp_30 : decode cX0_castOfLamp 30 = .ok (.invokestatic 92, 3) := by decide +kernel
theorem dX0_castOfLamp_33 : decode cX0_castOfLamp 33 = .ok (.istore 4, 2) := by decide +kernel
theorem dX0_castOfLamp_35 : decode cX0_castOfLamp 35 = .ok (.aload_n 0, 1) := by decide +kernel
theorem dX0_castOfLamp_36 : decode cX0_castOfLamp 36 = .ok (.getfield 9, 3) := by decide +kernel
theorem dX0_castOfLamp_39 : decode cX0_castOfLamp 39 = .ok (.iload 4, 2) := by decide +kernel
theorem dX0_castOfLamp_41 : decode cX0_castOfLamp 41 = .ok (.invokevirtual 118, 3) := by decide +kernel
theorem dX0_castOfLamp_44 : decode cX0_castOfLamp 44 = .ok (.iconst 1, 1) := by decide +kernel
theorem dX0_castOfLamp_45 : decode cX0_castOfLamp 45 = .ok (.if_icmp .ne 6, 3) := by decide +kernel
theorem dX0_castOfLamp_48 : decode cX0_castOfLamp 48 = .ok (.goto 36, 3) := by decide +kernel
theorem dX0_castOfLamp_51 : decode cX0_castOfLamp 51 = .ok (.aload_n 1, 1) := by decide +kernel
theorem dX0_castOfLamp_52 : decode cX0_castOfLamp 52 = .ok (.getfield 89, 3) := by decide +kernel
theorem dX0_castOfLamp_55 : decode cX0_castOfLamp 55 = .ok (.iload 4, 2) := by decide +kernel
theorem dX0_castOfLamp_57 : decode cX0_castOfLamp 57 = .ok (.invokestatic 121, 3) := by decide +kernel
theorem dX0_castOfLamp_60 : decode cX0_castOfLamp 60 = .ok (.ifCond .eq 18, 3) := by decide +kernel
theorem dX0_castOfLamp_63 : decode cX0_castOfLamp 63 = .ok (.aload_n 0, 1) := by decide +kernel
theorem dX0_castOfLamp_64 : decode cX0_castOfLamp 64 = .ok (.getfield 26, 3) := by decide +kernel
theorem dX0_castOfLamp_67 : decode cX0_castOfLamp 67 = .ok (.aload_n 0, 1) := by decide +kernel
theorem dX0_castOfLamp_68 : decode cX0_castOfLamp 68 = .ok (.getfield 9, 3) := by decide +kernel
theorem dX0_castOfLamp_71 : decode cX0_castOfLamp 71 = .ok (.iload 4, 2) := by decide +kernel
theorem dX0_castOfLamp_73 : decode cX0_castOfLamp 73 = .ok (.iload_n 3, 1) := by decide +kernel
theorem dX0_castOfLamp_74 : decode cX0_castOfLamp 74 = .ok (.iconst 2, 1) := by decide +kernel
theorem dX0_castOfLamp_75 : decode cX0_castOfLamp 75 = .ok (.invokevirtual 107, 3) := by decide +kernel
theorem dX0_castOfLamp_78 : decode cX0_castOfLamp 78 = .ok (.iinc 5 1, 3) := by decide +kernel
theorem dX0_castOfLamp_81 : decode cX0_castOfLamp 81 = .ok (.goto (-60), 3) := by decide +kernel
theorem dX0_castOfLamp_84 : decode cX0_castOfLamp 84 = .ok (.iinc 3 1, 3) := by decide +kernel
theorem dX0_castOfLamp_87 : decode cX0_castOfLamp 87 = .ok (.goto (-85), 3) := by decide +kernel
theorem dX0_castOfLamp_90 : decode cX0_castOfLamp 90 = .ok (.return_, 1) := by decide +kernel
theorem dX0_felonsGo_0 : decode cX0_felonsGo 0 = .ok (.iconst 0, 1) := by decide +kernel
theorem dX0_felonsGo_1 : decode cX0_felonsGo 1 = .ok (.istore 4, 2) := by decide +kernel
theorem dX0_felonsGo_3 : decode cX0_felonsGo 3 = .ok (.iload 4, 2) := by decide +kernel
theorem dX0_felonsGo_5 : decode cX0_felonsGo 5 = .ok (.iload_n 2, 1) := by decide +kernel
theorem dX0_felonsGo_6 : decode cX0_felonsGo 6 = .ok (.if_icmp .ge 203, 3) := by decide +kernel
theorem dX0_felonsGo_9 : decode cX0_felonsGo 9 = .ok (.iload 4, 2) := by decide +kernel
theorem dX0_felonsGo_11 : decode cX0_felonsGo 11 = .ok (.bipush 10, 2) := by decide +kernel
theorem dX0_felonsGo_13 : decode cX0_felonsGo 13 = .ok (.if_icmp .ge 196, 3) := by decide +kernel
theorem dX0_felonsGo_16 : decode cX0_felonsGo 16 = .ok (.aload_n 0, 1) := by decide +kernel
theorem dX0_felonsGo_17 : decode cX0_felonsGo 17 = .ok (.getfield 30, 3) := by decide +kernel
theorem dX0_felonsGo_20 : decode cX0_felonsGo 20 = .ok (.iload 4, 2) := by decide +kernel
theorem dX0_felonsGo_22 : decode cX0_felonsGo 22 = .ok (.iaload, 1) := by decide +kernel
theorem dX0_felonsGo_23 : decode cX0_felonsGo 23 = .ok (.istore 5, 2) := by decide +kernel
theorem dX0_felonsGo_25 : decode cX0_felonsGo 25 = .ok (.aload_n 1, 1) := by decide +kernel
theorem dX0_felonsGo_26 : decode cX0_felonsGo 26 = .ok (.iload 5, 2) := by decide +kernel
theorem dX0_felonsGo_28 : decode cX0_felonsGo 28 = .ok (.invokevirtual 134, 3) := by decide +kernel
theorem dX0_felonsGo_31 : decode cX0_felonsGo 31 = .ok (.ifCond .ne 6, 3) := by decide +kernel
theorem dX0_felonsGo_37 : decode cX0_felonsGo 37 = .ok (.aload_n 0, 1) := by decide +kernel
theorem dX0_felonsGo_38 : decode cX0_felonsGo 38 = .ok (.getfield 26, 3) := by decide +kernel
theorem dX0_felonsGo_41 : decode cX0_felonsGo 41 = .ok (.getfield 125, 3) := by decide +kernel
theorem dX0_felonsGo_44 : decode cX0_felonsGo 44 = .ok (.ifCond .le 20, 3) := by decide +kernel
theorem dX0_felonsGo_47 : decode cX0_felonsGo 47 = .ok (.aload_n 0, 1) := by decide +kernel
theorem dX0_felonsGo_48 : decode cX0_felonsGo 48 = .ok (.aload_n 1, 1) := by decide +kernel
theorem dX0_felonsGo_49 : decode cX0_felonsGo 49 = .ok (.iload 5, 2) := by decide +kernel
theorem dX0_felonsGo_51 : decode cX0_felonsGo 51 = .ok (.aload_n 0, 1) := by decide +kernel
theorem dX0_felonsGo_52 : decode cX0_felonsGo 52 = .ok (.aload_n 1, 1) := by decide +kernel
theorem dX0_felonsGo_53 : decode cX0_felonsGo 53 = .ok (.iload 5, 2) := by decide +kernel
theorem dX0_felonsGo_55 : decode cX0_felonsGo 55 = .ok (.invokevirtual 155, 3) := by decide +kernel
theorem dX0_felonsGo_58 : decode cX0_felonsGo 58 = .ok (.invokevirtual 158, 3) := by decide +kernel
theorem dX0_felonsGo_61 : decode cX0_felonsGo 61 = .ok (.goto 4, 3) := by decide +kernel
theorem dX0_felonsGo_64 : decode cX0_felonsGo 64 = .ok (.iconst (-1), 1) := by decide +kernel
theorem dX0_felonsGo_65 : decode cX0_felonsGo 65 = .ok (.istore 6, 2) := by decide +kernel
theorem dX0_felonsGo_67 : decode cX0_felonsGo 67 = .ok (.iload 6, 2) := by decide +kernel
theorem dX0_felonsGo_69 : decode cX0_felonsGo 69 = .ok (.invokestatic 162, 3) := by decide +kernel
theorem dX0_felonsGo_72 : decode cX0_felonsGo 72 = .ok (.ifCond .ne 38, 3) := by decide +kernel
theorem dX0_felonsGo_75 : decode cX0_felonsGo 75 = .ok (.aload_n 1, 1) := by decide +kernel
theorem dX0_felonsGo_76 : decode cX0_felonsGo 76 = .ok (.dup, 1) := by decide +kernel
theorem dX0_felonsGo_77 : decode cX0_felonsGo 77 = .ok (.getfield 165, 3) := by decide +kernel
theorem dX0_felonsGo_80 : decode cX0_felonsGo 80 = .ok (.iconst 1, 1) := by decide +kernel
theorem dX0_felonsGo_81 : decode cX0_felonsGo 81 = .ok (.iadd, 1) := by decide +kernel
theorem dX0_felonsGo_82 : decode cX0_felonsGo 82 = .ok (.putfield 165, 3) := by decide +kernel
theorem dX0_felonsGo_85 : decode cX0_felonsGo 85 = .ok (.aload_n 1, 1) := by decide +kernel
theorem dX0_felonsGo_86 : decode cX0_felonsGo 86 = .ok (.getfield 143, 3) := by decide +kernel
theorem dX0_felonsGo_89 : decode cX0_felonsGo 89 = .ok (.iload 5, 2) := by decide +kernel
theorem dX0_felonsGo_91 : decode cX0_felonsGo 91 = .ok (.aload_n 1, 1) := by decide +kernel
theorem dX0_felonsGo_92 : decode cX0_felonsGo 92 = .ok (.getfield 143, 3) := by decide +kernel
theorem dX0_felonsGo_95 : decode cX0_felonsGo 95 = .ok (.iload 5, 2) := by decide +kernel
theorem dX0_felonsGo_97 : decode cX0_felonsGo 97 = .ok (.iaload, 1) := by decide +kernel
theorem dX0_felonsGo_98 : decode cX0_felonsGo 98 = .ok (.iconst 1, 1) := by decide +kernel
theorem dX0_felonsGo_99 : decode cX0_felonsGo 99 = .ok (.iadd, 1) := by decide +kernel
theorem dX0_felonsGo_100 : decode cX0_felonsGo 100 = .ok (.sipush 999, 3) := by decide +kernel
theorem dX0_felonsGo_103 : decode cX0_felonsGo 103 = .ok (.invokestatic 168, 3) := by decide +kernel
theorem dX0_felonsGo_106 : decode cX0_felonsGo 106 = .ok (.iastore, 1) := by decide +kernel
theorem dX0_felonsGo_107 : decode cX0_felonsGo 107 = .ok (.goto 96, 3) := by decide +kernel
theorem dX0_felonsGo_110 : decode cX0_felonsGo 110 = .ok (.aload_n 1, 1) := by decide +kernel
theorem dX0_felonsGo_111 : decode cX0_felonsGo 111 = .ok (.getfield 137, 3) := by decide +kernel
theorem dX0_felonsGo_114 : decode cX0_felonsGo 114 = .ok (.iload 5, 2) := by decide +kernel
theorem dX0_felonsGo_116 : decode cX0_felonsGo 116 = .ok (.iload 6, 2) := by decide +kernel
theorem dX0_felonsGo_118 : decode cX0_felonsGo 118 = .ok (.iastore, 1) := by decide +kernel
theorem dX0_felonsGo_119 : decode cX0_felonsGo 119 = .ok (.aload_n 0, 1) := by decide +kernel
theorem dX0_felonsGo_120 : decode cX0_felonsGo 120 = .ok (.getfield 26, 3) := by decide +kernel
theorem dX0_felonsGo_123 : decode cX0_felonsGo 123 = .ok (.getfield 173, 3) := by decide +kernel
theorem dX0_felonsGo_126 : decode cX0_felonsGo 126 = .ok (.iload 6, 2) := by decide +kernel
theorem dX0_felonsGo_128 : decode cX0_felonsGo 128 = .ok (.iconst 1, 1) := by decide +kernel
theorem dX0_felonsGo_129 : decode cX0_felonsGo 129 = .ok (.bastore, 1) := by decide +kernel
theorem dX0_felonsGo_130 : decode cX0_felonsGo 130 = .ok (.aload_n 0, 1) := by decide +kernel
theorem dX0_felonsGo_131 : decode cX0_felonsGo 131 = .ok (.getfield 26, 3) := by decide +kernel
theorem dX0_felonsGo_134 : decode cX0_felonsGo 134 = .ok (.iload 6, 2) := by decide +kernel
theorem dX0_felonsGo_136 : decode cX0_felonsGo 136 = .ok (.invokevirtual 131, 3) := by decide +kernel
theorem dX0_felonsGo_139 : decode cX0_felonsGo 139 = .ok (.istore 7, 2) := by decide +kernel
theorem dX0_felonsGo_141 : decode cX0_felonsGo 141 = .ok (.iload_n 3, 1) := by decide +kernel
theorem dX0_felonsGo_142 : decode cX0_felonsGo 142 = .ok (.ifCond .eq 19, 3) := by decide +kernel
theorem dX0_felonsGo_145 : decode cX0_felonsGo 145 = .ok (.aload_n 1, 1) := by decide +kernel
theorem dX0_felonsGo_146 : decode cX0_felonsGo 146 = .ok (.getfield 42, 3) := by decide +kernel
theorem dX0_felonsGo_149 : decode cX0_felonsGo 149 = .ok (.iconst 3, 1) := by decide +kernel
theorem dX0_felonsGo_150 : decode cX0_felonsGo 150 = .ok (.irem, 1) := by decide +kernel
theorem dX0_felonsGo_151 : decode cX0_felonsGo 151 = .ok (.ifCond .ne 7, 3) := by decide +kernel
theorem dX0_felonsGo_154 : decode cX0_felonsGo 154 = .ok (.iconst 1, 1) := by decide +kernel
theorem dX0_felonsGo_155 : decode cX0_felonsGo 155 = .ok (.goto 4, 3) := by decide +kernel
theorem dX0_felonsGo_158 : decode cX0_felonsGo 158 = .ok (.iconst 0, 1) := by decide +kernel
theorem dX0_felonsGo_159 : decode cX0_felonsGo 159 = .ok (.istore 7, 2) := by decide +kernel
theorem dX0_felonsGo_161 : decode cX0_felonsGo 161 = .ok (.aload_n 1, 1) := by decide +kernel
theorem dX0_felonsGo_162 : decode cX0_felonsGo 162 = .ok (.getfield 140, 3) := by decide +kernel
theorem dX0_felonsGo_165 : decode cX0_felonsGo 165 = .ok (.iload 5, 2) := by decide +kernel
theorem dX0_felonsGo_167 : decode cX0_felonsGo 167 = .ok (.aload_n 1, 1) := by decide +kernel
theorem dX0_felonsGo_168 : decode cX0_felonsGo 168 = .ok (.getfield 140, 3) := by decide +kernel
theorem dX0_felonsGo_171 : decode cX0_felonsGo 171 = .ok (.iload 5, 2) := by decide +kernel
theorem dX0_felonsGo_173 : decode cX0_felonsGo 173 = .ok (.iaload, 1) := by decide +kernel
theorem dX0_felonsGo_174 : decode cX0_felonsGo 174 = .ok (.iload 7, 2) := by decide +kernel
theorem dX0_felonsGo_176 : decode cX0_felonsGo 176 = .ok (.isub, 1) := by decide +kernel
theorem dX0_felonsGo_177 : decode cX0_felonsGo 177 = .ok (.iconst 0, 1) := by decide +kernel
theorem dX0_felonsGo_178 : decode cX0_felonsGo 178 = .ok (.invokestatic 177, 3) := by decide +kernel
theorem dX0_felonsGo_181 : decode cX0_felonsGo 181 = .ok (.iastore, 1) := by decide +kernel
theorem dX0_felonsGo_182 : decode cX0_felonsGo 182 = .ok (.aload_n 0, 1) := by decide +kernel
theorem dX0_felonsGo_183 : decode cX0_felonsGo 183 = .ok (.getfield 9, 3) := by decide +kernel
theorem dX0_felonsGo_186 : decode cX0_felonsGo 186 = .ok (.iload 6, 2) := by decide +kernel
theorem dX0_felonsGo_188 : decode cX0_felonsGo 188 = .ok (.invokevirtual 118, 3) := by decide +kernel
theorem dX0_felonsGo_191 : decode cX0_felonsGo 191 = .ok (.iconst 3, 1) := by decide +kernel
theorem dX0_felonsGo_192 : decode cX0_felonsGo 192 = .ok (.if_icmp .ne 11, 3) := by decide +kernel
theorem dX0_felonsGo_195 : decode cX0_felonsGo 195 = .ok (.aload_n 1, 1) := by decide +kernel
theorem dX0_felonsGo_196 : decode cX0_felonsGo 196 = .ok (.getfield 180, 3) := by decide +kernel
theorem dX0_felonsGo_199 : decode cX0_felonsGo 199 = .ok (.iload 5, 2) := by decide +kernel
theorem dX0_felonsGo_201 : decode cX0_felonsGo 201 = .ok (.iconst 1, 1) := by decide +kernel
theorem dX0_felonsGo_202 : decode cX0_felonsGo 202 = .ok (.bastore, 1) := by decide +kernel
theorem dX0_felonsGo_203 : decode cX0_felonsGo 203 = .ok (.iinc 4 1, 3) := by decide +kernel
theorem dX0_felonsGo_206 : decode cX0_felonsGo 206 = .ok (.goto (-203), 3) := by decide +kernel
theorem dX0_felonsGo_209 : decode cX0_felonsGo 209 = .ok (.return_, 1) := by decide +kernel
theorem dX0_findShadow_0 : decode cX0_findShadow 0 = .ok (.aload_n 1, 1) := by decide +kernel
theorem dX0_findShadow_1 : decode cX0_findShadow 1 = .ok (.iload_n 2, 1) := by decide +kernel
theorem dX0_findShadow_2 : decode cX0_findShadow 2 = .ok (.invokevirtual 134, 3) := by decide +kernel
theorem dX0_findShadow_5 : decode cX0_findShadow 5 = .ok (.ifCond .ne 5, 3) := by decide +kernel
theorem dX0_findShadow_10 : decode cX0_findShadow 10 = .ok (.iload_n 3, 1) := by decide +kernel
theorem dX0_findShadow_11 : decode cX0_findShadow 11 = .ok (.iconst 1, 1) := by decide +kernel
theorem dX0_findShadow_12 : decode cX0_findShadow 12 = .ok (.iadd, 1) := by decide +kernel
theorem dX0_findShadow_13 : decode cX0_findShadow 13 = .ok (.istore 4, 2) := by decide +kernel
theorem dX0_findShadow_15 : decode cX0_findShadow 15 = .ok (.iconst (-1), 1) := by decide +kernel
theorem dX0_findShadow_16 : decode cX0_findShadow 16 = .ok (.istore 5, 2) := by decide +kernel
theorem dX0_findShadow_18 : decode cX0_findShadow 18 = .ok (.iconst 0, 1) := by decide +kernel
theorem dX0_findShadow_19 : decode cX0_findShadow 19 = .ok (.istore 6, 2) := by decide +kernel
theorem dX0_findShadow_21 : decode cX0_findShadow 21 = .ok (.iload 6, 2) := by decide +kernel
theorem dX0_findShadow_23 : decode cX0_findShadow 23 = .ok (.aload_n 0, 1) := by decide +kernel
theorem dX0_findShadow_24 : decode cX0_findShadow 24 = .ok (.getfield 26, 3) := by decide +kernel
theorem dX0_findShadow_27 : decode cX0_findShadow 27 = .ok (.getfield 125, 3) := by decide +kernel
theorem dX0_findShadow_30 : decode cX0_findShadow 30 = .ok (.if_icmp .ge 98, 3) := by decide +kernel
theorem dX0_findShadow_33 : decode cX0_findShadow 33 = .ok (.iload 6, 2) := by decide +kernel
theorem dX0_findShadow_35 : decode cX0_findShadow 35 = .ok (.bipush 100, 2) := by decide +kernel
theorem dX0_findShadow_37 : decode cX0_findShadow 37 = .ok (.if_icmp .ge 91, 3) := by decide +kernel
theorem dX0_findShadow_40 : decode cX0_findShadow 40 = .ok (.aload_n 0, 1) := by decide +kernel
theorem dX0_findShadow_41 : decode cX0_findShadow 41 = .ok (.getfield 26, 3) := by decide +kernel
theorem dX0_findShadow_44 : decode cX0_findShadow 44 = .ok (.getfield 183, 3) := by decide +kernel
theorem dX0_findShadow_47 : decode cX0_findShadow 47 = .ok (.iload 6, 2) := by decide +kernel
theorem dX0_findShadow_49 : decode cX0_findShadow 49 = .ok (.iaload, 1) := by decide +kernel
theorem dX0_findShadow_50 : decode cX0_findShadow 50 = .ok (.istore 7, 2) := by decide +kernel
theorem dX0_findShadow_52 : decode cX0_findShadow 52 = .ok (.iload 7, 2) := by decide +kernel
theorem dX0_findShadow_54 : decode cX0_findShadow 54 = .ok (.invokestatic 162, 3) := by decide +kernel
theorem dX0_findShadow_57 : decode cX0_findShadow 57 = .ok (.ifCond .eq 65, 3) := by decide +kernel
theorem dX0_findShadow_60 : decode cX0_findShadow 60 = .ok (.aload_n 0, 1) := by decide +kernel
theorem dX0_findShadow_61 : decode cX0_findShadow 61 = .ok (.getfield 26, 3) := by decide +kernel
theorem dX0_findShadow_64 : decode cX0_findShadow 64 = .ok (.getfield 173, 3) := by decide +kernel
theorem dX0_findShadow_67 : decode cX0_findShadow 67 = .ok (.iload 7, 2) := by decide +kernel
theorem dX0_findShadow_69 : decode cX0_findShadow 69 = .ok (.baload, 1) := by decide +kernel
theorem dX0_findShadow_70 : decode cX0_findShadow 70 = .ok (.ifCond .eq 6, 3) := by decide +kernel
theorem dX0_findShadow_73 : decode cX0_findShadow 73 = .ok (.goto 49, 3) := by decide +kernel
theorem dX0_findShadow_76 : decode cX0_findShadow 76 = .ok (.aload_n 0, 1) := by decide +kernel
theorem dX0_findShadow_77 : decode cX0_findShadow 77 = .ok (.getfield 9, 3) := by decide +kernel
theorem dX0_findShadow_80 : decode cX0_findShadow 80 = .ok (.aload_n 1, 1) := by decide +kernel
theorem dX0_findShadow_81 : decode cX0_findShadow 81 = .ok (.getfield 137, 3) := by decide +kernel
theorem dX0_findShadow_84 : decode cX0_findShadow 84 = .ok (.iload_n 2, 1) := by decide +kernel
theorem dX0_findShadow_85 : decode cX0_findShadow 85 = .ok (.iaload, 1) := by decide +kernel
theorem dX0_findShadow_86 : decode cX0_findShadow 86 = .ok (.iload 7, 2) := by decide +kernel
theorem dX0_findShadow_88 : decode cX0_findShadow 88 = .ok (.invokevirtual 186, 3) := by decide +kernel
theorem dX0_findShadow_91 : decode cX0_findShadow 91 = .ok (.istore 8, 2) := by decide +kernel
theorem dX0_findShadow_93 : decode cX0_findShadow 93 = .ok (.iload 8, 2) := by decide +kernel
theorem dX0_findShadow_95 : decode cX0_findShadow 95 = .ok (.iload 4, 2) := by decide +kernel
theorem dX0_findShadow_97 : decode cX0_findShadow 97 = .ok (.if_icmp .lt 17, 3) := by decide +kernel
theorem dX0_findShadow_100 : decode cX0_findShadow 100 = .ok (.iload 8, 2) := by decide +kernel
theorem dX0_findShadow_102 : decode cX0_findShadow 102 = .ok (.iload 4, 2) := by decide +kernel
theorem dX0_findShadow_104 : decode cX0_findShadow 104 = .ok (.if_icmp .ne 18, 3) := by decide +kernel
theorem dX0_findShadow_107 : decode cX0_findShadow 107 = .ok (.iload 7, 2) := by decide +kernel
theorem dX0_findShadow_109 : decode cX0_findShadow 109 = .ok (.iload 5, 2) := by decide +kernel
theorem dX0_findShadow_111 : decode cX0_findShadow 111 = .ok (.if_icmp .ge 11, 3) := by decide +kernel
theorem dX0_findShadow_114 : decode cX0_findShadow 114 = .ok (.iload 8, 2) := by decide +kernel
theorem dX0_findShadow_116 : decode cX0_findShadow 116 = .ok (.istore 4, 2) := by decide +kernel
theorem dX0_findShadow_118 : decode cX0_findShadow 118 = .ok (.iload 7, 2) := by decide +kernel
theorem dX0_findShadow_120 : decode cX0_findShadow 120 = .ok (.istore 5, 2) := by decide +kernel
theorem dX0_findShadow_122 : decode cX0_findShadow 122 = .ok (.iinc 6 1, 3) := by decide +kernel
theorem dX0_findShadow_125 : decode cX0_findShadow 125 = .ok (.goto (-104), 3) := by decide +kernel
theorem dX0_findShadow_128 : decode cX0_findShadow 128 = .ok (.iload 5, 2) := by decide +kernel
theorem dX0_findShadow_130 : decode cX0_findShadow 130 = .ok (.iconst (-1), 1) := by decide +kernel
theorem dX0_findShadow_131 : decode cX0_findShadow 131 = .ok (.if_icmp .eq 14, 3) := by decide +kernel
theorem dX0_findShadow_134 : decode cX0_findShadow 134 = .ok (.aload_n 1, 1) := by decide +kernel
theorem dX0_findShadow_135 : decode cX0_findShadow 135 = .ok (.dup, 1) := by decide +kernel
theorem dX0_findShadow_136 : decode cX0_findShadow 136 = .ok (.getfield 189, 3) := by decide +kernel
theorem dX0_findShadow_139 : decode cX0_findShadow 139 = .ok (.iload 4, 2) := by decide +kernel
theorem dX0_findShadow_141 : decode cX0_findShadow 141 = .ok (.iadd, 1) := by decide +kernel
theorem dX0_findShadow_142 : decode cX0_findShadow 142 = .ok (.putfield 189, 3) := by decide +kernel
theorem dX0_findShadow_145 : decode cX0_findShadow 145 = .ok (.iload 5, 2) := by decide +kernel
theorem dX0_findShadow_147 : decode cX0_findShadow 147 = .ok (.ireturn, 1) := by decide +kernel
theorem dX0_goOn_0 : decode cX0_goOn 0 = .ok (.aload_n 1, 1) := by decide +kernel
theorem dX0_goOn_1 : decode cX0_goOn 1 = .ok (.invokevirtual 36, 3) := by decide +kernel
theorem dX0_goOn_4 : decode cX0_goOn 4 = .ok (.istore 4, 2) := by decide +kernel
theorem dX0_goOn_6 : decode cX0_goOn 6 = .ok (.iconst 0, 1) := by decide +kernel
theorem dX0_goOn_7 : decode cX0_goOn 7 = .ok (.istore 5, 2) := by decide +kernel
theorem dX0_goOn_9 : decode cX0_goOn 9 = .ok (.iload 5, 2) := by decide +kernel
theorem dX0_goOn_11 : decode cX0_goOn 11 = .ok (.iload_n 2, 1) := by decide +kernel
theorem dX0_goOn_12 : decode cX0_goOn 12 = .ok (.if_icmp .ge 128, 3) := by decide +kernel
theorem dX0_goOn_15 : decode cX0_goOn 15 = .ok (.aload_n 1, 1) := by decide +kernel
theorem dX0_goOn_16 : decode cX0_goOn 16 = .ok (.getfield 42, 3) := by decide +kernel
theorem dX0_goOn_19 : decode cX0_goOn 19 = .ok (.sipush 9999, 3) := by decide +kernel
theorem dX0_goOn_22 : decode cX0_goOn 22 = .ok (.if_icmp .ge 118, 3) := by decide +kernel
theorem dX0_goOn_25 : decode cX0_goOn 25 = .ok (.aload_n 0, 1) := by decide +kernel
theorem dX0_goOn_26 : decode cX0_goOn 26 = .ok (.aload_n 1, 1) := by decide +kernel
theorem dX0_goOn_27 : decode cX0_goOn 27 = .ok (.invokevirtual 46, 3) := by decide +kernel
theorem dX0_goOn_30 : decode cX0_goOn 30 = .ok (.aload_n 0, 1) := by decide +kernel
theorem dX0_goOn_31 : decode cX0_goOn 31 = .ok (.getfield 15, 3) := by decide +kernel
theorem dX0_goOn_34 : decode cX0_goOn 34 = .ok (.aload_n 1, 1) := by decide +kernel
theorem dX0_goOn_35 : decode cX0_goOn 35 = .ok (.getfield 42, 3) := by decide +kernel
theorem dX0_goOn_38 : decode cX0_goOn 38 = .ok (.invokevirtual 50, 3) := by decide +kernel
theorem dX0_goOn_41 : decode cX0_goOn 41 = .ok (.aload_n 1, 1) := by decide +kernel
theorem dX0_goOn_42 : decode cX0_goOn 42 = .ok (.invokevirtual 56, 3) := by decide +kernel
theorem dX0_goOn_45 : decode cX0_goOn 45 = .ok (.aload_n 0, 1) := by decide +kernel
theorem dX0_goOn_46 : decode cX0_goOn 46 = .ok (.getfield 15, 3) := by decide +kernel
theorem dX0_goOn_49 : decode cX0_goOn 49 = .ok (.bipush 99, 2) := by decide +kernel
theorem dX0_goOn_51 : decode cX0_goOn 51 = .ok (.bipush 10, 2) := by decide +kernel
theorem dX0_goOn_53 : decode cX0_goOn 53 = .ok (.invokevirtual 59, 3) := by decide +kernel
theorem dX0_goOn_56 : decode cX0_goOn 56 = .ok (.if_icmp .ge 7, 3) := by decide +kernel
theorem dX0_goOn_59 : decode cX0_goOn 59 = .ok (.iconst 1, 1) := by decide +kernel
theorem dX0_goOn_60 : decode cX0_goOn 60 = .ok (.goto 4, 3) := by decide +kernel
theorem dX0_goOn_63 : decode cX0_goOn 63 = .ok (.iconst 0, 1) := by decide +kernel
theorem dX0_goOn_64 : decode cX0_goOn 64 = .ok (.istore 6, 2) := by decide +kernel
theorem dX0_goOn_66 : decode cX0_goOn 66 = .ok (.iload 6, 2) := by decide +kernel
theorem dX0_goOn_68 : decode cX0_goOn 68 = .ok (.ifCond .eq 13, 3) := by decide +kernel
theorem dX0_goOn_71 : decode cX0_goOn 71 = .ok (.aload_n 1, 1) := by decide +kernel
theorem dX0_goOn_72 : decode cX0_goOn 72 = .ok (.dup, 1) := by decide +kernel
theorem dX0_goOn_73 : decode cX0_goOn 73 = .ok (.getfield 63, 3) := by decide +kernel
theorem dX0_goOn_76 : decode cX0_goOn 76 = .ok (.iconst 1, 1) := by decide +kernel
theorem dX0_goOn_77 : decode cX0_goOn 77 = .ok (.iadd, 1) := by decide +kernel
theorem dX0_goOn_78 : decode cX0_goOn 78 = .ok (.putfield 63, 3) := by decide +kernel
theorem dX0_goOn_81 : decode cX0_goOn 81 = .ok (.aload_n 0, 1) := by decide +kernel
theorem dX0_goOn_82 : decode cX0_goOn 82 = .ok (.getfield 15, 3) := by decide +kernel
theorem dX0_goOn_85 : decode cX0_goOn 85 = .ok (.aload_n 1, 1) := by decide +kernel
theorem dX0_goOn_86 : decode cX0_goOn 86 = .ok (.getfield 42, 3) := by decide +kernel
theorem dX0_goOn_89 : decode cX0_goOn 89 = .ok (.invokevirtual 66, 3) := by decide +kernel
theorem dX0_goOn_92 : decode cX0_goOn 92 = .ok (.istore 7, 2) := by decide +kernel
theorem dX0_goOn_94 : decode cX0_goOn 94 = .ok (.aload_n 0, 1) := by decide +kernel
theorem dX0_goOn_95 : decode cX0_goOn 95 = .ok (.aload_n 1, 1) := by decide +kernel
theorem dX0_goOn_96 : decode cX0_goOn 96 = .ok (.iload 6, 2) := by decide +kernel
theorem dX0_goOn_98 : decode cX0_goOn 98 = .ok (.ifCond .ne 7, 3) := by decide +kernel
theorem dX0_goOn_101 : decode cX0_goOn 101 = .ok (.iconst 1, 1) := by decide +kernel
theorem dX0_goOn_102 : decode cX0_goOn 102 = .ok (.goto 4, 3) := by decide +kernel
theorem dX0_goOn_105 : decode cX0_goOn 105 = .ok (.iconst 0, 1) := by decide +kernel
theorem dX0_goOn_106 : decode cX0_goOn 106 = .ok (.iload 7, 2) := by decide +kernel
theorem dX0_goOn_108 : decode cX0_goOn 108 = .ok (.invokevirtual 70, 3) := by decide +kernel
theorem dX0_goOn_111 : decode cX0_goOn 111 = .ok (.aload_n 0, 1) := by decide +kernel
theorem dX0_goOn_112 : decode cX0_goOn 112 = .ok (.aload_n 1, 1) := by decide +kernel
theorem dX0_goOn_113 : decode cX0_goOn 113 = .ok (.aload_n 0, 1) := by decide +kernel
theorem dX0_goOn_114 : decode cX0_goOn 114 = .ok (.aload_n 1, 1) := by decide +kernel
theorem dX0_goOn_115 : decode cX0_goOn 115 = .ok (.iload_n 3, 1) := by decide +kernel
theorem dX0_goOn_116 : decode cX0_goOn 116 = .ok (.invokevirtual 74, 3) := by decide +kernel
theorem dX0_goOn_119 : decode cX0_goOn 119 = .ok (.iload 7, 2) := by decide +kernel
theorem dX0_goOn_121 : decode cX0_goOn 121 = .ok (.invokevirtual 78, 3) := by decide +kernel
theorem dX0_goOn_124 : decode cX0_goOn 124 = .ok (.aload_n 1, 1) := by decide +kernel
theorem dX0_goOn_125 : decode cX0_goOn 125 = .ok (.dup, 1) := by decide +kernel
theorem dX0_goOn_126 : decode cX0_goOn 126 = .ok (.getfield 42, 3) := by decide +kernel
theorem dX0_goOn_129 : decode cX0_goOn 129 = .ok (.iconst 1, 1) := by decide +kernel
theorem dX0_goOn_130 : decode cX0_goOn 130 = .ok (.iadd, 1) := by decide +kernel
theorem dX0_goOn_131 : decode cX0_goOn 131 = .ok (.putfield 42, 3) := by decide +kernel
theorem dX0_goOn_134 : decode cX0_goOn 134 = .ok (.iinc 5 1, 3) := by decide +kernel
theorem dX0_goOn_137 : decode cX0_goOn 137 = .ok (.goto (-128), 3) := by decide +kernel
theorem dX0_goOn_140 : decode cX0_goOn 140 = .ok (.iload 4, 2) := by decide +kernel
theorem dX0_goOn_142 : decode cX0_goOn 142 = .ok (.aload_n 1, 1) := by decide +kernel
theorem dX0_goOn_143 : decode cX0_goOn 143 = .ok (.invokevirtual 36, 3) := by decide +kernel
theorem dX0_goOn_146 : decode cX0_goOn 146 = .ok (.isub, 1) := by decide +kernel
theorem dX0_goOn_147 : decode cX0_goOn 147 = .ok (.ireturn, 1) := by decide +kernel
theorem dX0_judgesStep_0 : decode cX0_judgesStep 0 = .ok (.iconst 0, 1) := by decide +kernel
theorem dX0_judgesStep_1 : decode cX0_judgesStep 1 = .ok (.istore_n 2, 1) := by decide +kernel
theorem dX0_judgesStep_2 : decode cX0_judgesStep 2 = .ok (.iload_n 2, 1) := by decide +kernel
theorem dX0_judgesStep_3 : decode cX0_judgesStep 3 = .ok (.iconst 2, 1) := by decide +kernel
theorem dX0_judgesStep_4 : decode cX0_judgesStep 4 = .ok (.if_icmp .ge 81, 3) := by decide +kernel
theorem dX0_judgesStep_7 : decode cX0_judgesStep 7 = .ok (.aload_n 1, 1) := by decide +kernel
theorem dX0_judgesStep_8 : decode cX0_judgesStep 8 = .ok (.iload_n 2, 1) := by decide +kernel
theorem dX0_judgesStep_9 : decode cX0_judgesStep 9 = .ok (.invokevirtual 82, 3) := by decide +kernel
theorem dX0_judgesStep_12 : decode cX0_judgesStep 12 = .ok (.ifCond .ne 6, 3) := by decide +kernel
theorem dX0_judgesStep_15 : decode cX0_judgesStep 15 = .ok (.goto 64, 3) := by decide +kernel
theorem dX0_judgesStep_18 : decode cX0_judgesStep 18 = .ok (.aload_n 1, 1) := by decide +kernel
theorem dX0_judgesStep_19 : decode cX0_judgesStep 19 = .ok (.iload_n 2, 1) := by decide +kernel
theorem dX0_judgesStep_20 : decode cX0_judgesStep 20 = .ok (.invokevirtual 85, 3) := by decide +kernel
theorem dX0_judgesStep_23 : decode cX0_judgesStep 23 = .ok (.istore_n 3, 1) := by decide +kernel
theorem dX0_judgesStep_24 : decode cX0_judgesStep 24 = .ok (.iload_n 3, 1) := by decide +kernel
theorem dX0_judgesStep_25 : decode cX0_judgesStep 25 = .ok (.iconst 4, 1) := by decide +kernel
theorem dX0_judgesStep_26 : decode cX0_judgesStep 26 = .ok (.if_icmp .ne 6, 3) := by decide +kernel
theorem dX0_judgesStep_29 : decode cX0_judgesStep 29 = .ok (.goto 50, 3) := by decide +kernel
theorem dX0_judgesStep_32 : decode cX0_judgesStep 32 = .ok (.aload_n 1, 1) := by decide +kernel
theorem dX0_judgesStep_33 : decode cX0_judgesStep 33 = .ok (.getfield 89, 3) := by decide +kernel
theorem dX0_judgesStep_36 : decode cX0_judgesStep 36 = .ok (.iload_n 2, 1) := by decide +kernel
theorem dX0_judgesStep_37 : decode cX0_judgesStep 37 = .ok (.iaload, 1) := by decide +kernel
theorem dX0_judgesStep_38 : decode cX0_judgesStep 38 = .ok (.iconst 2, 1) := by decide +kernel
theorem dX0_judgesStep_39 : decode cX0_judgesStep 39 = .ok (.iload_n 3, 1) := by decide +kernel
theorem dX0_judgesStep_40 : decode cX0_judgesStep 40 = .ok (.imul, 1) := by decide +kernel
theorem dX0_judgesStep_41 : decode cX0_judgesStep 41 = .ok (.invokestatic 92, 3) := by decide +kernel
theorem dX0_judgesStep_44 : decode cX0_judgesStep 44 = .ok (.istore 4, 2) := by decide +kernel
theorem dX0_judgesStep_46 : decode cX0_judgesStep 46 = .ok (.aload_n 0, 1) := by decide +kernel
theorem dX0_judgesStep_47 : decode cX0_judgesStep 47 = .ok (.getfield 9, 3) := by decide +kernel
theorem dX0_judgesStep_50 : decode cX0_judgesStep 50 = .ok (.iload 4, 2) := by decide +kernel
theorem dX0_judgesStep_52 : decode cX0_judgesStep 52 = .ok (.invokevirtual 97, 3) := by decide +kernel
theorem dX0_judgesStep_55 : decode cX0_judgesStep 55 = .ok (.ifCond .eq 24, 3) := by decide +kernel
theorem dX0_judgesStep_58 : decode cX0_judgesStep 58 = .ok (.aload_n 1, 1) := by decide +kernel
theorem dX0_judgesStep_59 : decode cX0_judgesStep 59 = .ok (.getfield 89, 3) := by decide +kernel
theorem dX0_judgesStep_62 : decode cX0_judgesStep 62 = .ok (.iconst 1, 1) := by decide +kernel
theorem dX0_judgesStep_63 : decode cX0_judgesStep 63 = .ok (.iload_n 2, 1) := by decide +kernel
theorem dX0_judgesStep_64 : decode cX0_judgesStep 64 = .ok (.isub, 1) := by decide +kernel
theorem dX0_judgesStep_65 : decode cX0_judgesStep 65 = .ok (.iaload, 1) := by decide +kernel
theorem dX0_judgesStep_66 : decode cX0_judgesStep 66 = .ok (.iload 4, 2) := by decide +kernel
theorem dX0_judgesStep_68 : decode cX0_judgesStep 68 = .ok (.if_icmp .eq 11, 3) := by decide +kernel
theorem dX0_judgesStep_71 : decode cX0_judgesStep 71 = .ok (.aload_n 1, 1) := by decide +kernel
theorem dX0_judgesStep_72 : decode cX0_judgesStep 72 = .ok (.getfield 89, 3) := by decide +kernel
theorem dX0_judgesStep_75 : decode cX0_judgesStep 75 = .ok (.iload_n 2, 1) := by decide +kernel
theorem dX0_judgesStep_76 : decode cX0_judgesStep 76 = .ok (.iload 4, 2) := by decide +kernel
theorem dX0_judgesStep_78 : decode cX0_judgesStep 78 = .ok (.iastore, 1) := by decide +kernel
theorem dX0_judgesStep_79 : decode cX0_judgesStep 79 = .ok (.iinc 2 1, 3) := by decide +kernel
theorem dX0_judgesStep_82 : decode cX0_judgesStep 82 = .ok (.goto (-80), 3) := by decide +kernel
theorem dX0_judgesStep_85 : decode cX0_judgesStep 85 = .ok (.return_, 1) := by decide +kernel
theorem dX0_lineUp_0 : decode cX0_lineUp 0 = .ok (.iconst 0, 1) := by decide +kernel
theorem dX0_lineUp_1 : decode cX0_lineUp 1 = .ok (.istore_n 3, 1) := by decide +kernel
theorem dX0_lineUp_2 : decode cX0_lineUp 2 = .ok (.iconst 0, 1) := by decide +kernel
theorem dX0_lineUp_3 : decode cX0_lineUp 3 = .ok (.istore 4, 2) := by decide +kernel
theorem dX0_lineUp_5 : decode cX0_lineUp 5 = .ok (.iload 4, 2) := by decide +kernel
theorem dX0_lineUp_7 : decode cX0_lineUp 7 = .ok (.bipush 10, 2) := by decide +kernel
theorem dX0_lineUp_9 : decode cX0_lineUp 9 = .ok (.if_icmp .ge 135, 3) := by decide +kernel
theorem dX0_lineUp_12 : decode cX0_lineUp 12 = .ok (.aload_n 1, 1) := by decide +kernel
theorem dX0_lineUp_13 : decode cX0_lineUp 13 = .ok (.iload 4, 2) := by decide +kernel
theorem dX0_lineUp_15 : decode cX0_lineUp 15 = .ok (.invokevirtual 152, 3) := by decide +kernel
theorem dX0_lineUp_18 : decode cX0_lineUp 18 = .ok (.ifCond .ne 6, 3) := by decide +kernel
theorem dX0_lineUp_21 : decode cX0_lineUp 21 = .ok (.goto 117, 3) := by decide +kernel
theorem dX0_lineUp_24 : decode cX0_lineUp 24 = .ok (.aload_n 0, 1) := by decide +kernel
theorem dX0_lineUp_25 : decode cX0_lineUp 25 = .ok (.aload_n 1, 1) := by decide +kernel
theorem dX0_lineUp_26 : decode cX0_lineUp 26 = .ok (.iload 4, 2) := by decide +kernel
theorem dX0_lineUp_28 : decode cX0_lineUp 28 = .ok (.invokevirtual 150, 3) := by decide +kernel
theorem dX0_lineUp_31 : decode cX0_lineUp 31 = .ok (.iload 4, 2) := by decide +kernel
theorem dX0_lineUp_33 : decode cX0_lineUp 33 = .ok (.iload_n 2, 1) := by decide +kernel
theorem dX0_lineUp_34 : decode cX0_lineUp 34 = .ok (.if_icmp .ne 9, 3) := by decide +kernel
theorem dX0_lineUp_37 : decode cX0_lineUp 37 = .ok (.sipush 1000, 3) := by decide +kernel
theorem dX0_lineUp_40 : decode cX0_lineUp 40 = .ok (.goto 15, 3) := by decide +kernel
theorem dX0_lineUp_43 : decode cX0_lineUp 43 = .ok (.aload_n 0, 1) := by decide +kernel
theorem dX0_lineUp_44 : decode cX0_lineUp 44 = .ok (.getfield 15, 3) := by decide +kernel
theorem dX0_lineUp_47 : decode cX0_lineUp 47 = .ok (.bipush 111, 2) := by decide +kernel
theorem dX0_lineUp_49 : decode cX0_lineUp 49 = .ok (.sipush 999, 3) := by decide +kernel
theorem dX0_lineUp_52 : decode cX0_lineUp 52 = .ok (.invokevirtual 59, 3) := by decide +kernel
theorem dX0_lineUp_55 : decode cX0_lineUp 55 = .ok (.istore 5, 2) := by decide +kernel
theorem dX0_lineUp_57 : decode cX0_lineUp 57 = .ok (.iload_n 3, 1) := by decide +kernel
theorem dX0_lineUp_58 : decode cX0_lineUp 58 = .ok (.istore 6, 2) := by decide +kernel
theorem dX0_lineUp_60 : decode cX0_lineUp 60 = .ok (.iload 6, 2) := by decide +kernel
theorem dX0_lineUp_62 : decode cX0_lineUp 62 = .ok (.ifCond .le 55, 3) := by decide +kernel
theorem dX0_lineUp_65 : decode cX0_lineUp 65 = .ok (.aload_n 0, 1) := by decide +kernel
theorem dX0_lineUp_66 : decode cX0_lineUp 66 = .ok (.getfield 33, 3) := by decide +kernel
theorem dX0_lineUp_69 : decode cX0_lineUp 69 = .ok (.iload 6, 2) := by decide +kernel
theorem dX0_lineUp_71 : decode cX0_lineUp 71 = .ok (.iconst 1, 1) := by decide +kernel
theorem dX0_lineUp_72 : decode cX0_lineUp 72 = .ok (.isub, 1) := by decide +kernel
theorem dX0_lineUp_73 : decode cX0_lineUp 73 = .ok (.iaload, 1) := by decide +kernel
theorem dX0_lineUp_74 : decode cX0_lineUp 74 = .ok (.iload 5, 2) := by decide +kernel
theorem dX0_lineUp_76 : decode cX0_lineUp 76 = .ok (.if_icmp .ge 41, 3) := by decide +kernel
theorem dX0_lineUp_79 : decode cX0_lineUp 79 = .ok (.aload_n 0, 1) := by decide +kernel
theorem dX0_lineUp_80 : decode cX0_lineUp 80 = .ok (.getfield 30, 3) := by decide +kernel
theorem dX0_lineUp_83 : decode cX0_lineUp 83 = .ok (.iload 6, 2) := by decide +kernel
theorem dX0_lineUp_85 : decode cX0_lineUp 85 = .ok (.aload_n 0, 1) := by decide +kernel
theorem dX0_lineUp_86 : decode cX0_lineUp 86 = .ok (.getfield 30, 3) := by decide +kernel
theorem dX0_lineUp_89 : decode cX0_lineUp 89 = .ok (.iload 6, 2) := by decide +kernel
theorem dX0_lineUp_91 : decode cX0_lineUp 91 = .ok (.iconst 1, 1) := by decide +kernel
theorem dX0_lineUp_92 : decode cX0_lineUp 92 = .ok (.isub, 1) := by decide +kernel
theorem dX0_lineUp_93 : decode cX0_lineUp 93 = .ok (.iaload, 1) := by decide +kernel
theorem dX0_lineUp_94 : decode cX0_lineUp 94 = .ok (.iastore, 1) := by decide +kernel
theorem dX0_lineUp_95 : decode cX0_lineUp 95 = .ok (.aload_n 0, 1) := by decide +kernel
theorem dX0_lineUp_96 : decode cX0_lineUp 96 = .ok (.getfield 33, 3) := by decide +kernel
theorem dX0_lineUp_99 : decode cX0_lineUp 99 = .ok (.iload 6, 2) := by decide +kernel
theorem dX0_lineUp_101 : decode cX0_lineUp 101 = .ok (.aload_n 0, 1) := by decide +kernel
theorem dX0_lineUp_102 : decode cX0_lineUp 102 = .ok (.getfield 33, 3) := by decide +kernel
theorem dX0_lineUp_105 : decode cX0_lineUp 105 = .ok (.iload 6, 2) := by decide +kernel
theorem dX0_lineUp_107 : decode cX0_lineUp 107 = .ok (.iconst 1, 1) := by decide +kernel
theorem dX0_lineUp_108 : decode cX0_lineUp 108 = .ok (.isub, 1) := by decide +kernel
theorem dX0_lineUp_109 : decode cX0_lineUp 109 = .ok (.iaload, 1) := by decide +kernel
theorem dX0_lineUp_110 : decode cX0_lineUp 110 = .ok (.iastore, 1) := by decide +kernel
theorem dX0_lineUp_111 : decode cX0_lineUp 111 = .ok (.iinc 6 (-1), 3) := by decide +kernel
theorem dX0_lineUp_114 : decode cX0_lineUp 114 = .ok (.goto (-54), 3) := by decide +kernel
theorem dX0_lineUp_117 : decode cX0_lineUp 117 = .ok (.aload_n 0, 1) := by decide +kernel
theorem dX0_lineUp_118 : decode cX0_lineUp 118 = .ok (.getfield 30, 3) := by decide +kernel
theorem dX0_lineUp_121 : decode cX0_lineUp 121 = .ok (.iload 6, 2) := by decide +kernel
theorem dX0_lineUp_123 : decode cX0_lineUp 123 = .ok (.iload 4, 2) := by decide +kernel
theorem dX0_lineUp_125 : decode cX0_lineUp 125 = .ok (.iastore, 1) := by decide +kernel
theorem dX0_lineUp_126 : decode cX0_lineUp 126 = .ok (.aload_n 0, 1) := by decide +kernel
theorem dX0_lineUp_127 : decode cX0_lineUp 127 = .ok (.getfield 33, 3) := by decide +kernel
theorem dX0_lineUp_130 : decode cX0_lineUp 130 = .ok (.iload 6, 2) := by decide +kernel
theorem dX0_lineUp_132 : decode cX0_lineUp 132 = .ok (.iload 5, 2) := by decide +kernel
theorem dX0_lineUp_134 : decode cX0_lineUp 134 = .ok (.iastore, 1) := by decide +kernel
theorem dX0_lineUp_135 : decode cX0_lineUp 135 = .ok (.iinc 3 1, 3) := by decide +kernel
theorem dX0_lineUp_138 : decode cX0_lineUp 138 = .ok (.iinc 4 1, 3) := by decide +kernel
theorem dX0_lineUp_141 : decode cX0_lineUp 141 = .ok (.goto (-136), 3) := by decide +kernel
theorem dX0_lineUp_144 : decode cX0_lineUp 144 = .ok (.iload_n 3, 1) := by decide +kernel
theorem dX0_lineUp_145 : decode cX0_lineUp 145 = .ok (.ireturn, 1) := by decide +kernel
theorem dX0_reachOf_0 : decode cX0_reachOf 0 = .ok (.aload_n 0, 1) := by decide +kernel
theorem dX0_reachOf_1 : decode cX0_reachOf 1 = .ok (.aload_n 1, 1) := by decide +kernel
theorem dX0_reachOf_2 : decode cX0_reachOf 2 = .ok (.iload_n 2, 1) := by decide +kernel
theorem dX0_reachOf_3 : decode cX0_reachOf 3 = .ok (.invokevirtual 150, 3) := by decide +kernel
theorem dX0_reachOf_6 : decode cX0_reachOf 6 = .ok (.aload_n 0, 1) := by decide +kernel
theorem dX0_reachOf_7 : decode cX0_reachOf 7 = .ok (.getfield 15, 3) := by decide +kernel
theorem dX0_reachOf_10 : decode cX0_reachOf 10 = .ok (.bipush 118, 2) := by decide +kernel
theorem dX0_reachOf_12 : decode cX0_reachOf 12 = .ok (.iconst 3, 1) := by decide +kernel
theorem dX0_reachOf_13 : decode cX0_reachOf 13 = .ok (.invokevirtual 59, 3) := by decide +kernel
theorem dX0_reachOf_16 : decode cX0_reachOf 16 = .ok (.ireturn, 1) := by decide +kernel
theorem dX0_shadowsAt_0 : decode cX0_shadowsAt 0 = .ok (.aload_n 0, 1) := by decide +kernel
theorem dX0_shadowsAt_1 : decode cX0_shadowsAt 1 = .ok (.aload_n 1, 1) := by decide +kernel
theorem dX0_shadowsAt_2 : decode cX0_shadowsAt 2 = .ok (.invokevirtual 128, 3) := by decide +kernel
theorem dX0_shadowsAt_5 : decode cX0_shadowsAt 5 = .ok (.aload_n 0, 1) := by decide +kernel
theorem dX0_shadowsAt_6 : decode cX0_shadowsAt 6 = .ok (.getfield 26, 3) := by decide +kernel
theorem dX0_shadowsAt_9 : decode cX0_shadowsAt 9 = .ok (.iload_n 2, 1) := by decide +kernel
theorem dX0_shadowsAt_10 : decode cX0_shadowsAt 10 = .ok (.invokevirtual 131, 3) := by decide +kernel
theorem dX0_shadowsAt_13 : decode cX0_shadowsAt 13 = .ok (.ireturn, 1) := by decide +kernel
theorem dX0_spotsInLampShadows_0 : decode cX0_spotsInLampShadows 0 = .ok (.aload_n 0, 1) := by decide +kernel
theorem dX0_spotsInLampShadows_1 : decode cX0_spotsInLampShadows 1 = .ok (.aload_n 1, 1) := by decide +kernel
theorem dX0_spotsInLampShadows_2 : decode cX0_spotsInLampShadows 2 = .ok (.iconst 0, 1) := by decide +kernel
theorem dX0_spotsInLampShadows_3 : decode cX0_spotsInLampShadows 3 = .ok (.iconst 1, 1) := by decide +kernel
theorem dX0_spotsInLampShadows_4 : decode cX0_spotsInLampShadows 4 = .ok (.invokevirtual 70, 3) := by decide +kernel
theorem dX0_spotsInLampShadows_7 : decode cX0_spotsInLampShadows 7 = .ok (.aload_n 0, 1) := by decide +kernel
theorem dX0_spotsInLampShadows_8 : decode cX0_spotsInLampShadows 8 = .ok (.aload_n 1, 1) := by decide +kernel
theorem dX0_spotsInLampShadows_9 : decode cX0_spotsInLampShadows 9 = .ok (.iload_n 2, 1) := by decide +kernel
theorem dX0_spotsInLampShadows_10 : decode cX0_spotsInLampShadows 10 = .ok (.invokevirtual 111, 3) := by decide +kernel
theorem dX0_spotsInLampShadows_13 : decode cX0_spotsInLampShadows 13 = .ok (.aload_n 0, 1) := by decide +kernel
theorem dX0_spotsInLampShadows_14 : decode cX0_spotsInLampShadows 14 = .ok (.getfield 26, 3) := by decide +kernel
theorem dX0_spotsInLampShadows_17 : decode cX0_spotsInLampShadows 17 = .ok (.getfield 125, 3) := by decide +kernel
theorem dX0_spotsInLampShadows_20 : decode cX0_spotsInLampShadows 20 = .ok (.ireturn, 1) := by decide +kernel
theorem dX0_tellFelon_0 : decode cX0_tellFelon 0 = .ok (.aload_n 1, 1) := by decide +kernel
theorem dX0_tellFelon_1 : decode cX0_tellFelon 1 = .ok (.iload_n 2, 1) := by decide +kernel
theorem dX0_tellFelon_2 : decode cX0_tellFelon 2 = .ok (.invokevirtual 134, 3) := by decide +kernel
theorem dX0_tellFelon_5 : decode cX0_tellFelon 5 = .ok (.ifCond .eq 51, 3) := by decide +kernel
theorem dX0_tellFelon_8 : decode cX0_tellFelon 8 = .ok (.aload_n 0, 1) := by decide +kernel
theorem dX0_tellFelon_9 : decode cX0_tellFelon 9 = .ok (.getfield 9, 3) := by decide +kernel
theorem dX0_tellFelon_12 : decode cX0_tellFelon 12 = .ok (.aload_n 1, 1) := by decide +kernel
theorem dX0_tellFelon_13 : decode cX0_tellFelon 13 = .ok (.getfield 137, 3) := by decide +kernel
theorem dX0_tellFelon_16 : decode cX0_tellFelon 16 = .ok (.iload_n 2, 1) := by decide +kernel
theorem dX0_tellFelon_17 : decode cX0_tellFelon 17 = .ok (.iaload, 1) := by decide +kernel
theorem dX0_tellFelon_18 : decode cX0_tellFelon 18 = .ok (.invokevirtual 118, 3) := by decide +kernel
theorem dX0_tellFelon_21 : decode cX0_tellFelon 21 = .ok (.iconst 2, 1) := by decide +kernel
theorem dX0_tellFelon_22 : decode cX0_tellFelon 22 = .ok (.if_icmp .ne 7, 3) := by decide +kernel
theorem dX0_tellFelon_25 : decode cX0_tellFelon 25 = .ok (.iconst 1, 1) := by decide +kernel
theorem dX0_tellFelon_26 : decode cX0_tellFelon 26 = .ok (.goto 4, 3) := by decide +kernel
theorem dX0_tellFelon_29 : decode cX0_tellFelon 29 = .ok (.iconst 0, 1) := by decide +kernel
theorem dX0_tellFelon_30 : decode cX0_tellFelon 30 = .ok (.istore_n 3, 1) := by decide +kernel
theorem dX0_tellFelon_31 : decode cX0_tellFelon 31 = .ok (.aload_n 0, 1) := by decide +kernel
theorem dX0_tellFelon_32 : decode cX0_tellFelon 32 = .ok (.getfield 15, 3) := by decide +kernel
theorem dX0_tellFelon_35 : decode cX0_tellFelon 35 = .ok (.aload_n 1, 1) := by decide +kernel
theorem dX0_tellFelon_36 : decode cX0_tellFelon 36 = .ok (.getfield 42, 3) := by decide +kernel
theorem dX0_tellFelon_39 : decode cX0_tellFelon 39 = .ok (.iload_n 2, 1) := by decide +kernel
theorem dX0_tellFelon_40 : decode cX0_tellFelon 40 = .ok (.aload_n 1, 1) := by decide +kernel
theorem dX0_tellFelon_41 : decode cX0_tellFelon 41 = .ok (.getfield 140, 3) := by decide +kernel
theorem dX0_tellFelon_44 : decode cX0_tellFelon 44 = .ok (.iload_n 2, 1) := by decide +kernel
theorem dX0_tellFelon_45 : decode cX0_tellFelon 45 = .ok (.iaload, 1) := by decide +kernel
theorem dX0_tellFelon_46 : decode cX0_tellFelon 46 = .ok (.aload_n 1, 1) := by decide +kernel
theorem dX0_tellFelon_47 : decode cX0_tellFelon 47 = .ok (.getfield 143, 3) := by decide +kernel
theorem dX0_tellFelon_50 : decode cX0_tellFelon 50 = .ok (.iload_n 2, 1) := by decide +kernel
theorem dX0_tellFelon_51 : decode cX0_tellFelon 51 = .ok (.iaload, 1) := by decide +kernel
theorem dX0_tellFelon_52 : decode cX0_tellFelon 52 = .ok (.iload_n 3, 1) := by decide +kernel
theorem dX0_tellFelon_53 : decode cX0_tellFelon 53 = .ok (.invokevirtual 146, 3) := by decide +kernel
theorem dX0_tellFelon_56 : decode cX0_tellFelon 56 = .ok (.return_, 1) := by decide +kernel
theorem dX0_walkOn_0 : decode cX0_walkOn 0 = .ok (.aload_n 1, 1) := by decide +kernel
theorem dX0_walkOn_1 : decode cX0_walkOn 1 = .ok (.getfield 42, 3) := by decide +kernel
theorem dX0_walkOn_4 : decode cX0_walkOn 4 = .ok (.sipush 9999, 3) := by decide +kernel
theorem dX0_walkOn_7 : decode cX0_walkOn 7 = .ok (.if_icmp .lt 5, 3) := by decide +kernel
theorem dX0_walkOn_10 : decode cX0_walkOn 10 = .ok (.iconst 0, 1) := by decide +kernel
theorem dX0_walkOn_11 : decode cX0_walkOn 11 = .ok (.ireturn, 1) := by decide +kernel
theorem dX0_walkOn_12 : decode cX0_walkOn 12 = .ok (.aload_n 0, 1) := by decide +kernel
theorem dX0_walkOn_13 : decode cX0_walkOn 13 = .ok (.aload_n 1, 1) := by decide +kernel
theorem dX0_walkOn_14 : decode cX0_walkOn 14 = .ok (.invokevirtual 46, 3) := by decide +kernel
theorem dX0_walkOn_17 : decode cX0_walkOn 17 = .ok (.aload_n 0, 1) := by decide +kernel
theorem dX0_walkOn_18 : decode cX0_walkOn 18 = .ok (.aload_n 1, 1) := by decide +kernel
theorem dX0_walkOn_19 : decode cX0_walkOn 19 = .ok (.iconst 1, 1) := by decide +kernel
theorem dX0_walkOn_20 : decode cX0_walkOn 20 = .ok (.iconst 0, 1) := by decide +kernel
theorem dX0_walkOn_21 : decode cX0_walkOn 21 = .ok (.invokevirtual 70, 3) := by decide +kernel
theorem dX0_walkOn_24 : decode cX0_walkOn 24 = .ok (.aload_n 1, 1) := by decide +kernel
theorem dX0_walkOn_25 : decode cX0_walkOn 25 = .ok (.dup, 1) := by decide +kernel
theorem dX0_walkOn_26 : decode cX0_walkOn 26 = .ok (.getfield 42, 3) := by decide +kernel
theorem dX0_walkOn_29 : decode cX0_walkOn 29 = .ok (.iconst 1, 1) := by decide +kernel
theorem dX0_walkOn_30 : decode cX0_walkOn 30 = .ok (.iadd, 1) := by decide +kernel
theorem dX0_walkOn_31 : decode cX0_walkOn 31 = .ok (.putfield 42, 3) := by decide +kernel
theorem dX0_walkOn_34 : decode cX0_walkOn 34 = .ok (.iconst 1, 1) := by decide +kernel
theorem dX0_walkOn_35 : decode cX0_walkOn 35 = .ok (.ireturn, 1) := by decide +kernel
theorem dX10_bitsOfTold_0 : decode cX10_bitsOfTold 0 = .ok (.iconst 0, 1) := by decide +kernel
theorem dX10_bitsOfTold_1 : decode cX10_bitsOfTold 1 = .ok (.istore_n 1, 1) := by decide +kernel
theorem dX10_bitsOfTold_2 : decode cX10_bitsOfTold 2 = .ok (.iconst 0, 1) := by decide +kernel
theorem dX10_bitsOfTold_3 : decode cX10_bitsOfTold 3 = .ok (.istore_n 2, 1) := by decide +kernel
theorem dX10_bitsOfTold_4 : decode cX10_bitsOfTold 4 = .ok (.iload_n 2, 1) := by decide +kernel
theorem dX10_bitsOfTold_5 : decode cX10_bitsOfTold 5 = .ok (.aload_n 0, 1) := by decide +kernel
theorem dX10_bitsOfTold_6 : decode cX10_bitsOfTold 6 = .ok (.arraylength, 1) := by decide +kernel
theorem dX10_bitsOfTold_7 : decode cX10_bitsOfTold 7 = .ok (.if_icmp .ge 22, 3) := by decide +kernel
theorem dX10_bitsOfTold_10 : decode cX10_bitsOfTold 10 = .ok (.aload_n 0, 1) := by decide +kernel
theorem dX10_bitsOfTold_11 : decode cX10_bitsOfTold 11 = .ok (.iload_n 2, 1) := by decide +kernel
theorem dX10_bitsOfTold_12 : decode cX10_bitsOfTold 12 = .ok (.iaload, 1) := by decide +kernel
theorem dX10_bitsOfTold_13 : decode cX10_bitsOfTold 13 = .ok (.iconst (-1), 1) := by decide +kernel
theorem dX10_bitsOfTold_14 : decode cX10_bitsOfTold 14 = .ok (.if_icmp .eq 9, 3) := by decide +kernel
theorem dX10_bitsOfTold_17 : decode cX10_bitsOfTold 17 = .ok (.iload_n 1, 1) := by decide +kernel
theorem dX10_bitsOfTold_18 : decode cX10_bitsOfTold 18 = .ok (.iconst 1, 1) := by decide +kernel
theorem dX10_bitsOfTold_19 : decode cX10_bitsOfTold 19 = .ok (.iload_n 2, 1) := by decide +kernel
theorem dX10_bitsOfTold_20 : decode cX10_bitsOfTold 20 = .ok (.ishl, 1) := by decide +kernel
theorem dX10_bitsOfTold_21 : decode cX10_bitsOfTold 21 = .ok (.ior, 1) := by decide +kernel
theorem dX10_bitsOfTold_22 : decode cX10_bitsOfTold 22 = .ok (.istore_n 1, 1) := by decide +kernel
theorem dX10_bitsOfTold_23 : decode cX10_bitsOfTold 23 = .ok (.iinc 2 1, 3) := by decide +kernel
theorem dX10_bitsOfTold_26 : decode cX10_bitsOfTold 26 = .ok (.goto (-22), 3) := by decide +kernel
theorem dX10_bitsOfTold_29 : decode cX10_bitsOfTold 29 = .ok (.iload_n 1, 1) := by decide +kernel
theorem dX10_bitsOfTold_30 : decode cX10_bitsOfTold 30 = .ok (.ireturn, 1) := by decide +kernel
theorem dX10_holds_0 : decode cX10_holds 0 = .ok (.iconst 0, 1) := by decide +kernel
theorem dX10_holds_1 : decode cX10_holds 1 = .ok (.istore_n 2, 1) := by decide +kernel
theorem dX10_holds_2 : decode cX10_holds 2 = .ok (.iload_n 2, 1) := by decide +kernel
theorem dX10_holds_3 : decode cX10_holds 3 = .ok (.aload_n 0, 1) := by decide +kernel
theorem dX10_holds_4 : decode cX10_holds 4 = .ok (.arraylength, 1) := by decide +kernel
theorem dX10_holds_5 : decode cX10_holds 5 = .ok (.if_icmp .ge 18, 3) := by decide +kernel
theorem dX10_holds_8 : decode cX10_holds 8 = .ok (.aload_n 0, 1) := by decide +kernel
theorem dX10_holds_9 : decode cX10_holds 9 = .ok (.iload_n 2, 1) := by decide +kernel
theorem dX10_holds_10 : decode cX10_holds 10 = .ok (.iaload, 1) := by decide +kernel
theorem dX10_holds_11 : decode cX10_holds 11 = .ok (.iload_n 1, 1) := by decide +kernel
theorem dX10_holds_12 : decode cX10_holds 12 = .ok (.if_icmp .ne 5, 3) := by decide +kernel
theorem dX10_holds_15 : decode cX10_holds 15 = .ok (.iconst 1, 1) := by decide +kernel
theorem dX10_holds_16 : decode cX10_holds 16 = .ok (.ireturn, 1) := by decide +kernel
theorem dX10_holds_17 : decode cX10_holds 17 = .ok (.iinc 2 1, 3) := by decide +kernel
theorem dX10_holds_20 : decode cX10_holds 20 = .ok (.goto (-18), 3) := by decide +kernel
theorem dX10_holds_23 : decode cX10_holds 23 = .ok (.iconst 0, 1) := by decide +kernel
theorem dX10_holds_24 : decode cX10_holds 24 = .ok (.ireturn, 1) := by decide +kernel
theorem dX10_isIn_0 : decode cX10_isIn 0 = .ok (.iload_n 0, 1) := by decide +kernel
theorem dX10_isIn_1 : decode cX10_isIn 1 = .ok (.iload_n 1, 1) := by decide +kernel
theorem dX10_isIn_2 : decode cX10_isIn 2 = .ok (.if_icmp .lt 12, 3) := by decide +kernel
theorem dX10_isIn_5 : decode cX10_isIn 5 = .ok (.iload_n 0, 1) := by decide +kernel
theorem dX10_isIn_6 : decode cX10_isIn 6 = .ok (.iload_n 2, 1) := by decide +kernel
theorem dX10_isIn_7 : decode cX10_isIn 7 = .ok (.if_icmp .gt 7, 3) := by decide +kernel
theorem dX10_isIn_10 : decode cX10_isIn 10 = .ok (.iconst 1, 1) := by decide +kernel
theorem dX10_isIn_11 : decode cX10_isIn 11 = .ok (.goto 4, 3) := by decide +kernel
theorem dX10_isIn_14 : decode cX10_isIn 14 = .ok (.iconst 0, 1) := by decide +kernel
theorem dX10_isIn_15 : decode cX10_isIn 15 = .ok (.ireturn, 1) := by decide +kernel
theorem dX7_clear_0 : decode cX7_clear 0 = .ok (.iconst 0, 1) := by decide +kernel
theorem dX7_clear_1 : decode cX7_clear 1 = .ok (.istore_n 1, 1) := by decide +kernel
theorem dX7_clear_2 : decode cX7_clear 2 = .ok (.iload_n 1, 1) := by decide +kernel
theorem dX7_clear_3 : decode cX7_clear 3 = .ok (.aload_n 0, 1) := by decide +kernel
theorem dX7_clear_4 : decode cX7_clear 4 = .ok (.getfield 22, 3) := by decide +kernel
theorem dX7_clear_7 : decode cX7_clear 7 = .ok (.if_icmp .ge 43, 3) := by decide +kernel
theorem dX7_clear_10 : decode cX7_clear 10 = .ok (.iload_n 1, 1) := by decide +kernel
theorem dX7_clear_11 : decode cX7_clear 11 = .ok (.bipush 100, 2) := by decide +kernel
theorem dX7_clear_13 : decode cX7_clear 13 = .ok (.if_icmp .ge 37, 3) := by decide +kernel
theorem dX7_clear_16 : decode cX7_clear 16 = .ok (.aload_n 0, 1) := by decide +kernel
theorem dX7_clear_17 : decode cX7_clear 17 = .ok (.getfield 15, 3) := by decide +kernel
theorem dX7_clear_20 : decode cX7_clear 20 = .ok (.iload_n 1, 1) := by decide +kernel
theorem dX7_clear_21 : decode cX7_clear 21 = .ok (.iaload, 1) := by decide +kernel
theorem dX7_clear_22 : decode cX7_clear 22 = .ok (.istore_n 2, 1) := by decide +kernel
theorem dX7_clear_23 : decode cX7_clear 23 = .ok (.iload_n 2, 1) := by decide +kernel
theorem dX7_clear_24 : decode cX7_clear 24 = .ok (.invokestatic 26, 3) := by decide +kernel
theorem dX7_clear_27 : decode cX7_clear 27 = .ok (.ifCond .eq 17, 3) := by decide +kernel
theorem dX7_clear_30 : decode cX7_clear 30 = .ok (.aload_n 0, 1) := by decide +kernel
theorem dX7_clear_31 : decode cX7_clear 31 = .ok (.getfield 9, 3) := by decide +kernel
theorem dX7_clear_34 : decode cX7_clear 34 = .ok (.iload_n 2, 1) := by decide +kernel
theorem dX7_clear_35 : decode cX7_clear 35 = .ok (.iconst 0, 1) := by decide +kernel
theorem dX7_clear_36 : decode cX7_clear 36 = .ok (.iastore, 1) := by decide +kernel
theorem dX7_clear_37 : decode cX7_clear 37 = .ok (.aload_n 0, 1) := by decide +kernel
theorem dX7_clear_38 : decode cX7_clear 38 = .ok (.getfield 18, 3) := by decide +kernel
theorem dX7_clear_41 : decode cX7_clear 41 = .ok (.iload_n 2, 1) := by decide +kernel
theorem dX7_clear_42 : decode cX7_clear 42 = .ok (.iconst 0, 1) := by decide +kernel
theorem dX7_clear_43 : decode cX7_clear 43 = .ok (.bastore, 1) := by decide +kernel
theorem dX7_clear_44 : decode cX7_clear 44 = .ok (.iinc 1 1, 3) := by decide +kernel
theorem dX7_clear_47 : decode cX7_clear 47 = .ok (.goto (-45), 3) := by decide +kernel
theorem dX7_clear_50 : decode cX7_clear 50 = .ok (.aload_n 0, 1) := by decide +kernel
theorem dX7_clear_51 : decode cX7_clear 51 = .ok (.iconst 0, 1) := by decide +kernel
theorem dX7_clear_52 : decode cX7_clear 52 = .ok (.putfield 22, 3) := by decide +kernel
theorem dX7_clear_55 : decode cX7_clear 55 = .ok (.return_, 1) := by decide +kernel
theorem dX7_fall_0 : decode cX7_fall 0 = .ok (.iload_n 2, 1) := by decide +kernel
theorem dX7_fall_1 : decode cX7_fall 1 = .ok (.istore 5, 2) := by decide +kernel
theorem dX7_fall_3 : decode cX7_fall 3 = .ok (.iconst 0, 1) := by decide +kernel
theorem dX7_fall_4 : decode cX7_fall 4 = .ok (.istore 6, 2) := by decide +kernel
theorem dX7_fall_6 : decode cX7_fall 6 = .ok (.iload 6, 2) := by decide +kernel
theorem dX7_fall_8 : decode cX7_fall 8 = .ok (.iload 4, 2) := by decide +kernel
theorem dX7_fall_10 : decode cX7_fall 10 = .ok (.if_icmp .ge 87, 3) := by decide +kernel
theorem dX7_fall_13 : decode cX7_fall 13 = .ok (.iload 5, 2) := by decide +kernel
theorem dX7_fall_15 : decode cX7_fall 15 = .ok (.iload_n 3, 1) := by decide +kernel
theorem dX7_fall_16 : decode cX7_fall 16 = .ok (.invokestatic 32, 3) := by decide +kernel
theorem dX7_fall_19 : decode cX7_fall 19 = .ok (.istore 5, 2) := by decide +kernel
theorem dX7_fall_21 : decode cX7_fall 21 = .ok (.aload_n 1, 1) := by decide +kernel
theorem dX7_fall_22 : decode cX7_fall 22 = .ok (.iload 5, 2) := by decide +kernel
theorem dX7_fall_24 : decode cX7_fall 24 = .ok (.invokevirtual 36, 3) := by decide +kernel
theorem dX7_fall_27 : decode cX7_fall 27 = .ok (.iconst 1, 1) := by decide +kernel
theorem dX7_fall_28 : decode cX7_fall 28 = .ok (.if_icmp .eq 11, 3) := by decide +kernel
theorem dX7_fall_31 : decode cX7_fall 31 = .ok (.iload 5, 2) := by decide +kernel
theorem dX7_fall_33 : decode cX7_fall 33 = .ok (.invokestatic 26, 3) := by decide +kernel
theorem dX7_fall_36 : decode cX7_fall 36 = .ok (.ifCond .ne 4, 3) := by decide +kernel
theorem dX7_fall_39 : decode cX7_fall 39 = .ok (.return_, 1) := by decide +kernel
theorem dX7_fall_40 : decode cX7_fall 40 = .ok (.aload_n 0, 1) := by decide +kernel
theorem dX7_fall_41 : decode cX7_fall 41 = .ok (.getfield 9, 3) := by decide +kernel
theorem dX7_fall_44 : decode cX7_fall 44 = .ok (.iload 5, 2) := by decide +kernel
theorem dX7_fall_46 : decode cX7_fall 46 = .ok (.iaload, 1) := by decide +kernel
theorem dX7_fall_47 : decode cX7_fall 47 = .ok (.ifCond .ne 33, 3) := by decide +kernel
theorem dX7_fall_50 : decode cX7_fall 50 = .ok (.aload_n 0, 1) := by decide +kernel
theorem dX7_fall_51 : decode cX7_fall 51 = .ok (.getfield 22, 3) := by decide +kernel
theorem dX7_fall_54 : decode cX7_fall 54 = .ok (.bipush 100, 2) := by decide +kernel
theorem dX7_fall_56 : decode cX7_fall 56 = .ok (.if_icmp .ge 24, 3) := by decide +kernel
theorem dX7_fall_59 : decode cX7_fall 59 = .ok (.aload_n 0, 1) := by decide +kernel
theorem dX7_fall_60 : decode cX7_fall 60 = .ok (.getfield 15, 3) := by decide +kernel
theorem dX7_fall_63 : decode cX7_fall 63 = .ok (.aload_n 0, 1) := by decide +kernel
theorem dX7_fall_64 : decode cX7_fall 64 = .ok (.getfield 22, 3) := by decide +kernel
theorem dX7_fall_67 : decode cX7_fall 67 = .ok (.iload 5, 2) := by decide +kernel
theorem dX7_fall_69 : decode cX7_fall 69 = .ok (.iastore, 1) := by decide +kernel
theorem dX7_fall_70 : decode cX7_fall 70 = .ok (.aload_n 0, 1) := by decide +kernel
theorem dX7_fall_71 : decode cX7_fall 71 = .ok (.dup, 1) := by decide +kernel
theorem dX7_fall_72 : decode cX7_fall 72 = .ok (.getfield 22, 3) := by decide +kernel
theorem dX7_fall_75 : decode cX7_fall 75 = .ok (.iconst 1, 1) := by decide +kernel
theorem dX7_fall_76 : decode cX7_fall 76 = .ok (.iadd, 1) := by decide +kernel
theorem dX7_fall_77 : decode cX7_fall 77 = .ok (.putfield 22, 3) := by decide +kernel
theorem dX7_fall_80 : decode cX7_fall 80 = .ok (.aload_n 0, 1) := by decide +kernel
theorem dX7_fall_81 : decode cX7_fall 81 = .ok (.getfield 9, 3) := by decide +kernel
theorem dX7_fall_84 : decode cX7_fall 84 = .ok (.iload 5, 2) := by decide +kernel
theorem dX7_fall_86 : decode cX7_fall 86 = .ok (.dup2, 1) := by decide +kernel
theorem dX7_fall_87 : decode cX7_fall 87 = .ok (.iaload, 1) := by decide +kernel
theorem dX7_fall_88 : decode cX7_fall 88 = .ok (.iconst 1, 1) := by decide +kernel
theorem dX7_fall_89 : decode cX7_fall 89 = .ok (.iadd, 1) := by decide +kernel
theorem dX7_fall_90 : decode cX7_fall 90 = .ok (.iastore, 1) := by decide +kernel
theorem dX7_fall_91 : decode cX7_fall 91 = .ok (.iinc 6 1, 3) := by decide +kernel
theorem dX7_fall_94 : decode cX7_fall 94 = .ok (.goto (-88), 3) := by decide +kernel
theorem dX7_fall_97 : decode cX7_fall 97 = .ok (.return_, 1) := by decide +kernel
theorem dX7_howManyInMore_0 : decode cX7_howManyInMore 0 = .ok (.iconst 0, 1) := by decide +kernel
theorem dX7_howManyInMore_1 : decode cX7_howManyInMore 1 = .ok (.istore_n 1, 1) := by decide +kernel
theorem dX7_howManyInMore_2 : decode cX7_howManyInMore 2 = .ok (.iconst 0, 1) := by decide +kernel
theorem dX7_howManyInMore_3 : decode cX7_howManyInMore 3 = .ok (.istore_n 2, 1) := by decide +kernel
theorem dX7_howManyInMore_4 : decode cX7_howManyInMore 4 = .ok (.iload_n 2, 1) := by decide +kernel
theorem dX7_howManyInMore_5 : decode cX7_howManyInMore 5 = .ok (.aload_n 0, 1) := by decide +kernel
theorem dX7_howManyInMore_6 : decode cX7_howManyInMore 6 = .ok (.getfield 22, 3) := by decide +kernel
theorem dX7_howManyInMore_9 : decode cX7_howManyInMore 9 = .ok (.if_icmp .ge 37, 3) := by decide +kernel
theorem dX7_howManyInMore_12 : decode cX7_howManyInMore 12 = .ok (.iload_n 2, 1) := by decide +kernel
theorem dX7_howManyInMore_13 : decode cX7_howManyInMore 13 = .ok (.bipush 100, 2) := by decide +kernel
theorem dX7_howManyInMore_15 : decode cX7_howManyInMore 15 = .ok (.if_icmp .ge 31, 3) := by decide +kernel
theorem dX7_howManyInMore_18 : decode cX7_howManyInMore 18 = .ok (.iload_n 1, 1) := by decide +kernel
theorem dX7_howManyInMore_19 : decode cX7_howManyInMore 19 = .ok (.aload_n 0, 1) := by decide +kernel
theorem dX7_howManyInMore_20 : decode cX7_howManyInMore 20 = .ok (.aload_n 0, 1) := by decide +kernel
theorem dX7_howManyInMore_21 : decode cX7_howManyInMore 21 = .ok (.getfield 15, 3) := by decide +kernel
theorem dX7_howManyInMore_24 : decode cX7_howManyInMore 24 = .ok (.iload_n 2, 1) := by decide +kernel
theorem dX7_howManyInMore_25 : decode cX7_howManyInMore 25 = .ok (.iaload, 1) := by decide +kernel
theorem dX7_howManyInMore_26 : decode cX7_howManyInMore 26 = .ok (.invokevirtual 40, 3) := by decide +kernel
theorem dX7_howManyInMore_29 : decode cX7_howManyInMore 29 = .ok (.iconst 1, 1) := by decide +kernel
theorem dX7_howManyInMore_30 : decode cX7_howManyInMore 30 = .ok (.if_icmp .le 7, 3) := by decide +kernel
theorem dX7_howManyInMore_33 : decode cX7_howManyInMore 33 = .ok (.iconst 1, 1) := by decide +kernel
theorem dX7_howManyInMore_34 : decode cX7_howManyInMore 34 = .ok (.goto 4, 3) := by decide +kernel
theorem dX7_howManyInMore_37 : decode cX7_howManyInMore 37 = .ok (.iconst 0, 1) := by decide +kernel
theorem dX7_howManyInMore_38 : decode cX7_howManyInMore 38 = .ok (.iadd, 1) := by decide +kernel
theorem dX7_howManyInMore_39 : decode cX7_howManyInMore 39 = .ok (.istore_n 1, 1) := by decide +kernel
theorem dX7_howManyInMore_40 : decode cX7_howManyInMore 40 = .ok (.iinc 2 1, 3) := by decide +kernel
theorem dX7_howManyInMore_43 : decode cX7_howManyInMore 43 = .ok (.goto (-39), 3) := by decide +kernel
theorem dX7_howManyInMore_46 : decode cX7_howManyInMore 46 = .ok (.iload_n 1, 1) := by decide +kernel
theorem dX7_howManyInMore_47 : decode cX7_howManyInMore 47 = .ok (.ireturn, 1) := by decide +kernel
theorem dX7_layersAt_0 : decode cX7_layersAt 0 = .ok (.iload_n 1, 1) := by decide +kernel
theorem dX7_layersAt_1 : decode cX7_layersAt 1 = .ok (.invokestatic 26, 3) := by decide +kernel
theorem dX7_layersAt_4 : decode cX7_layersAt 4 = .ok (.ifCond .eq 12, 3) := by decide +kernel
theorem dX7_layersAt_7 : decode cX7_layersAt 7 = .ok (.aload_n 0, 1) := by decide +kernel
theorem dX7_layersAt_8 : decode cX7_layersAt 8 = .ok (.getfield 9, 3) := by decide +kernel
theorem dX7_layersAt_11 : decode cX7_layersAt 11 = .ok (.iload_n 1, 1) := by decide +kernel
theorem dX7_layersAt_12 : decode cX7_layersAt 12 = .ok (.iaload, 1) := by decide +kernel
theorem dX7_layersAt_13 : decode cX7_layersAt 13 = .ok (.goto 4, 3) := by decide +kernel
theorem dX7_layersAt_16 : decode cX7_layersAt 16 = .ok (.iconst 0, 1) := by decide +kernel
theorem dX7_layersAt_17 : decode cX7_layersAt 17 = .ok (.ireturn, 1) := by decide +kernel


set_option maxHeartbeats 4000000 in
set_option maxRecDepth 100000 in
theorem c_X10_holds2 (l : Launch) (D : va_G) (g : xG) (T : Nat × Nat × Nat) (h0 : Nat) (s0 : xS) (hσ : xRR s0) (ka : Nat) (hka : ka < 310) (hns : nsC ka) (hca : ∀ σ : xS, xcel h0 g σ ka = .inl (g.1, 2, .inl (fun j => xJ (σ ka j)))) (x : Int) (rx : xR x) : Met l yX10_holds (xws yX10_holds cX10_holds 3 (some .boolean)) { frames := 0, cells := 0, slots := 0, locals := 0 } (xP [.ref (h0 + ka), .int (xJ x)] D g T h0 s0) (xQi D g h0 (fun r τ => s0 = τ ∧ (r = 0 ∨ r = 1))) 0 0 (xA h0) := by
  refine x_met hσ (by decide) (Nat.le_of_ble_eq_true rfl) ?_
  intro p e s m args below meth c hx hb hr hml hown hT hlk hnm hE hW ls hl
  have hl : lv_has ls 3 [(0, .ref (h0 + ka)), (1, .int (xJ x))] := hl
  obtain ⟨Q, eQ⟩ : ∃ Q, Q = MQ below (xQi D g h0 (fun r τ => s0 = τ ∧ (r = 0 ∨ r = 1))) args s 0 0 (xA h0) := ⟨_, rfl⟩
  rw [← eQ]
  generalize hHe : ([] : List Loc) = locs at hW ⊢
  obtain ⟨H, eH⟩ : ∃ H, H = s.heap := ⟨_, rfl⟩
  rw [← eH] at hW ⊢
  refine x_iconst hx hb dX10_holds_0 ?_
  refine lv_istore_n (lv' := [(2, .int (xJ 0)), (0, .ref (h0 + ka)), (1, .int (xJ x))]) hx hb dX10_holds_1 rfl hl (by decide) rfl (fun ls hl => ?_)
  have L2 : ∀ (fu : Nat) (i2_2 : Int) (ls : Array Slot), (xR i2_2) → (0 ≤ i2_2) → (2 - i2_2).toNat < fu → lv_has ls 3 [(0, .ref (h0 + ka)), (1, .int (xJ x)), (2, .int (xJ i2_2))] → W p l e { frames := 0, cells := 0, slots := 0, locals := 0 } s m args below meth c H locs 0 0 Q (F0 m 2 ls []) := by
    intro fu
    induction fu with
    | zero => intro i2_2 ls ri2_2 v2_0 hm; exact absurd hm (Nat.not_lt_zero _)
    | succ fu ih2 =>
      intro i2_2 ls ri2_2 v2_0 hm  hl
      refine x_iload_n hx hb hl 2 rfl dX10_holds_2 rfl ?_
      refine x_aload_n hx hb hl 0 rfl dX10_holds_3 rfl ?_
      refine x_alen (n := 2) (t0 := 0) hx hb hE hW (Or.inl hka) (hca _) rfl rfl dX10_holds_4 ?_
      refine x_icmp_ge (tgt := 23) hx hb ri2_2 (by decide) dX10_holds_5 (by decide) (fun c1 => ?_) (fun c1 => ?_)
      · skip
        refine x_iconst hx hb dX10_holds_23 ?_
        rw [eQ]
        exact x_zret hx hb hr hlk hW (by omega) ⟨rfl, by omega⟩ dX10_holds_24
      refine x_aload_n hx hb hl 0 rfl dX10_holds_8 rfl ?_
      refine x_iload_n hx hb hl 2 rfl dX10_holds_9 rfl ?_
      refine x_iald hx hb hE hW (Or.inl hka) (hca _) (by omega) (by decide) dX10_holds_10 ?_
      refine x_rd hW (fun x2 ex2 rx2 => ?_)
      refine x_iload_n hx hb hl 1 rfl dX10_holds_11 rfl ?_
      refine x_icmp_ne (tgt := 17) hx hb rx2 rx dX10_holds_12 (by decide) (fun c3 => ?_) (fun c3 => ?_)
      · skip
        refine x_iinc (lv' := [(2, .int (xJ (i2_2 + 1))), (0, .ref (h0 + ka)), (1, .int (xJ x))]) hx hb hl 2 rfl dX10_holds_17 (by decide) rfl (fun ls hl => ?_)
        refine lv_goto (tgt := 2) hx hb dX10_holds_20 (by decide) ?_
        exact ih2 (i2_2 + 1) ls (by omega) (by omega) (by omega)  (lv_sub hl [1, 2, 0] rfl)
      refine x_iconst hx hb dX10_holds_15 ?_
      rw [eQ]
      exact x_zret hx hb hr hlk hW (by omega) ⟨rfl, by omega⟩ dX10_holds_16
  exact L2 ((2 - 0 : Int).toNat + 1) 0 ls (by decide) (by omega) (Nat.lt_succ_self _)  (lv_sub hl [1, 2, 0] rfl)
set_option maxHeartbeats 4000000 in
set_option maxRecDepth 100000 in
theorem c_X10_holds10 (l : Launch) (D : va_G) (g : xG) (T : Nat × Nat × Nat) (h0 : Nat) (s0 : xS) (hσ : xRR s0) (ka : Nat) (hka : ka < 310) (hns : nsC ka) (hca : ∀ σ : xS, xcel h0 g σ ka = .inl (g.1, 10, .inl (fun j => xJ (σ ka j)))) (x : Int) (rx : xR x) : Met l yX10_holds (xws yX10_holds cX10_holds 3 (some .boolean)) { frames := 0, cells := 0, slots := 0, locals := 0 } (xP [.ref (h0 + ka), .int (xJ x)] D g T h0 s0) (xQi D g h0 (fun r τ => s0 = τ ∧ (r = 0 ∨ r = 1))) 0 0 (xA h0) := by
  refine x_met hσ (by decide) (Nat.le_of_ble_eq_true rfl) ?_
  intro p e s m args below meth c hx hb hr hml hown hT hlk hnm hE hW ls hl
  have hl : lv_has ls 3 [(0, .ref (h0 + ka)), (1, .int (xJ x))] := hl
  obtain ⟨Q, eQ⟩ : ∃ Q, Q = MQ below (xQi D g h0 (fun r τ => s0 = τ ∧ (r = 0 ∨ r = 1))) args s 0 0 (xA h0) := ⟨_, rfl⟩
  rw [← eQ]
  generalize hHe : ([] : List Loc) = locs at hW ⊢
  obtain ⟨H, eH⟩ : ∃ H, H = s.heap := ⟨_, rfl⟩
  rw [← eH] at hW ⊢
  refine x_iconst hx hb dX10_holds_0 ?_
  refine lv_istore_n (lv' := [(2, .int (xJ 0)), (0, .ref (h0 + ka)), (1, .int (xJ x))]) hx hb dX10_holds_1 rfl hl (by decide) rfl (fun ls hl => ?_)
  have L2 : ∀ (fu : Nat) (i2_2 : Int) (ls : Array Slot), (xR i2_2) → (0 ≤ i2_2) → (10 - i2_2).toNat < fu → lv_has ls 3 [(0, .ref (h0 + ka)), (1, .int (xJ x)), (2, .int (xJ i2_2))] → W p l e { frames := 0, cells := 0, slots := 0, locals := 0 } s m args below meth c H locs 0 0 Q (F0 m 2 ls []) := by
    intro fu
    induction fu with
    | zero => intro i2_2 ls ri2_2 v2_0 hm; exact absurd hm (Nat.not_lt_zero _)
    | succ fu ih2 =>
      intro i2_2 ls ri2_2 v2_0 hm  hl
      refine x_iload_n hx hb hl 2 rfl dX10_holds_2 rfl ?_
      refine x_aload_n hx hb hl 0 rfl dX10_holds_3 rfl ?_
      refine x_alen (n := 10) (t0 := 0) hx hb hE hW (Or.inl hka) (hca _) rfl rfl dX10_holds_4 ?_
      refine x_icmp_ge (tgt := 23) hx hb ri2_2 (by decide) dX10_holds_5 (by decide) (fun c1 => ?_) (fun c1 => ?_)
      · skip
        refine x_iconst hx hb dX10_holds_23 ?_
        rw [eQ]
        exact x_zret hx hb hr hlk hW (by omega) ⟨rfl, by omega⟩ dX10_holds_24
      refine x_aload_n hx hb hl 0 rfl dX10_holds_8 rfl ?_
      refine x_iload_n hx hb hl 2 rfl dX10_holds_9 rfl ?_
      refine x_iald hx hb hE hW (Or.inl hka) (hca _) (by omega) (by decide) dX10_holds_10 ?_
      refine x_rd hW (fun x2 ex2 rx2 => ?_)
      refine x_iload_n hx hb hl 1 rfl dX10_holds_11 rfl ?_
      refine x_icmp_ne (tgt := 17) hx hb rx2 rx dX10_holds_12 (by decide) (fun c3 => ?_) (fun c3 => ?_)
      · skip
        refine x_iinc (lv' := [(2, .int (xJ (i2_2 + 1))), (0, .ref (h0 + ka)), (1, .int (xJ x))]) hx hb hl 2 rfl dX10_holds_17 (by decide) rfl (fun ls hl => ?_)
        refine lv_goto (tgt := 2) hx hb dX10_holds_20 (by decide) ?_
        exact ih2 (i2_2 + 1) ls (by omega) (by omega) (by omega)  (lv_sub hl [1, 2, 0] rfl)
      refine x_iconst hx hb dX10_holds_15 ?_
      rw [eQ]
      exact x_zret hx hb hr hlk hW (by omega) ⟨rfl, by omega⟩ dX10_holds_16
  exact L2 ((10 - 0 : Int).toNat + 1) 0 ls (by decide) (by omega) (Nat.lt_succ_self _)  (lv_sub hl [1, 2, 0] rfl)
set_option maxHeartbeats 4000000 in
set_option maxRecDepth 100000 in
theorem c_X10_bitsOfTold10 (l : Launch) (D : va_G) (g : xG) (T : Nat × Nat × Nat) (h0 : Nat) (s0 : xS) (hσ : xRR s0) (ka : Nat) (hka : ka < 310) (hns : nsC ka) (hca : ∀ σ : xS, xcel h0 g σ ka = .inl (g.1, 10, .inl (fun j => xJ (σ ka j)))) : Met l yX10_bitsOfTold (xws yX10_bitsOfTold cX10_bitsOfTold 3 (some .int)) { frames := 0, cells := 0, slots := 0, locals := 0 } (xP [.ref (h0 + ka)] D g T h0 s0) (xQi D g h0 (fun r τ => s0 = τ ∧ (True))) 0 0 (xA h0) := by
  refine x_met hσ (by decide) (Nat.le_of_ble_eq_true rfl) ?_
  intro p e s m args below meth c hx hb hr hml hown hT hlk hnm hE hW ls hl
  have hl : lv_has ls 3 [(0, .ref (h0 + ka))] := hl
  obtain ⟨Q, eQ⟩ : ∃ Q, Q = MQ below (xQi D g h0 (fun r τ => s0 = τ ∧ (True))) args s 0 0 (xA h0) := ⟨_, rfl⟩
  rw [← eQ]
  generalize hHe : ([] : List Loc) = locs at hW ⊢
  obtain ⟨H, eH⟩ : ∃ H, H = s.heap := ⟨_, rfl⟩
  rw [← eH] at hW ⊢
  refine x_iconst hx hb dX10_bitsOfTold_0 ?_
  refine lv_istore_n (lv' := [(1, .int (xJ 0)), (0, .ref (h0 + ka))]) hx hb dX10_bitsOfTold_1 rfl hl (by decide) rfl (fun ls hl => ?_)
  refine x_iconst hx hb dX10_bitsOfTold_2 ?_
  refine lv_istore_n (lv' := [(2, .int (xJ 0)), (1, .int (xJ 0)), (0, .ref (h0 + ka))]) hx hb dX10_bitsOfTold_3 rfl hl (by decide) rfl (fun ls hl => ?_)
  have L4 : ∀ (fu : Nat) (i1_4 : Int) (i2_4 : Int) (ls : Array Slot), (xR i1_4) → (xR i2_4) → (0 ≤ i2_4) → (10 - i2_4).toNat < fu → lv_has ls 3 [(0, .ref (h0 + ka)), (1, .int (xJ i1_4)), (2, .int (xJ i2_4))] → W p l e { frames := 0, cells := 0, slots := 0, locals := 0 } s m args below meth c H locs 0 0 Q (F0 m 4 ls []) := by
    intro fu
    induction fu with
    | zero => intro i1_4 i2_4 ls ri1_4 ri2_4 v4_0 hm; exact absurd hm (Nat.not_lt_zero _)
    | succ fu ih4 =>
      intro i1_4 i2_4 ls ri1_4 ri2_4 v4_0 hm  hl
      refine x_iload_n hx hb hl 2 rfl dX10_bitsOfTold_4 rfl ?_
      refine x_aload_n hx hb hl 0 rfl dX10_bitsOfTold_5 rfl ?_
      refine x_alen (n := 10) (t0 := 0) hx hb hE hW (Or.inl hka) (hca _) rfl rfl dX10_bitsOfTold_6 ?_
      refine x_icmp_ge (tgt := 29) hx hb ri2_4 (by decide) dX10_bitsOfTold_7 (by decide) (fun c1 => ?_) (fun c1 => ?_)
      · skip
        refine x_iload_n hx hb hl 1 rfl dX10_bitsOfTold_29 rfl ?_
        rw [eQ]
        exact x_iret hx hb hr hlk hW ri1_4 ⟨rfl, trivial⟩ dX10_bitsOfTold_30
      refine x_aload_n hx hb hl 0 rfl dX10_bitsOfTold_10 rfl ?_
      refine x_iload_n hx hb hl 2 rfl dX10_bitsOfTold_11 rfl ?_
      refine x_iald hx hb hE hW (Or.inl hka) (hca _) (by omega) (by decide) dX10_bitsOfTold_12 ?_
      refine x_rd hW (fun x2 ex2 rx2 => ?_)
      refine x_iconst hx hb dX10_bitsOfTold_13 ?_
      refine x_icmp_eq (tgt := 23) hx hb rx2 (by decide) dX10_bitsOfTold_14 (by decide) (fun c3 => ?_) (fun c3 => ?_)
      · skip
        refine x_iinc (lv' := [(2, .int (xJ (i2_4 + 1))), (0, .ref (h0 + ka)), (1, .int (xJ i1_4))]) hx hb hl 2 rfl dX10_bitsOfTold_23 (by decide) rfl (fun ls hl => ?_)
        refine lv_goto (tgt := 4) hx hb dX10_bitsOfTold_26 (by decide) ?_
        exact ih4 i1_4 (i2_4 + 1) ls ri1_4 (by omega) (by omega) (by omega)  (lv_sub hl [1, 2, 0] rfl)
      refine x_iload_n hx hb hl 1 rfl dX10_bitsOfTold_17 rfl ?_
      refine x_iconst hx hb dX10_bitsOfTold_18 ?_
      refine x_iload_n hx hb hl 2 rfl dX10_bitsOfTold_19 rfl ?_
      refine lv_ishl hx hb dX10_bitsOfTold_20 ?_
      refine x_any (fun x4 rx4 => ?_)
      refine lv_ior hx hb dX10_bitsOfTold_21 ?_
      refine x_any (fun x5 rx5 => ?_)
      refine lv_istore_n (lv' := [(1, .int (xJ x5)), (0, .ref (h0 + ka)), (2, .int (xJ i2_4))]) hx hb dX10_bitsOfTold_22 rfl hl (by decide) rfl (fun ls hl => ?_)
      refine x_iinc (lv' := [(2, .int (xJ (i2_4 + 1))), (1, .int (xJ x5)), (0, .ref (h0 + ka))]) hx hb hl 2 rfl dX10_bitsOfTold_23 (by decide) rfl (fun ls hl => ?_)
      refine lv_goto (tgt := 4) hx hb dX10_bitsOfTold_26 (by decide) ?_
      exact ih4 x5 (i2_4 + 1) ls rx5 (by omega) (by omega) (by omega)  (lv_sub hl [2, 1, 0] rfl)
  exact L4 ((10 - 0 : Int).toNat + 1) 0 0 ls (by decide) (by decide) (by omega) (Nat.lt_succ_self _)  (lv_sub hl [2, 1, 0] rfl)
set_option maxHeartbeats 4000000 in
set_option maxRecDepth 100000 in
theorem c_X10_holds4 (l : Launch) (D : va_G) (g : xG) (T : Nat × Nat × Nat) (h0 : Nat) (s0 : xS) (hσ : xRR s0) (ka : Nat) (hka : ka < 310) (hns : nsC ka) (hca : ∀ σ : xS, xcel h0 g σ ka = .inl (g.1, 4, .inl (fun j => xJ (σ ka j)))) (x : Int) (rx : xR x) : Met l yX10_holds (xws yX10_holds cX10_holds 3 (some .boolean)) { frames := 0, cells := 0, slots := 0, locals := 0 } (xP [.ref (h0 + ka), .int (xJ x)] D g T h0 s0) (xQi D g h0 (fun r τ => s0 = τ ∧ (r = 0 ∨ r = 1))) 0 0 (xA h0) := by
  refine x_met hσ (by decide) (Nat.le_of_ble_eq_true rfl) ?_
  intro p e s m args below meth c hx hb hr hml hown hT hlk hnm hE hW ls hl
  have hl : lv_has ls 3 [(0, .ref (h0 + ka)), (1, .int (xJ x))] := hl
  obtain ⟨Q, eQ⟩ : ∃ Q, Q = MQ below (xQi D g h0 (fun r τ => s0 = τ ∧ (r = 0 ∨ r = 1))) args s 0 0 (xA h0) := ⟨_, rfl⟩
  rw [← eQ]
  generalize hHe : ([] : List Loc) = locs at hW ⊢
  obtain ⟨H, eH⟩ : ∃ H, H = s.heap := ⟨_, rfl⟩
  rw [← eH] at hW ⊢
  refine x_iconst hx hb dX10_holds_0 ?_
  refine lv_istore_n (lv' := [(2, .int (xJ 0)), (0, .ref (h0 + ka)), (1, .int (xJ x))]) hx hb dX10_holds_1 rfl hl (by decide) rfl (fun ls hl => ?_)
  have L2 : ∀ (fu : Nat) (i2_2 : Int) (ls : Array Slot), (xR i2_2) → (0 ≤ i2_2) → (4 - i2_2).toNat < fu → lv_has ls 3 [(0, .ref (h0 + ka)), (1, .int (xJ x)), (2, .int (xJ i2_2))] → W p l e { frames := 0, cells := 0, slots := 0, locals := 0 } s m args below meth c H locs 0 0 Q (F0 m 2 ls []) := by
    intro fu
    induction fu with
    | zero => intro i2_2 ls ri2_2 v2_0 hm; exact absurd hm (Nat.not_lt_zero _)
    | succ fu ih2 =>
      intro i2_2 ls ri2_2 v2_0 hm  hl
      refine x_iload_n hx hb hl 2 rfl dX10_holds_2 rfl ?_
      refine x_aload_n hx hb hl 0 rfl dX10_holds_3 rfl ?_
      refine x_alen (n := 4) (t0 := 0) hx hb hE hW (Or.inl hka) (hca _) rfl rfl dX10_holds_4 ?_
      refine x_icmp_ge (tgt := 23) hx hb ri2_2 (by decide) dX10_holds_5 (by decide) (fun c1 => ?_) (fun c1 => ?_)
      · skip
        refine x_iconst hx hb dX10_holds_23 ?_
        rw [eQ]
        exact x_zret hx hb hr hlk hW (by omega) ⟨rfl, by omega⟩ dX10_holds_24
      refine x_aload_n hx hb hl 0 rfl dX10_holds_8 rfl ?_
      refine x_iload_n hx hb hl 2 rfl dX10_holds_9 rfl ?_
      refine x_iald hx hb hE hW (Or.inl hka) (hca _) (by omega) (by decide) dX10_holds_10 ?_
      refine x_rd hW (fun x2 ex2 rx2 => ?_)
      refine x_iload_n hx hb hl 1 rfl dX10_holds_11 rfl ?_
      refine x_icmp_ne (tgt := 17) hx hb rx2 rx dX10_holds_12 (by decide) (fun c3 => ?_) (fun c3 => ?_)
      · skip
        refine x_iinc (lv' := [(2, .int (xJ (i2_2 + 1))), (0, .ref (h0 + ka)), (1, .int (xJ x))]) hx hb hl 2 rfl dX10_holds_17 (by decide) rfl (fun ls hl => ?_)
        refine lv_goto (tgt := 2) hx hb dX10_holds_20 (by decide) ?_
        exact ih2 (i2_2 + 1) ls (by omega) (by omega) (by omega)  (lv_sub hl [1, 2, 0] rfl)
      refine x_iconst hx hb dX10_holds_15 ?_
      rw [eQ]
      exact x_zret hx hb hr hlk hW (by omega) ⟨rfl, by omega⟩ dX10_holds_16
  exact L2 ((4 - 0 : Int).toNat + 1) 0 ls (by decide) (by omega) (Nat.lt_succ_self _)  (lv_sub hl [1, 2, 0] rfl)
set_option maxHeartbeats 4000000 in
set_option maxRecDepth 100000 in
theorem c_X10_isIn (l : Launch) (D : va_G) (g : xG) (T : Nat × Nat × Nat) (h0 : Nat) (s0 : xS) (hσ : xRR s0) (x : Int) (rx : xR x) (lo : Int) (rlo : xR lo) (hi : Int) (rhi : xR hi) : Met l yX10_isIn (xws yX10_isIn cX10_isIn 3 (some .boolean)) { frames := 0, cells := 0, slots := 0, locals := 0 } (xP [.int (xJ x), .int (xJ lo), .int (xJ hi)] D g T h0 s0) (xQi D g h0 (fun r τ => s0 = τ ∧ ((r = 1 ∧ lo ≤ x ∧ x ≤ hi) ∨ (r = 0 ∧ (x < lo ∨ hi < x))))) 0 0 (xA h0) := by
  refine x_met hσ (by decide) (Nat.le_of_ble_eq_true rfl) ?_
  intro p e s m args below meth c hx hb hr hml hown hT hlk hnm hE hW ls hl
  have hl : lv_has ls 3 [(0, .int (xJ x)), (1, .int (xJ lo)), (2, .int (xJ hi))] := hl
  obtain ⟨Q, eQ⟩ : ∃ Q, Q = MQ below (xQi D g h0 (fun r τ => s0 = τ ∧ ((r = 1 ∧ lo ≤ x ∧ x ≤ hi) ∨ (r = 0 ∧ (x < lo ∨ hi < x))))) args s 0 0 (xA h0) := ⟨_, rfl⟩
  rw [← eQ]
  generalize hHe : ([] : List Loc) = locs at hW ⊢
  obtain ⟨H, eH⟩ : ∃ H, H = s.heap := ⟨_, rfl⟩
  rw [← eH] at hW ⊢
  refine x_iload_n hx hb hl 0 rfl dX10_isIn_0 rfl ?_
  refine x_iload_n hx hb hl 1 rfl dX10_isIn_1 rfl ?_
  refine x_icmp_lt (tgt := 14) hx hb rx rlo dX10_isIn_2 (by decide) (fun c1 => ?_) (fun c1 => ?_)
  · skip
    refine x_iconst hx hb dX10_isIn_14 ?_
    rw [eQ]
    exact x_zret hx hb hr hlk hW (by omega) ⟨rfl, by omega⟩ dX10_isIn_15
  refine x_iload_n hx hb hl 0 rfl dX10_isIn_5 rfl ?_
  refine x_iload_n hx hb hl 2 rfl dX10_isIn_6 rfl ?_
  refine x_icmp_gt (tgt := 14) hx hb rx rhi dX10_isIn_7 (by decide) (fun c2 => ?_) (fun c2 => ?_)
  · skip
    refine x_iconst hx hb dX10_isIn_14 ?_
    rw [eQ]
    exact x_zret hx hb hr hlk hW (by omega) ⟨rfl, by omega⟩ dX10_isIn_15
  refine x_iconst hx hb dX10_isIn_10 ?_
  refine lv_goto (tgt := 15) hx hb dX10_isIn_11 (by decide) ?_
  rw [eQ]
  exact x_zret hx hb hr hlk hW (by omega) ⟨rfl, by omega⟩ dX10_isIn_15
set_option maxHeartbeats 4000000 in
set_option maxRecDepth 100000 in
theorem c_X7_layersAt (l : Launch) (D : va_G) (g : xG) (T : Nat × Nat × Nat) (h0 : Nat) (s0 : xS) (hσ : xRR s0) (x : Int) (rx : xR x) (p0 : IC s0) : Met l yX7_layersAt (xws yX7_layersAt cX7_layersAt 2 (some .int)) { frames := 1, cells := 0, slots := 0, locals := 20 } (xP [.ref (h0 + 130), .int (xJ x)] D g T h0 s0) (xQi D g h0 (fun r τ => s0 = τ ∧ (True))) 0 0 (xA h0) := by
  refine x_met hσ (by decide) (Nat.le_of_ble_eq_true rfl) ?_
  intro p e s m args below meth c hx hb hr hml hown hT hlk hnm hE hW ls hl
  have hl : lv_has ls 2 [(0, .ref (h0 + 130)), (1, .int (xJ x))] := hl
  obtain ⟨Q, eQ⟩ : ∃ Q, Q = MQ below (xQi D g h0 (fun r τ => s0 = τ ∧ (True))) args s 0 0 (xA h0) := ⟨_, rfl⟩
  rw [← eQ]
  generalize hHe : ([] : List Loc) = locs at hW ⊢
  obtain ⟨H, eH⟩ : ∃ H, H = s.heap := ⟨_, rfl⟩
  rw [← eH] at hW ⊢
  have k1_1 : s0 1 1 = s0 1 1 := rfl
  refine x_iload_n hx hb hl 1 rfl dX7_layersAt_0 rfl ?_
  refine x_goi (x_runSN (As := [.int (xJ x)]) hx hb hml hown hT hE hW hl.1 cf_X6_isSpot wq831 wn830 (c_X6_isSpot l D g T h0 s0 hW.2.1 x rx) ⟨rfl, rfl, ⟨by decide, by decide⟩, ⟨by decide, by decide⟩⟩ rfl rfl (Nat.le_of_ble_eq_true rfl) dX7_layersAt_1) hW (fun x1 s2 H locs rx1 hp3 hW => ?_)
  obtain ⟨es2, hp3⟩ := hp3
  subst es2
  have ghp3 := hp3
  refine x_if_eq (tgt := 16) hx hb rx1 dX7_layersAt_4 (by decide) (fun c4 => ?_) (fun c4 => ?_)
  · skip
    refine x_iconst hx hb dX7_layersAt_16 ?_
    rw [eQ]
    exact x_iret hx hb hr hlk hW (by decide) ⟨rfl, trivial⟩ dX7_layersAt_17
  refine x_aload_n hx hb hl 0 rfl dX7_layersAt_7 rfl ?_
  refine x_get (j := 0) (v := .ref (h0 + 131)) hx hb hown hT hE hW cls_X7 (Or.inl (by decide)) (so_130 h0 g _) (by decide) rfl wq330 dX7_layersAt_8 ?_
  refine x_iload_n hx hb hl 1 rfl dX7_layersAt_11 rfl ?_
  refine x_iald hx hb hE hW (Or.inl (by decide)) (sa_131 h0 g _) (by omega) (by decide) dX7_layersAt_12 ?_
  refine x_rd hW (fun x5 ex5 rx5 => ?_)
  refine lv_goto (tgt := 17) hx hb dX7_layersAt_13 (by decide) ?_
  rw [eQ]
  exact x_iret hx hb hr hlk hW rx5 ⟨rfl, trivial⟩ dX7_layersAt_17
set_option maxHeartbeats 4000000 in
set_option maxRecDepth 100000 in
theorem c_X0_tellFelon (l : Launch) (D : va_G) (g : xG) (T : Nat × Nat × Nat) (h0 : Nat) (s0 : xS) (hσ : xRR s0) (d : Nat) (hd : xDay d) (f : Int) (rf : xR f) (p0 : IC s0) : Met l yX0_tellFelon (xws yX0_tellFelon cX0_tellFelon 4 none) { frames := 2, cells := 0, slots := 0, locals := 47 } (xP [.ref (h0 + 128), .ref (h0 + d), .int (xJ f)] D g T h0 s0) (xQv D g h0 (fun τ => xFr (fun k => k = 115) s0 τ ∧ (((IC τ) ∧ True) ∧ (True)))) 0 0 (xA h0) := by
  refine x_met hσ (by decide) (Nat.le_of_ble_eq_true rfl) ?_
  intro p e s m args below meth c hx hb hr hml hown hT hlk hnm hE hW ls hl
  have hl : lv_has ls 4 [(0, .ref (h0 + 128)), (1, .ref (h0 + d)), (2, .int (xJ f))] := hl
  obtain ⟨Q, eQ⟩ : ∃ Q, Q = MQ below (xQv D g h0 (fun τ => xFr (fun k => k = 115) s0 τ ∧ (((IC τ) ∧ True) ∧ (True)))) args s 0 0 (xA h0) := ⟨_, rfl⟩
  rw [← eQ]
  generalize hHe : ([] : List Loc) = locs at hW ⊢
  obtain ⟨H, eH⟩ : ∃ H, H = s.heap := ⟨_, rfl⟩
  rw [← eH] at hW ⊢
  have hF : xFr (fun k => k = 115) s0 s0 := xFr.rf
  have hbd : (136 ≤ d ∧ d < 209) ∧ (d ≤ 146 ∨ 158 ≤ d) := by unfold xDay at hd; omega
  have k1_1 : s0 1 1 = s0 1 1 := rfl
  refine x_aload_n hx hb hl 1 rfl dX0_tellFelon_0 rfl ?_
  refine x_iload_n hx hb hl 2 rfl dX0_tellFelon_1 rfl ?_
  refine x_goi (x_runVN (As := [.int (xJ f)]) hx hb hml hown hT hE hW hl.1 (Or.inl (by omega)) (so_day0 h0 g hd _) rfl cf_X2_hasFelon wq862 wq53 wn868 (c_X2_hasFelon l D g T h0 s0 hW.2.1 d hd f rf p0) ⟨rfl, rfl, ⟨by decide, by decide⟩, ⟨by decide, by decide⟩⟩ rfl rfl (Nat.le_of_ble_eq_true rfl) dX0_tellFelon_2) hW (fun x1 s2 H locs rx1 hp3 hW => ?_)
  obtain ⟨es2, hp3⟩ := hp3
  subst es2
  have ghp3 := hp3
  refine x_if_eq (tgt := 56) hx hb rx1 dX0_tellFelon_5 (by decide) (fun c4 => ?_) (fun c4 => ?_)
  · skip
    rw [eQ]
    exact x_vret hx hb hr hlk hW ⟨hF, ⟨p0, trivial⟩, trivial⟩ dX0_tellFelon_56
  refine x_aload_n hx hb hl 0 rfl dX0_tellFelon_8 rfl ?_
  refine x_get (j := 0) (v := .ref (h0 + 3)) hx hb hown hT hE hW cls_X0 (Or.inl (by decide)) (so_128 h0 g _) (by decide) rfl wq351 dX0_tellFelon_9 ?_
  refine x_aload_n hx hb hl 1 rfl dX0_tellFelon_12 rfl ?_
  refine x_getN (j := 3) (v := .ref (h0 + (d + 6))) hx hb hown hT hE hW cls_X2 (Or.inl (by omega)) (so_day0 h0 g hd _) (by decide) rfl wn390 dX0_tellFelon_13 ?_
  refine x_iload_n hx hb hl 2 rfl dX0_tellFelon_16 rfl ?_
  refine x_iald hx hb hE hW (Or.inl (by omega)) (sa_day6 h0 g hd _) (by omega) (by decide) dX0_tellFelon_17 ?_
  refine x_rd hW (fun x5 ex5 rx5 => ?_)
  refine x_goi (x_runVN (As := [.int (xJ x5)]) hx hb hml hown hT hE hW hl.1 (Or.inl (by decide)) (so_3 h0 g _) rfl cf_X6_kindAt wq619 wq10 wn848 (c_X6_kindAt l D g T h0 s0 hW.2.1 x5 rx5 p0) ⟨rfl, rfl, ⟨by decide, by decide⟩, ⟨by decide, by decide⟩⟩ rfl rfl (Nat.le_of_ble_eq_true rfl) dX0_tellFelon_18) hW (fun x6 s7 H locs rx6 hp8 hW => ?_)
  obtain ⟨es7, hp8⟩ := hp8
  subst es7
  have ghp8 := hp8
  refine x_iconst hx hb dX0_tellFelon_21 ?_
  have J30 : ∀ (t0_30 : Int) (ls : Array Slot), (xR t0_30) → lv_has ls 4 [(0, .ref (h0 + 128)), (1, .ref (h0 + d)), (2, .int (xJ f))] → W p l e { frames := 2, cells := 0, slots := 0, locals := 47 } s m args below meth c H locs 0 0 Q (F0 m 30 ls [.int (xJ t0_30)]) := by
    intro t0_30 ls rt0_30  hl
    refine lv_istore_n (lv' := [(3, .int (xJ t0_30)), (0, .ref (h0 + 128)), (1, .ref (h0 + d)), (2, .int (xJ f))]) hx hb dX0_tellFelon_30 rfl hl (by decide) rfl (fun ls hl => ?_)
    refine x_aload_n hx hb hl 1 rfl dX0_tellFelon_31 rfl ?_
    refine x_get (j := 1) (v := .ref (h0 + 109)) hx hb hown hT hE hW cls_X0 (Or.inl (by decide)) (so_128 h0 g _) (by decide) rfl wq354 dX0_tellFelon_32 ?_
    refine x_aload_n hx hb hl 2 rfl dX0_tellFelon_35 rfl ?_
    refine x_getN (j := 7) (v := .int (xJ (s0 d 7))) hx hb hown hT hE hW cls_X2 (Or.inl (by omega)) (so_day0 h0 g hd _) (by decide) rfl wn402 dX0_tellFelon_36 ?_
    refine x_rd hW (fun x9 ex9 rx9 => ?_)
    have bx9 : 0 ≤ x9 ∧ x9 ≤ 9999 := by rw [ex9]; exact IC.m p0 hd
    refine x_iload_n hx hb hl 3 rfl dX0_tellFelon_39 rfl ?_
    refine x_aload_n hx hb hl 2 rfl dX0_tellFelon_40 rfl ?_
    refine x_getN (j := 4) (v := .ref (h0 + (d + 7))) hx hb hown hT hE hW cls_X2 (Or.inl (by omega)) (so_day0 h0 g hd _) (by decide) rfl wn393 dX0_tellFelon_41 ?_
    refine x_iload_n hx hb hl 3 rfl dX0_tellFelon_44 rfl ?_
    refine x_iald hx hb hE hW (Or.inl (by omega)) (sa_day7 h0 g hd _) (by omega) (by decide) dX0_tellFelon_45 ?_
    refine x_rd hW (fun x10 ex10 rx10 => ?_)
    refine x_aload_n hx hb hl 2 rfl dX0_tellFelon_46 rfl ?_
    refine x_getN (j := 5) (v := .ref (h0 + (d + 8))) hx hb hown hT hE hW cls_X2 (Or.inl (by omega)) (so_day0 h0 g hd _) (by decide) rfl wn396 dX0_tellFelon_47 ?_
    refine x_iload_n hx hb hl 3 rfl dX0_tellFelon_50 rfl ?_
    refine x_iald hx hb hE hW (Or.inl (by omega)) (sa_day8 h0 g hd _) (by omega) (by decide) dX0_tellFelon_51 ?_
    refine x_rd hW (fun x11 ex11 rx11 => ?_)
    refine x_iload_n hx hb hl 0 rfl dX0_tellFelon_52 rfl ?_
    refine x_gov (x_runVN (As := [.int (xJ x9), .int (xJ f), .int (xJ x10), .int (xJ x11), .int (xJ t0_30)]) hx hb hml hown hT hE hW hl.1 (Or.inl (by decide)) (so_109 h0 g _) rfl cf_X4_tellFelon wq871 wq55 wn869 (c_X4_tellFelon l D g T h0 s0 hW.2.1 x9 rx9 f rf x10 rx10 x11 rx11 t0_30 rt0_30 p0) ⟨rfl, rfl, ⟨by decide, by decide⟩, ⟨by decide, by decide⟩⟩ rfl rfl (Nat.le_of_ble_eq_true rfl) dX0_tellFelon_53) hW (fun s13 H locs hp14 hW => ?_)
    obtain ⟨fs13, hp14⟩ := hp14
    have hF15 := hF.call fs13 (fun k h => by omega)
    have q16 : s13 1 1 = s0 1 1 := (congrFun (fs13 _ (by omega)) _).trans k1_1
    have ghp14 := hp14.2
    rw [eQ]
    exact x_vret hx hb hr hlk hW ⟨hF15, ⟨hp14.1.1, trivial⟩, trivial⟩ dX0_tellFelon_56
  refine x_icmp_ne (tgt := 29) hx hb rx6 (by decide) dX0_tellFelon_22 (by decide) (fun c17 => ?_) (fun c17 => ?_)
  · skip
    refine x_iconst hx hb dX0_tellFelon_29 ?_
    exact J30 0 ls (by decide)  (lv_sub hl [0, 1, 2] rfl)
  refine x_iconst hx hb dX0_tellFelon_25 ?_
  refine lv_goto (tgt := 30) hx hb dX0_tellFelon_26 (by decide) ?_
  exact J30 1 ls (by decide)  (lv_sub hl [0, 1, 2] rfl)
set_option maxHeartbeats 4000000 in
set_option maxRecDepth 100000 in
theorem c_X0_reachOf (l : Launch) (D : va_G) (g : xG) (T : Nat × Nat × Nat) (h0 : Nat) (s0 : xS) (hσ : xRR s0) (d : Nat) (hd : xDay d) (f : Int) (rf : xR f) (p0 : IC s0) : Met l yX0_reachOf (xws yX0_reachOf cX0_reachOf 3 (some .int)) { frames := 3, cells := 0, slots := 0, locals := 73 } (xP [.ref (h0 + 128), .ref (h0 + d), .int (xJ f)] D g T h0 s0) (xQi D g h0 (fun r τ => xFr (fun k => k = 115 ∨ k = 116) s0 τ ∧ (((IC τ) ∧ True) ∧ (0 ≤ r ∧ r ≤ 3)))) 0 0 (xA h0) := by
  refine x_met hσ (by decide) (Nat.le_of_ble_eq_true rfl) ?_
  intro p e s m args below meth c hx hb hr hml hown hT hlk hnm hE hW ls hl
  have hl : lv_has ls 3 [(0, .ref (h0 + 128)), (1, .ref (h0 + d)), (2, .int (xJ f))] := hl
  obtain ⟨Q, eQ⟩ : ∃ Q, Q = MQ below (xQi D g h0 (fun r τ => xFr (fun k => k = 115 ∨ k = 116) s0 τ ∧ (((IC τ) ∧ True) ∧ (0 ≤ r ∧ r ≤ 3)))) args s 0 0 (xA h0) := ⟨_, rfl⟩
  rw [← eQ]
  generalize hHe : ([] : List Loc) = locs at hW ⊢
  obtain ⟨H, eH⟩ : ∃ H, H = s.heap := ⟨_, rfl⟩
  rw [← eH] at hW ⊢
  have hF : xFr (fun k => k = 115 ∨ k = 116) s0 s0 := xFr.rf
  have hbd : (136 ≤ d ∧ d < 209) ∧ (d ≤ 146 ∨ 158 ≤ d) := by unfold xDay at hd; omega
  have k1_1 : s0 1 1 = s0 1 1 := rfl
  refine x_aload_n hx hb hl 0 rfl dX0_reachOf_0 rfl ?_
  refine x_aload_n hx hb hl 1 rfl dX0_reachOf_1 rfl ?_
  refine x_iload_n hx hb hl 2 rfl dX0_reachOf_2 rfl ?_
  refine x_gov (x_runV (As := [.ref (h0 + d), .int (xJ f)]) hx hb hml hown hT hE hW hl.1 (Or.inl (by decide)) (so_128 h0 g _) rfl cf_X0_tellFelon wq866 wq54 wq864 (c_X0_tellFelon l D g T h0 s0 hW.2.1 d hd f rf p0) ⟨rfl, rfl, ⟨by decide, by decide⟩, ⟨by decide, by decide⟩⟩ rfl rfl (Nat.le_of_ble_eq_true rfl) dX0_reachOf_3) hW (fun s2 H locs hp3 hW => ?_)
  obtain ⟨fs2, hp3⟩ := hp3
  have hF4 := hF.call fs2 (fun k h => by omega)
  have q5 : s2 1 1 = s0 1 1 := (congrFun (fs2 _ (by omega)) _).trans k1_1
  have ghp3 := hp3.2
  refine x_aload_n hx hb hl 0 rfl dX0_reachOf_6 rfl ?_
  refine x_get (j := 1) (v := .ref (h0 + 109)) hx hb hown hT hE hW cls_X0 (Or.inl (by decide)) (so_128 h0 g _) (by decide) rfl wq354 dX0_reachOf_7 ?_
  refine x_bipush hx hb dX0_reachOf_10 (by decide) ?_
  refine x_iconst hx hb dX0_reachOf_12 ?_
  refine x_goi (x_runVN (As := [.int (xJ 118), .int (xJ 3)]) hx hb hml hown hT hE hW hl.1 (Or.inl (by decide)) (so_109 h0 g _) rfl cf_X4_worthOf wq802 wq42 wn800 (c_X4_worthOf l D g T h0 s2 hW.2.1 118 (by decide) 3 (by decide) hp3.1.1) ⟨rfl, rfl, ⟨by decide, by decide⟩, ⟨by decide, by decide⟩⟩ rfl rfl (Nat.le_of_ble_eq_true rfl) dX0_reachOf_13) hW (fun x6 s7 H locs rx6 hp8 hW => ?_)
  obtain ⟨fs7, hp8⟩ := hp8
  have hF9 := hF4.call fs7 (fun k h => by omega)
  have q10 : s7 1 1 = s0 1 1 := (congrFun (fs7 _ (by omega)) _).trans q5
  have ghp8 := hp8.2
  rw [eQ]
  exact x_iret hx hb hr hlk hW rx6 ⟨hF9, ⟨hp8.1.1, trivial⟩, by omega⟩ dX0_reachOf_16

theorem cls_X1 : xCls RX1 TX1 6 1 tyX1 := ⟨xin [499, 501, 503, 505, 507, 509] (by decide +kernel) (by decide +kernel), rfl, tyX1_ok, nmX1⟩
theorem cls_X3 : xCls RX3 TX3 11 3 tyX3 := ⟨xin [464, 466, 468, 470, 472, 474, 476, 478, 480, 482, 484] (by decide +kernel) (by decide +kernel), rfl, tyX3_ok, nmX3⟩
theorem st_X3_6 (h0 : Nat) (σ : xS) (k : Nat) (a : Int) : xobj h0 (xU σ k 6 a) k 3 = (xobj h0 σ k 3).set 6 (.int (xJ a)) := by simp [xobj, xU]
theorem ln_X3_6 (h0 : Nat) (σ : xS) (k : Nat) : 6 < (xobj h0 σ k 3).length := by simp [xobj]
theorem cf_X0_goOn : xCF yX0_goOn cX0_goOn 8 (some .int) 3 := ⟨xq 762 (by decide +kernel) rfl, xq 174 (by decide +kernel) rfl, by decide +kernel⟩
theorem cf_X0_walkOn : xCF yX0_walkOn cX0_walkOn 2 (some .boolean) 1 := ⟨xq 996 (by decide +kernel) rfl, xq 174 (by decide +kernel) rfl, by decide +kernel⟩
theorem cf_X1_canGo : xCF yX1_canGo cX1_canGo 4 (some .boolean) 3 := ⟨xq 968 (by decide +kernel) rfl, xq 178 (by decide +kernel) rfl, by decide +kernel⟩
theorem cf_X1_findsPlace : xCF yX1_findsPlace cX1_findsPlace 8 (some .boolean) 2 := ⟨xq 964 (by decide +kernel) rfl, xq 178 (by decide +kernel) rfl, by decide +kernel⟩
theorem cf_X1_handOn : xCF yX1_handOn cX1_handOn 6 none 1 := ⟨xq 975 (by decide +kernel) rfl, xq 178 (by decide +kernel) rfl, by decide +kernel⟩
theorem cf_X10_isIn : xCF yX10_isIn cX10_isIn 3 (some .boolean) 3 := ⟨xq 563 (by decide +kernel) rfl, xq 168 (by decide +kernel) rfl, by decide +kernel⟩
theorem cf_X2_clearCounts : xCF yX2_clearCounts cX2_clearCounts 1 none 0 := ⟨xq 923 (by decide +kernel) rfl, xq 176 (by decide +kernel) rfl, by decide +kernel⟩
theorem cf_X2_copyFrom : xCF yX2_copyFrom cX2_copyFrom 3 none 1 := ⟨xq 919 (by decide +kernel) rfl, xq 176 (by decide +kernel) rfl, by decide +kernel⟩
theorem cf_X2_setWalk : xCF yX2_setWalk cX2_setWalk 3 none 2 := ⟨xq 746 (by decide +kernel) rfl, xq 176 (by decide +kernel) rfl, by decide +kernel⟩
theorem cf_X3_copyOfNow : xCF yX3_copyOfNow cX3_copyOfNow 2 (some (.object "ShadowCourt$Day")) 0 := ⟨xq 915 (by decide +kernel) rfl, xq 177 (by decide +kernel) rfl, by decide +kernel⟩
theorem cf_X3_oneStepMore : xCF yX3_oneStepMore cX3_oneStepMore 5 (some .int) 1 := ⟨xq 1006 (by decide +kernel) rfl, xq 177 (by decide +kernel) rfl, by decide +kernel⟩
theorem cf_X3_settle : xCF yX3_settle cX3_settle 5 none 2 := ⟨xq 1012 (by decide +kernel) rfl, xq 177 (by decide +kernel) rfl, by decide +kernel⟩
theorem cf_X3_spreadSteps : xCF yX3_spreadSteps cX3_spreadSteps 4 none 1 := ⟨xq 1001 (by decide +kernel) rfl, xq 177 (by decide +kernel) rfl, by decide +kernel⟩
theorem cf_X3_stepAlone : xCF yX3_stepAlone cX3_stepAlone 2 (some (.array .int)) 1 := ⟨xq 1026 (by decide +kernel) rfl, xq 177 (by decide +kernel) rfl, by decide +kernel⟩
theorem cf_X3_turnToNextWay : xCF yX3_turnToNextWay cX3_turnToNextWay 3 (some .int) 1 := ⟨xq 1032 (by decide +kernel) rfl, xq 177 (by decide +kernel) rfl, by decide +kernel⟩
theorem wq33 : Cond.selects yX2_setWalk.cls yX2_setWalk yX2_setWalk ∈ xTB := xq 33 (by decide +kernel) rfl
theorem wq34 : Cond.selects yX0_goOn.cls yX0_goOn yX0_goOn ∈ xTB := xq 34 (by decide +kernel) rfl
theorem wq63 : Cond.selects yX3_copyOfNow.cls yX3_copyOfNow yX3_copyOfNow ∈ xTB := xq 63 (by decide +kernel) rfl
theorem wq64 : Cond.selects yX2_copyFrom.cls yX2_copyFrom yX2_copyFrom ∈ xTB := xq 64 (by decide +kernel) rfl
theorem wq65 : Cond.selects yX2_clearCounts.cls yX2_clearCounts yX2_clearCounts ∈ xTB := xq 65 (by decide +kernel) rfl
theorem wq71 : Cond.selects yX1_findsPlace.cls yX1_findsPlace yX1_findsPlace ∈ xTB := xq 71 (by decide +kernel) rfl
theorem wq72 : Cond.selects yX1_canGo.cls yX1_canGo yX1_canGo ∈ xTB := xq 72 (by decide +kernel) rfl
theorem wq73 : Cond.selects yX1_handOn.cls yX1_handOn yX1_handOn ∈ xTB := xq 73 (by decide +kernel) rfl
theorem wq76 : Cond.selects yX0_walkOn.cls yX0_walkOn yX0_walkOn ∈ xTB := xq 76 (by decide +kernel) rfl
theorem wq77 : Cond.selects yX3_spreadSteps.cls yX3_spreadSteps yX3_spreadSteps ∈ xTB := xq 77 (by decide +kernel) rfl
theorem wq78 : Cond.selects yX3_oneStepMore.cls yX3_oneStepMore yX3_oneStepMore ∈ xTB := xq 78 (by decide +kernel) rfl
theorem wq79 : Cond.selects yX3_settle.cls yX3_settle yX3_settle ∈ xTB := xq 79 (by decide +kernel) rfl
theorem wq81 : Cond.selects yX3_stepAlone.cls yX3_stepAlone yX3_stepAlone ∈ xTB := xq 81 (by decide +kernel) rfl
theorem wq82 : Cond.selects yX3_turnToNextWay.cls yX3_turnToNextWay yX3_turnToNextWay ∈ xTB := xq 82 (by decide +kernel) rfl
theorem wq450 : Cond.fieldLink "ShadowCourt$Foresight" (9) "ShadowCourt$Foresight" "clock" "LShadowCourt$Clock;" ∈ xTB := xq 450 (by decide +kernel) rfl
theorem wq451 : Cond.fieldLink "ShadowCourt$Foresight" (15) "ShadowCourt$Foresight" "now" "LShadowCourt$Day;" ∈ xTB := xq 451 (by decide +kernel) rfl
theorem wq452 : Cond.fieldLink "ShadowCourt$Foresight" (21) "ShadowCourt$Foresight" "days" "[LShadowCourt$Day;" ∈ xTB := xq 452 (by decide +kernel) rfl
theorem wq453 : Cond.fieldLink "ShadowCourt$Foresight" (28) "ShadowCourt$Foresight" "singleSteps" "[[I" ∈ xTB := xq 453 (by decide +kernel) rfl
theorem wq454 : Cond.fieldLink "ShadowCourt$Foresight" (31) "ShadowCourt$Foresight" "way" "[I" ∈ xTB := xq 454 (by decide +kernel) rfl
theorem wq455 : Cond.fieldLink "ShadowCourt$Foresight" (35) "ShadowCourt$Foresight" "bestWay" "[I" ∈ xTB := xq 455 (by decide +kernel) rfl
theorem wq457 : Cond.fieldLink "ShadowCourt$Foresight" (38) "ShadowCourt$Foresight" "bestFelon" "I" ∈ xTB := xq 457 (by decide +kernel) rfl
theorem wq459 : Cond.fieldLink "ShadowCourt$Foresight" (42) "ShadowCourt$Foresight" "shadedMinutes" "[I" ∈ xTB := xq 459 (by decide +kernel) rfl
theorem wq461 : Cond.fieldLink "ShadowCourt$Foresight" (45) "ShadowCourt$Foresight" "least" "[[I" ∈ xTB := xq 461 (by decide +kernel) rfl
theorem wq462 : Cond.fieldLink "ShadowCourt$Foresight" (48) "ShadowCourt$Foresight" "spread" "[I" ∈ xTB := xq 462 (by decide +kernel) rfl
theorem wq463 : Cond.fieldLink "ShadowCourt$Foresight" (51) "ShadowCourt$Foresight" "wider" "[I" ∈ xTB := xq 463 (by decide +kernel) rfl
theorem wq493 : Cond.fieldLink "ShadowCourt$Crowd" (9) "ShadowCourt$Crowd" "clock" "LShadowCourt$Clock;" ∈ xTB := xq 493 (by decide +kernel) rfl
theorem wq494 : Cond.fieldLink "ShadowCourt$Crowd" (15) "ShadowCourt$Crowd" "reach" "[I" ∈ xTB := xq 494 (by decide +kernel) rfl
theorem wq495 : Cond.fieldLink "ShadowCourt$Crowd" (19) "ShadowCourt$Crowd" "placeOf" "[I" ∈ xTB := xq 495 (by decide +kernel) rfl
theorem wq496 : Cond.fieldLink "ShadowCourt$Crowd" (22) "ShadowCourt$Crowd" "holderOf" "[I" ∈ xTB := xq 496 (by decide +kernel) rfl
theorem wq497 : Cond.fieldLink "ShadowCourt$Crowd" (25) "ShadowCourt$Crowd" "reachedBy" "[I" ∈ xTB := xq 497 (by decide +kernel) rfl
theorem wq498 : Cond.fieldLink "ShadowCourt$Crowd" (28) "ShadowCourt$Crowd" "queue" "[I" ∈ xTB := xq 498 (by decide +kernel) rfl
theorem wq562 : Cond.static yX10_isIn ∈ xTB := xq 562 (by decide +kernel) rfl
theorem wq745 : Cond.instanceMethod yX2_setWalk ∈ xTB := xq 745 (by decide +kernel) rfl
theorem wq761 : Cond.instanceMethod yX0_goOn ∈ xTB := xq 761 (by decide +kernel) rfl
theorem wq914 : Cond.instanceMethod yX3_copyOfNow ∈ xTB := xq 914 (by decide +kernel) rfl
theorem wq918 : Cond.instanceMethod yX2_copyFrom ∈ xTB := xq 918 (by decide +kernel) rfl
theorem wq922 : Cond.instanceMethod yX2_clearCounts ∈ xTB := xq 922 (by decide +kernel) rfl
theorem wq961 : Cond.methodLink "ShadowCourt$Crowd" (43) yX1_findsPlace ∈ xTB := xq 961 (by decide +kernel) rfl
theorem wq963 : Cond.instanceMethod yX1_findsPlace ∈ xTB := xq 963 (by decide +kernel) rfl
theorem wq965 : Cond.methodLink "ShadowCourt$Crowd" (60) yX1_canGo ∈ xTB := xq 965 (by decide +kernel) rfl
theorem wq967 : Cond.instanceMethod yX1_canGo ∈ xTB := xq 967 (by decide +kernel) rfl
theorem wq972 : Cond.methodLink "ShadowCourt$Crowd" (64) yX1_handOn ∈ xTB := xq 972 (by decide +kernel) rfl
theorem wq974 : Cond.instanceMethod yX1_handOn ∈ xTB := xq 974 (by decide +kernel) rfl
theorem wq991 : Cond.constant "ShadowCourt$Foresight" (69) (1000000) ∈ xTB := xq 991 (by decide +kernel) rfl
theorem wq992 : Cond.methodLink "ShadowCourt$Foresight" (61) yX3_copyOfNow ∈ xTB := xq 992 (by decide +kernel) rfl
theorem wq995 : Cond.instanceMethod yX0_walkOn ∈ xTB := xq 995 (by decide +kernel) rfl
theorem wq997 : Cond.methodLink "ShadowCourt$Foresight" (94) (⟨"java/lang/Math", "min", "(II)I"⟩ : MethodName) ∈ xTB := xq 997 (by decide +kernel) rfl
theorem wq998 : Cond.methodLink "ShadowCourt$Foresight" (136) yX3_spreadSteps ∈ xTB := xq 998 (by decide +kernel) rfl
theorem wq1000 : Cond.instanceMethod yX3_spreadSteps ∈ xTB := xq 1000 (by decide +kernel) rfl
theorem wq1002 : Cond.methodLink "ShadowCourt$Foresight" (84) (⟨"java/lang/System", "arraycopy", "(Ljava/lang/Object;ILjava/lang/Object;II)V"⟩ : MethodName) ∈ xTB := xq 1002 (by decide +kernel) rfl
theorem wq1003 : Cond.methodLink "ShadowCourt$Foresight" (144) yX3_oneStepMore ∈ xTB := xq 1003 (by decide +kernel) rfl
theorem wq1005 : Cond.instanceMethod yX3_oneStepMore ∈ xTB := xq 1005 (by decide +kernel) rfl
theorem wq1009 : Cond.methodLink "ShadowCourt$Foresight" (140) yX3_settle ∈ xTB := xq 1009 (by decide +kernel) rfl
theorem wq1011 : Cond.instanceMethod yX3_settle ∈ xTB := xq 1011 (by decide +kernel) rfl
theorem wq1023 : Cond.methodLink "ShadowCourt$Foresight" (70) yX3_stepAlone ∈ xTB := xq 1023 (by decide +kernel) rfl
theorem wq1025 : Cond.instanceMethod yX3_stepAlone ∈ xTB := xq 1025 (by decide +kernel) rfl
theorem wq1029 : Cond.methodLink "ShadowCourt$Foresight" (90) yX3_turnToNextWay ∈ xTB := xq 1029 (by decide +kernel) rfl
theorem wq1031 : Cond.instanceMethod yX3_turnToNextWay ∈ xTB := xq 1031 (by decide +kernel) rfl
theorem wn332 : Cond.fieldLinkNest "ShadowCourt$Crowd" (57) "ShadowCourt$Shadows" "spots" "[I" "ShadowCourt" ∈ xNL := xn 332 (by decide +kernel) rfl
theorem wn333 : Cond.fieldLinkNest "ShadowCourt$Foresight" (117) "ShadowCourt$Shadows" "spots" "[I" "ShadowCourt" ∈ xNL := xn 333 (by decide +kernel) rfl
theorem wn338 : Cond.fieldLinkNest "ShadowCourt$Crowd" (51) "ShadowCourt$Shadows" "size" "I" "ShadowCourt" ∈ xNL := xn 338 (by decide +kernel) rfl
theorem wn339 : Cond.fieldLinkNest "ShadowCourt$Foresight" (112) "ShadowCourt$Shadows" "size" "I" "ShadowCourt" ∈ xNL := xn 339 (by decide +kernel) rfl
theorem wn352 : Cond.fieldLinkNest "ShadowCourt$Crowd" (76) "ShadowCourt$Clock" "market" "LShadowCourt$Market;" "ShadowCourt" ∈ xNL := xn 352 (by decide +kernel) rfl
theorem wn353 : Cond.fieldLinkNest "ShadowCourt$Foresight" (125) "ShadowCourt$Clock" "market" "LShadowCourt$Market;" "ShadowCourt" ∈ xNL := xn 353 (by decide +kernel) rfl
theorem wn358 : Cond.fieldLinkNest "ShadowCourt$Crowd" (47) "ShadowCourt$Clock" "shadows" "LShadowCourt$Shadows;" "ShadowCourt" ∈ xNL := xn 358 (by decide +kernel) rfl
theorem wn359 : Cond.fieldLinkNest "ShadowCourt$Foresight" (108) "ShadowCourt$Clock" "shadows" "LShadowCourt$Shadows;" "ShadowCourt" ∈ xNL := xn 359 (by decide +kernel) rfl
theorem wn389 : Cond.fieldLinkNest "ShadowCourt$Crowd" (80) "ShadowCourt$Day" "felonSpot" "[I" "ShadowCourt" ∈ xNL := xn 389 (by decide +kernel) rfl
theorem wn916 : Cond.methodLinkNest "ShadowCourt$Foresight" (54) yX2_copyFrom "ShadowCourt" ∈ xNL := xn 916 (by decide +kernel) rfl
theorem wn920 : Cond.methodLinkNest "ShadowCourt$Foresight" (58) yX2_clearCounts "ShadowCourt" ∈ xNL := xn 920 (by decide +kernel) rfl
theorem wn959 : Cond.methodLinkNest "ShadowCourt$Crowd" (31) yX2_mustServe "ShadowCourt" ∈ xNL := xn 959 (by decide +kernel) rfl
theorem wn960 : Cond.methodLinkNest "ShadowCourt$Crowd" (37) yX0_reachOf "ShadowCourt" ∈ xNL := xn 960 (by decide +kernel) rfl
theorem wn969 : Cond.methodLinkNest "ShadowCourt$Crowd" (68) yX2_hasFelon "ShadowCourt" ∈ xNL := xn 969 (by decide +kernel) rfl
theorem wn970 : Cond.methodLinkNest "ShadowCourt$Crowd" (71) yX6_isSpot "ShadowCourt" ∈ xNL := xn 970 (by decide +kernel) rfl
theorem wn971 : Cond.methodLinkNest "ShadowCourt$Crowd" (83) yX6_stepsBetween "ShadowCourt" ∈ xNL := xn 971 (by decide +kernel) rfl
theorem wn989 : Cond.methodLinkNest "ShadowCourt$Foresight" (132) yX10_isIn "ShadowCourt" ∈ xNL := xn 989 (by decide +kernel) rfl
theorem wn990 : Cond.methodLinkNest "ShadowCourt$Foresight" (120) yX6_isSpot "ShadowCourt" ∈ xNL := xn 990 (by decide +kernel) rfl
theorem wn993 : Cond.methodLinkNest "ShadowCourt$Foresight" (104) yX0_walkOn "ShadowCourt" ∈ xNL := xn 993 (by decide +kernel) rfl
theorem wn1007 : Cond.methodLinkNest "ShadowCourt$Foresight" (147) yX6_isOpen "ShadowCourt" ∈ xNL := xn 1007 (by decide +kernel) rfl
theorem wn1008 : Cond.methodLinkNest "ShadowCourt$Foresight" (150) yX6_beside "ShadowCourt" ∈ xNL := xn 1008 (by decide +kernel) rfl
theorem wn1013 : Cond.methodLinkNest "ShadowCourt$Foresight" (153) yX7_layersAt "ShadowCourt" ∈ xNL := xn 1013 (by decide +kernel) rfl
theorem wn1022 : Cond.methodLinkNest "ShadowCourt$Foresight" (65) yX2_owedByAll "ShadowCourt" ∈ xNL := xn 1022 (by decide +kernel) rfl
theorem wn1027 : Cond.methodLinkNest "ShadowCourt$Foresight" (74) yX2_setWalk "ShadowCourt" ∈ xNL := xn 1027 (by decide +kernel) rfl
theorem wn1028 : Cond.methodLinkNest "ShadowCourt$Foresight" (78) yX0_goOn "ShadowCourt" ∈ xNL := xn 1028 (by decide +kernel) rfl
theorem wn1041 : Cond.methodLinkNest "ShadowCourt$Foresight" (100) yX2_mustServe "ShadowCourt" ∈ xNL := xn 1041 (by decide +kernel) rfl
theorem wn1054 : Cond.methodLinkNest "ShadowCourt$Foresight" (129) yX6_kindAt "ShadowCourt" ∈ xNL := xn 1054 (by decide +kernel) rfl
theorem dX1_canGo_0 : decode cX1_canGo 0 = .ok (.aload_n 1, 1) := by decide +kernel
theorem dX1_canGo_1 : decode cX1_canGo 1 = .ok (.iload_n 2, 1) := by decide +kernel
theorem dX1_canGo_2 : decode cX1_canGo 2 = .ok (.invokevirtual 68, 3) := by decide +kernel
theorem dX1_canGo_5 : decode cX1_canGo 5 = .ok (.ifCond .eq 40, 3) := by decide +kernel
theorem dX1_canGo_8 : decode cX1_canGo 8 = .ok (.iload_n 3, 1) := by decide +kernel
theorem dX1_canGo_9 : decode cX1_canGo 9 = .ok (.invokestatic 71, 3) := by decide +kernel
theorem dX1_canGo_12 : decode cX1_canGo 12 = .ok (.ifCond .eq 33, 3) := by decide +kernel
theorem dX1_canGo_15 : decode cX1_canGo 15 = .ok (.aload_n 0, 1) := by decide +kernel
theorem dX1_canGo_16 : decode cX1_canGo 16 = .ok (.getfield 9, 3) := by decide +kernel
theorem dX1_canGo_19 : decode cX1_canGo 19 = .ok (.getfield 76, 3) := by decide +kernel
theorem dX1_canGo_22 : decode cX1_canGo 22 = .ok (.aload_n 1, 1) := by decide +kernel
theorem dX1_canGo_23 : decode cX1_canGo 23 = .ok (.getfield 80, 3) := by decide +kernel
theorem dX1_canGo_26 : decode cX1_canGo 26 = .ok (.iload_n 2, 1) := by decide +kernel
theorem dX1_canGo_27 : decode cX1_canGo 27 = .ok (.iaload, 1) := by decide +kernel
theorem dX1_canGo_28 : decode cX1_canGo 28 = .ok (.iload_n 3, 1) := by decide +kernel
theorem dX1_canGo_29 : decode cX1_canGo 29 = .ok (.invokevirtual 83, 3) := by decide +kernel
theorem dX1_canGo_32 : decode cX1_canGo 32 = .ok (.aload_n 0, 1) := by decide +kernel
theorem dX1_canGo_33 : decode cX1_canGo 33 = .ok (.getfield 15, 3) := by decide +kernel
theorem dX1_canGo_36 : decode cX1_canGo 36 = .ok (.iload_n 2, 1) := by decide +kernel
theorem dX1_canGo_37 : decode cX1_canGo 37 = .ok (.iaload, 1) := by decide +kernel
theorem dX1_canGo_38 : decode cX1_canGo 38 = .ok (.if_icmp .gt 7, 3) := by decide +kernel
theorem dX1_canGo_41 : decode cX1_canGo 41 = .ok (.iconst 1, 1) := by decide +kernel
theorem dX1_canGo_42 : decode cX1_canGo 42 = .ok (.goto 4, 3) := by decide +kernel
theorem dX1_canGo_45 : decode cX1_canGo 45 = .ok (.iconst 0, 1) := by decide +kernel
theorem dX1_canGo_46 : decode cX1_canGo 46 = .ok (.ireturn, 1) := by decide +kernel
theorem dX1_findsPlace_0 : decode cX1_findsPlace 0 = .ok (.iconst 0, 1) := by decide +kernel
theorem dX1_findsPlace_1 : decode cX1_findsPlace 1 = .ok (.istore_n 3, 1) := by decide +kernel
theorem dX1_findsPlace_2 : decode cX1_findsPlace 2 = .ok (.iload_n 3, 1) := by decide +kernel
theorem dX1_findsPlace_3 : decode cX1_findsPlace 3 = .ok (.bipush 100, 2) := by decide +kernel
theorem dX1_findsPlace_5 : decode cX1_findsPlace 5 = .ok (.if_icmp .ge 16, 3) := by decide +kernel
theorem dX1_findsPlace_8 : decode cX1_findsPlace 8 = .ok (.aload_n 0, 1) := by decide +kernel
theorem dX1_findsPlace_9 : decode cX1_findsPlace 9 = .ok (.getfield 25, 3) := by decide +kernel
theorem dX1_findsPlace_12 : decode cX1_findsPlace 12 = .ok (.iload_n 3, 1) := by decide +kernel
theorem dX1_findsPlace_13 : decode cX1_findsPlace 13 = .ok (.iconst (-1), 1) := by decide +kernel
theorem dX1_findsPlace_14 : decode cX1_findsPlace 14 = .ok (.iastore, 1) := by decide +kernel
theorem dX1_findsPlace_15 : decode cX1_findsPlace 15 = .ok (.iinc 3 1, 3) := by decide +kernel
theorem dX1_findsPlace_18 : decode cX1_findsPlace 18 = .ok (.goto (-16), 3) := by decide +kernel
theorem dX1_findsPlace_21 : decode cX1_findsPlace 21 = .ok (.aload_n 0, 1) := by decide +kernel
theorem dX1_findsPlace_22 : decode cX1_findsPlace 22 = .ok (.getfield 28, 3) := by decide +kernel
theorem dX1_findsPlace_25 : decode cX1_findsPlace 25 = .ok (.iconst 0, 1) := by decide +kernel
theorem dX1_findsPlace_26 : decode cX1_findsPlace 26 = .ok (.iload_n 2, 1) := by decide +kernel
theorem dX1_findsPlace_27 : decode cX1_findsPlace 27 = .ok (.iastore, 1) := by decide +kernel
theorem dX1_findsPlace_28 : decode cX1_findsPlace 28 = .ok (.iconst 1, 1) := by decide +kernel
theorem dX1_findsPlace_29 : decode cX1_findsPlace 29 = .ok (.istore_n 3, 1) := by decide +kernel
theorem dX1_findsPlace_30 : decode cX1_findsPlace 30 = .ok (.iconst 0, 1) := by decide +kernel
theorem dX1_findsPlace_31 : decode cX1_findsPlace 31 = .ok (.istore 4, 2) := by decide +kernel
theorem dX1_findsPlace_33 : decode cX1_findsPlace 33 = .ok (.iload 4, 2) := by decide +kernel
theorem dX1_findsPlace_35 : decode cX1_findsPlace 35 = .ok (.iload_n 3, 1) := by decide +kernel
theorem dX1_findsPlace_36 : decode cX1_findsPlace 36 = .ok (.if_icmp .ge 147, 3) := by decide +kernel
theorem dX1_findsPlace_39 : decode cX1_findsPlace 39 = .ok (.iload 4, 2) := by decide +kernel
theorem dX1_findsPlace_41 : decode cX1_findsPlace 41 = .ok (.bipush 10, 2) := by decide +kernel
theorem dX1_findsPlace_43 : decode cX1_findsPlace 43 = .ok (.if_icmp .ge 140, 3) := by decide +kernel
theorem dX1_findsPlace_46 : decode cX1_findsPlace 46 = .ok (.aload_n 0, 1) := by decide +kernel
theorem dX1_findsPlace_47 : decode cX1_findsPlace 47 = .ok (.getfield 28, 3) := by decide +kernel
theorem dX1_findsPlace_50 : decode cX1_findsPlace 50 = .ok (.iload 4, 2) := by decide +kernel
theorem dX1_findsPlace_52 : decode cX1_findsPlace 52 = .ok (.iaload, 1) := by decide +kernel
theorem dX1_findsPlace_53 : decode cX1_findsPlace 53 = .ok (.istore 5, 2) := by decide +kernel
theorem dX1_findsPlace_55 : decode cX1_findsPlace 55 = .ok (.iconst 0, 1) := by decide +kernel
theorem dX1_findsPlace_56 : decode cX1_findsPlace 56 = .ok (.istore 6, 2) := by decide +kernel
theorem dX1_findsPlace_58 : decode cX1_findsPlace 58 = .ok (.iload 6, 2) := by decide +kernel
theorem dX1_findsPlace_60 : decode cX1_findsPlace 60 = .ok (.aload_n 0, 1) := by decide +kernel
theorem dX1_findsPlace_61 : decode cX1_findsPlace 61 = .ok (.getfield 9, 3) := by decide +kernel
theorem dX1_findsPlace_64 : decode cX1_findsPlace 64 = .ok (.getfield 47, 3) := by decide +kernel
theorem dX1_findsPlace_67 : decode cX1_findsPlace 67 = .ok (.getfield 51, 3) := by decide +kernel
theorem dX1_findsPlace_70 : decode cX1_findsPlace 70 = .ok (.if_icmp .ge 107, 3) := by decide +kernel
theorem dX1_findsPlace_73 : decode cX1_findsPlace 73 = .ok (.iload 6, 2) := by decide +kernel
theorem dX1_findsPlace_75 : decode cX1_findsPlace 75 = .ok (.bipush 100, 2) := by decide +kernel
theorem dX1_findsPlace_77 : decode cX1_findsPlace 77 = .ok (.if_icmp .ge 100, 3) := by decide +kernel
theorem dX1_findsPlace_80 : decode cX1_findsPlace 80 = .ok (.aload_n 0, 1) := by decide +kernel
theorem dX1_findsPlace_81 : decode cX1_findsPlace 81 = .ok (.getfield 9, 3) := by decide +kernel
theorem dX1_findsPlace_84 : decode cX1_findsPlace 84 = .ok (.getfield 47, 3) := by decide +kernel
theorem dX1_findsPlace_87 : decode cX1_findsPlace 87 = .ok (.getfield 57, 3) := by decide +kernel
theorem dX1_findsPlace_90 : decode cX1_findsPlace 90 = .ok (.iload 6, 2) := by decide +kernel
theorem dX1_findsPlace_92 : decode cX1_findsPlace 92 = .ok (.iaload, 1) := by decide +kernel
theorem dX1_findsPlace_93 : decode cX1_findsPlace 93 = .ok (.istore 7, 2) := by decide +kernel
theorem dX1_findsPlace_95 : decode cX1_findsPlace 95 = .ok (.aload_n 0, 1) := by decide +kernel
theorem dX1_findsPlace_96 : decode cX1_findsPlace 96 = .ok (.aload_n 1, 1) := by decide +kernel
theorem dX1_findsPlace_97 : decode cX1_findsPlace 97 = .ok (.iload 5, 2) := by decide +kernel
theorem dX1_findsPlace_99 : decode cX1_findsPlace 99 = .ok (.iload 7, 2) := by decide +kernel
theorem dX1_findsPlace_101 : decode cX1_findsPlace 101 = .ok (.invokevirtual 60, 3) := by decide +kernel
theorem dX1_findsPlace_104 : decode cX1_findsPlace 104 = .ok (.ifCond .eq 67, 3) := by decide +kernel
theorem dX1_findsPlace_107 : decode cX1_findsPlace 107 = .ok (.aload_n 0, 1) := by decide +kernel
theorem dX1_findsPlace_108 : decode cX1_findsPlace 108 = .ok (.getfield 25, 3) := by decide +kernel
theorem dX1_findsPlace_111 : decode cX1_findsPlace 111 = .ok (.iload 7, 2) := by decide +kernel
theorem dX1_findsPlace_113 : decode cX1_findsPlace 113 = .ok (.iaload, 1) := by decide +kernel
theorem dX1_findsPlace_114 : decode cX1_findsPlace 114 = .ok (.iconst (-1), 1) := by decide +kernel
theorem dX1_findsPlace_115 : decode cX1_findsPlace 115 = .ok (.if_icmp .eq 6, 3) := by decide +kernel
theorem dX1_findsPlace_118 : decode cX1_findsPlace 118 = .ok (.goto 53, 3) := by decide +kernel
theorem dX1_findsPlace_121 : decode cX1_findsPlace 121 = .ok (.aload_n 0, 1) := by decide +kernel
theorem dX1_findsPlace_122 : decode cX1_findsPlace 122 = .ok (.getfield 25, 3) := by decide +kernel
theorem dX1_findsPlace_125 : decode cX1_findsPlace 125 = .ok (.iload 7, 2) := by decide +kernel
theorem dX1_findsPlace_127 : decode cX1_findsPlace 127 = .ok (.iload 5, 2) := by decide +kernel
theorem dX1_findsPlace_129 : decode cX1_findsPlace 129 = .ok (.iastore, 1) := by decide +kernel
theorem dX1_findsPlace_130 : decode cX1_findsPlace 130 = .ok (.aload_n 0, 1) := by decide +kernel
theorem dX1_findsPlace_131 : decode cX1_findsPlace 131 = .ok (.getfield 22, 3) := by decide +kernel
theorem dX1_findsPlace_134 : decode cX1_findsPlace 134 = .ok (.iload 7, 2) := by decide +kernel
theorem dX1_findsPlace_136 : decode cX1_findsPlace 136 = .ok (.iaload, 1) := by decide +kernel
theorem dX1_findsPlace_137 : decode cX1_findsPlace 137 = .ok (.iconst (-1), 1) := by decide +kernel
theorem dX1_findsPlace_138 : decode cX1_findsPlace 138 = .ok (.if_icmp .ne 11, 3) := by decide +kernel
theorem dX1_findsPlace_141 : decode cX1_findsPlace 141 = .ok (.aload_n 0, 1) := by decide +kernel
theorem dX1_findsPlace_142 : decode cX1_findsPlace 142 = .ok (.iload 7, 2) := by decide +kernel
theorem dX1_findsPlace_144 : decode cX1_findsPlace 144 = .ok (.invokevirtual 64, 3) := by decide +kernel
theorem dX1_findsPlace_147 : decode cX1_findsPlace 147 = .ok (.iconst 1, 1) := by decide +kernel
theorem dX1_findsPlace_148 : decode cX1_findsPlace 148 = .ok (.ireturn, 1) := by decide +kernel
theorem dX1_findsPlace_149 : decode cX1_findsPlace 149 = .ok (.iload_n 3, 1) := by decide +kernel
theorem dX1_findsPlace_150 : decode cX1_findsPlace 150 = .ok (.bipush 10, 2) := by decide +kernel
theorem dX1_findsPlace_152 : decode cX1_findsPlace 152 = .ok (.if_icmp .ge 19, 3) := by decide +kernel
theorem dX1_findsPlace_155 : decode cX1_findsPlace 155 = .ok (.aload_n 0, 1) := by decide +kernel
theorem dX1_findsPlace_156 : decode cX1_findsPlace 156 = .ok (.getfield 28, 3) := by decide +kernel
theorem dX1_findsPlace_159 : decode cX1_findsPlace 159 = .ok (.iload_n 3, 1) := by decide +kernel
theorem dX1_findsPlace_160 : decode cX1_findsPlace 160 = .ok (.aload_n 0, 1) := by decide +kernel
theorem dX1_findsPlace_161 : decode cX1_findsPlace 161 = .ok (.getfield 22, 3) := by decide +kernel
theorem dX1_findsPlace_164 : decode cX1_findsPlace 164 = .ok (.iload 7, 2) := by decide +kernel
theorem dX1_findsPlace_166 : decode cX1_findsPlace 166 = .ok (.iaload, 1) := by decide +kernel
theorem dX1_findsPlace_167 : decode cX1_findsPlace 167 = .ok (.iastore, 1) := by decide +kernel
theorem dX1_findsPlace_168 : decode cX1_findsPlace 168 = .ok (.iinc 3 1, 3) := by decide +kernel
theorem dX1_findsPlace_171 : decode cX1_findsPlace 171 = .ok (.iinc 6 1, 3) := by decide +kernel
theorem dX1_findsPlace_174 : decode cX1_findsPlace 174 = .ok (.goto (-116), 3) := by decide +kernel
theorem dX1_findsPlace_177 : decode cX1_findsPlace 177 = .ok (.iinc 4 1, 3) := by decide +kernel
theorem dX1_findsPlace_180 : decode cX1_findsPlace 180 = .ok (.goto (-147), 3) := by decide +kernel
theorem dX1_findsPlace_183 : decode cX1_findsPlace 183 = .ok (.iconst 0, 1) := by decide +kernel
theorem dX1_findsPlace_184 : decode cX1_findsPlace 184 = .ok (.ireturn, 1) := by decide +kernel
theorem dX1_handOn_0 : decode cX1_handOn 0 = .ok (.iload_n 1, 1) := by decide +kernel
theorem dX1_handOn_1 : decode cX1_handOn 1 = .ok (.istore_n 2, 1) := by decide +kernel
theorem dX1_handOn_2 : decode cX1_handOn 2 = .ok (.iconst 0, 1) := by decide +kernel
theorem dX1_handOn_3 : decode cX1_handOn 3 = .ok (.istore_n 3, 1) := by decide +kernel
theorem dX1_handOn_4 : decode cX1_handOn 4 = .ok (.iload_n 3, 1) := by decide +kernel
theorem dX1_handOn_5 : decode cX1_handOn 5 = .ok (.bipush 10, 2) := by decide +kernel
theorem dX1_handOn_7 : decode cX1_handOn 7 = .ok (.if_icmp .ge 65, 3) := by decide +kernel
theorem dX1_handOn_10 : decode cX1_handOn 10 = .ok (.iload_n 2, 1) := by decide +kernel
theorem dX1_handOn_11 : decode cX1_handOn 11 = .ok (.invokestatic 71, 3) := by decide +kernel
theorem dX1_handOn_14 : decode cX1_handOn 14 = .ok (.ifCond .eq 58, 3) := by decide +kernel
theorem dX1_handOn_17 : decode cX1_handOn 17 = .ok (.aload_n 0, 1) := by decide +kernel
theorem dX1_handOn_18 : decode cX1_handOn 18 = .ok (.getfield 25, 3) := by decide +kernel
theorem dX1_handOn_21 : decode cX1_handOn 21 = .ok (.iload_n 2, 1) := by decide +kernel
theorem dX1_handOn_22 : decode cX1_handOn 22 = .ok (.iaload, 1) := by decide +kernel
theorem dX1_handOn_23 : decode cX1_handOn 23 = .ok (.istore 4, 2) := by decide +kernel
theorem dX1_handOn_25 : decode cX1_handOn 25 = .ok (.iload 4, 2) := by decide +kernel
theorem dX1_handOn_27 : decode cX1_handOn 27 = .ok (.ifCond .lt 10, 3) := by decide +kernel
theorem dX1_handOn_30 : decode cX1_handOn 30 = .ok (.iload 4, 2) := by decide +kernel
theorem dX1_handOn_32 : decode cX1_handOn 32 = .ok (.bipush 10, 2) := by decide +kernel
theorem dX1_handOn_34 : decode cX1_handOn 34 = .ok (.if_icmp .lt 4, 3) := by decide +kernel
theorem dX1_handOn_37 : decode cX1_handOn 37 = .ok (.return_, 1) := by decide +kernel
theorem dX1_handOn_38 : decode cX1_handOn 38 = .ok (.aload_n 0, 1) := by decide +kernel
theorem dX1_handOn_39 : decode cX1_handOn 39 = .ok (.getfield 19, 3) := by decide +kernel
theorem dX1_handOn_42 : decode cX1_handOn 42 = .ok (.iload 4, 2) := by decide +kernel
theorem dX1_handOn_44 : decode cX1_handOn 44 = .ok (.iaload, 1) := by decide +kernel
theorem dX1_handOn_45 : decode cX1_handOn 45 = .ok (.istore 5, 2) := by decide +kernel
theorem dX1_handOn_47 : decode cX1_handOn 47 = .ok (.aload_n 0, 1) := by decide +kernel
theorem dX1_handOn_48 : decode cX1_handOn 48 = .ok (.getfield 22, 3) := by decide +kernel
theorem dX1_handOn_51 : decode cX1_handOn 51 = .ok (.iload_n 2, 1) := by decide +kernel
theorem dX1_handOn_52 : decode cX1_handOn 52 = .ok (.iload 4, 2) := by decide +kernel
theorem dX1_handOn_54 : decode cX1_handOn 54 = .ok (.iastore, 1) := by decide +kernel
theorem dX1_handOn_55 : decode cX1_handOn 55 = .ok (.aload_n 0, 1) := by decide +kernel
theorem dX1_handOn_56 : decode cX1_handOn 56 = .ok (.getfield 19, 3) := by decide +kernel
theorem dX1_handOn_59 : decode cX1_handOn 59 = .ok (.iload 4, 2) := by decide +kernel
theorem dX1_handOn_61 : decode cX1_handOn 61 = .ok (.iload_n 2, 1) := by decide +kernel
theorem dX1_handOn_62 : decode cX1_handOn 62 = .ok (.iastore, 1) := by decide +kernel
theorem dX1_handOn_63 : decode cX1_handOn 63 = .ok (.iload 5, 2) := by decide +kernel
theorem dX1_handOn_65 : decode cX1_handOn 65 = .ok (.istore_n 2, 1) := by decide +kernel
theorem dX1_handOn_66 : decode cX1_handOn 66 = .ok (.iinc 3 1, 3) := by decide +kernel
theorem dX1_handOn_69 : decode cX1_handOn 69 = .ok (.goto (-65), 3) := by decide +kernel
theorem dX1_handOn_72 : decode cX1_handOn 72 = .ok (.return_, 1) := by decide +kernel
theorem dX1_most_0 : decode cX1_most 0 = .ok (.iconst 0, 1) := by decide +kernel
theorem dX1_most_1 : decode cX1_most 1 = .ok (.istore_n 2, 1) := by decide +kernel
theorem dX1_most_2 : decode cX1_most 2 = .ok (.iload_n 2, 1) := by decide +kernel
theorem dX1_most_3 : decode cX1_most 3 = .ok (.bipush 100, 2) := by decide +kernel
theorem dX1_most_5 : decode cX1_most 5 = .ok (.if_icmp .ge 16, 3) := by decide +kernel
theorem dX1_most_8 : decode cX1_most 8 = .ok (.aload_n 0, 1) := by decide +kernel
theorem dX1_most_9 : decode cX1_most 9 = .ok (.getfield 22, 3) := by decide +kernel
theorem dX1_most_12 : decode cX1_most 12 = .ok (.iload_n 2, 1) := by decide +kernel
theorem dX1_most_13 : decode cX1_most 13 = .ok (.iconst (-1), 1) := by decide +kernel
theorem dX1_most_14 : decode cX1_most 14 = .ok (.iastore, 1) := by decide +kernel
theorem dX1_most_15 : decode cX1_most 15 = .ok (.iinc 2 1, 3) := by decide +kernel
theorem dX1_most_18 : decode cX1_most 18 = .ok (.goto (-16), 3) := by decide +kernel
theorem dX1_most_21 : decode cX1_most 21 = .ok (.iconst 0, 1) := by decide +kernel
theorem dX1_most_22 : decode cX1_most 22 = .ok (.istore_n 2, 1) := by decide +kernel
theorem dX1_most_23 : decode cX1_most 23 = .ok (.iload_n 2, 1) := by decide +kernel
theorem dX1_most_24 : decode cX1_most 24 = .ok (.bipush 10, 2) := by decide +kernel
theorem dX1_most_26 : decode cX1_most 26 = .ok (.if_icmp .ge 43, 3) := by decide +kernel
theorem dX1_most_29 : decode cX1_most 29 = .ok (.aload_n 0, 1) := by decide +kernel
theorem dX1_most_30 : decode cX1_most 30 = .ok (.getfield 19, 3) := by decide +kernel
theorem dX1_most_33 : decode cX1_most 33 = .ok (.iload_n 2, 1) := by decide +kernel
theorem dX1_most_34 : decode cX1_most 34 = .ok (.iconst (-1), 1) := by decide +kernel
theorem dX1_most_35 : decode cX1_most 35 = .ok (.iastore, 1) := by decide +kernel
theorem dX1_most_36 : decode cX1_most 36 = .ok (.aload_n 0, 1) := by decide +kernel
theorem dX1_most_37 : decode cX1_most 37 = .ok (.getfield 15, 3) := by decide +kernel
theorem dX1_most_40 : decode cX1_most 40 = .ok (.iload_n 2, 1) := by decide +kernel
theorem dX1_most_41 : decode cX1_most 41 = .ok (.aload_n 1, 1) := by decide +kernel
theorem dX1_most_42 : decode cX1_most 42 = .ok (.iload_n 2, 1) := by decide +kernel
theorem dX1_most_43 : decode cX1_most 43 = .ok (.invokevirtual 31, 3) := by decide +kernel
theorem dX1_most_46 : decode cX1_most 46 = .ok (.ifCond .eq 15, 3) := by decide +kernel
theorem dX1_most_49 : decode cX1_most 49 = .ok (.aload_n 0, 1) := by decide +kernel
theorem dX1_most_50 : decode cX1_most 50 = .ok (.getfield 9, 3) := by decide +kernel
theorem dX1_most_53 : decode cX1_most 53 = .ok (.aload_n 1, 1) := by decide +kernel
theorem dX1_most_54 : decode cX1_most 54 = .ok (.iload_n 2, 1) := by decide +kernel
theorem dX1_most_55 : decode cX1_most 55 = .ok (.invokevirtual 37, 3) := by decide +kernel
theorem dX1_most_58 : decode cX1_most 58 = .ok (.goto 4, 3) := by decide +kernel
theorem dX1_most_61 : decode cX1_most 61 = .ok (.iconst (-1), 1) := by decide +kernel
theorem dX1_most_62 : decode cX1_most 62 = .ok (.iastore, 1) := by decide +kernel
theorem dX1_most_63 : decode cX1_most 63 = .ok (.iinc 2 1, 3) := by decide +kernel
theorem dX1_most_66 : decode cX1_most 66 = .ok (.goto (-43), 3) := by decide +kernel
theorem dX1_most_69 : decode cX1_most 69 = .ok (.iconst 0, 1) := by decide +kernel
theorem dX1_most_70 : decode cX1_most 70 = .ok (.istore_n 2, 1) := by decide +kernel
theorem dX1_most_71 : decode cX1_most 71 = .ok (.iconst 0, 1) := by decide +kernel
theorem dX1_most_72 : decode cX1_most 72 = .ok (.istore_n 3, 1) := by decide +kernel
theorem dX1_most_73 : decode cX1_most 73 = .ok (.iload_n 3, 1) := by decide +kernel
theorem dX1_most_74 : decode cX1_most 74 = .ok (.bipush 10, 2) := by decide +kernel
theorem dX1_most_76 : decode cX1_most 76 = .ok (.if_icmp .ge 29, 3) := by decide +kernel
theorem dX1_most_79 : decode cX1_most 79 = .ok (.aload_n 1, 1) := by decide +kernel
theorem dX1_most_80 : decode cX1_most 80 = .ok (.iload_n 3, 1) := by decide +kernel
theorem dX1_most_81 : decode cX1_most 81 = .ok (.invokevirtual 31, 3) := by decide +kernel
theorem dX1_most_84 : decode cX1_most 84 = .ok (.ifCond .eq 15, 3) := by decide +kernel
theorem dX1_most_87 : decode cX1_most 87 = .ok (.aload_n 0, 1) := by decide +kernel
theorem dX1_most_88 : decode cX1_most 88 = .ok (.aload_n 1, 1) := by decide +kernel
theorem dX1_most_89 : decode cX1_most 89 = .ok (.iload_n 3, 1) := by decide +kernel
theorem dX1_most_90 : decode cX1_most 90 = .ok (.invokevirtual 43, 3) := by decide +kernel
theorem dX1_most_93 : decode cX1_most 93 = .ok (.ifCond .eq 6, 3) := by decide +kernel
theorem dX1_most_96 : decode cX1_most 96 = .ok (.iinc 2 1, 3) := by decide +kernel
theorem dX1_most_99 : decode cX1_most 99 = .ok (.iinc 3 1, 3) := by decide +kernel
theorem dX1_most_102 : decode cX1_most 102 = .ok (.goto (-29), 3) := by decide +kernel
theorem dX1_most_105 : decode cX1_most 105 = .ok (.iload_n 2, 1) := by decide +kernel
theorem dX1_most_106 : decode cX1_most 106 = .ok (.ireturn, 1) := by decide +kernel
theorem dX3_bestAhead_0 : decode cX3_bestAhead 0 = .ok (.aload_n 0, 1) := by decide +kernel
theorem dX3_bestAhead_1 : decode cX3_bestAhead 1 = .ok (.getfield 9, 3) := by decide +kernel
theorem dX3_bestAhead_4 : decode cX3_bestAhead 4 = .ok (.aload_n 0, 1) := by decide +kernel
theorem dX3_bestAhead_5 : decode cX3_bestAhead 5 = .ok (.invokevirtual 61, 3) := by decide +kernel
theorem dX3_bestAhead_8 : decode cX3_bestAhead 8 = .ok (.iload_n 1, 1) := by decide +kernel
theorem dX3_bestAhead_9 : decode cX3_bestAhead 9 = .ok (.iconst (-1), 1) := by decide +kernel
theorem dX3_bestAhead_10 : decode cX3_bestAhead 10 = .ok (.invokevirtual 78, 3) := by decide +kernel
theorem dX3_bestAhead_13 : decode cX3_bestAhead 13 = .ok (.istore_n 2, 1) := by decide +kernel
theorem dX3_bestAhead_14 : decode cX3_bestAhead 14 = .ok (.aload_n 0, 1) := by decide +kernel
theorem dX3_bestAhead_15 : decode cX3_bestAhead 15 = .ok (.bipush (-2), 2) := by decide +kernel
theorem dX3_bestAhead_17 : decode cX3_bestAhead 17 = .ok (.putfield 38, 3) := by decide +kernel
theorem dX3_bestAhead_20 : decode cX3_bestAhead 20 = .ok (.iconst 0, 1) := by decide +kernel
theorem dX3_bestAhead_21 : decode cX3_bestAhead 21 = .ok (.istore_n 3, 1) := by decide +kernel
theorem dX3_bestAhead_22 : decode cX3_bestAhead 22 = .ok (.iload_n 3, 1) := by decide +kernel
theorem dX3_bestAhead_23 : decode cX3_bestAhead 23 = .ok (.bipush 10, 2) := by decide +kernel
theorem dX3_bestAhead_25 : decode cX3_bestAhead 25 = .ok (.if_icmp .ge 52, 3) := by decide +kernel
theorem dX3_bestAhead_28 : decode cX3_bestAhead 28 = .ok (.aload_n 0, 1) := by decide +kernel
theorem dX3_bestAhead_29 : decode cX3_bestAhead 29 = .ok (.getfield 15, 3) := by decide +kernel
theorem dX3_bestAhead_32 : decode cX3_bestAhead 32 = .ok (.iload_n 3, 1) := by decide +kernel
theorem dX3_bestAhead_33 : decode cX3_bestAhead 33 = .ok (.invokevirtual 100, 3) := by decide +kernel
theorem dX3_bestAhead_36 : decode cX3_bestAhead 36 = .ok (.ifCond .ne 6, 3) := by decide +kernel
theorem dX3_bestAhead_39 : decode cX3_bestAhead 39 = .ok (.goto 32, 3) := by decide +kernel
theorem dX3_bestAhead_42 : decode cX3_bestAhead 42 = .ok (.aload_n 0, 1) := by decide +kernel
theorem dX3_bestAhead_43 : decode cX3_bestAhead 43 = .ok (.getfield 9, 3) := by decide +kernel
theorem dX3_bestAhead_46 : decode cX3_bestAhead 46 = .ok (.aload_n 0, 1) := by decide +kernel
theorem dX3_bestAhead_47 : decode cX3_bestAhead 47 = .ok (.invokevirtual 61, 3) := by decide +kernel
theorem dX3_bestAhead_50 : decode cX3_bestAhead 50 = .ok (.iload_n 1, 1) := by decide +kernel
theorem dX3_bestAhead_51 : decode cX3_bestAhead 51 = .ok (.iload_n 3, 1) := by decide +kernel
theorem dX3_bestAhead_52 : decode cX3_bestAhead 52 = .ok (.invokevirtual 78, 3) := by decide +kernel
theorem dX3_bestAhead_55 : decode cX3_bestAhead 55 = .ok (.istore 4, 2) := by decide +kernel
theorem dX3_bestAhead_57 : decode cX3_bestAhead 57 = .ok (.iload 4, 2) := by decide +kernel
theorem dX3_bestAhead_59 : decode cX3_bestAhead 59 = .ok (.iload_n 2, 1) := by decide +kernel
theorem dX3_bestAhead_60 : decode cX3_bestAhead 60 = .ok (.if_icmp .le 11, 3) := by decide +kernel
theorem dX3_bestAhead_63 : decode cX3_bestAhead 63 = .ok (.iload 4, 2) := by decide +kernel
theorem dX3_bestAhead_65 : decode cX3_bestAhead 65 = .ok (.istore_n 2, 1) := by decide +kernel
theorem dX3_bestAhead_66 : decode cX3_bestAhead 66 = .ok (.aload_n 0, 1) := by decide +kernel
theorem dX3_bestAhead_67 : decode cX3_bestAhead 67 = .ok (.iload_n 3, 1) := by decide +kernel
theorem dX3_bestAhead_68 : decode cX3_bestAhead 68 = .ok (.putfield 38, 3) := by decide +kernel
theorem dX3_bestAhead_71 : decode cX3_bestAhead 71 = .ok (.iinc 3 1, 3) := by decide +kernel
theorem dX3_bestAhead_74 : decode cX3_bestAhead 74 = .ok (.goto (-52), 3) := by decide +kernel
theorem dX3_bestAhead_77 : decode cX3_bestAhead 77 = .ok (.iload_n 2, 1) := by decide +kernel
theorem dX3_bestAhead_78 : decode cX3_bestAhead 78 = .ok (.ireturn, 1) := by decide +kernel
theorem dX3_copyOfNow_0 : decode cX3_copyOfNow 0 = .ok (.aload_n 0, 1) := by decide +kernel
theorem dX3_copyOfNow_1 : decode cX3_copyOfNow 1 = .ok (.getfield 21, 3) := by decide +kernel
theorem dX3_copyOfNow_4 : decode cX3_copyOfNow 4 = .ok (.iconst 0, 1) := by decide +kernel
theorem dX3_copyOfNow_5 : decode cX3_copyOfNow 5 = .ok (.aaload, 1) := by decide +kernel
theorem dX3_copyOfNow_6 : decode cX3_copyOfNow 6 = .ok (.astore_n 1, 1) := by decide +kernel
theorem dX3_copyOfNow_7 : decode cX3_copyOfNow 7 = .ok (.aload_n 1, 1) := by decide +kernel
theorem dX3_copyOfNow_8 : decode cX3_copyOfNow 8 = .ok (.aload_n 0, 1) := by decide +kernel
theorem dX3_copyOfNow_9 : decode cX3_copyOfNow 9 = .ok (.getfield 15, 3) := by decide +kernel
theorem dX3_copyOfNow_12 : decode cX3_copyOfNow 12 = .ok (.invokevirtual 54, 3) := by decide +kernel
theorem dX3_copyOfNow_15 : decode cX3_copyOfNow 15 = .ok (.aload_n 1, 1) := by decide +kernel
theorem dX3_copyOfNow_16 : decode cX3_copyOfNow 16 = .ok (.invokevirtual 58, 3) := by decide +kernel
theorem dX3_copyOfNow_19 : decode cX3_copyOfNow 19 = .ok (.aload_n 1, 1) := by decide +kernel
theorem dX3_copyOfNow_20 : decode cX3_copyOfNow 20 = .ok (.areturn, 1) := by decide +kernel
theorem dX3_countShadedMinutes_0 : decode cX3_countShadedMinutes 0 = .ok (.iconst 0, 1) := by decide +kernel
theorem dX3_countShadedMinutes_1 : decode cX3_countShadedMinutes 1 = .ok (.istore_n 2, 1) := by decide +kernel
theorem dX3_countShadedMinutes_2 : decode cX3_countShadedMinutes 2 = .ok (.iload_n 2, 1) := by decide +kernel
theorem dX3_countShadedMinutes_3 : decode cX3_countShadedMinutes 3 = .ok (.bipush 100, 2) := by decide +kernel
theorem dX3_countShadedMinutes_5 : decode cX3_countShadedMinutes 5 = .ok (.if_icmp .ge 16, 3) := by decide +kernel
theorem dX3_countShadedMinutes_8 : decode cX3_countShadedMinutes 8 = .ok (.aload_n 0, 1) := by decide +kernel
theorem dX3_countShadedMinutes_9 : decode cX3_countShadedMinutes 9 = .ok (.getfield 42, 3) := by decide +kernel
theorem dX3_countShadedMinutes_12 : decode cX3_countShadedMinutes 12 = .ok (.iload_n 2, 1) := by decide +kernel
theorem dX3_countShadedMinutes_13 : decode cX3_countShadedMinutes 13 = .ok (.iconst 0, 1) := by decide +kernel
theorem dX3_countShadedMinutes_14 : decode cX3_countShadedMinutes 14 = .ok (.iastore, 1) := by decide +kernel
theorem dX3_countShadedMinutes_15 : decode cX3_countShadedMinutes 15 = .ok (.iinc 2 1, 3) := by decide +kernel
theorem dX3_countShadedMinutes_18 : decode cX3_countShadedMinutes 18 = .ok (.goto (-16), 3) := by decide +kernel
theorem dX3_countShadedMinutes_21 : decode cX3_countShadedMinutes 21 = .ok (.aload_n 0, 1) := by decide +kernel
theorem dX3_countShadedMinutes_22 : decode cX3_countShadedMinutes 22 = .ok (.invokevirtual 61, 3) := by decide +kernel
theorem dX3_countShadedMinutes_25 : decode cX3_countShadedMinutes 25 = .ok (.astore_n 2, 1) := by decide +kernel
theorem dX3_countShadedMinutes_26 : decode cX3_countShadedMinutes 26 = .ok (.iconst 0, 1) := by decide +kernel
theorem dX3_countShadedMinutes_27 : decode cX3_countShadedMinutes 27 = .ok (.istore_n 3, 1) := by decide +kernel
theorem dX3_countShadedMinutes_28 : decode cX3_countShadedMinutes 28 = .ok (.iload_n 3, 1) := by decide +kernel
theorem dX3_countShadedMinutes_29 : decode cX3_countShadedMinutes 29 = .ok (.iload_n 1, 1) := by decide +kernel
theorem dX3_countShadedMinutes_30 : decode cX3_countShadedMinutes 30 = .ok (.if_icmp .ge 85, 3) := by decide +kernel
theorem dX3_countShadedMinutes_33 : decode cX3_countShadedMinutes 33 = .ok (.aload_n 0, 1) := by decide +kernel
theorem dX3_countShadedMinutes_34 : decode cX3_countShadedMinutes 34 = .ok (.getfield 9, 3) := by decide +kernel
theorem dX3_countShadedMinutes_37 : decode cX3_countShadedMinutes 37 = .ok (.aload_n 2, 1) := by decide +kernel
theorem dX3_countShadedMinutes_38 : decode cX3_countShadedMinutes 38 = .ok (.invokevirtual 104, 3) := by decide +kernel
theorem dX3_countShadedMinutes_41 : decode cX3_countShadedMinutes 41 = .ok (.ifCond .eq 74, 3) := by decide +kernel
theorem dX3_countShadedMinutes_44 : decode cX3_countShadedMinutes 44 = .ok (.iconst 0, 1) := by decide +kernel
theorem dX3_countShadedMinutes_45 : decode cX3_countShadedMinutes 45 = .ok (.istore 4, 2) := by decide +kernel
theorem dX3_countShadedMinutes_47 : decode cX3_countShadedMinutes 47 = .ok (.iload 4, 2) := by decide +kernel
theorem dX3_countShadedMinutes_49 : decode cX3_countShadedMinutes 49 = .ok (.aload_n 0, 1) := by decide +kernel
theorem dX3_countShadedMinutes_50 : decode cX3_countShadedMinutes 50 = .ok (.getfield 9, 3) := by decide +kernel
theorem dX3_countShadedMinutes_53 : decode cX3_countShadedMinutes 53 = .ok (.getfield 108, 3) := by decide +kernel
theorem dX3_countShadedMinutes_56 : decode cX3_countShadedMinutes 56 = .ok (.getfield 112, 3) := by decide +kernel
theorem dX3_countShadedMinutes_59 : decode cX3_countShadedMinutes 59 = .ok (.if_icmp .ge 50, 3) := by decide +kernel
theorem dX3_countShadedMinutes_62 : decode cX3_countShadedMinutes 62 = .ok (.iload 4, 2) := by decide +kernel
theorem dX3_countShadedMinutes_64 : decode cX3_countShadedMinutes 64 = .ok (.bipush 100, 2) := by decide +kernel
theorem dX3_countShadedMinutes_66 : decode cX3_countShadedMinutes 66 = .ok (.if_icmp .ge 43, 3) := by decide +kernel
theorem dX3_countShadedMinutes_69 : decode cX3_countShadedMinutes 69 = .ok (.aload_n 0, 1) := by decide +kernel
theorem dX3_countShadedMinutes_70 : decode cX3_countShadedMinutes 70 = .ok (.getfield 9, 3) := by decide +kernel
theorem dX3_countShadedMinutes_73 : decode cX3_countShadedMinutes 73 = .ok (.getfield 108, 3) := by decide +kernel
theorem dX3_countShadedMinutes_76 : decode cX3_countShadedMinutes 76 = .ok (.getfield 117, 3) := by decide +kernel
theorem dX3_countShadedMinutes_79 : decode cX3_countShadedMinutes 79 = .ok (.iload 4, 2) := by decide +kernel
theorem dX3_countShadedMinutes_81 : decode cX3_countShadedMinutes 81 = .ok (.iaload, 1) := by decide +kernel
theorem dX3_countShadedMinutes_82 : decode cX3_countShadedMinutes 82 = .ok (.istore 5, 2) := by decide +kernel
theorem dX3_countShadedMinutes_84 : decode cX3_countShadedMinutes 84 = .ok (.iload 5, 2) := by decide +kernel
theorem dX3_countShadedMinutes_86 : decode cX3_countShadedMinutes 86 = .ok (.invokestatic 120, 3) := by decide +kernel
theorem dX3_countShadedMinutes_89 : decode cX3_countShadedMinutes 89 = .ok (.ifCond .eq 14, 3) := by decide +kernel
theorem dX3_countShadedMinutes_92 : decode cX3_countShadedMinutes 92 = .ok (.aload_n 0, 1) := by decide +kernel
theorem dX3_countShadedMinutes_93 : decode cX3_countShadedMinutes 93 = .ok (.getfield 42, 3) := by decide +kernel
theorem dX3_countShadedMinutes_96 : decode cX3_countShadedMinutes 96 = .ok (.iload 5, 2) := by decide +kernel
theorem dX3_countShadedMinutes_98 : decode cX3_countShadedMinutes 98 = .ok (.dup2, 1) := by decide +kernel
theorem dX3_countShadedMinutes_99 : decode cX3_countShadedMinutes 99 = .ok (.iaload, 1) := by decide +kernel
theorem dX3_countShadedMinutes_100 : decode cX3_countShadedMinutes 100 = .ok (.iconst 1, 1) := by decide +kernel
theorem dX3_countShadedMinutes_101 : decode cX3_countShadedMinutes 101 = .ok (.iadd, 1) := by decide +kernel
theorem dX3_countShadedMinutes_102 : decode cX3_countShadedMinutes 102 = .ok (.iastore, 1) := by decide +kernel
theorem dX3_countShadedMinutes_103 : decode cX3_countShadedMinutes 103 = .ok (.iinc 4 1, 3) := by decide +kernel
theorem dX3_countShadedMinutes_106 : decode cX3_countShadedMinutes 106 = .ok (.goto (-59), 3) := by decide +kernel
theorem dX3_countShadedMinutes_109 : decode cX3_countShadedMinutes 109 = .ok (.iinc 3 1, 3) := by decide +kernel
theorem dX3_countShadedMinutes_112 : decode cX3_countShadedMinutes 112 = .ok (.goto (-84), 3) := by decide +kernel
theorem dX3_countShadedMinutes_115 : decode cX3_countShadedMinutes 115 = .ok (.return_, 1) := by decide +kernel
theorem dX3_fewestSteps_0 : decode cX3_fewestSteps 0 = .ok (.iload_n 3, 1) := by decide +kernel
theorem dX3_fewestSteps_1 : decode cX3_fewestSteps 1 = .ok (.iconst 1, 1) := by decide +kernel
theorem dX3_fewestSteps_2 : decode cX3_fewestSteps 2 = .ok (.bipush 30, 2) := by decide +kernel
theorem dX3_fewestSteps_4 : decode cX3_fewestSteps 4 = .ok (.invokestatic 132, 3) := by decide +kernel
theorem dX3_fewestSteps_7 : decode cX3_fewestSteps 7 = .ok (.ifCond .eq 10, 3) := by decide +kernel
theorem dX3_fewestSteps_10 : decode cX3_fewestSteps 10 = .ok (.iload_n 1, 1) := by decide +kernel
theorem dX3_fewestSteps_11 : decode cX3_fewestSteps 11 = .ok (.invokestatic 120, 3) := by decide +kernel
theorem dX3_fewestSteps_14 : decode cX3_fewestSteps 14 = .ok (.ifCond .ne 6, 3) := by decide +kernel
theorem dX3_fewestSteps_17 : decode cX3_fewestSteps 17 = .ok (.bipush (-2), 2) := by decide +kernel
theorem dX3_fewestSteps_19 : decode cX3_fewestSteps 19 = .ok (.ireturn, 1) := by decide +kernel
theorem dX3_fewestSteps_20 : decode cX3_fewestSteps 20 = .ok (.iconst 0, 1) := by decide +kernel
theorem dX3_fewestSteps_21 : decode cX3_fewestSteps 21 = .ok (.istore 4, 2) := by decide +kernel
theorem dX3_fewestSteps_23 : decode cX3_fewestSteps 23 = .ok (.iload 4, 2) := by decide +kernel
theorem dX3_fewestSteps_25 : decode cX3_fewestSteps 25 = .ok (.iload_n 3, 1) := by decide +kernel
theorem dX3_fewestSteps_26 : decode cX3_fewestSteps 26 = .ok (.if_icmp .gt 37, 3) := by decide +kernel
theorem dX3_fewestSteps_29 : decode cX3_fewestSteps 29 = .ok (.iconst 0, 1) := by decide +kernel
theorem dX3_fewestSteps_30 : decode cX3_fewestSteps 30 = .ok (.istore 5, 2) := by decide +kernel
theorem dX3_fewestSteps_32 : decode cX3_fewestSteps 32 = .ok (.iload 5, 2) := by decide +kernel
theorem dX3_fewestSteps_34 : decode cX3_fewestSteps 34 = .ok (.bipush 100, 2) := by decide +kernel
theorem dX3_fewestSteps_36 : decode cX3_fewestSteps 36 = .ok (.if_icmp .ge 21, 3) := by decide +kernel
theorem dX3_fewestSteps_39 : decode cX3_fewestSteps 39 = .ok (.aload_n 0, 1) := by decide +kernel
theorem dX3_fewestSteps_40 : decode cX3_fewestSteps 40 = .ok (.getfield 45, 3) := by decide +kernel
theorem dX3_fewestSteps_43 : decode cX3_fewestSteps 43 = .ok (.iload 4, 2) := by decide +kernel
theorem dX3_fewestSteps_45 : decode cX3_fewestSteps 45 = .ok (.aaload, 1) := by decide +kernel
theorem dX3_fewestSteps_46 : decode cX3_fewestSteps 46 = .ok (.iload 5, 2) := by decide +kernel
theorem dX3_fewestSteps_48 : decode cX3_fewestSteps 48 = .ok (.ldc 69, 2) := by decide +kernel
theorem dX3_fewestSteps_50 : decode cX3_fewestSteps 50 = .ok (.iastore, 1) := by decide +kernel
theorem dX3_fewestSteps_51 : decode cX3_fewestSteps 51 = .ok (.iinc 5 1, 3) := by decide +kernel
theorem dX3_fewestSteps_54 : decode cX3_fewestSteps 54 = .ok (.goto (-22), 3) := by decide +kernel
theorem dX3_fewestSteps_57 : decode cX3_fewestSteps 57 = .ok (.iinc 4 1, 3) := by decide +kernel
theorem dX3_fewestSteps_60 : decode cX3_fewestSteps 60 = .ok (.goto (-37), 3) := by decide +kernel
theorem dX3_fewestSteps_63 : decode cX3_fewestSteps 63 = .ok (.aload_n 0, 1) := by decide +kernel
theorem dX3_fewestSteps_64 : decode cX3_fewestSteps 64 = .ok (.getfield 45, 3) := by decide +kernel
theorem dX3_fewestSteps_67 : decode cX3_fewestSteps 67 = .ok (.iconst 0, 1) := by decide +kernel
theorem dX3_fewestSteps_68 : decode cX3_fewestSteps 68 = .ok (.aaload, 1) := by decide +kernel
theorem dX3_fewestSteps_69 : decode cX3_fewestSteps 69 = .ok (.iload_n 1, 1) := by decide +kernel
theorem dX3_fewestSteps_70 : decode cX3_fewestSteps 70 = .ok (.iconst 0, 1) := by decide +kernel
theorem dX3_fewestSteps_71 : decode cX3_fewestSteps 71 = .ok (.iastore, 1) := by decide +kernel
theorem dX3_fewestSteps_72 : decode cX3_fewestSteps 72 = .ok (.aload_n 0, 1) := by decide +kernel
theorem dX3_fewestSteps_73 : decode cX3_fewestSteps 73 = .ok (.invokevirtual 61, 3) := by decide +kernel
theorem dX3_fewestSteps_76 : decode cX3_fewestSteps 76 = .ok (.astore 4, 2) := by decide +kernel
theorem dX3_fewestSteps_78 : decode cX3_fewestSteps 78 = .ok (.iconst 0, 1) := by decide +kernel
theorem dX3_fewestSteps_79 : decode cX3_fewestSteps 79 = .ok (.istore 5, 2) := by decide +kernel
theorem dX3_fewestSteps_81 : decode cX3_fewestSteps 81 = .ok (.iload 5, 2) := by decide +kernel
theorem dX3_fewestSteps_83 : decode cX3_fewestSteps 83 = .ok (.iload_n 2, 1) := by decide +kernel
theorem dX3_fewestSteps_84 : decode cX3_fewestSteps 84 = .ok (.if_icmp .ge 58, 3) := by decide +kernel
theorem dX3_fewestSteps_87 : decode cX3_fewestSteps 87 = .ok (.aload_n 0, 1) := by decide +kernel
theorem dX3_fewestSteps_88 : decode cX3_fewestSteps 88 = .ok (.getfield 9, 3) := by decide +kernel
theorem dX3_fewestSteps_91 : decode cX3_fewestSteps 91 = .ok (.aload 4, 2) := by decide +kernel
theorem dX3_fewestSteps_93 : decode cX3_fewestSteps 93 = .ok (.invokevirtual 104, 3) := by decide +kernel
theorem dX3_fewestSteps_96 : decode cX3_fewestSteps 96 = .ok (.ifCond .eq 46, 3) := by decide +kernel
theorem dX3_fewestSteps_99 : decode cX3_fewestSteps 99 = .ok (.iload 5, 2) := by decide +kernel
theorem dX3_fewestSteps_101 : decode cX3_fewestSteps 101 = .ok (.iload_n 3, 1) := by decide +kernel
theorem dX3_fewestSteps_102 : decode cX3_fewestSteps 102 = .ok (.invokestatic 94, 3) := by decide +kernel
theorem dX3_fewestSteps_105 : decode cX3_fewestSteps 105 = .ok (.istore 6, 2) := by decide +kernel
theorem dX3_fewestSteps_107 : decode cX3_fewestSteps 107 = .ok (.iload 6, 2) := by decide +kernel
theorem dX3_fewestSteps_109 : decode cX3_fewestSteps 109 = .ok (.ifCond .lt 27, 3) := by decide +kernel
theorem dX3_fewestSteps_112 : decode cX3_fewestSteps 112 = .ok (.aload_n 0, 1) := by decide +kernel
theorem dX3_fewestSteps_113 : decode cX3_fewestSteps 113 = .ok (.aload_n 0, 1) := by decide +kernel
theorem dX3_fewestSteps_114 : decode cX3_fewestSteps 114 = .ok (.getfield 45, 3) := by decide +kernel
theorem dX3_fewestSteps_117 : decode cX3_fewestSteps 117 = .ok (.iload 6, 2) := by decide +kernel
theorem dX3_fewestSteps_119 : decode cX3_fewestSteps 119 = .ok (.aaload, 1) := by decide +kernel
theorem dX3_fewestSteps_120 : decode cX3_fewestSteps 120 = .ok (.invokevirtual 136, 3) := by decide +kernel
theorem dX3_fewestSteps_123 : decode cX3_fewestSteps 123 = .ok (.aload_n 0, 1) := by decide +kernel
theorem dX3_fewestSteps_124 : decode cX3_fewestSteps 124 = .ok (.iload 6, 2) := by decide +kernel
theorem dX3_fewestSteps_126 : decode cX3_fewestSteps 126 = .ok (.iload_n 3, 1) := by decide +kernel
theorem dX3_fewestSteps_127 : decode cX3_fewestSteps 127 = .ok (.invokevirtual 140, 3) := by decide +kernel
theorem dX3_fewestSteps_130 : decode cX3_fewestSteps 130 = .ok (.iinc 6 (-1), 3) := by decide +kernel
theorem dX3_fewestSteps_133 : decode cX3_fewestSteps 133 = .ok (.goto (-26), 3) := by decide +kernel
theorem dX3_fewestSteps_136 : decode cX3_fewestSteps 136 = .ok (.iinc 5 1, 3) := by decide +kernel
theorem dX3_fewestSteps_139 : decode cX3_fewestSteps 139 = .ok (.goto (-58), 3) := by decide +kernel
theorem dX3_fewestSteps_142 : decode cX3_fewestSteps 142 = .ok (.ldc 69, 2) := by decide +kernel
theorem dX3_fewestSteps_144 : decode cX3_fewestSteps 144 = .ok (.istore 5, 2) := by decide +kernel
theorem dX3_fewestSteps_146 : decode cX3_fewestSteps 146 = .ok (.iconst 0, 1) := by decide +kernel
theorem dX3_fewestSteps_147 : decode cX3_fewestSteps 147 = .ok (.istore 6, 2) := by decide +kernel
theorem dX3_fewestSteps_149 : decode cX3_fewestSteps 149 = .ok (.iload 6, 2) := by decide +kernel
theorem dX3_fewestSteps_151 : decode cX3_fewestSteps 151 = .ok (.bipush 100, 2) := by decide +kernel
theorem dX3_fewestSteps_153 : decode cX3_fewestSteps 153 = .ok (.if_icmp .ge 25, 3) := by decide +kernel
theorem dX3_fewestSteps_156 : decode cX3_fewestSteps 156 = .ok (.iload 5, 2) := by decide +kernel
theorem dX3_fewestSteps_158 : decode cX3_fewestSteps 158 = .ok (.aload_n 0, 1) := by decide +kernel
theorem dX3_fewestSteps_159 : decode cX3_fewestSteps 159 = .ok (.getfield 45, 3) := by decide +kernel
theorem dX3_fewestSteps_162 : decode cX3_fewestSteps 162 = .ok (.iload_n 3, 1) := by decide +kernel
theorem dX3_fewestSteps_163 : decode cX3_fewestSteps 163 = .ok (.aaload, 1) := by decide +kernel
theorem dX3_fewestSteps_164 : decode cX3_fewestSteps 164 = .ok (.iload 6, 2) := by decide +kernel
theorem dX3_fewestSteps_166 : decode cX3_fewestSteps 166 = .ok (.iaload, 1) := by decide +kernel
theorem dX3_fewestSteps_167 : decode cX3_fewestSteps 167 = .ok (.invokestatic 94, 3) := by decide +kernel
theorem dX3_fewestSteps_170 : decode cX3_fewestSteps 170 = .ok (.istore 5, 2) := by decide +kernel
theorem dX3_fewestSteps_172 : decode cX3_fewestSteps 172 = .ok (.iinc 6 1, 3) := by decide +kernel
theorem dX3_fewestSteps_175 : decode cX3_fewestSteps 175 = .ok (.goto (-26), 3) := by decide +kernel
theorem dX3_fewestSteps_178 : decode cX3_fewestSteps 178 = .ok (.iload 5, 2) := by decide +kernel
theorem dX3_fewestSteps_180 : decode cX3_fewestSteps 180 = .ok (.ldc 69, 2) := by decide +kernel
theorem dX3_fewestSteps_182 : decode cX3_fewestSteps 182 = .ok (.if_icmp .lt 8, 3) := by decide +kernel
theorem dX3_fewestSteps_185 : decode cX3_fewestSteps 185 = .ok (.bipush (-2), 2) := by decide +kernel
theorem dX3_fewestSteps_187 : decode cX3_fewestSteps 187 = .ok (.goto 5, 3) := by decide +kernel
theorem dX3_fewestSteps_190 : decode cX3_fewestSteps 190 = .ok (.iload 5, 2) := by decide +kernel
theorem dX3_fewestSteps_192 : decode cX3_fewestSteps 192 = .ok (.ireturn, 1) := by decide +kernel
theorem dX3_howManyNeverShaded_0 : decode cX3_howManyNeverShaded 0 = .ok (.iconst 0, 1) := by decide +kernel
theorem dX3_howManyNeverShaded_1 : decode cX3_howManyNeverShaded 1 = .ok (.istore_n 1, 1) := by decide +kernel
theorem dX3_howManyNeverShaded_2 : decode cX3_howManyNeverShaded 2 = .ok (.iconst 0, 1) := by decide +kernel
theorem dX3_howManyNeverShaded_3 : decode cX3_howManyNeverShaded 3 = .ok (.istore_n 2, 1) := by decide +kernel
theorem dX3_howManyNeverShaded_4 : decode cX3_howManyNeverShaded 4 = .ok (.iload_n 2, 1) := by decide +kernel
theorem dX3_howManyNeverShaded_5 : decode cX3_howManyNeverShaded 5 = .ok (.bipush 100, 2) := by decide +kernel
theorem dX3_howManyNeverShaded_7 : decode cX3_howManyNeverShaded 7 = .ok (.if_icmp .ge 41, 3) := by decide +kernel
theorem dX3_howManyNeverShaded_10 : decode cX3_howManyNeverShaded 10 = .ok (.iload_n 1, 1) := by decide +kernel
theorem dX3_howManyNeverShaded_11 : decode cX3_howManyNeverShaded 11 = .ok (.aload_n 0, 1) := by decide +kernel
theorem dX3_howManyNeverShaded_12 : decode cX3_howManyNeverShaded 12 = .ok (.getfield 9, 3) := by decide +kernel
theorem dX3_howManyNeverShaded_15 : decode cX3_howManyNeverShaded 15 = .ok (.getfield 125, 3) := by decide +kernel
theorem dX3_howManyNeverShaded_18 : decode cX3_howManyNeverShaded 18 = .ok (.iload_n 2, 1) := by decide +kernel
theorem dX3_howManyNeverShaded_19 : decode cX3_howManyNeverShaded 19 = .ok (.invokevirtual 129, 3) := by decide +kernel
theorem dX3_howManyNeverShaded_22 : decode cX3_howManyNeverShaded 22 = .ok (.iconst 1, 1) := by decide +kernel
theorem dX3_howManyNeverShaded_23 : decode cX3_howManyNeverShaded 23 = .ok (.if_icmp .eq 16, 3) := by decide +kernel
theorem dX3_howManyNeverShaded_26 : decode cX3_howManyNeverShaded 26 = .ok (.aload_n 0, 1) := by decide +kernel
theorem dX3_howManyNeverShaded_27 : decode cX3_howManyNeverShaded 27 = .ok (.getfield 42, 3) := by decide +kernel
theorem dX3_howManyNeverShaded_30 : decode cX3_howManyNeverShaded 30 = .ok (.iload_n 2, 1) := by decide +kernel
theorem dX3_howManyNeverShaded_31 : decode cX3_howManyNeverShaded 31 = .ok (.iaload, 1) := by decide +kernel
theorem dX3_howManyNeverShaded_32 : decode cX3_howManyNeverShaded 32 = .ok (.ifCond .ne 7, 3) := by decide +kernel
theorem dX3_howManyNeverShaded_35 : decode cX3_howManyNeverShaded 35 = .ok (.iconst 1, 1) := by decide +kernel
theorem dX3_howManyNeverShaded_36 : decode cX3_howManyNeverShaded 36 = .ok (.goto 4, 3) := by decide +kernel
theorem dX3_howManyNeverShaded_39 : decode cX3_howManyNeverShaded 39 = .ok (.iconst 0, 1) := by decide +kernel
theorem dX3_howManyNeverShaded_40 : decode cX3_howManyNeverShaded 40 = .ok (.iadd, 1) := by decide +kernel
theorem dX3_howManyNeverShaded_41 : decode cX3_howManyNeverShaded 41 = .ok (.istore_n 1, 1) := by decide +kernel
theorem dX3_howManyNeverShaded_42 : decode cX3_howManyNeverShaded 42 = .ok (.iinc 2 1, 3) := by decide +kernel
theorem dX3_howManyNeverShaded_45 : decode cX3_howManyNeverShaded 45 = .ok (.goto (-41), 3) := by decide +kernel
theorem dX3_howManyNeverShaded_48 : decode cX3_howManyNeverShaded 48 = .ok (.iload_n 1, 1) := by decide +kernel
theorem dX3_howManyNeverShaded_49 : decode cX3_howManyNeverShaded 49 = .ok (.ireturn, 1) := by decide +kernel
theorem dX3_leastOwedWay_0 : decode cX3_leastOwedWay 0 = .ok (.aload_n 0, 1) := by decide +kernel
theorem dX3_leastOwedWay_1 : decode cX3_leastOwedWay 1 = .ok (.invokevirtual 61, 3) := by decide +kernel
theorem dX3_leastOwedWay_4 : decode cX3_leastOwedWay 4 = .ok (.invokevirtual 65, 3) := by decide +kernel
theorem dX3_leastOwedWay_7 : decode cX3_leastOwedWay 7 = .ok (.istore_n 3, 1) := by decide +kernel
theorem dX3_leastOwedWay_8 : decode cX3_leastOwedWay 8 = .ok (.ldc 69, 2) := by decide +kernel
theorem dX3_leastOwedWay_10 : decode cX3_leastOwedWay 10 = .ok (.istore 4, 2) := by decide +kernel
theorem dX3_leastOwedWay_12 : decode cX3_leastOwedWay 12 = .ok (.iconst 0, 1) := by decide +kernel
theorem dX3_leastOwedWay_13 : decode cX3_leastOwedWay 13 = .ok (.istore 5, 2) := by decide +kernel
theorem dX3_leastOwedWay_15 : decode cX3_leastOwedWay 15 = .ok (.iconst 0, 1) := by decide +kernel
theorem dX3_leastOwedWay_16 : decode cX3_leastOwedWay 16 = .ok (.istore 6, 2) := by decide +kernel
theorem dX3_leastOwedWay_18 : decode cX3_leastOwedWay 18 = .ok (.iload 6, 2) := by decide +kernel
theorem dX3_leastOwedWay_20 : decode cX3_leastOwedWay 20 = .ok (.iconst 5, 1) := by decide +kernel
theorem dX3_leastOwedWay_21 : decode cX3_leastOwedWay 21 = .ok (.if_icmp .ge 17, 3) := by decide +kernel
theorem dX3_leastOwedWay_24 : decode cX3_leastOwedWay 24 = .ok (.aload_n 0, 1) := by decide +kernel
theorem dX3_leastOwedWay_25 : decode cX3_leastOwedWay 25 = .ok (.getfield 31, 3) := by decide +kernel
theorem dX3_leastOwedWay_28 : decode cX3_leastOwedWay 28 = .ok (.iload 6, 2) := by decide +kernel
theorem dX3_leastOwedWay_30 : decode cX3_leastOwedWay 30 = .ok (.iconst 0, 1) := by decide +kernel
theorem dX3_leastOwedWay_31 : decode cX3_leastOwedWay 31 = .ok (.iastore, 1) := by decide +kernel
theorem dX3_leastOwedWay_32 : decode cX3_leastOwedWay 32 = .ok (.iinc 6 1, 3) := by decide +kernel
theorem dX3_leastOwedWay_35 : decode cX3_leastOwedWay 35 = .ok (.goto (-17), 3) := by decide +kernel
theorem dX3_leastOwedWay_38 : decode cX3_leastOwedWay 38 = .ok (.iconst 0, 1) := by decide +kernel
theorem dX3_leastOwedWay_39 : decode cX3_leastOwedWay 39 = .ok (.istore 6, 2) := by decide +kernel
theorem dX3_leastOwedWay_41 : decode cX3_leastOwedWay 41 = .ok (.iload 6, 2) := by decide +kernel
theorem dX3_leastOwedWay_43 : decode cX3_leastOwedWay 43 = .ok (.sipush 3125, 3) := by decide +kernel
theorem dX3_leastOwedWay_46 : decode cX3_leastOwedWay 46 = .ok (.if_icmp .ge 136, 3) := by decide +kernel
theorem dX3_leastOwedWay_49 : decode cX3_leastOwedWay 49 = .ok (.iload 5, 2) := by decide +kernel
theorem dX3_leastOwedWay_51 : decode cX3_leastOwedWay 51 = .ok (.ifCond .lt 131, 3) := by decide +kernel
theorem dX3_leastOwedWay_54 : decode cX3_leastOwedWay 54 = .ok (.aload_n 0, 1) := by decide +kernel
theorem dX3_leastOwedWay_55 : decode cX3_leastOwedWay 55 = .ok (.getfield 21, 3) := by decide +kernel
theorem dX3_leastOwedWay_58 : decode cX3_leastOwedWay 58 = .ok (.iload 5, 2) := by decide +kernel
theorem dX3_leastOwedWay_60 : decode cX3_leastOwedWay 60 = .ok (.aaload, 1) := by decide +kernel
theorem dX3_leastOwedWay_61 : decode cX3_leastOwedWay 61 = .ok (.astore 7, 2) := by decide +kernel
theorem dX3_leastOwedWay_63 : decode cX3_leastOwedWay 63 = .ok (.iload 5, 2) := by decide +kernel
theorem dX3_leastOwedWay_65 : decode cX3_leastOwedWay 65 = .ok (.istore 8, 2) := by decide +kernel
theorem dX3_leastOwedWay_67 : decode cX3_leastOwedWay 67 = .ok (.iload 8, 2) := by decide +kernel
theorem dX3_leastOwedWay_69 : decode cX3_leastOwedWay 69 = .ok (.iload_n 2, 1) := by decide +kernel
theorem dX3_leastOwedWay_70 : decode cX3_leastOwedWay 70 = .ok (.if_icmp .ge 67, 3) := by decide +kernel
theorem dX3_leastOwedWay_73 : decode cX3_leastOwedWay 73 = .ok (.iload 8, 2) := by decide +kernel
theorem dX3_leastOwedWay_75 : decode cX3_leastOwedWay 75 = .ok (.iconst 5, 1) := by decide +kernel
theorem dX3_leastOwedWay_76 : decode cX3_leastOwedWay 76 = .ok (.if_icmp .ge 61, 3) := by decide +kernel
theorem dX3_leastOwedWay_79 : decode cX3_leastOwedWay 79 = .ok (.aload_n 0, 1) := by decide +kernel
theorem dX3_leastOwedWay_80 : decode cX3_leastOwedWay 80 = .ok (.getfield 21, 3) := by decide +kernel
theorem dX3_leastOwedWay_83 : decode cX3_leastOwedWay 83 = .ok (.iload 8, 2) := by decide +kernel
theorem dX3_leastOwedWay_85 : decode cX3_leastOwedWay 85 = .ok (.iconst 1, 1) := by decide +kernel
theorem dX3_leastOwedWay_86 : decode cX3_leastOwedWay 86 = .ok (.iadd, 1) := by decide +kernel
theorem dX3_leastOwedWay_87 : decode cX3_leastOwedWay 87 = .ok (.aaload, 1) := by decide +kernel
theorem dX3_leastOwedWay_88 : decode cX3_leastOwedWay 88 = .ok (.astore 7, 2) := by decide +kernel
theorem dX3_leastOwedWay_90 : decode cX3_leastOwedWay 90 = .ok (.aload 7, 2) := by decide +kernel
theorem dX3_leastOwedWay_92 : decode cX3_leastOwedWay 92 = .ok (.aload_n 0, 1) := by decide +kernel
theorem dX3_leastOwedWay_93 : decode cX3_leastOwedWay 93 = .ok (.getfield 21, 3) := by decide +kernel
theorem dX3_leastOwedWay_96 : decode cX3_leastOwedWay 96 = .ok (.iload 8, 2) := by decide +kernel
theorem dX3_leastOwedWay_98 : decode cX3_leastOwedWay 98 = .ok (.aaload, 1) := by decide +kernel
theorem dX3_leastOwedWay_99 : decode cX3_leastOwedWay 99 = .ok (.invokevirtual 54, 3) := by decide +kernel
theorem dX3_leastOwedWay_102 : decode cX3_leastOwedWay 102 = .ok (.aload 7, 2) := by decide +kernel
theorem dX3_leastOwedWay_104 : decode cX3_leastOwedWay 104 = .ok (.iload_n 1, 1) := by decide +kernel
theorem dX3_leastOwedWay_105 : decode cX3_leastOwedWay 105 = .ok (.aload_n 0, 1) := by decide +kernel
theorem dX3_leastOwedWay_106 : decode cX3_leastOwedWay 106 = .ok (.aload_n 0, 1) := by decide +kernel
theorem dX3_leastOwedWay_107 : decode cX3_leastOwedWay 107 = .ok (.getfield 31, 3) := by decide +kernel
theorem dX3_leastOwedWay_110 : decode cX3_leastOwedWay 110 = .ok (.iload 8, 2) := by decide +kernel
theorem dX3_leastOwedWay_112 : decode cX3_leastOwedWay 112 = .ok (.iaload, 1) := by decide +kernel
theorem dX3_leastOwedWay_113 : decode cX3_leastOwedWay 113 = .ok (.invokevirtual 70, 3) := by decide +kernel
theorem dX3_leastOwedWay_116 : decode cX3_leastOwedWay 116 = .ok (.invokevirtual 74, 3) := by decide +kernel
theorem dX3_leastOwedWay_119 : decode cX3_leastOwedWay 119 = .ok (.aload_n 0, 1) := by decide +kernel
theorem dX3_leastOwedWay_120 : decode cX3_leastOwedWay 120 = .ok (.getfield 9, 3) := by decide +kernel
theorem dX3_leastOwedWay_123 : decode cX3_leastOwedWay 123 = .ok (.aload 7, 2) := by decide +kernel
theorem dX3_leastOwedWay_125 : decode cX3_leastOwedWay 125 = .ok (.iconst 1, 1) := by decide +kernel
theorem dX3_leastOwedWay_126 : decode cX3_leastOwedWay 126 = .ok (.iconst (-1), 1) := by decide +kernel
theorem dX3_leastOwedWay_127 : decode cX3_leastOwedWay 127 = .ok (.invokevirtual 78, 3) := by decide +kernel
theorem dX3_leastOwedWay_130 : decode cX3_leastOwedWay 130 = .ok (.pop, 1) := by decide +kernel
theorem dX3_leastOwedWay_131 : decode cX3_leastOwedWay 131 = .ok (.iinc 8 1, 3) := by decide +kernel
theorem dX3_leastOwedWay_134 : decode cX3_leastOwedWay 134 = .ok (.goto (-67), 3) := by decide +kernel
theorem dX3_leastOwedWay_137 : decode cX3_leastOwedWay 137 = .ok (.aload 7, 2) := by decide +kernel
theorem dX3_leastOwedWay_139 : decode cX3_leastOwedWay 139 = .ok (.invokevirtual 65, 3) := by decide +kernel
theorem dX3_leastOwedWay_142 : decode cX3_leastOwedWay 142 = .ok (.istore 8, 2) := by decide +kernel
theorem dX3_leastOwedWay_144 : decode cX3_leastOwedWay 144 = .ok (.iload 8, 2) := by decide +kernel
theorem dX3_leastOwedWay_146 : decode cX3_leastOwedWay 146 = .ok (.iload 4, 2) := by decide +kernel
theorem dX3_leastOwedWay_148 : decode cX3_leastOwedWay 148 = .ok (.if_icmp .ge 21, 3) := by decide +kernel
theorem dX3_leastOwedWay_151 : decode cX3_leastOwedWay 151 = .ok (.iload 8, 2) := by decide +kernel
theorem dX3_leastOwedWay_153 : decode cX3_leastOwedWay 153 = .ok (.istore 4, 2) := by decide +kernel
theorem dX3_leastOwedWay_155 : decode cX3_leastOwedWay 155 = .ok (.aload_n 0, 1) := by decide +kernel
theorem dX3_leastOwedWay_156 : decode cX3_leastOwedWay 156 = .ok (.getfield 31, 3) := by decide +kernel
theorem dX3_leastOwedWay_159 : decode cX3_leastOwedWay 159 = .ok (.iconst 0, 1) := by decide +kernel
theorem dX3_leastOwedWay_160 : decode cX3_leastOwedWay 160 = .ok (.aload_n 0, 1) := by decide +kernel
theorem dX3_leastOwedWay_161 : decode cX3_leastOwedWay 161 = .ok (.getfield 35, 3) := by decide +kernel
theorem dX3_leastOwedWay_164 : decode cX3_leastOwedWay 164 = .ok (.iconst 0, 1) := by decide +kernel
theorem dX3_leastOwedWay_165 : decode cX3_leastOwedWay 165 = .ok (.iconst 5, 1) := by decide +kernel
theorem dX3_leastOwedWay_166 : decode cX3_leastOwedWay 166 = .ok (.invokestatic 84, 3) := by decide +kernel
theorem dX3_leastOwedWay_169 : decode cX3_leastOwedWay 169 = .ok (.aload_n 0, 1) := by decide +kernel
theorem dX3_leastOwedWay_170 : decode cX3_leastOwedWay 170 = .ok (.iload_n 2, 1) := by decide +kernel
theorem dX3_leastOwedWay_171 : decode cX3_leastOwedWay 171 = .ok (.invokevirtual 90, 3) := by decide +kernel
theorem dX3_leastOwedWay_174 : decode cX3_leastOwedWay 174 = .ok (.istore 5, 2) := by decide +kernel
theorem dX3_leastOwedWay_176 : decode cX3_leastOwedWay 176 = .ok (.iinc 6 1, 3) := by decide +kernel
theorem dX3_leastOwedWay_179 : decode cX3_leastOwedWay 179 = .ok (.goto (-138), 3) := by decide +kernel
theorem dX3_leastOwedWay_182 : decode cX3_leastOwedWay 182 = .ok (.iload_n 3, 1) := by decide +kernel
theorem dX3_leastOwedWay_183 : decode cX3_leastOwedWay 183 = .ok (.iload 4, 2) := by decide +kernel
theorem dX3_leastOwedWay_185 : decode cX3_leastOwedWay 185 = .ok (.isub, 1) := by decide +kernel
theorem dX3_leastOwedWay_186 : decode cX3_leastOwedWay 186 = .ok (.ireturn, 1) := by decide +kernel
theorem dX3_mostShaded_0 : decode cX3_mostShaded 0 = .ok (.iconst (-1), 1) := by decide +kernel
theorem dX3_mostShaded_1 : decode cX3_mostShaded 1 = .ok (.istore_n 1, 1) := by decide +kernel
theorem dX3_mostShaded_2 : decode cX3_mostShaded 2 = .ok (.iconst 0, 1) := by decide +kernel
theorem dX3_mostShaded_3 : decode cX3_mostShaded 3 = .ok (.istore_n 2, 1) := by decide +kernel
theorem dX3_mostShaded_4 : decode cX3_mostShaded 4 = .ok (.iload_n 2, 1) := by decide +kernel
theorem dX3_mostShaded_5 : decode cX3_mostShaded 5 = .ok (.bipush 100, 2) := by decide +kernel
theorem dX3_mostShaded_7 : decode cX3_mostShaded 7 = .ok (.if_icmp .ge 49, 3) := by decide +kernel
theorem dX3_mostShaded_10 : decode cX3_mostShaded 10 = .ok (.aload_n 0, 1) := by decide +kernel
theorem dX3_mostShaded_11 : decode cX3_mostShaded 11 = .ok (.getfield 9, 3) := by decide +kernel
theorem dX3_mostShaded_14 : decode cX3_mostShaded 14 = .ok (.getfield 125, 3) := by decide +kernel
theorem dX3_mostShaded_17 : decode cX3_mostShaded 17 = .ok (.iload_n 2, 1) := by decide +kernel
theorem dX3_mostShaded_18 : decode cX3_mostShaded 18 = .ok (.invokevirtual 129, 3) := by decide +kernel
theorem dX3_mostShaded_21 : decode cX3_mostShaded 21 = .ok (.iconst 1, 1) := by decide +kernel
theorem dX3_mostShaded_22 : decode cX3_mostShaded 22 = .ok (.if_icmp .ne 6, 3) := by decide +kernel
theorem dX3_mostShaded_25 : decode cX3_mostShaded 25 = .ok (.goto 25, 3) := by decide +kernel
theorem dX3_mostShaded_28 : decode cX3_mostShaded 28 = .ok (.iload_n 1, 1) := by decide +kernel
theorem dX3_mostShaded_29 : decode cX3_mostShaded 29 = .ok (.iconst (-1), 1) := by decide +kernel
theorem dX3_mostShaded_30 : decode cX3_mostShaded 30 = .ok (.if_icmp .eq 18, 3) := by decide +kernel
theorem dX3_mostShaded_33 : decode cX3_mostShaded 33 = .ok (.aload_n 0, 1) := by decide +kernel
theorem dX3_mostShaded_34 : decode cX3_mostShaded 34 = .ok (.getfield 42, 3) := by decide +kernel
theorem dX3_mostShaded_37 : decode cX3_mostShaded 37 = .ok (.iload_n 2, 1) := by decide +kernel
theorem dX3_mostShaded_38 : decode cX3_mostShaded 38 = .ok (.iaload, 1) := by decide +kernel
theorem dX3_mostShaded_39 : decode cX3_mostShaded 39 = .ok (.aload_n 0, 1) := by decide +kernel
theorem dX3_mostShaded_40 : decode cX3_mostShaded 40 = .ok (.getfield 42, 3) := by decide +kernel
theorem dX3_mostShaded_43 : decode cX3_mostShaded 43 = .ok (.iload_n 1, 1) := by decide +kernel
theorem dX3_mostShaded_44 : decode cX3_mostShaded 44 = .ok (.iaload, 1) := by decide +kernel
theorem dX3_mostShaded_45 : decode cX3_mostShaded 45 = .ok (.if_icmp .le 5, 3) := by decide +kernel
theorem dX3_mostShaded_48 : decode cX3_mostShaded 48 = .ok (.iload_n 2, 1) := by decide +kernel
theorem dX3_mostShaded_49 : decode cX3_mostShaded 49 = .ok (.istore_n 1, 1) := by decide +kernel
theorem dX3_mostShaded_50 : decode cX3_mostShaded 50 = .ok (.iinc 2 1, 3) := by decide +kernel
theorem dX3_mostShaded_53 : decode cX3_mostShaded 53 = .ok (.goto (-49), 3) := by decide +kernel
theorem dX3_mostShaded_56 : decode cX3_mostShaded 56 = .ok (.iload_n 1, 1) := by decide +kernel
theorem dX3_mostShaded_57 : decode cX3_mostShaded 57 = .ok (.ireturn, 1) := by decide +kernel
theorem dX3_oneStepMore_0 : decode cX3_oneStepMore 0 = .ok (.ldc 69, 2) := by decide +kernel
theorem dX3_oneStepMore_2 : decode cX3_oneStepMore 2 = .ok (.istore_n 2, 1) := by decide +kernel
theorem dX3_oneStepMore_3 : decode cX3_oneStepMore 3 = .ok (.aload_n 0, 1) := by decide +kernel
theorem dX3_oneStepMore_4 : decode cX3_oneStepMore 4 = .ok (.getfield 9, 3) := by decide +kernel
theorem dX3_oneStepMore_7 : decode cX3_oneStepMore 7 = .ok (.getfield 125, 3) := by decide +kernel
theorem dX3_oneStepMore_10 : decode cX3_oneStepMore 10 = .ok (.iload_n 1, 1) := by decide +kernel
theorem dX3_oneStepMore_11 : decode cX3_oneStepMore 11 = .ok (.invokevirtual 147, 3) := by decide +kernel
theorem dX3_oneStepMore_14 : decode cX3_oneStepMore 14 = .ok (.ifCond .ne 5, 3) := by decide +kernel
theorem dX3_oneStepMore_17 : decode cX3_oneStepMore 17 = .ok (.iload_n 2, 1) := by decide +kernel
theorem dX3_oneStepMore_18 : decode cX3_oneStepMore 18 = .ok (.ireturn, 1) := by decide +kernel
theorem dX3_oneStepMore_19 : decode cX3_oneStepMore 19 = .ok (.iconst 0, 1) := by decide +kernel
theorem dX3_oneStepMore_20 : decode cX3_oneStepMore 20 = .ok (.istore_n 3, 1) := by decide +kernel
theorem dX3_oneStepMore_21 : decode cX3_oneStepMore 21 = .ok (.iload_n 3, 1) := by decide +kernel
theorem dX3_oneStepMore_22 : decode cX3_oneStepMore 22 = .ok (.bipush 8, 2) := by decide +kernel
theorem dX3_oneStepMore_24 : decode cX3_oneStepMore 24 = .ok (.if_icmp .ge 38, 3) := by decide +kernel
theorem dX3_oneStepMore_27 : decode cX3_oneStepMore 27 = .ok (.iload_n 1, 1) := by decide +kernel
theorem dX3_oneStepMore_28 : decode cX3_oneStepMore 28 = .ok (.iload_n 3, 1) := by decide +kernel
theorem dX3_oneStepMore_29 : decode cX3_oneStepMore 29 = .ok (.invokestatic 150, 3) := by decide +kernel
theorem dX3_oneStepMore_32 : decode cX3_oneStepMore 32 = .ok (.istore 4, 2) := by decide +kernel
theorem dX3_oneStepMore_34 : decode cX3_oneStepMore 34 = .ok (.iload 4, 2) := by decide +kernel
theorem dX3_oneStepMore_36 : decode cX3_oneStepMore 36 = .ok (.invokestatic 120, 3) := by decide +kernel
theorem dX3_oneStepMore_39 : decode cX3_oneStepMore 39 = .ok (.ifCond .eq 17, 3) := by decide +kernel
theorem dX3_oneStepMore_42 : decode cX3_oneStepMore 42 = .ok (.iload_n 2, 1) := by decide +kernel
theorem dX3_oneStepMore_43 : decode cX3_oneStepMore 43 = .ok (.aload_n 0, 1) := by decide +kernel
theorem dX3_oneStepMore_44 : decode cX3_oneStepMore 44 = .ok (.getfield 48, 3) := by decide +kernel
theorem dX3_oneStepMore_47 : decode cX3_oneStepMore 47 = .ok (.iload 4, 2) := by decide +kernel
theorem dX3_oneStepMore_49 : decode cX3_oneStepMore 49 = .ok (.iaload, 1) := by decide +kernel
theorem dX3_oneStepMore_50 : decode cX3_oneStepMore 50 = .ok (.iconst 1, 1) := by decide +kernel
theorem dX3_oneStepMore_51 : decode cX3_oneStepMore 51 = .ok (.iadd, 1) := by decide +kernel
theorem dX3_oneStepMore_52 : decode cX3_oneStepMore 52 = .ok (.invokestatic 94, 3) := by decide +kernel
theorem dX3_oneStepMore_55 : decode cX3_oneStepMore 55 = .ok (.istore_n 2, 1) := by decide +kernel
theorem dX3_oneStepMore_56 : decode cX3_oneStepMore 56 = .ok (.iinc 3 2, 3) := by decide +kernel
theorem dX3_oneStepMore_59 : decode cX3_oneStepMore 59 = .ok (.goto (-38), 3) := by decide +kernel
theorem dX3_oneStepMore_62 : decode cX3_oneStepMore 62 = .ok (.iload_n 2, 1) := by decide +kernel
theorem dX3_oneStepMore_63 : decode cX3_oneStepMore 63 = .ok (.ireturn, 1) := by decide +kernel
theorem dX3_settle_0 : decode cX3_settle 0 = .ok (.iload_n 1, 1) := by decide +kernel
theorem dX3_settle_1 : decode cX3_settle 1 = .ok (.ifCond .lt 14, 3) := by decide +kernel
theorem dX3_settle_4 : decode cX3_settle 4 = .ok (.iload_n 1, 1) := by decide +kernel
theorem dX3_settle_5 : decode cX3_settle 5 = .ok (.iload_n 2, 1) := by decide +kernel
theorem dX3_settle_6 : decode cX3_settle 6 = .ok (.if_icmp .gt 9, 3) := by decide +kernel
theorem dX3_settle_9 : decode cX3_settle 9 = .ok (.iload_n 2, 1) := by decide +kernel
theorem dX3_settle_10 : decode cX3_settle 10 = .ok (.bipush 30, 2) := by decide +kernel
theorem dX3_settle_12 : decode cX3_settle 12 = .ok (.if_icmp .le 4, 3) := by decide +kernel
theorem dX3_settle_15 : decode cX3_settle 15 = .ok (.return_, 1) := by decide +kernel
theorem dX3_settle_16 : decode cX3_settle 16 = .ok (.iconst 0, 1) := by decide +kernel
theorem dX3_settle_17 : decode cX3_settle 17 = .ok (.istore_n 3, 1) := by decide +kernel
theorem dX3_settle_18 : decode cX3_settle 18 = .ok (.iload_n 3, 1) := by decide +kernel
theorem dX3_settle_19 : decode cX3_settle 19 = .ok (.bipush 100, 2) := by decide +kernel
theorem dX3_settle_21 : decode cX3_settle 21 = .ok (.if_icmp .ge 96, 3) := by decide +kernel
theorem dX3_settle_24 : decode cX3_settle 24 = .ok (.iload_n 1, 1) := by decide +kernel
theorem dX3_settle_25 : decode cX3_settle 25 = .ok (.iload_n 2, 1) := by decide +kernel
theorem dX3_settle_26 : decode cX3_settle 26 = .ok (.if_icmp .ge 21, 3) := by decide +kernel
theorem dX3_settle_29 : decode cX3_settle 29 = .ok (.aload_n 0, 1) := by decide +kernel
theorem dX3_settle_30 : decode cX3_settle 30 = .ok (.getfield 9, 3) := by decide +kernel
theorem dX3_settle_33 : decode cX3_settle 33 = .ok (.getfield 108, 3) := by decide +kernel
theorem dX3_settle_36 : decode cX3_settle 36 = .ok (.iload_n 3, 1) := by decide +kernel
theorem dX3_settle_37 : decode cX3_settle 37 = .ok (.invokevirtual 153, 3) := by decide +kernel
theorem dX3_settle_40 : decode cX3_settle 40 = .ok (.ifCond .le 7, 3) := by decide +kernel
theorem dX3_settle_43 : decode cX3_settle 43 = .ok (.iconst 1, 1) := by decide +kernel
theorem dX3_settle_44 : decode cX3_settle 44 = .ok (.goto 4, 3) := by decide +kernel
theorem dX3_settle_47 : decode cX3_settle 47 = .ok (.iconst 0, 1) := by decide +kernel
theorem dX3_settle_48 : decode cX3_settle 48 = .ok (.istore 4, 2) := by decide +kernel
theorem dX3_settle_50 : decode cX3_settle 50 = .ok (.iload 4, 2) := by decide +kernel
theorem dX3_settle_52 : decode cX3_settle 52 = .ok (.ifCond .eq 45, 3) := by decide +kernel
theorem dX3_settle_55 : decode cX3_settle 55 = .ok (.aload_n 0, 1) := by decide +kernel
theorem dX3_settle_56 : decode cX3_settle 56 = .ok (.getfield 45, 3) := by decide +kernel
theorem dX3_settle_59 : decode cX3_settle 59 = .ok (.iload_n 1, 1) := by decide +kernel
theorem dX3_settle_60 : decode cX3_settle 60 = .ok (.iconst 1, 1) := by decide +kernel
theorem dX3_settle_61 : decode cX3_settle 61 = .ok (.iadd, 1) := by decide +kernel
theorem dX3_settle_62 : decode cX3_settle 62 = .ok (.aaload, 1) := by decide +kernel
theorem dX3_settle_63 : decode cX3_settle 63 = .ok (.iload_n 3, 1) := by decide +kernel
theorem dX3_settle_64 : decode cX3_settle 64 = .ok (.aload_n 0, 1) := by decide +kernel
theorem dX3_settle_65 : decode cX3_settle 65 = .ok (.getfield 45, 3) := by decide +kernel
theorem dX3_settle_68 : decode cX3_settle 68 = .ok (.iload_n 1, 1) := by decide +kernel
theorem dX3_settle_69 : decode cX3_settle 69 = .ok (.iconst 1, 1) := by decide +kernel
theorem dX3_settle_70 : decode cX3_settle 70 = .ok (.iadd, 1) := by decide +kernel
theorem dX3_settle_71 : decode cX3_settle 71 = .ok (.aaload, 1) := by decide +kernel
theorem dX3_settle_72 : decode cX3_settle 72 = .ok (.iload_n 3, 1) := by decide +kernel
theorem dX3_settle_73 : decode cX3_settle 73 = .ok (.iaload, 1) := by decide +kernel
theorem dX3_settle_74 : decode cX3_settle 74 = .ok (.aload_n 0, 1) := by decide +kernel
theorem dX3_settle_75 : decode cX3_settle 75 = .ok (.getfield 48, 3) := by decide +kernel
theorem dX3_settle_78 : decode cX3_settle 78 = .ok (.iload_n 3, 1) := by decide +kernel
theorem dX3_settle_79 : decode cX3_settle 79 = .ok (.iaload, 1) := by decide +kernel
theorem dX3_settle_80 : decode cX3_settle 80 = .ok (.invokestatic 94, 3) := by decide +kernel
theorem dX3_settle_83 : decode cX3_settle 83 = .ok (.iastore, 1) := by decide +kernel
theorem dX3_settle_84 : decode cX3_settle 84 = .ok (.aload_n 0, 1) := by decide +kernel
theorem dX3_settle_85 : decode cX3_settle 85 = .ok (.getfield 45, 3) := by decide +kernel
theorem dX3_settle_88 : decode cX3_settle 88 = .ok (.iload_n 1, 1) := by decide +kernel
theorem dX3_settle_89 : decode cX3_settle 89 = .ok (.aaload, 1) := by decide +kernel
theorem dX3_settle_90 : decode cX3_settle 90 = .ok (.iload_n 3, 1) := by decide +kernel
theorem dX3_settle_91 : decode cX3_settle 91 = .ok (.ldc 69, 2) := by decide +kernel
theorem dX3_settle_93 : decode cX3_settle 93 = .ok (.iastore, 1) := by decide +kernel
theorem dX3_settle_94 : decode cX3_settle 94 = .ok (.goto 17, 3) := by decide +kernel
theorem dX3_settle_97 : decode cX3_settle 97 = .ok (.aload_n 0, 1) := by decide +kernel
theorem dX3_settle_98 : decode cX3_settle 98 = .ok (.getfield 45, 3) := by decide +kernel
theorem dX3_settle_101 : decode cX3_settle 101 = .ok (.iload_n 1, 1) := by decide +kernel
theorem dX3_settle_102 : decode cX3_settle 102 = .ok (.aaload, 1) := by decide +kernel
theorem dX3_settle_103 : decode cX3_settle 103 = .ok (.iload_n 3, 1) := by decide +kernel
theorem dX3_settle_104 : decode cX3_settle 104 = .ok (.aload_n 0, 1) := by decide +kernel
theorem dX3_settle_105 : decode cX3_settle 105 = .ok (.getfield 48, 3) := by decide +kernel
theorem dX3_settle_108 : decode cX3_settle 108 = .ok (.iload_n 3, 1) := by decide +kernel
theorem dX3_settle_109 : decode cX3_settle 109 = .ok (.iaload, 1) := by decide +kernel
theorem dX3_settle_110 : decode cX3_settle 110 = .ok (.iastore, 1) := by decide +kernel
theorem dX3_settle_111 : decode cX3_settle 111 = .ok (.iinc 3 1, 3) := by decide +kernel
theorem dX3_settle_114 : decode cX3_settle 114 = .ok (.goto (-96), 3) := by decide +kernel
theorem dX3_settle_117 : decode cX3_settle 117 = .ok (.return_, 1) := by decide +kernel
theorem dX3_spreadSteps_0 : decode cX3_spreadSteps 0 = .ok (.aload_n 1, 1) := by decide +kernel
theorem dX3_spreadSteps_1 : decode cX3_spreadSteps 1 = .ok (.iconst 0, 1) := by decide +kernel
theorem dX3_spreadSteps_2 : decode cX3_spreadSteps 2 = .ok (.aload_n 0, 1) := by decide +kernel
theorem dX3_spreadSteps_3 : decode cX3_spreadSteps 3 = .ok (.getfield 48, 3) := by decide +kernel
theorem dX3_spreadSteps_6 : decode cX3_spreadSteps 6 = .ok (.iconst 0, 1) := by decide +kernel
theorem dX3_spreadSteps_7 : decode cX3_spreadSteps 7 = .ok (.bipush 100, 2) := by decide +kernel
theorem dX3_spreadSteps_9 : decode cX3_spreadSteps 9 = .ok (.invokestatic 84, 3) := by decide +kernel
theorem dX3_spreadSteps_12 : decode cX3_spreadSteps 12 = .ok (.iconst 0, 1) := by decide +kernel
theorem dX3_spreadSteps_13 : decode cX3_spreadSteps 13 = .ok (.istore_n 2, 1) := by decide +kernel
theorem dX3_spreadSteps_14 : decode cX3_spreadSteps 14 = .ok (.iload_n 2, 1) := by decide +kernel
theorem dX3_spreadSteps_15 : decode cX3_spreadSteps 15 = .ok (.iconst 3, 1) := by decide +kernel
theorem dX3_spreadSteps_16 : decode cX3_spreadSteps 16 = .ok (.if_icmp .ge 58, 3) := by decide +kernel
theorem dX3_spreadSteps_19 : decode cX3_spreadSteps 19 = .ok (.iconst 0, 1) := by decide +kernel
theorem dX3_spreadSteps_20 : decode cX3_spreadSteps 20 = .ok (.istore_n 3, 1) := by decide +kernel
theorem dX3_spreadSteps_21 : decode cX3_spreadSteps 21 = .ok (.iload_n 3, 1) := by decide +kernel
theorem dX3_spreadSteps_22 : decode cX3_spreadSteps 22 = .ok (.bipush 100, 2) := by decide +kernel
theorem dX3_spreadSteps_24 : decode cX3_spreadSteps 24 = .ok (.if_icmp .ge 29, 3) := by decide +kernel
theorem dX3_spreadSteps_27 : decode cX3_spreadSteps 27 = .ok (.aload_n 0, 1) := by decide +kernel
theorem dX3_spreadSteps_28 : decode cX3_spreadSteps 28 = .ok (.getfield 51, 3) := by decide +kernel
theorem dX3_spreadSteps_31 : decode cX3_spreadSteps 31 = .ok (.iload_n 3, 1) := by decide +kernel
theorem dX3_spreadSteps_32 : decode cX3_spreadSteps 32 = .ok (.aload_n 0, 1) := by decide +kernel
theorem dX3_spreadSteps_33 : decode cX3_spreadSteps 33 = .ok (.getfield 48, 3) := by decide +kernel
theorem dX3_spreadSteps_36 : decode cX3_spreadSteps 36 = .ok (.iload_n 3, 1) := by decide +kernel
theorem dX3_spreadSteps_37 : decode cX3_spreadSteps 37 = .ok (.iaload, 1) := by decide +kernel
theorem dX3_spreadSteps_38 : decode cX3_spreadSteps 38 = .ok (.aload_n 0, 1) := by decide +kernel
theorem dX3_spreadSteps_39 : decode cX3_spreadSteps 39 = .ok (.iload_n 3, 1) := by decide +kernel
theorem dX3_spreadSteps_40 : decode cX3_spreadSteps 40 = .ok (.invokevirtual 144, 3) := by decide +kernel
theorem dX3_spreadSteps_43 : decode cX3_spreadSteps 43 = .ok (.invokestatic 94, 3) := by decide +kernel
theorem dX3_spreadSteps_46 : decode cX3_spreadSteps 46 = .ok (.iastore, 1) := by decide +kernel
theorem dX3_spreadSteps_47 : decode cX3_spreadSteps 47 = .ok (.iinc 3 1, 3) := by decide +kernel
theorem dX3_spreadSteps_50 : decode cX3_spreadSteps 50 = .ok (.goto (-29), 3) := by decide +kernel
theorem dX3_spreadSteps_53 : decode cX3_spreadSteps 53 = .ok (.aload_n 0, 1) := by decide +kernel
theorem dX3_spreadSteps_54 : decode cX3_spreadSteps 54 = .ok (.getfield 51, 3) := by decide +kernel
theorem dX3_spreadSteps_57 : decode cX3_spreadSteps 57 = .ok (.iconst 0, 1) := by decide +kernel
theorem dX3_spreadSteps_58 : decode cX3_spreadSteps 58 = .ok (.aload_n 0, 1) := by decide +kernel
theorem dX3_spreadSteps_59 : decode cX3_spreadSteps 59 = .ok (.getfield 48, 3) := by decide +kernel
theorem dX3_spreadSteps_62 : decode cX3_spreadSteps 62 = .ok (.iconst 0, 1) := by decide +kernel
theorem dX3_spreadSteps_63 : decode cX3_spreadSteps 63 = .ok (.bipush 100, 2) := by decide +kernel
theorem dX3_spreadSteps_65 : decode cX3_spreadSteps 65 = .ok (.invokestatic 84, 3) := by decide +kernel
theorem dX3_spreadSteps_68 : decode cX3_spreadSteps 68 = .ok (.iinc 2 1, 3) := by decide +kernel
theorem dX3_spreadSteps_71 : decode cX3_spreadSteps 71 = .ok (.goto (-57), 3) := by decide +kernel
theorem dX3_spreadSteps_74 : decode cX3_spreadSteps 74 = .ok (.return_, 1) := by decide +kernel
theorem dX3_stepAlone_0 : decode cX3_stepAlone 0 = .ok (.aload_n 0, 1) := by decide +kernel
theorem dX3_stepAlone_1 : decode cX3_stepAlone 1 = .ok (.getfield 28, 3) := by decide +kernel
theorem dX3_stepAlone_4 : decode cX3_stepAlone 4 = .ok (.iload_n 1, 1) := by decide +kernel
theorem dX3_stepAlone_5 : decode cX3_stepAlone 5 = .ok (.ifCond .lt 12, 3) := by decide +kernel
theorem dX3_stepAlone_8 : decode cX3_stepAlone 8 = .ok (.iload_n 1, 1) := by decide +kernel
theorem dX3_stepAlone_9 : decode cX3_stepAlone 9 = .ok (.iconst 4, 1) := by decide +kernel
theorem dX3_stepAlone_10 : decode cX3_stepAlone 10 = .ok (.if_icmp .gt 7, 3) := by decide +kernel
theorem dX3_stepAlone_13 : decode cX3_stepAlone 13 = .ok (.iload_n 1, 1) := by decide +kernel
theorem dX3_stepAlone_14 : decode cX3_stepAlone 14 = .ok (.goto 4, 3) := by decide +kernel
theorem dX3_stepAlone_17 : decode cX3_stepAlone 17 = .ok (.iconst 4, 1) := by decide +kernel
theorem dX3_stepAlone_18 : decode cX3_stepAlone 18 = .ok (.aaload, 1) := by decide +kernel
theorem dX3_stepAlone_19 : decode cX3_stepAlone 19 = .ok (.areturn, 1) := by decide +kernel
theorem dX3_turnToNextWay_0 : decode cX3_turnToNextWay 0 = .ok (.iload_n 1, 1) := by decide +kernel
theorem dX3_turnToNextWay_1 : decode cX3_turnToNextWay 1 = .ok (.iconst 5, 1) := by decide +kernel
theorem dX3_turnToNextWay_2 : decode cX3_turnToNextWay 2 = .ok (.invokestatic 94, 3) := by decide +kernel
theorem dX3_turnToNextWay_5 : decode cX3_turnToNextWay 5 = .ok (.iconst 1, 1) := by decide +kernel
theorem dX3_turnToNextWay_6 : decode cX3_turnToNextWay 6 = .ok (.isub, 1) := by decide +kernel
theorem dX3_turnToNextWay_7 : decode cX3_turnToNextWay 7 = .ok (.istore_n 2, 1) := by decide +kernel
theorem dX3_turnToNextWay_8 : decode cX3_turnToNextWay 8 = .ok (.iload_n 2, 1) := by decide +kernel
theorem dX3_turnToNextWay_9 : decode cX3_turnToNextWay 9 = .ok (.ifCond .lt 38, 3) := by decide +kernel
theorem dX3_turnToNextWay_12 : decode cX3_turnToNextWay 12 = .ok (.aload_n 0, 1) := by decide +kernel
theorem dX3_turnToNextWay_13 : decode cX3_turnToNextWay 13 = .ok (.getfield 31, 3) := by decide +kernel
theorem dX3_turnToNextWay_16 : decode cX3_turnToNextWay 16 = .ok (.iload_n 2, 1) := by decide +kernel
theorem dX3_turnToNextWay_17 : decode cX3_turnToNextWay 17 = .ok (.iaload, 1) := by decide +kernel
theorem dX3_turnToNextWay_18 : decode cX3_turnToNextWay 18 = .ok (.iconst 4, 1) := by decide +kernel
theorem dX3_turnToNextWay_19 : decode cX3_turnToNextWay 19 = .ok (.if_icmp .ge 15, 3) := by decide +kernel
theorem dX3_turnToNextWay_22 : decode cX3_turnToNextWay 22 = .ok (.aload_n 0, 1) := by decide +kernel
theorem dX3_turnToNextWay_23 : decode cX3_turnToNextWay 23 = .ok (.getfield 31, 3) := by decide +kernel
theorem dX3_turnToNextWay_26 : decode cX3_turnToNextWay 26 = .ok (.iload_n 2, 1) := by decide +kernel
theorem dX3_turnToNextWay_27 : decode cX3_turnToNextWay 27 = .ok (.dup2, 1) := by decide +kernel
theorem dX3_turnToNextWay_28 : decode cX3_turnToNextWay 28 = .ok (.iaload, 1) := by decide +kernel
theorem dX3_turnToNextWay_29 : decode cX3_turnToNextWay 29 = .ok (.iconst 1, 1) := by decide +kernel
theorem dX3_turnToNextWay_30 : decode cX3_turnToNextWay 30 = .ok (.iadd, 1) := by decide +kernel
theorem dX3_turnToNextWay_31 : decode cX3_turnToNextWay 31 = .ok (.iastore, 1) := by decide +kernel
theorem dX3_turnToNextWay_32 : decode cX3_turnToNextWay 32 = .ok (.iload_n 2, 1) := by decide +kernel
theorem dX3_turnToNextWay_33 : decode cX3_turnToNextWay 33 = .ok (.ireturn, 1) := by decide +kernel
theorem dX3_turnToNextWay_34 : decode cX3_turnToNextWay 34 = .ok (.aload_n 0, 1) := by decide +kernel
theorem dX3_turnToNextWay_35 : decode cX3_turnToNextWay 35 = .ok (.getfield 31, 3) := by decide +kernel
theorem dX3_turnToNextWay_38 : decode cX3_turnToNextWay 38 = .ok (.iload_n 2, 1) := by decide +kernel
theorem dX3_turnToNextWay_39 : decode cX3_turnToNextWay 39 = .ok (.iconst 0, 1) := by decide +kernel
theorem dX3_turnToNextWay_40 : decode cX3_turnToNextWay 40 = .ok (.iastore, 1) := by decide +kernel
theorem dX3_turnToNextWay_41 : decode cX3_turnToNextWay 41 = .ok (.iinc 2 (-1), 3) := by decide +kernel
theorem dX3_turnToNextWay_44 : decode cX3_turnToNextWay 44 = .ok (.goto (-36), 3) := by decide +kernel
theorem dX3_turnToNextWay_47 : decode cX3_turnToNextWay 47 = .ok (.iconst (-1), 1) := by decide +kernel
theorem dX3_turnToNextWay_48 : decode cX3_turnToNextWay 48 = .ok (.ireturn, 1) := by decide +kernel


