theorem cls_X2 : xCls RX2 TX2 12 2 tyX2 := ⟨xin [415, 417, 419, 421, 423, 425, 427, 429, 431, 433, 435, 437] (by decide +kernel) (by decide +kernel), rfl, tyX2_ok, nmX2⟩
theorem st_X2_7 (h0 : Nat) (σ : xS) (k : Nat) (a : Int) : xobj h0 (xU σ k 7 a) k 2 = (xobj h0 σ k 2).set 7 (.int (xJ a)) := by simp [xobj, xU]
theorem ln_X2_7 (h0 : Nat) (σ : xS) (k : Nat) : 7 < (xobj h0 σ k 2).length := by simp [xobj]
theorem st_X2_8 (h0 : Nat) (σ : xS) (k : Nat) (a : Int) : xobj h0 (xU σ k 8 a) k 2 = (xobj h0 σ k 2).set 8 (.int (xJ a)) := by simp [xobj, xU]
theorem ln_X2_8 (h0 : Nat) (σ : xS) (k : Nat) : 8 < (xobj h0 σ k 2).length := by simp [xobj]
theorem st_X2_9 (h0 : Nat) (σ : xS) (k : Nat) (a : Int) : xobj h0 (xU σ k 9 a) k 2 = (xobj h0 σ k 2).set 9 (.int (xJ a)) := by simp [xobj, xU]
theorem ln_X2_9 (h0 : Nat) (σ : xS) (k : Nat) : 9 < (xobj h0 σ k 2).length := by simp [xobj]
theorem st_X2_10 (h0 : Nat) (σ : xS) (k : Nat) (a : Int) : xobj h0 (xU σ k 10 a) k 2 = (xobj h0 σ k 2).set 10 (.int (xJ a)) := by simp [xobj, xU]
theorem ln_X2_10 (h0 : Nat) (σ : xS) (k : Nat) : 10 < (xobj h0 σ k 2).length := by simp [xobj]
theorem st_X2_11 (h0 : Nat) (σ : xS) (k : Nat) (a : Int) : xobj h0 (xU σ k 11 a) k 2 = (xobj h0 σ k 2).set 11 (.int (xJ a)) := by simp [xobj, xU]
theorem ln_X2_11 (h0 : Nat) (σ : xS) (k : Nat) : 11 < (xobj h0 σ k 2).length := by simp [xobj]
theorem cf_X2_hasFelon : xCF yX2_hasFelon cX2_hasFelon 2 (some .boolean) 1 := ⟨xq 863 (by decide +kernel) rfl, xq 176 (by decide +kernel) rfl, by decide +kernel⟩
theorem cf_X2_stepsLeft : xCF yX2_stepsLeft cX2_stepsLeft 2 (some .int) 1 := ⟨xq 782 (by decide +kernel) rfl, xq 176 (by decide +kernel) rfl, by decide +kernel⟩
theorem wq39 : Cond.selects yX2_stepsLeft.cls yX2_stepsLeft yX2_stepsLeft ∈ xTB := xq 39 (by decide +kernel) rfl
theorem wq53 : Cond.selects yX2_hasFelon.cls yX2_hasFelon yX2_hasFelon ∈ xTB := xq 53 (by decide +kernel) rfl
theorem wq383 : Cond.fieldLink "ShadowCourt$Day" (9) "ShadowCourt$Day" "judgeSpot" "[I" ∈ xTB := xq 383 (by decide +kernel) rfl
theorem wq386 : Cond.fieldLink "ShadowCourt$Day" (17) "ShadowCourt$Day" "walks" "[[I" ∈ xTB := xq 386 (by decide +kernel) rfl
theorem wq387 : Cond.fieldLink "ShadowCourt$Day" (20) "ShadowCourt$Day" "stepsDone" "[I" ∈ xTB := xq 387 (by decide +kernel) rfl
theorem wq388 : Cond.fieldLink "ShadowCourt$Day" (23) "ShadowCourt$Day" "felonSpot" "[I" ∈ xTB := xq 388 (by decide +kernel) rfl
theorem wq392 : Cond.fieldLink "ShadowCourt$Day" (26) "ShadowCourt$Day" "owed" "[I" ∈ xTB := xq 392 (by decide +kernel) rfl
theorem wq395 : Cond.fieldLink "ShadowCourt$Day" (29) "ShadowCourt$Day" "away" "[I" ∈ xTB := xq 395 (by decide +kernel) rfl
theorem wq398 : Cond.fieldLink "ShadowCourt$Day" (32) "ShadowCourt$Day" "drowned" "[Z" ∈ xTB := xq 398 (by decide +kernel) rfl
theorem wq401 : Cond.fieldLink "ShadowCourt$Day" (36) "ShadowCourt$Day" "minute" "I" ∈ xTB := xq 401 (by decide +kernel) rfl
theorem wq404 : Cond.fieldLink "ShadowCourt$Day" (40) "ShadowCourt$Day" "drawState" "I" ∈ xTB := xq 404 (by decide +kernel) rfl
theorem wq406 : Cond.fieldLink "ShadowCourt$Day" (43) "ShadowCourt$Day" "timesAway" "I" ∈ xTB := xq 406 (by decide +kernel) rfl
theorem wq409 : Cond.fieldLink "ShadowCourt$Day" (46) "ShadowCourt$Day" "cloudyMinutes" "I" ∈ xTB := xq 409 (by decide +kernel) rfl
theorem wq412 : Cond.fieldLink "ShadowCourt$Day" (49) "ShadowCourt$Day" "felonSteps" "I" ∈ xTB := xq 412 (by decide +kernel) rfl
theorem wq779 : Cond.methodLink "ShadowCourt$Day" (56) yX2_stepsLeft ∈ xTB := xq 779 (by decide +kernel) rfl
theorem wq781 : Cond.instanceMethod yX2_stepsLeft ∈ xTB := xq 781 (by decide +kernel) rfl
theorem wq799 : Cond.constant "ShadowCourt$Day" (60) (65536) ∈ xTB := xq 799 (by decide +kernel) rfl
theorem wq860 : Cond.methodLink "ShadowCourt$Day" (52) yX2_hasFelon ∈ xTB := xq 860 (by decide +kernel) rfl
theorem wq862 : Cond.instanceMethod yX2_hasFelon ∈ xTB := xq 862 (by decide +kernel) rfl
theorem dX2_clearCounts_0 : decode cX2_clearCounts 0 = .ok (.aload_n 0, 1) := by decide +kernel
theorem dX2_clearCounts_1 : decode cX2_clearCounts 1 = .ok (.iconst 0, 1) := by decide +kernel
theorem dX2_clearCounts_2 : decode cX2_clearCounts 2 = .ok (.putfield 43, 3) := by decide +kernel
theorem dX2_clearCounts_5 : decode cX2_clearCounts 5 = .ok (.aload_n 0, 1) := by decide +kernel
theorem dX2_clearCounts_6 : decode cX2_clearCounts 6 = .ok (.iconst 0, 1) := by decide +kernel
theorem dX2_clearCounts_7 : decode cX2_clearCounts 7 = .ok (.putfield 46, 3) := by decide +kernel
theorem dX2_clearCounts_10 : decode cX2_clearCounts 10 = .ok (.aload_n 0, 1) := by decide +kernel
theorem dX2_clearCounts_11 : decode cX2_clearCounts 11 = .ok (.iconst 0, 1) := by decide +kernel
theorem dX2_clearCounts_12 : decode cX2_clearCounts 12 = .ok (.putfield 49, 3) := by decide +kernel
theorem dX2_clearCounts_15 : decode cX2_clearCounts 15 = .ok (.return_, 1) := by decide +kernel
theorem dX2_copyFrom_0 : decode cX2_copyFrom 0 = .ok (.iconst 0, 1) := by decide +kernel
theorem dX2_copyFrom_1 : decode cX2_copyFrom 1 = .ok (.istore_n 2, 1) := by decide +kernel
theorem dX2_copyFrom_2 : decode cX2_copyFrom 2 = .ok (.iload_n 2, 1) := by decide +kernel
theorem dX2_copyFrom_3 : decode cX2_copyFrom 3 = .ok (.iconst 2, 1) := by decide +kernel
theorem dX2_copyFrom_4 : decode cX2_copyFrom 4 = .ok (.if_icmp .ge 45, 3) := by decide +kernel
theorem dX2_copyFrom_7 : decode cX2_copyFrom 7 = .ok (.aload_n 0, 1) := by decide +kernel
theorem dX2_copyFrom_8 : decode cX2_copyFrom 8 = .ok (.getfield 9, 3) := by decide +kernel
theorem dX2_copyFrom_11 : decode cX2_copyFrom 11 = .ok (.iload_n 2, 1) := by decide +kernel
theorem dX2_copyFrom_12 : decode cX2_copyFrom 12 = .ok (.aload_n 1, 1) := by decide +kernel
theorem dX2_copyFrom_13 : decode cX2_copyFrom 13 = .ok (.getfield 9, 3) := by decide +kernel
theorem dX2_copyFrom_16 : decode cX2_copyFrom 16 = .ok (.iload_n 2, 1) := by decide +kernel
theorem dX2_copyFrom_17 : decode cX2_copyFrom 17 = .ok (.iaload, 1) := by decide +kernel
theorem dX2_copyFrom_18 : decode cX2_copyFrom 18 = .ok (.iastore, 1) := by decide +kernel
theorem dX2_copyFrom_19 : decode cX2_copyFrom 19 = .ok (.aload_n 0, 1) := by decide +kernel
theorem dX2_copyFrom_20 : decode cX2_copyFrom 20 = .ok (.getfield 17, 3) := by decide +kernel
theorem dX2_copyFrom_23 : decode cX2_copyFrom 23 = .ok (.iload_n 2, 1) := by decide +kernel
theorem dX2_copyFrom_24 : decode cX2_copyFrom 24 = .ok (.aload_n 1, 1) := by decide +kernel
theorem dX2_copyFrom_25 : decode cX2_copyFrom 25 = .ok (.getfield 17, 3) := by decide +kernel
theorem dX2_copyFrom_28 : decode cX2_copyFrom 28 = .ok (.iload_n 2, 1) := by decide +kernel
theorem dX2_copyFrom_29 : decode cX2_copyFrom 29 = .ok (.aaload, 1) := by decide +kernel
theorem dX2_copyFrom_30 : decode cX2_copyFrom 30 = .ok (.aastore, 1) := by decide +kernel
theorem dX2_copyFrom_31 : decode cX2_copyFrom 31 = .ok (.aload_n 0, 1) := by decide +kernel
theorem dX2_copyFrom_32 : decode cX2_copyFrom 32 = .ok (.getfield 20, 3) := by decide +kernel
theorem dX2_copyFrom_35 : decode cX2_copyFrom 35 = .ok (.iload_n 2, 1) := by decide +kernel
theorem dX2_copyFrom_36 : decode cX2_copyFrom 36 = .ok (.aload_n 1, 1) := by decide +kernel
theorem dX2_copyFrom_37 : decode cX2_copyFrom 37 = .ok (.getfield 20, 3) := by decide +kernel
theorem dX2_copyFrom_40 : decode cX2_copyFrom 40 = .ok (.iload_n 2, 1) := by decide +kernel
theorem dX2_copyFrom_41 : decode cX2_copyFrom 41 = .ok (.iaload, 1) := by decide +kernel
theorem dX2_copyFrom_42 : decode cX2_copyFrom 42 = .ok (.iastore, 1) := by decide +kernel
theorem dX2_copyFrom_43 : decode cX2_copyFrom 43 = .ok (.iinc 2 1, 3) := by decide +kernel
theorem dX2_copyFrom_46 : decode cX2_copyFrom 46 = .ok (.goto (-44), 3) := by decide +kernel
theorem dX2_copyFrom_49 : decode cX2_copyFrom 49 = .ok (.iconst 0, 1) := by decide +kernel
theorem dX2_copyFrom_50 : decode cX2_copyFrom 50 = .ok (.istore_n 2, 1) := by decide +kernel
theorem dX2_copyFrom_51 : decode cX2_copyFrom 51 = .ok (.iload_n 2, 1) := by decide +kernel
theorem dX2_copyFrom_52 : decode cX2_copyFrom 52 = .ok (.bipush 10, 2) := by decide +kernel
theorem dX2_copyFrom_54 : decode cX2_copyFrom 54 = .ok (.if_icmp .ge 57, 3) := by decide +kernel
theorem dX2_copyFrom_57 : decode cX2_copyFrom 57 = .ok (.aload_n 0, 1) := by decide +kernel
theorem dX2_copyFrom_58 : decode cX2_copyFrom 58 = .ok (.getfield 23, 3) := by decide +kernel
theorem dX2_copyFrom_61 : decode cX2_copyFrom 61 = .ok (.iload_n 2, 1) := by decide +kernel
theorem dX2_copyFrom_62 : decode cX2_copyFrom 62 = .ok (.aload_n 1, 1) := by decide +kernel
theorem dX2_copyFrom_63 : decode cX2_copyFrom 63 = .ok (.getfield 23, 3) := by decide +kernel
theorem dX2_copyFrom_66 : decode cX2_copyFrom 66 = .ok (.iload_n 2, 1) := by decide +kernel
theorem dX2_copyFrom_67 : decode cX2_copyFrom 67 = .ok (.iaload, 1) := by decide +kernel
theorem dX2_copyFrom_68 : decode cX2_copyFrom 68 = .ok (.iastore, 1) := by decide +kernel
theorem dX2_copyFrom_69 : decode cX2_copyFrom 69 = .ok (.aload_n 0, 1) := by decide +kernel
theorem dX2_copyFrom_70 : decode cX2_copyFrom 70 = .ok (.getfield 26, 3) := by decide +kernel
theorem dX2_copyFrom_73 : decode cX2_copyFrom 73 = .ok (.iload_n 2, 1) := by decide +kernel
theorem dX2_copyFrom_74 : decode cX2_copyFrom 74 = .ok (.aload_n 1, 1) := by decide +kernel
theorem dX2_copyFrom_75 : decode cX2_copyFrom 75 = .ok (.getfield 26, 3) := by decide +kernel
theorem dX2_copyFrom_78 : decode cX2_copyFrom 78 = .ok (.iload_n 2, 1) := by decide +kernel
theorem dX2_copyFrom_79 : decode cX2_copyFrom 79 = .ok (.iaload, 1) := by decide +kernel
theorem dX2_copyFrom_80 : decode cX2_copyFrom 80 = .ok (.iastore, 1) := by decide +kernel
theorem dX2_copyFrom_81 : decode cX2_copyFrom 81 = .ok (.aload_n 0, 1) := by decide +kernel
theorem dX2_copyFrom_82 : decode cX2_copyFrom 82 = .ok (.getfield 29, 3) := by decide +kernel
theorem dX2_copyFrom_85 : decode cX2_copyFrom 85 = .ok (.iload_n 2, 1) := by decide +kernel
theorem dX2_copyFrom_86 : decode cX2_copyFrom 86 = .ok (.aload_n 1, 1) := by decide +kernel
theorem dX2_copyFrom_87 : decode cX2_copyFrom 87 = .ok (.getfield 29, 3) := by decide +kernel
theorem dX2_copyFrom_90 : decode cX2_copyFrom 90 = .ok (.iload_n 2, 1) := by decide +kernel
theorem dX2_copyFrom_91 : decode cX2_copyFrom 91 = .ok (.iaload, 1) := by decide +kernel
theorem dX2_copyFrom_92 : decode cX2_copyFrom 92 = .ok (.iastore, 1) := by decide +kernel
theorem dX2_copyFrom_93 : decode cX2_copyFrom 93 = .ok (.aload_n 0, 1) := by decide +kernel
theorem dX2_copyFrom_94 : decode cX2_copyFrom 94 = .ok (.getfield 32, 3) := by decide +kernel
theorem dX2_copyFrom_97 : decode cX2_copyFrom 97 = .ok (.iload_n 2, 1) := by decide +kernel
theorem dX2_copyFrom_98 : decode cX2_copyFrom 98 = .ok (.aload_n 1, 1) := by decide +kernel
theorem dX2_copyFrom_99 : decode cX2_copyFrom 99 = .ok (.getfield 32, 3) := by decide +kernel
theorem dX2_copyFrom_102 : decode cX2_copyFrom 102 = .ok (.iload_n 2, 1) := by decide +kernel
theorem dX2_copyFrom_103 : decode cX2_copyFrom 103 = .ok (.baload, 1) := by decide +kernel
theorem dX2_copyFrom_104 : decode cX2_copyFrom 104 = .ok (.bastore, 1) := by decide +kernel
theorem dX2_copyFrom_105 : decode cX2_copyFrom 105 = .ok (.iinc 2 1, 3) := by decide +kernel
theorem dX2_copyFrom_108 : decode cX2_copyFrom 108 = .ok (.goto (-57), 3) := by decide +kernel
theorem dX2_copyFrom_111 : decode cX2_copyFrom 111 = .ok (.aload_n 0, 1) := by decide +kernel
theorem dX2_copyFrom_112 : decode cX2_copyFrom 112 = .ok (.aload_n 1, 1) := by decide +kernel
theorem dX2_copyFrom_113 : decode cX2_copyFrom 113 = .ok (.getfield 36, 3) := by decide +kernel
theorem dX2_copyFrom_116 : decode cX2_copyFrom 116 = .ok (.putfield 36, 3) := by decide +kernel
theorem dX2_copyFrom_119 : decode cX2_copyFrom 119 = .ok (.aload_n 0, 1) := by decide +kernel
theorem dX2_copyFrom_120 : decode cX2_copyFrom 120 = .ok (.aload_n 1, 1) := by decide +kernel
theorem dX2_copyFrom_121 : decode cX2_copyFrom 121 = .ok (.getfield 40, 3) := by decide +kernel
theorem dX2_copyFrom_124 : decode cX2_copyFrom 124 = .ok (.putfield 40, 3) := by decide +kernel
theorem dX2_copyFrom_127 : decode cX2_copyFrom 127 = .ok (.aload_n 0, 1) := by decide +kernel
theorem dX2_copyFrom_128 : decode cX2_copyFrom 128 = .ok (.aload_n 1, 1) := by decide +kernel
theorem dX2_copyFrom_129 : decode cX2_copyFrom 129 = .ok (.getfield 43, 3) := by decide +kernel
theorem dX2_copyFrom_132 : decode cX2_copyFrom 132 = .ok (.putfield 43, 3) := by decide +kernel
theorem dX2_copyFrom_135 : decode cX2_copyFrom 135 = .ok (.aload_n 0, 1) := by decide +kernel
theorem dX2_copyFrom_136 : decode cX2_copyFrom 136 = .ok (.aload_n 1, 1) := by decide +kernel
theorem dX2_copyFrom_137 : decode cX2_copyFrom 137 = .ok (.getfield 46, 3) := by decide +kernel
theorem dX2_copyFrom_140 : decode cX2_copyFrom 140 = .ok (.putfield 46, 3) := by decide +kernel
theorem dX2_copyFrom_143 : decode cX2_copyFrom 143 = .ok (.aload_n 0, 1) := by decide +kernel
theorem dX2_copyFrom_144 : decode cX2_copyFrom 144 = .ok (.aload_n 1, 1) := by decide +kernel
theorem dX2_copyFrom_145 : decode cX2_copyFrom 145 = .ok (.getfield 49, 3) := by decide +kernel
theorem dX2_copyFrom_148 : decode cX2_copyFrom 148 = .ok (.putfield 49, 3) := by decide +kernel
theorem dX2_copyFrom_151 : decode cX2_copyFrom 151 = .ok (.return_, 1) := by decide +kernel
theorem dX2_draw_0 : decode cX2_draw 0 = .ok (.aload_n 0, 1) := by decide +kernel
theorem dX2_draw_1 : decode cX2_draw 1 = .ok (.sipush 25173, 3) := by decide +kernel
theorem dX2_draw_4 : decode cX2_draw 4 = .ok (.aload_n 0, 1) := by decide +kernel
theorem dX2_draw_5 : decode cX2_draw 5 = .ok (.getfield 40, 3) := by decide +kernel
theorem dX2_draw_8 : decode cX2_draw 8 = .ok (.imul, 1) := by decide +kernel
theorem dX2_draw_9 : decode cX2_draw 9 = .ok (.sipush 13849, 3) := by decide +kernel
theorem dX2_draw_12 : decode cX2_draw 12 = .ok (.iadd, 1) := by decide +kernel
theorem dX2_draw_13 : decode cX2_draw 13 = .ok (.ldc 60, 2) := by decide +kernel
theorem dX2_draw_15 : decode cX2_draw 15 = .ok (.irem, 1) := by decide +kernel
theorem dX2_draw_16 : decode cX2_draw 16 = .ok (.putfield 40, 3) := by decide +kernel
theorem dX2_draw_19 : decode cX2_draw 19 = .ok (.aload_n 0, 1) := by decide +kernel
theorem dX2_draw_20 : decode cX2_draw 20 = .ok (.getfield 40, 3) := by decide +kernel
theorem dX2_draw_23 : decode cX2_draw 23 = .ok (.bipush 10, 2) := by decide +kernel
theorem dX2_draw_25 : decode cX2_draw 25 = .ok (.irem, 1) := by decide +kernel
theorem dX2_draw_26 : decode cX2_draw 26 = .ok (.ireturn, 1) := by decide +kernel
theorem dX2_hasFelon_0 : decode cX2_hasFelon 0 = .ok (.iload_n 1, 1) := by decide +kernel
theorem dX2_hasFelon_1 : decode cX2_hasFelon 1 = .ok (.ifCond .lt 23, 3) := by decide +kernel
theorem dX2_hasFelon_4 : decode cX2_hasFelon 4 = .ok (.iload_n 1, 1) := by decide +kernel
theorem dX2_hasFelon_5 : decode cX2_hasFelon 5 = .ok (.bipush 10, 2) := by decide +kernel
theorem dX2_hasFelon_7 : decode cX2_hasFelon 7 = .ok (.if_icmp .ge 17, 3) := by decide +kernel
theorem dX2_hasFelon_10 : decode cX2_hasFelon 10 = .ok (.aload_n 0, 1) := by decide +kernel
theorem dX2_hasFelon_11 : decode cX2_hasFelon 11 = .ok (.getfield 23, 3) := by decide +kernel
theorem dX2_hasFelon_14 : decode cX2_hasFelon 14 = .ok (.iload_n 1, 1) := by decide +kernel
theorem dX2_hasFelon_15 : decode cX2_hasFelon 15 = .ok (.iaload, 1) := by decide +kernel
theorem dX2_hasFelon_16 : decode cX2_hasFelon 16 = .ok (.iconst (-1), 1) := by decide +kernel
theorem dX2_hasFelon_17 : decode cX2_hasFelon 17 = .ok (.if_icmp .eq 7, 3) := by decide +kernel
theorem dX2_hasFelon_20 : decode cX2_hasFelon 20 = .ok (.iconst 1, 1) := by decide +kernel
theorem dX2_hasFelon_21 : decode cX2_hasFelon 21 = .ok (.goto 4, 3) := by decide +kernel
theorem dX2_hasFelon_24 : decode cX2_hasFelon 24 = .ok (.iconst 0, 1) := by decide +kernel
theorem dX2_hasFelon_25 : decode cX2_hasFelon 25 = .ok (.ireturn, 1) := by decide +kernel
theorem dX2_hasJudge_0 : decode cX2_hasJudge 0 = .ok (.iload_n 1, 1) := by decide +kernel
theorem dX2_hasJudge_1 : decode cX2_hasJudge 1 = .ok (.ifCond .lt 22, 3) := by decide +kernel
theorem dX2_hasJudge_4 : decode cX2_hasJudge 4 = .ok (.iload_n 1, 1) := by decide +kernel
theorem dX2_hasJudge_5 : decode cX2_hasJudge 5 = .ok (.iconst 2, 1) := by decide +kernel
theorem dX2_hasJudge_6 : decode cX2_hasJudge 6 = .ok (.if_icmp .ge 17, 3) := by decide +kernel
theorem dX2_hasJudge_9 : decode cX2_hasJudge 9 = .ok (.aload_n 0, 1) := by decide +kernel
theorem dX2_hasJudge_10 : decode cX2_hasJudge 10 = .ok (.getfield 9, 3) := by decide +kernel
theorem dX2_hasJudge_13 : decode cX2_hasJudge 13 = .ok (.iload_n 1, 1) := by decide +kernel
theorem dX2_hasJudge_14 : decode cX2_hasJudge 14 = .ok (.iaload, 1) := by decide +kernel
theorem dX2_hasJudge_15 : decode cX2_hasJudge 15 = .ok (.iconst (-1), 1) := by decide +kernel
theorem dX2_hasJudge_16 : decode cX2_hasJudge 16 = .ok (.if_icmp .eq 7, 3) := by decide +kernel
theorem dX2_hasJudge_19 : decode cX2_hasJudge 19 = .ok (.iconst 1, 1) := by decide +kernel
theorem dX2_hasJudge_20 : decode cX2_hasJudge 20 = .ok (.goto 4, 3) := by decide +kernel
theorem dX2_hasJudge_23 : decode cX2_hasJudge 23 = .ok (.iconst 0, 1) := by decide +kernel
theorem dX2_hasJudge_24 : decode cX2_hasJudge 24 = .ok (.ireturn, 1) := by decide +kernel
theorem dX2_howManyDrowned_0 : decode cX2_howManyDrowned 0 = .ok (.iconst 0, 1) := by decide +kernel
theorem dX2_howManyDrowned_1 : decode cX2_howManyDrowned 1 = .ok (.istore_n 1, 1) := by decide +kernel
theorem dX2_howManyDrowned_2 : decode cX2_howManyDrowned 2 = .ok (.iconst 0, 1) := by decide +kernel
theorem dX2_howManyDrowned_3 : decode cX2_howManyDrowned 3 = .ok (.istore_n 2, 1) := by decide +kernel
theorem dX2_howManyDrowned_4 : decode cX2_howManyDrowned 4 = .ok (.iload_n 2, 1) := by decide +kernel
theorem dX2_howManyDrowned_5 : decode cX2_howManyDrowned 5 = .ok (.bipush 10, 2) := by decide +kernel
theorem dX2_howManyDrowned_7 : decode cX2_howManyDrowned 7 = .ok (.if_icmp .ge 34, 3) := by decide +kernel
theorem dX2_howManyDrowned_10 : decode cX2_howManyDrowned 10 = .ok (.iload_n 1, 1) := by decide +kernel
theorem dX2_howManyDrowned_11 : decode cX2_howManyDrowned 11 = .ok (.aload_n 0, 1) := by decide +kernel
theorem dX2_howManyDrowned_12 : decode cX2_howManyDrowned 12 = .ok (.iload_n 2, 1) := by decide +kernel
theorem dX2_howManyDrowned_13 : decode cX2_howManyDrowned 13 = .ok (.invokevirtual 52, 3) := by decide +kernel
theorem dX2_howManyDrowned_16 : decode cX2_howManyDrowned 16 = .ok (.ifCond .eq 16, 3) := by decide +kernel
theorem dX2_howManyDrowned_19 : decode cX2_howManyDrowned 19 = .ok (.aload_n 0, 1) := by decide +kernel
theorem dX2_howManyDrowned_20 : decode cX2_howManyDrowned 20 = .ok (.getfield 32, 3) := by decide +kernel
theorem dX2_howManyDrowned_23 : decode cX2_howManyDrowned 23 = .ok (.iload_n 2, 1) := by decide +kernel
theorem dX2_howManyDrowned_24 : decode cX2_howManyDrowned 24 = .ok (.baload, 1) := by decide +kernel
theorem dX2_howManyDrowned_25 : decode cX2_howManyDrowned 25 = .ok (.ifCond .eq 7, 3) := by decide +kernel
theorem dX2_howManyDrowned_28 : decode cX2_howManyDrowned 28 = .ok (.iconst 1, 1) := by decide +kernel
theorem dX2_howManyDrowned_29 : decode cX2_howManyDrowned 29 = .ok (.goto 4, 3) := by decide +kernel
theorem dX2_howManyDrowned_32 : decode cX2_howManyDrowned 32 = .ok (.iconst 0, 1) := by decide +kernel
theorem dX2_howManyDrowned_33 : decode cX2_howManyDrowned 33 = .ok (.iadd, 1) := by decide +kernel
theorem dX2_howManyDrowned_34 : decode cX2_howManyDrowned 34 = .ok (.istore_n 1, 1) := by decide +kernel
theorem dX2_howManyDrowned_35 : decode cX2_howManyDrowned 35 = .ok (.iinc 2 1, 3) := by decide +kernel
theorem dX2_howManyDrowned_38 : decode cX2_howManyDrowned 38 = .ok (.goto (-34), 3) := by decide +kernel
theorem dX2_howManyDrowned_41 : decode cX2_howManyDrowned 41 = .ok (.iload_n 1, 1) := by decide +kernel
theorem dX2_howManyDrowned_42 : decode cX2_howManyDrowned 42 = .ok (.ireturn, 1) := by decide +kernel
theorem dX2_howManyOweNothing_0 : decode cX2_howManyOweNothing 0 = .ok (.iconst 0, 1) := by decide +kernel
theorem dX2_howManyOweNothing_1 : decode cX2_howManyOweNothing 1 = .ok (.istore_n 1, 1) := by decide +kernel
theorem dX2_howManyOweNothing_2 : decode cX2_howManyOweNothing 2 = .ok (.iconst 0, 1) := by decide +kernel
theorem dX2_howManyOweNothing_3 : decode cX2_howManyOweNothing 3 = .ok (.istore_n 2, 1) := by decide +kernel
theorem dX2_howManyOweNothing_4 : decode cX2_howManyOweNothing 4 = .ok (.iload_n 2, 1) := by decide +kernel
theorem dX2_howManyOweNothing_5 : decode cX2_howManyOweNothing 5 = .ok (.bipush 10, 2) := by decide +kernel
theorem dX2_howManyOweNothing_7 : decode cX2_howManyOweNothing 7 = .ok (.if_icmp .ge 34, 3) := by decide +kernel
theorem dX2_howManyOweNothing_10 : decode cX2_howManyOweNothing 10 = .ok (.iload_n 1, 1) := by decide +kernel
theorem dX2_howManyOweNothing_11 : decode cX2_howManyOweNothing 11 = .ok (.aload_n 0, 1) := by decide +kernel
theorem dX2_howManyOweNothing_12 : decode cX2_howManyOweNothing 12 = .ok (.iload_n 2, 1) := by decide +kernel
theorem dX2_howManyOweNothing_13 : decode cX2_howManyOweNothing 13 = .ok (.invokevirtual 52, 3) := by decide +kernel
theorem dX2_howManyOweNothing_16 : decode cX2_howManyOweNothing 16 = .ok (.ifCond .eq 16, 3) := by decide +kernel
theorem dX2_howManyOweNothing_19 : decode cX2_howManyOweNothing 19 = .ok (.aload_n 0, 1) := by decide +kernel
theorem dX2_howManyOweNothing_20 : decode cX2_howManyOweNothing 20 = .ok (.getfield 26, 3) := by decide +kernel
theorem dX2_howManyOweNothing_23 : decode cX2_howManyOweNothing 23 = .ok (.iload_n 2, 1) := by decide +kernel
theorem dX2_howManyOweNothing_24 : decode cX2_howManyOweNothing 24 = .ok (.iaload, 1) := by decide +kernel
theorem dX2_howManyOweNothing_25 : decode cX2_howManyOweNothing 25 = .ok (.ifCond .ne 7, 3) := by decide +kernel
theorem dX2_howManyOweNothing_28 : decode cX2_howManyOweNothing 28 = .ok (.iconst 1, 1) := by decide +kernel
theorem dX2_howManyOweNothing_29 : decode cX2_howManyOweNothing 29 = .ok (.goto 4, 3) := by decide +kernel
theorem dX2_howManyOweNothing_32 : decode cX2_howManyOweNothing 32 = .ok (.iconst 0, 1) := by decide +kernel
theorem dX2_howManyOweNothing_33 : decode cX2_howManyOweNothing 33 = .ok (.iadd, 1) := by decide +kernel
theorem dX2_howManyOweNothing_34 : decode cX2_howManyOweNothing 34 = .ok (.istore_n 1, 1) := by decide +kernel
theorem dX2_howManyOweNothing_35 : decode cX2_howManyOweNothing 35 = .ok (.iinc 2 1, 3) := by decide +kernel
theorem dX2_howManyOweNothing_38 : decode cX2_howManyOweNothing 38 = .ok (.goto (-34), 3) := by decide +kernel
theorem dX2_howManyOweNothing_41 : decode cX2_howManyOweNothing 41 = .ok (.iload_n 1, 1) := by decide +kernel
theorem dX2_howManyOweNothing_42 : decode cX2_howManyOweNothing 42 = .ok (.ireturn, 1) := by decide +kernel
theorem dX2_mustServe_0 : decode cX2_mustServe 0 = .ok (.aload_n 0, 1) := by decide +kernel
theorem dX2_mustServe_1 : decode cX2_mustServe 1 = .ok (.iload_n 1, 1) := by decide +kernel
theorem dX2_mustServe_2 : decode cX2_mustServe 2 = .ok (.invokevirtual 52, 3) := by decide +kernel
theorem dX2_mustServe_5 : decode cX2_mustServe 5 = .ok (.ifCond .eq 25, 3) := by decide +kernel
theorem dX2_mustServe_8 : decode cX2_mustServe 8 = .ok (.aload_n 0, 1) := by decide +kernel
theorem dX2_mustServe_9 : decode cX2_mustServe 9 = .ok (.getfield 26, 3) := by decide +kernel
theorem dX2_mustServe_12 : decode cX2_mustServe 12 = .ok (.iload_n 1, 1) := by decide +kernel
theorem dX2_mustServe_13 : decode cX2_mustServe 13 = .ok (.iaload, 1) := by decide +kernel
theorem dX2_mustServe_14 : decode cX2_mustServe 14 = .ok (.ifCond .le 16, 3) := by decide +kernel
theorem dX2_mustServe_17 : decode cX2_mustServe 17 = .ok (.aload_n 0, 1) := by decide +kernel
theorem dX2_mustServe_18 : decode cX2_mustServe 18 = .ok (.getfield 32, 3) := by decide +kernel
theorem dX2_mustServe_21 : decode cX2_mustServe 21 = .ok (.iload_n 1, 1) := by decide +kernel
theorem dX2_mustServe_22 : decode cX2_mustServe 22 = .ok (.baload, 1) := by decide +kernel
theorem dX2_mustServe_23 : decode cX2_mustServe 23 = .ok (.ifCond .ne 7, 3) := by decide +kernel
theorem dX2_mustServe_26 : decode cX2_mustServe 26 = .ok (.iconst 1, 1) := by decide +kernel
theorem dX2_mustServe_27 : decode cX2_mustServe 27 = .ok (.goto 4, 3) := by decide +kernel
theorem dX2_mustServe_30 : decode cX2_mustServe 30 = .ok (.iconst 0, 1) := by decide +kernel
theorem dX2_mustServe_31 : decode cX2_mustServe 31 = .ok (.ireturn, 1) := by decide +kernel
theorem dX2_owedByAll_0 : decode cX2_owedByAll 0 = .ok (.iconst 0, 1) := by decide +kernel
theorem dX2_owedByAll_1 : decode cX2_owedByAll 1 = .ok (.istore_n 1, 1) := by decide +kernel
theorem dX2_owedByAll_2 : decode cX2_owedByAll 2 = .ok (.iconst 0, 1) := by decide +kernel
theorem dX2_owedByAll_3 : decode cX2_owedByAll 3 = .ok (.istore_n 2, 1) := by decide +kernel
theorem dX2_owedByAll_4 : decode cX2_owedByAll 4 = .ok (.iload_n 2, 1) := by decide +kernel
theorem dX2_owedByAll_5 : decode cX2_owedByAll 5 = .ok (.bipush 10, 2) := by decide +kernel
theorem dX2_owedByAll_7 : decode cX2_owedByAll 7 = .ok (.if_icmp .ge 18, 3) := by decide +kernel
theorem dX2_owedByAll_10 : decode cX2_owedByAll 10 = .ok (.iload_n 1, 1) := by decide +kernel
theorem dX2_owedByAll_11 : decode cX2_owedByAll 11 = .ok (.aload_n 0, 1) := by decide +kernel
theorem dX2_owedByAll_12 : decode cX2_owedByAll 12 = .ok (.getfield 26, 3) := by decide +kernel
theorem dX2_owedByAll_15 : decode cX2_owedByAll 15 = .ok (.iload_n 2, 1) := by decide +kernel
theorem dX2_owedByAll_16 : decode cX2_owedByAll 16 = .ok (.iaload, 1) := by decide +kernel
theorem dX2_owedByAll_17 : decode cX2_owedByAll 17 = .ok (.iadd, 1) := by decide +kernel
theorem dX2_owedByAll_18 : decode cX2_owedByAll 18 = .ok (.istore_n 1, 1) := by decide +kernel
theorem dX2_owedByAll_19 : decode cX2_owedByAll 19 = .ok (.iinc 2 1, 3) := by decide +kernel
theorem dX2_owedByAll_22 : decode cX2_owedByAll 22 = .ok (.goto (-18), 3) := by decide +kernel
theorem dX2_owedByAll_25 : decode cX2_owedByAll 25 = .ok (.iload_n 1, 1) := by decide +kernel
theorem dX2_owedByAll_26 : decode cX2_owedByAll 26 = .ok (.ireturn, 1) := by decide +kernel
theorem dX2_setFelon_0 : decode cX2_setFelon 0 = .ok (.iload_n 1, 1) := by decide +kernel
theorem dX2_setFelon_1 : decode cX2_setFelon 1 = .ok (.ifCond .lt 37, 3) := by decide +kernel
theorem dX2_setFelon_4 : decode cX2_setFelon 4 = .ok (.iload_n 1, 1) := by decide +kernel
theorem dX2_setFelon_5 : decode cX2_setFelon 5 = .ok (.bipush 10, 2) := by decide +kernel
theorem dX2_setFelon_7 : decode cX2_setFelon 7 = .ok (.if_icmp .ge 31, 3) := by decide +kernel
theorem dX2_setFelon_10 : decode cX2_setFelon 10 = .ok (.aload_n 0, 1) := by decide +kernel
theorem dX2_setFelon_11 : decode cX2_setFelon 11 = .ok (.getfield 23, 3) := by decide +kernel
theorem dX2_setFelon_14 : decode cX2_setFelon 14 = .ok (.iload_n 1, 1) := by decide +kernel
theorem dX2_setFelon_15 : decode cX2_setFelon 15 = .ok (.iload_n 2, 1) := by decide +kernel
theorem dX2_setFelon_16 : decode cX2_setFelon 16 = .ok (.iastore, 1) := by decide +kernel
theorem dX2_setFelon_17 : decode cX2_setFelon 17 = .ok (.aload_n 0, 1) := by decide +kernel
theorem dX2_setFelon_18 : decode cX2_setFelon 18 = .ok (.getfield 26, 3) := by decide +kernel
theorem dX2_setFelon_21 : decode cX2_setFelon 21 = .ok (.iload_n 1, 1) := by decide +kernel
theorem dX2_setFelon_22 : decode cX2_setFelon 22 = .ok (.iload_n 3, 1) := by decide +kernel
theorem dX2_setFelon_23 : decode cX2_setFelon 23 = .ok (.iastore, 1) := by decide +kernel
theorem dX2_setFelon_24 : decode cX2_setFelon 24 = .ok (.aload_n 0, 1) := by decide +kernel
theorem dX2_setFelon_25 : decode cX2_setFelon 25 = .ok (.getfield 29, 3) := by decide +kernel
theorem dX2_setFelon_28 : decode cX2_setFelon 28 = .ok (.iload_n 1, 1) := by decide +kernel
theorem dX2_setFelon_29 : decode cX2_setFelon 29 = .ok (.iconst 0, 1) := by decide +kernel
theorem dX2_setFelon_30 : decode cX2_setFelon 30 = .ok (.iastore, 1) := by decide +kernel
theorem dX2_setFelon_31 : decode cX2_setFelon 31 = .ok (.aload_n 0, 1) := by decide +kernel
theorem dX2_setFelon_32 : decode cX2_setFelon 32 = .ok (.getfield 32, 3) := by decide +kernel
theorem dX2_setFelon_35 : decode cX2_setFelon 35 = .ok (.iload_n 1, 1) := by decide +kernel
theorem dX2_setFelon_36 : decode cX2_setFelon 36 = .ok (.iconst 0, 1) := by decide +kernel
theorem dX2_setFelon_37 : decode cX2_setFelon 37 = .ok (.bastore, 1) := by decide +kernel
theorem dX2_setFelon_38 : decode cX2_setFelon 38 = .ok (.return_, 1) := by decide +kernel
theorem dX2_setWalk_0 : decode cX2_setWalk 0 = .ok (.iload_n 1, 1) := by decide +kernel
theorem dX2_setWalk_1 : decode cX2_setWalk 1 = .ok (.ifCond .lt 26, 3) := by decide +kernel
theorem dX2_setWalk_4 : decode cX2_setWalk 4 = .ok (.iload_n 1, 1) := by decide +kernel
theorem dX2_setWalk_5 : decode cX2_setWalk 5 = .ok (.iconst 2, 1) := by decide +kernel
theorem dX2_setWalk_6 : decode cX2_setWalk 6 = .ok (.if_icmp .ge 21, 3) := by decide +kernel
theorem dX2_setWalk_9 : decode cX2_setWalk 9 = .ok (.aload_n 2, 1) := by decide +kernel
theorem dX2_setWalk_10 : decode cX2_setWalk 10 = .ok (.ifnull 17, 3) := by decide +kernel
theorem dX2_setWalk_13 : decode cX2_setWalk 13 = .ok (.aload_n 0, 1) := by decide +kernel
theorem dX2_setWalk_14 : decode cX2_setWalk 14 = .ok (.getfield 17, 3) := by decide +kernel
theorem dX2_setWalk_17 : decode cX2_setWalk 17 = .ok (.iload_n 1, 1) := by decide +kernel
theorem dX2_setWalk_18 : decode cX2_setWalk 18 = .ok (.aload_n 2, 1) := by decide +kernel
theorem dX2_setWalk_19 : decode cX2_setWalk 19 = .ok (.aastore, 1) := by decide +kernel
theorem dX2_setWalk_20 : decode cX2_setWalk 20 = .ok (.aload_n 0, 1) := by decide +kernel
theorem dX2_setWalk_21 : decode cX2_setWalk 21 = .ok (.getfield 20, 3) := by decide +kernel
theorem dX2_setWalk_24 : decode cX2_setWalk 24 = .ok (.iload_n 1, 1) := by decide +kernel
theorem dX2_setWalk_25 : decode cX2_setWalk 25 = .ok (.iconst 0, 1) := by decide +kernel
theorem dX2_setWalk_26 : decode cX2_setWalk 26 = .ok (.iastore, 1) := by decide +kernel
theorem dX2_setWalk_27 : decode cX2_setWalk 27 = .ok (.return_, 1) := by decide +kernel
theorem dX2_stepsLeft_0 : decode cX2_stepsLeft 0 = .ok (.iload_n 1, 1) := by decide +kernel
theorem dX2_stepsLeft_1 : decode cX2_stepsLeft 1 = .ok (.ifCond .lt 25, 3) := by decide +kernel
theorem dX2_stepsLeft_4 : decode cX2_stepsLeft 4 = .ok (.iload_n 1, 1) := by decide +kernel
theorem dX2_stepsLeft_5 : decode cX2_stepsLeft 5 = .ok (.iconst 2, 1) := by decide +kernel
theorem dX2_stepsLeft_6 : decode cX2_stepsLeft 6 = .ok (.if_icmp .ge 20, 3) := by decide +kernel
theorem dX2_stepsLeft_9 : decode cX2_stepsLeft 9 = .ok (.aload_n 0, 1) := by decide +kernel
theorem dX2_stepsLeft_10 : decode cX2_stepsLeft 10 = .ok (.getfield 17, 3) := by decide +kernel
theorem dX2_stepsLeft_13 : decode cX2_stepsLeft 13 = .ok (.iload_n 1, 1) := by decide +kernel
theorem dX2_stepsLeft_14 : decode cX2_stepsLeft 14 = .ok (.aaload, 1) := by decide +kernel
theorem dX2_stepsLeft_15 : decode cX2_stepsLeft 15 = .ok (.arraylength, 1) := by decide +kernel
theorem dX2_stepsLeft_16 : decode cX2_stepsLeft 16 = .ok (.aload_n 0, 1) := by decide +kernel
theorem dX2_stepsLeft_17 : decode cX2_stepsLeft 17 = .ok (.getfield 20, 3) := by decide +kernel
theorem dX2_stepsLeft_20 : decode cX2_stepsLeft 20 = .ok (.iload_n 1, 1) := by decide +kernel
theorem dX2_stepsLeft_21 : decode cX2_stepsLeft 21 = .ok (.iaload, 1) := by decide +kernel
theorem dX2_stepsLeft_22 : decode cX2_stepsLeft 22 = .ok (.isub, 1) := by decide +kernel
theorem dX2_stepsLeft_23 : decode cX2_stepsLeft 23 = .ok (.goto 4, 3) := by decide +kernel
theorem dX2_stepsLeft_26 : decode cX2_stepsLeft 26 = .ok (.iconst 0, 1) := by decide +kernel
theorem dX2_stepsLeft_27 : decode cX2_stepsLeft 27 = .ok (.ireturn, 1) := by decide +kernel
theorem dX2_takeStep_0 : decode cX2_takeStep 0 = .ok (.aload_n 0, 1) := by decide +kernel
theorem dX2_takeStep_1 : decode cX2_takeStep 1 = .ok (.iload_n 1, 1) := by decide +kernel
theorem dX2_takeStep_2 : decode cX2_takeStep 2 = .ok (.invokevirtual 56, 3) := by decide +kernel
theorem dX2_takeStep_5 : decode cX2_takeStep 5 = .ok (.ifCond .le 12, 3) := by decide +kernel
theorem dX2_takeStep_8 : decode cX2_takeStep 8 = .ok (.aload_n 0, 1) := by decide +kernel
theorem dX2_takeStep_9 : decode cX2_takeStep 9 = .ok (.getfield 20, 3) := by decide +kernel
theorem dX2_takeStep_12 : decode cX2_takeStep 12 = .ok (.iload_n 1, 1) := by decide +kernel
theorem dX2_takeStep_13 : decode cX2_takeStep 13 = .ok (.iaload, 1) := by decide +kernel
theorem dX2_takeStep_14 : decode cX2_takeStep 14 = .ok (.ifCond .ge 5, 3) := by decide +kernel
theorem dX2_takeStep_17 : decode cX2_takeStep 17 = .ok (.iconst 4, 1) := by decide +kernel
theorem dX2_takeStep_18 : decode cX2_takeStep 18 = .ok (.ireturn, 1) := by decide +kernel
theorem dX2_takeStep_19 : decode cX2_takeStep 19 = .ok (.aload_n 0, 1) := by decide +kernel
theorem dX2_takeStep_20 : decode cX2_takeStep 20 = .ok (.getfield 17, 3) := by decide +kernel
theorem dX2_takeStep_23 : decode cX2_takeStep 23 = .ok (.iload_n 1, 1) := by decide +kernel
theorem dX2_takeStep_24 : decode cX2_takeStep 24 = .ok (.aaload, 1) := by decide +kernel
theorem dX2_takeStep_25 : decode cX2_takeStep 25 = .ok (.aload_n 0, 1) := by decide +kernel
theorem dX2_takeStep_26 : decode cX2_takeStep 26 = .ok (.getfield 20, 3) := by decide +kernel
theorem dX2_takeStep_29 : decode cX2_takeStep 29 = .ok (.iload_n 1, 1) := by decide +kernel
theorem dX2_takeStep_30 : decode cX2_takeStep 30 = .ok (.iaload, 1) := by decide +kernel
theorem dX2_takeStep_31 : decode cX2_takeStep 31 = .ok (.iaload, 1) := by decide +kernel
theorem dX2_takeStep_32 : decode cX2_takeStep 32 = .ok (.istore_n 2, 1) := by decide +kernel
theorem dX2_takeStep_33 : decode cX2_takeStep 33 = .ok (.aload_n 0, 1) := by decide +kernel
theorem dX2_takeStep_34 : decode cX2_takeStep 34 = .ok (.getfield 20, 3) := by decide +kernel
theorem dX2_takeStep_37 : decode cX2_takeStep 37 = .ok (.iload_n 1, 1) := by decide +kernel
theorem dX2_takeStep_38 : decode cX2_takeStep 38 = .ok (.dup2, 1) := by decide +kernel
theorem dX2_takeStep_39 : decode cX2_takeStep 39 = .ok (.iaload, 1) := by decide +kernel
theorem dX2_takeStep_40 : decode cX2_takeStep 40 = .ok (.iconst 1, 1) := by decide +kernel
theorem dX2_takeStep_41 : decode cX2_takeStep 41 = .ok (.iadd, 1) := by decide +kernel
theorem dX2_takeStep_42 : decode cX2_takeStep 42 = .ok (.iastore, 1) := by decide +kernel
theorem dX2_takeStep_43 : decode cX2_takeStep 43 = .ok (.iload_n 2, 1) := by decide +kernel
theorem dX2_takeStep_44 : decode cX2_takeStep 44 = .ok (.ireturn, 1) := by decide +kernel
