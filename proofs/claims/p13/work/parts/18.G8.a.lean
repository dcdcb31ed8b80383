theorem cls_X9 : xCls RX9 TX9 3 9 tyX9 := ⟨xin [311, 313, 315] (by decide +kernel) (by decide +kernel), rfl, tyX9_ok, nmX9⟩
theorem st_X9_2 (h0 : Nat) (σ : xS) (k : Nat) (a : Int) : xobj h0 (xU σ k 2 a) k 9 = (xobj h0 σ k 9).set 2 (.int (xJ a)) := by simp [xobj, xU]
theorem ln_X9_2 (h0 : Nat) (σ : xS) (k : Nat) : 2 < (xobj h0 σ k 9).length := by simp [xobj]
theorem cf_X6_kindOf : xCF yX6_kindOf cX6_kindOf 1 (some .int) 1 := ⟨xq 592 (by decide +kernel) rfl, xq 170 (by decide +kernel) rfl, by decide +kernel⟩
theorem cf_X6_readRow : xCF yX6_readRow cX6_readRow 8 (some .boolean) 2 := ⟨xq 578 (by decide +kernel) rfl, xq 170 (by decide +kernel) rfl, by decide +kernel⟩
theorem cf_X6_timesOf : xCF yX6_timesOf cX6_timesOf 1 (some .int) 1 := ⟨xq 585 (by decide +kernel) rfl, xq 170 (by decide +kernel) rfl, by decide +kernel⟩
theorem cf_X9_readStep : xCF yX9_readStep cX9_readStep 6 (some .boolean) 1 := ⟨xq 726 (by decide +kernel) rfl, xq 173 (by decide +kernel) rfl, by decide +kernel⟩
theorem cf_X9_readSteps : xCF yX9_readSteps cX9_readSteps 4 (some .boolean) 1 := ⟨xq 722 (by decide +kernel) rfl, xq 173 (by decide +kernel) rfl, by decide +kernel⟩
theorem cf_X9_repeat : xCF yX9_repeat cX9_repeat 5 (some .boolean) 2 := ⟨xq 733 (by decide +kernel) rfl, xq 173 (by decide +kernel) rfl, by decide +kernel⟩
theorem cf_X9_stepOf : xCF yX9_stepOf cX9_stepOf 1 (some .int) 1 := ⟨xq 736 (by decide +kernel) rfl, xq 173 (by decide +kernel) rfl, by decide +kernel⟩
theorem wq3 : Cond.selects yX6_readRow.cls yX6_readRow yX6_readRow ∈ xTB := xq 3 (by decide +kernel) rfl
theorem wq29 : Cond.selects yX9_readSteps.cls yX9_readSteps yX9_readSteps ∈ xTB := xq 29 (by decide +kernel) rfl
theorem wq30 : Cond.selects yX9_readStep.cls yX9_readStep yX9_readStep ∈ xTB := xq 30 (by decide +kernel) rfl
theorem wq31 : Cond.selects yX9_repeat.cls yX9_repeat yX9_repeat ∈ xTB := xq 31 (by decide +kernel) rfl
theorem wq227 : Cond.fieldLink "ShadowCourt$Market" (15) "ShadowCourt$Market" "drawn" "[I" ∈ xTB := xq 227 (by decide +kernel) rfl
theorem wq307 : Cond.fieldLink "ShadowCourt$WalkReader" (9) "ShadowCourt$WalkReader" "tape" "LShadowCourt$Tape;" ∈ xTB := xq 307 (by decide +kernel) rfl
theorem wq308 : Cond.fieldLink "ShadowCourt$WalkReader" (15) "ShadowCourt$WalkReader" "steps" "[I" ∈ xTB := xq 308 (by decide +kernel) rfl
theorem wq309 : Cond.fieldLink "ShadowCourt$WalkReader" (19) "ShadowCourt$WalkReader" "size" "I" ∈ xTB := xq 309 (by decide +kernel) rfl
theorem wq575 : Cond.methodLink "ShadowCourt$Market" (48) yX6_readRow ∈ xTB := xq 575 (by decide +kernel) rfl
theorem wq577 : Cond.instanceMethod yX6_readRow ∈ xTB := xq 577 (by decide +kernel) rfl
theorem wq583 : Cond.methodLink "ShadowCourt$Market" (61) yX6_timesOf ∈ xTB := xq 583 (by decide +kernel) rfl
theorem wq584 : Cond.static yX6_timesOf ∈ xTB := xq 584 (by decide +kernel) rfl
theorem wq590 : Cond.methodLink "ShadowCourt$Market" (58) yX6_kindOf ∈ xTB := xq 590 (by decide +kernel) rfl
theorem wq591 : Cond.static yX6_kindOf ∈ xTB := xq 591 (by decide +kernel) rfl
theorem wq593 : Cond.methodLink "ShadowCourt$Market" (81) (⟨"java/lang/Math", "max", "(II)I"⟩ : MethodName) ∈ xTB := xq 593 (by decide +kernel) rfl
theorem wq602 : Cond.methodLink "ShadowCourt$Market" (75) (⟨"java/lang/System", "arraycopy", "(Ljava/lang/Object;ILjava/lang/Object;II)V"⟩ : MethodName) ∈ xTB := xq 602 (by decide +kernel) rfl
theorem wq719 : Cond.methodLink "ShadowCourt$WalkReader" (23) yX9_readSteps ∈ xTB := xq 719 (by decide +kernel) rfl
theorem wq721 : Cond.instanceMethod yX9_readSteps ∈ xTB := xq 721 (by decide +kernel) rfl
theorem wq723 : Cond.methodLink "ShadowCourt$WalkReader" (36) yX9_readStep ∈ xTB := xq 723 (by decide +kernel) rfl
theorem wq725 : Cond.instanceMethod yX9_readStep ∈ xTB := xq 725 (by decide +kernel) rfl
theorem wq730 : Cond.methodLink "ShadowCourt$WalkReader" (55) yX9_repeat ∈ xTB := xq 730 (by decide +kernel) rfl
theorem wq732 : Cond.instanceMethod yX9_repeat ∈ xTB := xq 732 (by decide +kernel) rfl
theorem wq734 : Cond.methodLink "ShadowCourt$WalkReader" (58) yX9_stepOf ∈ xTB := xq 734 (by decide +kernel) rfl
theorem wq735 : Cond.static yX9_stepOf ∈ xTB := xq 735 (by decide +kernel) rfl
theorem wn202 : Cond.fieldLinkNest "ShadowCourt$WalkReader" (45) "ShadowCourt$Tape" "at" "I" "ShadowCourt" ∈ xNL := xn 202 (by decide +kernel) rfl
theorem wn203 : Cond.fieldLinkNest "ShadowCourt$Market" (64) "ShadowCourt$Tape" "at" "I" "ShadowCourt" ∈ xNL := xn 203 (by decide +kernel) rfl
theorem wn579 : Cond.methodLinkNest "ShadowCourt$Market" (52) yX8_sign "ShadowCourt" ∈ xNL := xn 579 (by decide +kernel) rfl
theorem wn586 : Cond.methodLinkNest "ShadowCourt$Market" (68) yX8_fails "ShadowCourt" ∈ xNL := xn 586 (by decide +kernel) rfl
theorem wn596 : Cond.methodLinkNest "ShadowCourt$Market" (72) yX8_passes "ShadowCourt" ∈ xNL := xn 596 (by decide +kernel) rfl
theorem wn727 : Cond.methodLinkNest "ShadowCourt$WalkReader" (39) yX8_sign "ShadowCourt" ∈ xNL := xn 727 (by decide +kernel) rfl
theorem wn728 : Cond.methodLinkNest "ShadowCourt$WalkReader" (48) yX8_fails "ShadowCourt" ∈ xNL := xn 728 (by decide +kernel) rfl
theorem wn729 : Cond.methodLinkNest "ShadowCourt$WalkReader" (52) yX8_passes "ShadowCourt" ∈ xNL := xn 729 (by decide +kernel) rfl
theorem dX6_readFrom_0 : decode cX6_readFrom 0 = .ok (.iconst 0, 1) := by decide +kernel
theorem dX6_readFrom_1 : decode cX6_readFrom 1 = .ok (.istore_n 2, 1) := by decide +kernel
theorem dX6_readFrom_2 : decode cX6_readFrom 2 = .ok (.iload_n 2, 1) := by decide +kernel
theorem dX6_readFrom_3 : decode cX6_readFrom 3 = .ok (.bipush 10, 2) := by decide +kernel
theorem dX6_readFrom_5 : decode cX6_readFrom 5 = .ok (.if_icmp .ge 73, 3) := by decide +kernel
theorem dX6_readFrom_8 : decode cX6_readFrom 8 = .ok (.aload_n 0, 1) := by decide +kernel
theorem dX6_readFrom_9 : decode cX6_readFrom 9 = .ok (.aload_n 1, 1) := by decide +kernel
theorem dX6_readFrom_10 : decode cX6_readFrom 10 = .ok (.iload_n 2, 1) := by decide +kernel
theorem dX6_readFrom_11 : decode cX6_readFrom 11 = .ok (.invokevirtual 48, 3) := by decide +kernel
theorem dX6_readFrom_14 : decode cX6_readFrom 14 = .ok (.ifCond .ne 5, 3) := by decide +kernel
theorem dX6_readFrom_17 : decode cX6_readFrom 17 = .ok (.iconst 0, 1) := by decide +kernel
theorem dX6_readFrom_18 : decode cX6_readFrom 18 = .ok (.ireturn, 1) := by decide +kernel
theorem dX6_readFrom_19 : decode cX6_readFrom 19 = .ok (.aload_n 1, 1) := by decide +kernel
theorem dX6_readFrom_20 : decode cX6_readFrom 20 = .ok (.invokevirtual 52, 3) := by decide +kernel
theorem dX6_readFrom_23 : decode cX6_readFrom 23 = .ok (.invokestatic 58, 3) := by decide +kernel
theorem dX6_readFrom_26 : decode cX6_readFrom 26 = .ok (.iconst (-1), 1) := by decide +kernel
theorem dX6_readFrom_27 : decode cX6_readFrom 27 = .ok (.if_icmp .ne 13, 3) := by decide +kernel
theorem dX6_readFrom_30 : decode cX6_readFrom 30 = .ok (.aload_n 1, 1) := by decide +kernel
theorem dX6_readFrom_31 : decode cX6_readFrom 31 = .ok (.invokevirtual 52, 3) := by decide +kernel
theorem dX6_readFrom_34 : decode cX6_readFrom 34 = .ok (.invokestatic 61, 3) := by decide +kernel
theorem dX6_readFrom_37 : decode cX6_readFrom 37 = .ok (.ifCond .le 14, 3) := by decide +kernel
theorem dX6_readFrom_40 : decode cX6_readFrom 40 = .ok (.aload_n 1, 1) := by decide +kernel
theorem dX6_readFrom_41 : decode cX6_readFrom 41 = .ok (.bipush 6, 2) := by decide +kernel
theorem dX6_readFrom_43 : decode cX6_readFrom 43 = .ok (.aload_n 1, 1) := by decide +kernel
theorem dX6_readFrom_44 : decode cX6_readFrom 44 = .ok (.getfield 64, 3) := by decide +kernel
theorem dX6_readFrom_47 : decode cX6_readFrom 47 = .ok (.invokevirtual 68, 3) := by decide +kernel
theorem dX6_readFrom_50 : decode cX6_readFrom 50 = .ok (.ireturn, 1) := by decide +kernel
theorem dX6_readFrom_51 : decode cX6_readFrom 51 = .ok (.aload_n 1, 1) := by decide +kernel
theorem dX6_readFrom_52 : decode cX6_readFrom 52 = .ok (.iload_n 2, 1) := by decide +kernel
theorem dX6_readFrom_53 : decode cX6_readFrom 53 = .ok (.bipush 9, 2) := by decide +kernel
theorem dX6_readFrom_55 : decode cX6_readFrom 55 = .ok (.if_icmp .ge 8, 3) := by decide +kernel
theorem dX6_readFrom_58 : decode cX6_readFrom 58 = .ok (.bipush 47, 2) := by decide +kernel
theorem dX6_readFrom_60 : decode cX6_readFrom 60 = .ok (.goto 4, 3) := by decide +kernel
theorem dX6_readFrom_63 : decode cX6_readFrom 63 = .ok (.iconst (-1), 1) := by decide +kernel
theorem dX6_readFrom_64 : decode cX6_readFrom 64 = .ok (.invokevirtual 72, 3) := by decide +kernel
theorem dX6_readFrom_67 : decode cX6_readFrom 67 = .ok (.ifCond .ne 5, 3) := by decide +kernel
theorem dX6_readFrom_70 : decode cX6_readFrom 70 = .ok (.iconst 0, 1) := by decide +kernel
theorem dX6_readFrom_71 : decode cX6_readFrom 71 = .ok (.ireturn, 1) := by decide +kernel
theorem dX6_readFrom_72 : decode cX6_readFrom 72 = .ok (.iinc 2 1, 3) := by decide +kernel
theorem dX6_readFrom_75 : decode cX6_readFrom 75 = .ok (.goto (-73), 3) := by decide +kernel
theorem dX6_readFrom_78 : decode cX6_readFrom 78 = .ok (.aload_n 0, 1) := by decide +kernel
theorem dX6_readFrom_79 : decode cX6_readFrom 79 = .ok (.getfield 15, 3) := by decide +kernel
theorem dX6_readFrom_82 : decode cX6_readFrom 82 = .ok (.iconst 0, 1) := by decide +kernel
theorem dX6_readFrom_83 : decode cX6_readFrom 83 = .ok (.aload_n 0, 1) := by decide +kernel
theorem dX6_readFrom_84 : decode cX6_readFrom 84 = .ok (.getfield 9, 3) := by decide +kernel
theorem dX6_readFrom_87 : decode cX6_readFrom 87 = .ok (.iconst 0, 1) := by decide +kernel
theorem dX6_readFrom_88 : decode cX6_readFrom 88 = .ok (.bipush 100, 2) := by decide +kernel
theorem dX6_readFrom_90 : decode cX6_readFrom 90 = .ok (.invokestatic 75, 3) := by decide +kernel
theorem dX6_readFrom_93 : decode cX6_readFrom 93 = .ok (.iconst 0, 1) := by decide +kernel
theorem dX6_readFrom_94 : decode cX6_readFrom 94 = .ok (.istore_n 2, 1) := by decide +kernel
theorem dX6_readFrom_95 : decode cX6_readFrom 95 = .ok (.iload_n 2, 1) := by decide +kernel
theorem dX6_readFrom_96 : decode cX6_readFrom 96 = .ok (.aload_n 0, 1) := by decide +kernel
theorem dX6_readFrom_97 : decode cX6_readFrom 97 = .ok (.getfield 23, 3) := by decide +kernel
theorem dX6_readFrom_100 : decode cX6_readFrom 100 = .ok (.arraylength, 1) := by decide +kernel
theorem dX6_readFrom_101 : decode cX6_readFrom 101 = .ok (.if_icmp .ge 16, 3) := by decide +kernel
theorem dX6_readFrom_104 : decode cX6_readFrom 104 = .ok (.aload_n 0, 1) := by decide +kernel
theorem dX6_readFrom_105 : decode cX6_readFrom 105 = .ok (.getfield 23, 3) := by decide +kernel
theorem dX6_readFrom_108 : decode cX6_readFrom 108 = .ok (.iload_n 2, 1) := by decide +kernel
theorem dX6_readFrom_109 : decode cX6_readFrom 109 = .ok (.iconst 0, 1) := by decide +kernel
theorem dX6_readFrom_110 : decode cX6_readFrom 110 = .ok (.bastore, 1) := by decide +kernel
theorem dX6_readFrom_111 : decode cX6_readFrom 111 = .ok (.iinc 2 1, 3) := by decide +kernel
theorem dX6_readFrom_114 : decode cX6_readFrom 114 = .ok (.goto (-19), 3) := by decide +kernel
theorem dX6_readFrom_117 : decode cX6_readFrom 117 = .ok (.iconst 1, 1) := by decide +kernel
theorem dX6_readFrom_118 : decode cX6_readFrom 118 = .ok (.ireturn, 1) := by decide +kernel
theorem dX6_readRow_0 : decode cX6_readRow 0 = .ok (.iconst 0, 1) := by decide +kernel
theorem dX6_readRow_1 : decode cX6_readRow 1 = .ok (.istore_n 3, 1) := by decide +kernel
theorem dX6_readRow_2 : decode cX6_readRow 2 = .ok (.iconst 0, 1) := by decide +kernel
theorem dX6_readRow_3 : decode cX6_readRow 3 = .ok (.istore 4, 2) := by decide +kernel
theorem dX6_readRow_5 : decode cX6_readRow 5 = .ok (.iload 4, 2) := by decide +kernel
theorem dX6_readRow_7 : decode cX6_readRow 7 = .ok (.bipush 10, 2) := by decide +kernel
theorem dX6_readRow_9 : decode cX6_readRow 9 = .ok (.if_icmp .ge 135, 3) := by decide +kernel
theorem dX6_readRow_12 : decode cX6_readRow 12 = .ok (.iload_n 3, 1) := by decide +kernel
theorem dX6_readRow_13 : decode cX6_readRow 13 = .ok (.bipush 10, 2) := by decide +kernel
theorem dX6_readRow_15 : decode cX6_readRow 15 = .ok (.if_icmp .ge 129, 3) := by decide +kernel
theorem dX6_readRow_18 : decode cX6_readRow 18 = .ok (.aload_n 1, 1) := by decide +kernel
theorem dX6_readRow_19 : decode cX6_readRow 19 = .ok (.invokevirtual 52, 3) := by decide +kernel
theorem dX6_readRow_22 : decode cX6_readRow 22 = .ok (.invokestatic 61, 3) := by decide +kernel
theorem dX6_readRow_25 : decode cX6_readRow 25 = .ok (.istore 5, 2) := by decide +kernel
theorem dX6_readRow_27 : decode cX6_readRow 27 = .ok (.iload_n 3, 1) := by decide +kernel
theorem dX6_readRow_28 : decode cX6_readRow 28 = .ok (.iload 5, 2) := by decide +kernel
theorem dX6_readRow_30 : decode cX6_readRow 30 = .ok (.iadd, 1) := by decide +kernel
theorem dX6_readRow_31 : decode cX6_readRow 31 = .ok (.bipush 10, 2) := by decide +kernel
theorem dX6_readRow_33 : decode cX6_readRow 33 = .ok (.if_icmp .le 14, 3) := by decide +kernel
theorem dX6_readRow_36 : decode cX6_readRow 36 = .ok (.aload_n 1, 1) := by decide +kernel
theorem dX6_readRow_37 : decode cX6_readRow 37 = .ok (.bipush 6, 2) := by decide +kernel
theorem dX6_readRow_39 : decode cX6_readRow 39 = .ok (.aload_n 1, 1) := by decide +kernel
theorem dX6_readRow_40 : decode cX6_readRow 40 = .ok (.getfield 64, 3) := by decide +kernel
theorem dX6_readRow_43 : decode cX6_readRow 43 = .ok (.invokevirtual 68, 3) := by decide +kernel
theorem dX6_readRow_46 : decode cX6_readRow 46 = .ok (.ireturn, 1) := by decide +kernel
theorem dX6_readRow_47 : decode cX6_readRow 47 = .ok (.iload 5, 2) := by decide +kernel
theorem dX6_readRow_49 : decode cX6_readRow 49 = .ok (.ifCond .le 13, 3) := by decide +kernel
theorem dX6_readRow_52 : decode cX6_readRow 52 = .ok (.aload_n 1, 1) := by decide +kernel
theorem dX6_readRow_53 : decode cX6_readRow 53 = .ok (.dup, 1) := by decide +kernel
theorem dX6_readRow_54 : decode cX6_readRow 54 = .ok (.getfield 64, 3) := by decide +kernel
theorem dX6_readRow_57 : decode cX6_readRow 57 = .ok (.iconst 1, 1) := by decide +kernel
theorem dX6_readRow_58 : decode cX6_readRow 58 = .ok (.iadd, 1) := by decide +kernel
theorem dX6_readRow_59 : decode cX6_readRow 59 = .ok (.putfield 64, 3) := by decide +kernel
theorem dX6_readRow_62 : decode cX6_readRow 62 = .ok (.aload_n 1, 1) := by decide +kernel
theorem dX6_readRow_63 : decode cX6_readRow 63 = .ok (.invokevirtual 52, 3) := by decide +kernel
theorem dX6_readRow_66 : decode cX6_readRow 66 = .ok (.invokestatic 58, 3) := by decide +kernel
theorem dX6_readRow_69 : decode cX6_readRow 69 = .ok (.istore 6, 2) := by decide +kernel
theorem dX6_readRow_71 : decode cX6_readRow 71 = .ok (.iload 6, 2) := by decide +kernel
theorem dX6_readRow_73 : decode cX6_readRow 73 = .ok (.iconst (-1), 1) := by decide +kernel
theorem dX6_readRow_74 : decode cX6_readRow 74 = .ok (.if_icmp .ne 13, 3) := by decide +kernel
theorem dX6_readRow_77 : decode cX6_readRow 77 = .ok (.aload_n 1, 1) := by decide +kernel
theorem dX6_readRow_78 : decode cX6_readRow 78 = .ok (.iconst 1, 1) := by decide +kernel
theorem dX6_readRow_79 : decode cX6_readRow 79 = .ok (.aload_n 1, 1) := by decide +kernel
theorem dX6_readRow_80 : decode cX6_readRow 80 = .ok (.getfield 64, 3) := by decide +kernel
theorem dX6_readRow_83 : decode cX6_readRow 83 = .ok (.invokevirtual 68, 3) := by decide +kernel
theorem dX6_readRow_86 : decode cX6_readRow 86 = .ok (.ireturn, 1) := by decide +kernel
theorem dX6_readRow_87 : decode cX6_readRow 87 = .ok (.aload_n 1, 1) := by decide +kernel
theorem dX6_readRow_88 : decode cX6_readRow 88 = .ok (.dup, 1) := by decide +kernel
theorem dX6_readRow_89 : decode cX6_readRow 89 = .ok (.getfield 64, 3) := by decide +kernel
theorem dX6_readRow_92 : decode cX6_readRow 92 = .ok (.iconst 1, 1) := by decide +kernel
theorem dX6_readRow_93 : decode cX6_readRow 93 = .ok (.iadd, 1) := by decide +kernel
theorem dX6_readRow_94 : decode cX6_readRow 94 = .ok (.putfield 64, 3) := by decide +kernel
theorem dX6_readRow_97 : decode cX6_readRow 97 = .ok (.iload_n 3, 1) := by decide +kernel
theorem dX6_readRow_98 : decode cX6_readRow 98 = .ok (.iload 5, 2) := by decide +kernel
theorem dX6_readRow_100 : decode cX6_readRow 100 = .ok (.iconst 1, 1) := by decide +kernel
theorem dX6_readRow_101 : decode cX6_readRow 101 = .ok (.invokestatic 81, 3) := by decide +kernel
theorem dX6_readRow_104 : decode cX6_readRow 104 = .ok (.iadd, 1) := by decide +kernel
theorem dX6_readRow_105 : decode cX6_readRow 105 = .ok (.istore 7, 2) := by decide +kernel
theorem dX6_readRow_107 : decode cX6_readRow 107 = .ok (.iload_n 3, 1) := by decide +kernel
theorem dX6_readRow_108 : decode cX6_readRow 108 = .ok (.iload 7, 2) := by decide +kernel
theorem dX6_readRow_110 : decode cX6_readRow 110 = .ok (.if_icmp .ge 28, 3) := by decide +kernel
theorem dX6_readRow_113 : decode cX6_readRow 113 = .ok (.iload_n 3, 1) := by decide +kernel
theorem dX6_readRow_114 : decode cX6_readRow 114 = .ok (.bipush 10, 2) := by decide +kernel
theorem dX6_readRow_116 : decode cX6_readRow 116 = .ok (.if_icmp .ge 22, 3) := by decide +kernel
theorem dX6_readRow_119 : decode cX6_readRow 119 = .ok (.aload_n 0, 1) := by decide +kernel
theorem dX6_readRow_120 : decode cX6_readRow 120 = .ok (.getfield 15, 3) := by decide +kernel
theorem dX6_readRow_123 : decode cX6_readRow 123 = .ok (.bipush 10, 2) := by decide +kernel
theorem dX6_readRow_125 : decode cX6_readRow 125 = .ok (.iload_n 2, 1) := by decide +kernel
theorem dX6_readRow_126 : decode cX6_readRow 126 = .ok (.imul, 1) := by decide +kernel
theorem dX6_readRow_127 : decode cX6_readRow 127 = .ok (.iload_n 3, 1) := by decide +kernel
theorem dX6_readRow_128 : decode cX6_readRow 128 = .ok (.iadd, 1) := by decide +kernel
theorem dX6_readRow_129 : decode cX6_readRow 129 = .ok (.iload 6, 2) := by decide +kernel
theorem dX6_readRow_131 : decode cX6_readRow 131 = .ok (.iastore, 1) := by decide +kernel
theorem dX6_readRow_132 : decode cX6_readRow 132 = .ok (.iinc 3 1, 3) := by decide +kernel
theorem dX6_readRow_135 : decode cX6_readRow 135 = .ok (.goto (-28), 3) := by decide +kernel
theorem dX6_readRow_138 : decode cX6_readRow 138 = .ok (.iinc 4 1, 3) := by decide +kernel
theorem dX6_readRow_141 : decode cX6_readRow 141 = .ok (.goto (-136), 3) := by decide +kernel
theorem dX6_readRow_144 : decode cX6_readRow 144 = .ok (.iconst 1, 1) := by decide +kernel
theorem dX6_readRow_145 : decode cX6_readRow 145 = .ok (.ireturn, 1) := by decide +kernel
theorem dX9_readStep_0 : decode cX9_readStep 0 = .ok (.aload_n 0, 1) := by decide +kernel
theorem dX9_readStep_1 : decode cX9_readStep 1 = .ok (.getfield 9, 3) := by decide +kernel
theorem dX9_readStep_4 : decode cX9_readStep 4 = .ok (.getfield 45, 3) := by decide +kernel
theorem dX9_readStep_7 : decode cX9_readStep 7 = .ok (.istore_n 2, 1) := by decide +kernel
theorem dX9_readStep_8 : decode cX9_readStep 8 = .ok (.aload_n 0, 1) := by decide +kernel
theorem dX9_readStep_9 : decode cX9_readStep 9 = .ok (.getfield 19, 3) := by decide +kernel
theorem dX9_readStep_12 : decode cX9_readStep 12 = .ok (.istore_n 3, 1) := by decide +kernel
theorem dX9_readStep_13 : decode cX9_readStep 13 = .ok (.iconst 1, 1) := by decide +kernel
theorem dX9_readStep_14 : decode cX9_readStep 14 = .ok (.istore 4, 2) := by decide +kernel
theorem dX9_readStep_16 : decode cX9_readStep 16 = .ok (.aload_n 0, 1) := by decide +kernel
theorem dX9_readStep_17 : decode cX9_readStep 17 = .ok (.getfield 9, 3) := by decide +kernel
theorem dX9_readStep_20 : decode cX9_readStep 20 = .ok (.invokevirtual 39, 3) := by decide +kernel
theorem dX9_readStep_23 : decode cX9_readStep 23 = .ok (.bipush 50, 2) := by decide +kernel
theorem dX9_readStep_25 : decode cX9_readStep 25 = .ok (.if_icmp .lt 40, 3) := by decide +kernel
theorem dX9_readStep_28 : decode cX9_readStep 28 = .ok (.aload_n 0, 1) := by decide +kernel
theorem dX9_readStep_29 : decode cX9_readStep 29 = .ok (.getfield 9, 3) := by decide +kernel
theorem dX9_readStep_32 : decode cX9_readStep 32 = .ok (.invokevirtual 39, 3) := by decide +kernel
theorem dX9_readStep_35 : decode cX9_readStep 35 = .ok (.bipush 57, 2) := by decide +kernel
theorem dX9_readStep_37 : decode cX9_readStep 37 = .ok (.if_icmp .gt 28, 3) := by decide +kernel
theorem dX9_readStep_40 : decode cX9_readStep 40 = .ok (.aload_n 0, 1) := by decide +kernel
theorem dX9_readStep_41 : decode cX9_readStep 41 = .ok (.getfield 9, 3) := by decide +kernel
theorem dX9_readStep_44 : decode cX9_readStep 44 = .ok (.invokevirtual 39, 3) := by decide +kernel
theorem dX9_readStep_47 : decode cX9_readStep 47 = .ok (.bipush 48, 2) := by decide +kernel
theorem dX9_readStep_49 : decode cX9_readStep 49 = .ok (.isub, 1) := by decide +kernel
theorem dX9_readStep_50 : decode cX9_readStep 50 = .ok (.istore 4, 2) := by decide +kernel
theorem dX9_readStep_52 : decode cX9_readStep 52 = .ok (.aload_n 0, 1) := by decide +kernel
theorem dX9_readStep_53 : decode cX9_readStep 53 = .ok (.getfield 9, 3) := by decide +kernel
theorem dX9_readStep_56 : decode cX9_readStep 56 = .ok (.dup, 1) := by decide +kernel
theorem dX9_readStep_57 : decode cX9_readStep 57 = .ok (.getfield 45, 3) := by decide +kernel
theorem dX9_readStep_60 : decode cX9_readStep 60 = .ok (.iconst 1, 1) := by decide +kernel
theorem dX9_readStep_61 : decode cX9_readStep 61 = .ok (.iadd, 1) := by decide +kernel
theorem dX9_readStep_62 : decode cX9_readStep 62 = .ok (.putfield 45, 3) := by decide +kernel
theorem dX9_readStep_65 : decode cX9_readStep 65 = .ok (.aload_n 0, 1) := by decide +kernel
theorem dX9_readStep_66 : decode cX9_readStep 66 = .ok (.getfield 9, 3) := by decide +kernel
theorem dX9_readStep_69 : decode cX9_readStep 69 = .ok (.invokevirtual 39, 3) := by decide +kernel
theorem dX9_readStep_72 : decode cX9_readStep 72 = .ok (.bipush 40, 2) := by decide +kernel
theorem dX9_readStep_74 : decode cX9_readStep 74 = .ok (.if_icmp .ne 92, 3) := by decide +kernel
theorem dX9_readStep_77 : decode cX9_readStep 77 = .ok (.iload_n 1, 1) := by decide +kernel
theorem dX9_readStep_78 : decode cX9_readStep 78 = .ok (.iconst 2, 1) := by decide +kernel
theorem dX9_readStep_79 : decode cX9_readStep 79 = .ok (.if_icmp .lt 19, 3) := by decide +kernel
theorem dX9_readStep_82 : decode cX9_readStep 82 = .ok (.aload_n 0, 1) := by decide +kernel
theorem dX9_readStep_83 : decode cX9_readStep 83 = .ok (.getfield 9, 3) := by decide +kernel
theorem dX9_readStep_86 : decode cX9_readStep 86 = .ok (.iconst 5, 1) := by decide +kernel
theorem dX9_readStep_87 : decode cX9_readStep 87 = .ok (.aload_n 0, 1) := by decide +kernel
theorem dX9_readStep_88 : decode cX9_readStep 88 = .ok (.getfield 9, 3) := by decide +kernel
theorem dX9_readStep_91 : decode cX9_readStep 91 = .ok (.getfield 45, 3) := by decide +kernel
theorem dX9_readStep_94 : decode cX9_readStep 94 = .ok (.invokevirtual 48, 3) := by decide +kernel
theorem dX9_readStep_97 : decode cX9_readStep 97 = .ok (.ireturn, 1) := by decide +kernel
theorem dX9_readStep_98 : decode cX9_readStep 98 = .ok (.aload_n 0, 1) := by decide +kernel
theorem dX9_readStep_99 : decode cX9_readStep 99 = .ok (.getfield 9, 3) := by decide +kernel
theorem dX9_readStep_102 : decode cX9_readStep 102 = .ok (.dup, 1) := by decide +kernel
theorem dX9_readStep_103 : decode cX9_readStep 103 = .ok (.getfield 45, 3) := by decide +kernel
theorem dX9_readStep_106 : decode cX9_readStep 106 = .ok (.iconst 1, 1) := by decide +kernel
theorem dX9_readStep_107 : decode cX9_readStep 107 = .ok (.iadd, 1) := by decide +kernel
theorem dX9_readStep_108 : decode cX9_readStep 108 = .ok (.putfield 45, 3) := by decide +kernel
theorem dX9_readStep_111 : decode cX9_readStep 111 = .ok (.aload_n 0, 1) := by decide +kernel
theorem dX9_readStep_112 : decode cX9_readStep 112 = .ok (.iload_n 1, 1) := by decide +kernel
theorem dX9_readStep_113 : decode cX9_readStep 113 = .ok (.iconst 1, 1) := by decide +kernel
theorem dX9_readStep_114 : decode cX9_readStep 114 = .ok (.iadd, 1) := by decide +kernel
theorem dX9_readStep_115 : decode cX9_readStep 115 = .ok (.invokevirtual 23, 3) := by decide +kernel
theorem dX9_readStep_118 : decode cX9_readStep 118 = .ok (.ifCond .eq 15, 3) := by decide +kernel
theorem dX9_readStep_121 : decode cX9_readStep 121 = .ok (.aload_n 0, 1) := by decide +kernel
theorem dX9_readStep_122 : decode cX9_readStep 122 = .ok (.getfield 9, 3) := by decide +kernel
theorem dX9_readStep_125 : decode cX9_readStep 125 = .ok (.bipush 41, 2) := by decide +kernel
theorem dX9_readStep_127 : decode cX9_readStep 127 = .ok (.invokevirtual 52, 3) := by decide +kernel
theorem dX9_readStep_130 : decode cX9_readStep 130 = .ok (.ifCond .ne 5, 3) := by decide +kernel
theorem dX9_readStep_133 : decode cX9_readStep 133 = .ok (.iconst 0, 1) := by decide +kernel
theorem dX9_readStep_134 : decode cX9_readStep 134 = .ok (.ireturn, 1) := by decide +kernel
theorem dX9_readStep_135 : decode cX9_readStep 135 = .ok (.aload_n 0, 1) := by decide +kernel
theorem dX9_readStep_136 : decode cX9_readStep 136 = .ok (.iload_n 3, 1) := by decide +kernel
theorem dX9_readStep_137 : decode cX9_readStep 137 = .ok (.iload 4, 2) := by decide +kernel
theorem dX9_readStep_139 : decode cX9_readStep 139 = .ok (.iconst 1, 1) := by decide +kernel
theorem dX9_readStep_140 : decode cX9_readStep 140 = .ok (.isub, 1) := by decide +kernel
theorem dX9_readStep_141 : decode cX9_readStep 141 = .ok (.invokevirtual 55, 3) := by decide +kernel
theorem dX9_readStep_144 : decode cX9_readStep 144 = .ok (.ifCond .ne 16, 3) := by decide +kernel
theorem dX9_readStep_147 : decode cX9_readStep 147 = .ok (.aload_n 0, 1) := by decide +kernel
theorem dX9_readStep_148 : decode cX9_readStep 148 = .ok (.getfield 9, 3) := by decide +kernel
theorem dX9_readStep_151 : decode cX9_readStep 151 = .ok (.bipush 6, 2) := by decide +kernel
theorem dX9_readStep_153 : decode cX9_readStep 153 = .ok (.iload_n 2, 1) := by decide +kernel
theorem dX9_readStep_154 : decode cX9_readStep 154 = .ok (.invokevirtual 48, 3) := by decide +kernel
theorem dX9_readStep_157 : decode cX9_readStep 157 = .ok (.ifCond .eq 7, 3) := by decide +kernel
theorem dX9_readStep_160 : decode cX9_readStep 160 = .ok (.iconst 1, 1) := by decide +kernel
theorem dX9_readStep_161 : decode cX9_readStep 161 = .ok (.goto 4, 3) := by decide +kernel
theorem dX9_readStep_164 : decode cX9_readStep 164 = .ok (.iconst 0, 1) := by decide +kernel
theorem dX9_readStep_165 : decode cX9_readStep 165 = .ok (.ireturn, 1) := by decide +kernel
theorem dX9_readStep_166 : decode cX9_readStep 166 = .ok (.aload_n 0, 1) := by decide +kernel
theorem dX9_readStep_167 : decode cX9_readStep 167 = .ok (.getfield 9, 3) := by decide +kernel
theorem dX9_readStep_170 : decode cX9_readStep 170 = .ok (.invokevirtual 39, 3) := by decide +kernel
theorem dX9_readStep_173 : decode cX9_readStep 173 = .ok (.invokestatic 58, 3) := by decide +kernel
theorem dX9_readStep_176 : decode cX9_readStep 176 = .ok (.istore 5, 2) := by decide +kernel
theorem dX9_readStep_178 : decode cX9_readStep 178 = .ok (.iload 5, 2) := by decide +kernel
theorem dX9_readStep_180 : decode cX9_readStep 180 = .ok (.iconst (-1), 1) := by decide +kernel
theorem dX9_readStep_181 : decode cX9_readStep 181 = .ok (.if_icmp .ne 19, 3) := by decide +kernel
theorem dX9_readStep_184 : decode cX9_readStep 184 = .ok (.aload_n 0, 1) := by decide +kernel
theorem dX9_readStep_185 : decode cX9_readStep 185 = .ok (.getfield 9, 3) := by decide +kernel
theorem dX9_readStep_188 : decode cX9_readStep 188 = .ok (.iconst 1, 1) := by decide +kernel
theorem dX9_readStep_189 : decode cX9_readStep 189 = .ok (.aload_n 0, 1) := by decide +kernel
theorem dX9_readStep_190 : decode cX9_readStep 190 = .ok (.getfield 9, 3) := by decide +kernel
theorem dX9_readStep_193 : decode cX9_readStep 193 = .ok (.getfield 45, 3) := by decide +kernel
theorem dX9_readStep_196 : decode cX9_readStep 196 = .ok (.invokevirtual 48, 3) := by decide +kernel
theorem dX9_readStep_199 : decode cX9_readStep 199 = .ok (.ireturn, 1) := by decide +kernel
theorem dX9_readStep_200 : decode cX9_readStep 200 = .ok (.aload_n 0, 1) := by decide +kernel
theorem dX9_readStep_201 : decode cX9_readStep 201 = .ok (.getfield 9, 3) := by decide +kernel
theorem dX9_readStep_204 : decode cX9_readStep 204 = .ok (.dup, 1) := by decide +kernel
theorem dX9_readStep_205 : decode cX9_readStep 205 = .ok (.getfield 45, 3) := by decide +kernel
theorem dX9_readStep_208 : decode cX9_readStep 208 = .ok (.iconst 1, 1) := by decide +kernel
theorem dX9_readStep_209 : decode cX9_readStep 209 = .ok (.iadd, 1) := by decide +kernel
theorem dX9_readStep_210 : decode cX9_readStep 210 = .ok (.putfield 45, 3) := by decide +kernel
theorem dX9_readStep_213 : decode cX9_readStep 213 = .ok (.aload_n 0, 1) := by decide +kernel
theorem dX9_readStep_214 : decode cX9_readStep 214 = .ok (.getfield 19, 3) := by decide +kernel
theorem dX9_readStep_217 : decode cX9_readStep 217 = .ok (.bipush 60, 2) := by decide +kernel
theorem dX9_readStep_219 : decode cX9_readStep 219 = .ok (.if_icmp .lt 14, 3) := by decide +kernel
theorem dX9_readStep_222 : decode cX9_readStep 222 = .ok (.aload_n 0, 1) := by decide +kernel
theorem dX9_readStep_223 : decode cX9_readStep 223 = .ok (.getfield 9, 3) := by decide +kernel
theorem dX9_readStep_226 : decode cX9_readStep 226 = .ok (.bipush 6, 2) := by decide +kernel
theorem dX9_readStep_228 : decode cX9_readStep 228 = .ok (.iload_n 2, 1) := by decide +kernel
theorem dX9_readStep_229 : decode cX9_readStep 229 = .ok (.invokevirtual 48, 3) := by decide +kernel
theorem dX9_readStep_232 : decode cX9_readStep 232 = .ok (.ireturn, 1) := by decide +kernel
theorem dX9_readStep_233 : decode cX9_readStep 233 = .ok (.aload_n 0, 1) := by decide +kernel
theorem dX9_readStep_234 : decode cX9_readStep 234 = .ok (.getfield 15, 3) := by decide +kernel
theorem dX9_readStep_237 : decode cX9_readStep 237 = .ok (.aload_n 0, 1) := by decide +kernel
theorem dX9_readStep_238 : decode cX9_readStep 238 = .ok (.getfield 19, 3) := by decide +kernel
theorem dX9_readStep_241 : decode cX9_readStep 241 = .ok (.iload 5, 2) := by decide +kernel
theorem dX9_readStep_243 : decode cX9_readStep 243 = .ok (.iastore, 1) := by decide +kernel
theorem dX9_readStep_244 : decode cX9_readStep 244 = .ok (.aload_n 0, 1) := by decide +kernel
theorem dX9_readStep_245 : decode cX9_readStep 245 = .ok (.dup, 1) := by decide +kernel
theorem dX9_readStep_246 : decode cX9_readStep 246 = .ok (.getfield 19, 3) := by decide +kernel
theorem dX9_readStep_249 : decode cX9_readStep 249 = .ok (.iconst 1, 1) := by decide +kernel
theorem dX9_readStep_250 : decode cX9_readStep 250 = .ok (.iadd, 1) := by decide +kernel
theorem dX9_readStep_251 : decode cX9_readStep 251 = .ok (.putfield 19, 3) := by decide +kernel
theorem dX9_readStep_254 : decode cX9_readStep 254 = .ok (.aload_n 0, 1) := by decide +kernel
theorem dX9_readStep_255 : decode cX9_readStep 255 = .ok (.iload_n 3, 1) := by decide +kernel
theorem dX9_readStep_256 : decode cX9_readStep 256 = .ok (.iload 4, 2) := by decide +kernel
theorem dX9_readStep_258 : decode cX9_readStep 258 = .ok (.iconst 1, 1) := by decide +kernel
theorem dX9_readStep_259 : decode cX9_readStep 259 = .ok (.isub, 1) := by decide +kernel
theorem dX9_readStep_260 : decode cX9_readStep 260 = .ok (.invokevirtual 55, 3) := by decide +kernel
theorem dX9_readStep_263 : decode cX9_readStep 263 = .ok (.ifCond .ne 16, 3) := by decide +kernel
theorem dX9_readStep_266 : decode cX9_readStep 266 = .ok (.aload_n 0, 1) := by decide +kernel
theorem dX9_readStep_267 : decode cX9_readStep 267 = .ok (.getfield 9, 3) := by decide +kernel
theorem dX9_readStep_270 : decode cX9_readStep 270 = .ok (.bipush 6, 2) := by decide +kernel
theorem dX9_readStep_272 : decode cX9_readStep 272 = .ok (.iload_n 2, 1) := by decide +kernel
theorem dX9_readStep_273 : decode cX9_readStep 273 = .ok (.invokevirtual 48, 3) := by decide +kernel
theorem dX9_readStep_276 : decode cX9_readStep 276 = .ok (.ifCond .eq 7, 3) := by decide +kernel
theorem dX9_readStep_279 : decode cX9_readStep 279 = .ok (.iconst 1, 1) := by decide +kernel
theorem dX9_readStep_280 : decode cX9_readStep 280 = .ok (.goto 4, 3) := by decide +kernel
theorem dX9_readStep_283 : decode cX9_readStep 283 = .ok (.iconst 0, 1) := by decide +kernel
theorem dX9_readStep_284 : decode cX9_readStep 284 = .ok (.ireturn, 1) := by decide +kernel
theorem dX9_readSteps_0 : decode cX9_readSteps 0 = .ok (.iload_n 1, 1) := by decide +kernel
theorem dX9_readSteps_1 : decode cX9_readSteps 1 = .ok (.ifCond .ne 7, 3) := by decide +kernel
theorem dX9_readSteps_4 : decode cX9_readSteps 4 = .ok (.iconst (-1), 1) := by decide +kernel
theorem dX9_readSteps_5 : decode cX9_readSteps 5 = .ok (.goto 5, 3) := by decide +kernel
theorem dX9_readSteps_8 : decode cX9_readSteps 8 = .ok (.bipush 41, 2) := by decide +kernel
theorem dX9_readSteps_10 : decode cX9_readSteps 10 = .ok (.istore_n 2, 1) := by decide +kernel
theorem dX9_readSteps_11 : decode cX9_readSteps 11 = .ok (.iconst 0, 1) := by decide +kernel
theorem dX9_readSteps_12 : decode cX9_readSteps 12 = .ok (.istore_n 3, 1) := by decide +kernel
theorem dX9_readSteps_13 : decode cX9_readSteps 13 = .ok (.iload_n 3, 1) := by decide +kernel
theorem dX9_readSteps_14 : decode cX9_readSteps 14 = .ok (.bipush 80, 2) := by decide +kernel
theorem dX9_readSteps_16 : decode cX9_readSteps 16 = .ok (.if_icmp .ge 32, 3) := by decide +kernel
theorem dX9_readSteps_19 : decode cX9_readSteps 19 = .ok (.aload_n 0, 1) := by decide +kernel
theorem dX9_readSteps_20 : decode cX9_readSteps 20 = .ok (.iload_n 1, 1) := by decide +kernel
theorem dX9_readSteps_21 : decode cX9_readSteps 21 = .ok (.invokevirtual 36, 3) := by decide +kernel
theorem dX9_readSteps_24 : decode cX9_readSteps 24 = .ok (.ifCond .ne 5, 3) := by decide +kernel
theorem dX9_readSteps_27 : decode cX9_readSteps 27 = .ok (.iconst 0, 1) := by decide +kernel
theorem dX9_readSteps_28 : decode cX9_readSteps 28 = .ok (.ireturn, 1) := by decide +kernel
theorem dX9_readSteps_29 : decode cX9_readSteps 29 = .ok (.aload_n 0, 1) := by decide +kernel
theorem dX9_readSteps_30 : decode cX9_readSteps 30 = .ok (.getfield 9, 3) := by decide +kernel
theorem dX9_readSteps_33 : decode cX9_readSteps 33 = .ok (.invokevirtual 39, 3) := by decide +kernel
theorem dX9_readSteps_36 : decode cX9_readSteps 36 = .ok (.iload_n 2, 1) := by decide +kernel
theorem dX9_readSteps_37 : decode cX9_readSteps 37 = .ok (.if_icmp .ne 5, 3) := by decide +kernel
theorem dX9_readSteps_40 : decode cX9_readSteps 40 = .ok (.iconst 1, 1) := by decide +kernel
theorem dX9_readSteps_41 : decode cX9_readSteps 41 = .ok (.ireturn, 1) := by decide +kernel
theorem dX9_readSteps_42 : decode cX9_readSteps 42 = .ok (.iinc 3 1, 3) := by decide +kernel
theorem dX9_readSteps_45 : decode cX9_readSteps 45 = .ok (.goto (-32), 3) := by decide +kernel
theorem dX9_readWhole_0 : decode cX9_readWhole 0 = .ok (.aload_n 0, 1) := by decide +kernel
theorem dX9_readWhole_1 : decode cX9_readWhole 1 = .ok (.iconst 0, 1) := by decide +kernel
theorem dX9_readWhole_2 : decode cX9_readWhole 2 = .ok (.putfield 19, 3) := by decide +kernel
theorem dX9_readWhole_5 : decode cX9_readWhole 5 = .ok (.aload_n 0, 1) := by decide +kernel
theorem dX9_readWhole_6 : decode cX9_readWhole 6 = .ok (.iconst 0, 1) := by decide +kernel
theorem dX9_readWhole_7 : decode cX9_readWhole 7 = .ok (.invokevirtual 23, 3) := by decide +kernel
theorem dX9_readWhole_10 : decode cX9_readWhole 10 = .ok (.ireturn, 1) := by decide +kernel
theorem dX9_repeat_0 : decode cX9_repeat 0 = .ok (.aload_n 0, 1) := by decide +kernel
theorem dX9_repeat_1 : decode cX9_repeat 1 = .ok (.getfield 19, 3) := by decide +kernel
theorem dX9_repeat_4 : decode cX9_repeat 4 = .ok (.iload_n 1, 1) := by decide +kernel
theorem dX9_repeat_5 : decode cX9_repeat 5 = .ok (.isub, 1) := by decide +kernel
theorem dX9_repeat_6 : decode cX9_repeat 6 = .ok (.istore_n 3, 1) := by decide +kernel
theorem dX9_repeat_7 : decode cX9_repeat 7 = .ok (.aload_n 0, 1) := by decide +kernel
theorem dX9_repeat_8 : decode cX9_repeat 8 = .ok (.getfield 19, 3) := by decide +kernel
theorem dX9_repeat_11 : decode cX9_repeat 11 = .ok (.iload_n 2, 1) := by decide +kernel
theorem dX9_repeat_12 : decode cX9_repeat 12 = .ok (.iload_n 3, 1) := by decide +kernel
theorem dX9_repeat_13 : decode cX9_repeat 13 = .ok (.imul, 1) := by decide +kernel
theorem dX9_repeat_14 : decode cX9_repeat 14 = .ok (.iadd, 1) := by decide +kernel
theorem dX9_repeat_15 : decode cX9_repeat 15 = .ok (.bipush 60, 2) := by decide +kernel
theorem dX9_repeat_17 : decode cX9_repeat 17 = .ok (.if_icmp .le 5, 3) := by decide +kernel
theorem dX9_repeat_20 : decode cX9_repeat 20 = .ok (.iconst 0, 1) := by decide +kernel
theorem dX9_repeat_21 : decode cX9_repeat 21 = .ok (.ireturn, 1) := by decide +kernel
theorem dX9_repeat_22 : decode cX9_repeat 22 = .ok (.iconst 0, 1) := by decide +kernel
theorem dX9_repeat_23 : decode cX9_repeat 23 = .ok (.istore 4, 2) := by decide +kernel
theorem dX9_repeat_25 : decode cX9_repeat 25 = .ok (.iload 4, 2) := by decide +kernel
theorem dX9_repeat_27 : decode cX9_repeat 27 = .ok (.iload_n 2, 1) := by decide +kernel
theorem dX9_repeat_28 : decode cX9_repeat 28 = .ok (.iload_n 3, 1) := by decide +kernel
theorem dX9_repeat_29 : decode cX9_repeat 29 = .ok (.imul, 1) := by decide +kernel
theorem dX9_repeat_30 : decode cX9_repeat 30 = .ok (.if_icmp .ge 50, 3) := by decide +kernel
theorem dX9_repeat_33 : decode cX9_repeat 33 = .ok (.iload_n 1, 1) := by decide +kernel
theorem dX9_repeat_34 : decode cX9_repeat 34 = .ok (.ifCond .lt 46, 3) := by decide +kernel
theorem dX9_repeat_37 : decode cX9_repeat 37 = .ok (.aload_n 0, 1) := by decide +kernel
theorem dX9_repeat_38 : decode cX9_repeat 38 = .ok (.getfield 19, 3) := by decide +kernel
theorem dX9_repeat_41 : decode cX9_repeat 41 = .ok (.bipush 60, 2) := by decide +kernel
theorem dX9_repeat_43 : decode cX9_repeat 43 = .ok (.if_icmp .ge 37, 3) := by decide +kernel
theorem dX9_repeat_46 : decode cX9_repeat 46 = .ok (.aload_n 0, 1) := by decide +kernel
theorem dX9_repeat_47 : decode cX9_repeat 47 = .ok (.getfield 15, 3) := by decide +kernel
theorem dX9_repeat_50 : decode cX9_repeat 50 = .ok (.aload_n 0, 1) := by decide +kernel
theorem dX9_repeat_51 : decode cX9_repeat 51 = .ok (.getfield 19, 3) := by decide +kernel
theorem dX9_repeat_54 : decode cX9_repeat 54 = .ok (.aload_n 0, 1) := by decide +kernel
theorem dX9_repeat_55 : decode cX9_repeat 55 = .ok (.getfield 15, 3) := by decide +kernel
theorem dX9_repeat_58 : decode cX9_repeat 58 = .ok (.iload_n 1, 1) := by decide +kernel
theorem dX9_repeat_59 : decode cX9_repeat 59 = .ok (.iload 4, 2) := by decide +kernel
theorem dX9_repeat_61 : decode cX9_repeat 61 = .ok (.iadd, 1) := by decide +kernel
theorem dX9_repeat_62 : decode cX9_repeat 62 = .ok (.iaload, 1) := by decide +kernel
theorem dX9_repeat_63 : decode cX9_repeat 63 = .ok (.iastore, 1) := by decide +kernel
theorem dX9_repeat_64 : decode cX9_repeat 64 = .ok (.aload_n 0, 1) := by decide +kernel
theorem dX9_repeat_65 : decode cX9_repeat 65 = .ok (.dup, 1) := by decide +kernel
theorem dX9_repeat_66 : decode cX9_repeat 66 = .ok (.getfield 19, 3) := by decide +kernel
theorem dX9_repeat_69 : decode cX9_repeat 69 = .ok (.iconst 1, 1) := by decide +kernel
theorem dX9_repeat_70 : decode cX9_repeat 70 = .ok (.iadd, 1) := by decide +kernel
theorem dX9_repeat_71 : decode cX9_repeat 71 = .ok (.putfield 19, 3) := by decide +kernel
theorem dX9_repeat_74 : decode cX9_repeat 74 = .ok (.iinc 4 1, 3) := by decide +kernel
theorem dX9_repeat_77 : decode cX9_repeat 77 = .ok (.goto (-52), 3) := by decide +kernel
theorem dX9_repeat_80 : decode cX9_repeat 80 = .ok (.iconst 1, 1) := by decide +kernel
theorem dX9_repeat_81 : decode cX9_repeat 81 = .ok (.ireturn, 1) := by decide +kernel
theorem dX9_stepOf_0 : decode cX9_stepOf 0 = .ok (.iload_n 0, 1) := by decide +kernel
theorem dX9_stepOf_1 : decode cX9_stepOf 1 = .ok (.lookupswitch 61 #[(46, 59), (101, 53), (110, 51), (115, 55), (119, 57)], 51) := by decide +kernel
theorem dX9_stepOf_52 : decode cX9_stepOf 52 = .ok (.iconst 0, 1) := by decide +kernel
theorem dX9_stepOf_53 : decode cX9_stepOf 53 = .ok (.ireturn, 1) := by decide +kernel
theorem dX9_stepOf_54 : decode cX9_stepOf 54 = .ok (.iconst 1, 1) := by decide +kernel
theorem dX9_stepOf_55 : decode cX9_stepOf 55 = .ok (.ireturn, 1) := by decide +kernel
theorem dX9_stepOf_56 : decode cX9_stepOf 56 = .ok (.iconst 2, 1) := by decide +kernel
theorem dX9_stepOf_57 : decode cX9_stepOf 57 = .ok (.ireturn, 1) := by decide +kernel
theorem dX9_stepOf_58 : decode cX9_stepOf 58 = .ok (.iconst 3, 1) := by decide +kernel
theorem dX9_stepOf_59 : decode cX9_stepOf 59 = .ok (.ireturn, 1) := by decide +kernel
theorem dX9_stepOf_60 : decode cX9_stepOf 60 = .ok (.iconst 4, 1) := by decide +kernel
theorem dX9_stepOf_61 : decode cX9_stepOf 61 = .ok (.ireturn, 1) := by decide +kernel
theorem dX9_stepOf_62 : decode cX9_stepOf 62 = .ok (.iconst (-1), 1) := by decide +kernel
theorem dX9_stepOf_63 : decode cX9_stepOf 63 = .ok (.ireturn, 1) := by decide +kernel


theorem xmuls {a b : Int} (ha : 0 ≤ a ∧ a ≤ 9) : 0 < b ∨ a * b ≤ 0 := by
  rcases (by omega : a = 0 ∨ a = 1 ∨ a = 2 ∨ a = 3 ∨ a = 4 ∨ a = 5 ∨ a = 6 ∨ a = 7 ∨ a = 8 ∨ a = 9) with rfl | rfl | rfl | rfl | rfl | rfl | rfl | rfl | rfl | rfl <;> omega

theorem cls_X10 : xCls RX10 TX10 12 10 tyX10 := ⟨xin [524, 526, 528, 530, 532, 534, 536, 538, 540, 542, 544, 546] (by decide +kernel) (by decide +kernel), rfl, tyX10_ok, nmX10⟩
theorem st_X10_11 (h0 : Nat) (σ : xS) (k : Nat) (a : Int) : xobj h0 (xU σ k 11 a) k 10 = (xobj h0 σ k 10).set 11 (.int (xJ a)) := by simp [xobj, xU]
theorem ln_X10_11 (h0 : Nat) (σ : xS) (k : Nat) : 11 < (xobj h0 σ k 10).length := by simp [xobj]
theorem cf_X0_shadowsAt : xCF yX0_shadowsAt cX0_shadowsAt 3 (some .int) 2 := ⟨xq 940 (by decide +kernel) rfl, xq 174 (by decide +kernel) rfl, by decide +kernel⟩
theorem cf_X0_spotsInLampShadows : xCF yX0_spotsInLampShadows cX0_spotsInLampShadows 3 (some .int) 2 := ⟨xq 1072 (by decide +kernel) rfl, xq 174 (by decide +kernel) rfl, by decide +kernel⟩
theorem cf_X1_most : xCF yX1_most cX1_most 4 (some .int) 1 := ⟨xq 958 (by decide +kernel) rfl, xq 178 (by decide +kernel) rfl, by decide +kernel⟩
theorem cf_X10_areAllPlaces : xCF yX10_areAllPlaces cX10_areAllPlaces 4 (some .boolean) 2 := ⟨xq 1128 (by decide +kernel) rfl, xq 168 (by decide +kernel) rfl, by decide +kernel⟩
theorem cf_X10_bitsOfTold : xCF yX10_bitsOfTold cX10_bitsOfTold 3 (some .int) 1 := ⟨xq 1108 (by decide +kernel) rfl, xq 168 (by decide +kernel) rfl, by decide +kernel⟩
theorem cf_X10_brokenPrint : xCF yX10_brokenPrint cX10_brokenPrint 3 (some .int) 1 := ⟨xq 1093 (by decide +kernel) rfl, xq 168 (by decide +kernel) rfl, by decide +kernel⟩
theorem cf_X10_canBeTried : xCF yX10_canBeTried cX10_canBeTried 2 (some .boolean) 1 := ⟨xq 909 (by decide +kernel) rfl, xq 168 (by decide +kernel) rfl, by decide +kernel⟩
theorem cf_X10_cloudySets : xCF yX10_cloudySets cX10_cloudySets 8 (some .int) 3 := ⟨xq 1116 (by decide +kernel) rfl, xq 168 (by decide +kernel) rfl, by decide +kernel⟩
theorem cf_X10_groupSentences : xCF yX10_groupSentences cX10_groupSentences 6 none 2 := ⟨xq 1136 (by decide +kernel) rfl, xq 168 (by decide +kernel) rfl, by decide +kernel⟩
theorem cf_X10_hasBytesBeyond : xCF yX10_hasBytesBeyond cX10_hasBytesBeyond 5 (some .boolean) 3 := ⟨xq 1081 (by decide +kernel) rfl, xq 168 (by decide +kernel) rfl, by decide +kernel⟩
theorem cf_X10_isFreeForLamp : xCF yX10_isFreeForLamp cX10_isFreeForLamp 2 (some .boolean) 1 := ⟨xq 1066 (by decide +kernel) rfl, xq 168 (by decide +kernel) rfl, by decide +kernel⟩
theorem cf_X10_joinGroups : xCF yX10_joinGroups cX10_joinGroups 5 none 3 := ⟨xq 1140 (by decide +kernel) rfl, xq 168 (by decide +kernel) rfl, by decide +kernel⟩
theorem cf_X10_longestOfGroup : xCF yX10_longestOfGroup cX10_longestOfGroup 5 (some .int) 2 := ⟨xq 1144 (by decide +kernel) rfl, xq 168 (by decide +kernel) rfl, by decide +kernel⟩
theorem cf_X10_printMakers : xCF yX10_printMakers cX10_printMakers 2 (some .int) 1 := ⟨xq 1089 (by decide +kernel) rfl, xq 168 (by decide +kernel) rfl, by decide +kernel⟩
theorem cf_X10_printStarters : xCF yX10_printStarters cX10_printStarters 3 (some .int) 0 := ⟨xq 1101 (by decide +kernel) rfl, xq 168 (by decide +kernel) rfl, by decide +kernel⟩
theorem cf_X10_printsFailAt : xCF yX10_printsFailAt cX10_printsFailAt 3 (some .int) 1 := ⟨xq 1105 (by decide +kernel) rfl, xq 168 (by decide +kernel) rfl, by decide +kernel⟩
theorem cf_X10_sendAwayWhoCannotStand : xCF yX10_sendAwayWhoCannotStand cX10_sendAwayWhoCannotStand 2 none 0 := ⟨xq 612 (by decide +kernel) rfl, xq 168 (by decide +kernel) rfl, by decide +kernel⟩
theorem cf_X10_sentencesTogether : xCF yX10_sentencesTogether cX10_sentencesTogether 9 (some .int) 3 := ⟨xq 1132 (by decide +kernel) rfl, xq 168 (by decide +kernel) rfl, by decide +kernel⟩
theorem cf_X10_servedOutside : xCF yX10_servedOutside cX10_servedOutside 5 (some .int) 2 := ⟨xq 1120 (by decide +kernel) rfl, xq 168 (by decide +kernel) rfl, by decide +kernel⟩
theorem cf_X2_howManyDrowned : xCF yX2_howManyDrowned cX2_howManyDrowned 3 (some .int) 0 := ⟨xq 927 (by decide +kernel) rfl, xq 176 (by decide +kernel) rfl, by decide +kernel⟩
theorem cf_X2_howManyOweNothing : xCF yX2_howManyOweNothing cX2_howManyOweNothing 3 (some .int) 0 := ⟨xq 931 (by decide +kernel) rfl, xq 176 (by decide +kernel) rfl, by decide +kernel⟩
theorem cf_X2_setFelon : xCF yX2_setFelon cX2_setFelon 4 none 3 := ⟨xq 624 (by decide +kernel) rfl, xq 176 (by decide +kernel) rfl, by decide +kernel⟩
theorem cf_X3_bestAhead : xCF yX3_bestAhead cX3_bestAhead 5 (some .int) 1 := ⟨xq 1040 (by decide +kernel) rfl, xq 177 (by decide +kernel) rfl, by decide +kernel⟩
theorem cf_X3_countShadedMinutes : xCF yX3_countShadedMinutes cX3_countShadedMinutes 6 none 1 := ⟨xq 1049 (by decide +kernel) rfl, xq 177 (by decide +kernel) rfl, by decide +kernel⟩
theorem cf_X3_fewestSteps : xCF yX3_fewestSteps cX3_fewestSteps 7 (some .int) 3 := ⟨xq 988 (by decide +kernel) rfl, xq 177 (by decide +kernel) rfl, by decide +kernel⟩
theorem cf_X3_howManyNeverShaded : xCF yX3_howManyNeverShaded cX3_howManyNeverShaded 3 (some .int) 0 := ⟨xq 1053 (by decide +kernel) rfl, xq 177 (by decide +kernel) rfl, by decide +kernel⟩
theorem cf_X3_leastOwedWay : xCF yX3_leastOwedWay cX3_leastOwedWay 9 (some .int) 2 := ⟨xq 1021 (by decide +kernel) rfl, xq 177 (by decide +kernel) rfl, by decide +kernel⟩
theorem cf_X3_mostShaded : xCF yX3_mostShaded cX3_mostShaded 3 (some .int) 0 := ⟨xq 1058 (by decide +kernel) rfl, xq 177 (by decide +kernel) rfl, by decide +kernel⟩
theorem cf_X4_copyFrom : xCF yX4_copyFrom cX4_copyFrom 2 none 1 := ⟨xq 697 (by decide +kernel) rfl, xq 171 (by decide +kernel) rfl, by decide +kernel⟩
theorem cf_X5_readWhole : xCF yX5_readWhole cX5_readWhole 3 (some .boolean) 0 := ⟨xq 636 (by decide +kernel) rfl, xq 172 (by decide +kernel) rfl, by decide +kernel⟩
theorem cf_X6_howMany : xCF yX6_howMany cX6_howMany 4 (some .int) 1 := ⟨xq 628 (by decide +kernel) rfl, xq 170 (by decide +kernel) rfl, by decide +kernel⟩
theorem cf_X6_isDryWalk : xCF yX6_isDryWalk cX6_isDryWalk 3 (some .boolean) 2 := ⟨xq 1097 (by decide +kernel) rfl, xq 170 (by decide +kernel) rfl, by decide +kernel⟩
theorem cf_X6_openSpot : xCF yX6_openSpot cX6_openSpot 4 (some .int) 2 := ⟨xq 706 (by decide +kernel) rfl, xq 170 (by decide +kernel) rfl, by decide +kernel⟩
theorem cf_X6_readFrom : xCF yX6_readFrom cX6_readFrom 3 (some .boolean) 1 := ⟨xq 574 (by decide +kernel) rfl, xq 170 (by decide +kernel) rfl, by decide +kernel⟩
theorem cf_X7_howManyInMore : xCF yX7_howManyInMore cX7_howManyInMore 3 (some .int) 0 := ⟨xq 979 (by decide +kernel) rfl, xq 175 (by decide +kernel) rfl, by decide +kernel⟩
theorem cf_X8_drop : xCF yX8_drop cX8_drop 1 none 0 := ⟨xq 608 (by decide +kernel) rfl, xq 169 (by decide +kernel) rfl, by decide +kernel⟩
theorem cf_X8_numberAt : xCF yX8_numberAt cX8_numberAt 4 (some .int) 1 := ⟨xq 1170 (by decide +kernel) rfl, xq 169 (by decide +kernel) rfl, by decide +kernel⟩
theorem cf_X8_open : xCF yX8_open cX8_open 2 none 1 := ⟨xq 567 (by decide +kernel) rfl, xq 169 (by decide +kernel) rfl, by decide +kernel⟩
theorem cf_X8_putNumber : xCF yX8_putNumber cX8_putNumber 3 none 1 := ⟨xq 556 (by decide +kernel) rfl, xq 169 (by decide +kernel) rfl, by decide +kernel⟩
theorem cf_X9_copyOfSteps : xCF yX9_copyOfSteps cX9_copyOfSteps 3 (some (.array .int)) 0 := ⟨xq 740 (by decide +kernel) rfl, xq 173 (by decide +kernel) rfl, by decide +kernel⟩
theorem cf_X9_readWhole : xCF yX9_readWhole cX9_readWhole 1 (some .boolean) 0 := ⟨xq 718 (by decide +kernel) rfl, xq 173 (by decide +kernel) rfl, by decide +kernel⟩
theorem wq0 : Cond.selects yX8_putNumber.cls yX8_putNumber yX8_putNumber ∈ xTB := xq 0 (by decide +kernel) rfl
theorem wq1 : Cond.selects yX8_open.cls yX8_open yX8_open ∈ xTB := xq 1 (by decide +kernel) rfl
theorem wq2 : Cond.selects yX6_readFrom.cls yX6_readFrom yX6_readFrom ∈ xTB := xq 2 (by decide +kernel) rfl
theorem wq7 : Cond.selects yX8_drop.cls yX8_drop yX8_drop ∈ xTB := xq 7 (by decide +kernel) rfl
theorem wq8 : Cond.selects yX10_sendAwayWhoCannotStand.cls yX10_sendAwayWhoCannotStand yX10_sendAwayWhoCannotStand ∈ xTB := xq 8 (by decide +kernel) rfl
theorem wq11 : Cond.selects yX2_setFelon.cls yX2_setFelon yX2_setFelon ∈ xTB := xq 11 (by decide +kernel) rfl
theorem wq12 : Cond.selects yX6_howMany.cls yX6_howMany yX6_howMany ∈ xTB := xq 12 (by decide +kernel) rfl
theorem wq13 : Cond.selects yX5_readWhole.cls yX5_readWhole yX5_readWhole ∈ xTB := xq 13 (by decide +kernel) rfl
theorem wq26 : Cond.selects yX4_copyFrom.cls yX4_copyFrom yX4_copyFrom ∈ xTB := xq 26 (by decide +kernel) rfl
theorem wq27 : Cond.selects yX6_openSpot.cls yX6_openSpot yX6_openSpot ∈ xTB := xq 27 (by decide +kernel) rfl
theorem wq28 : Cond.selects yX9_readWhole.cls yX9_readWhole yX9_readWhole ∈ xTB := xq 28 (by decide +kernel) rfl
theorem wq32 : Cond.selects yX9_copyOfSteps.cls yX9_copyOfSteps yX9_copyOfSteps ∈ xTB := xq 32 (by decide +kernel) rfl
theorem wq62 : Cond.selects yX10_canBeTried.cls yX10_canBeTried yX10_canBeTried ∈ xTB := xq 62 (by decide +kernel) rfl
theorem wq66 : Cond.selects yX2_howManyDrowned.cls yX2_howManyDrowned yX2_howManyDrowned ∈ xTB := xq 66 (by decide +kernel) rfl
theorem wq67 : Cond.selects yX2_howManyOweNothing.cls yX2_howManyOweNothing yX2_howManyOweNothing ∈ xTB := xq 67 (by decide +kernel) rfl
theorem wq68 : Cond.selects yX0_shadowsAt.cls yX0_shadowsAt yX0_shadowsAt ∈ xTB := xq 68 (by decide +kernel) rfl
theorem wq70 : Cond.selects yX1_most.cls yX1_most yX1_most ∈ xTB := xq 70 (by decide +kernel) rfl
theorem wq74 : Cond.selects yX7_howManyInMore.cls yX7_howManyInMore yX7_howManyInMore ∈ xTB := xq 74 (by decide +kernel) rfl
theorem wq75 : Cond.selects yX3_fewestSteps.cls yX3_fewestSteps yX3_fewestSteps ∈ xTB := xq 75 (by decide +kernel) rfl
theorem wq80 : Cond.selects yX3_leastOwedWay.cls yX3_leastOwedWay yX3_leastOwedWay ∈ xTB := xq 80 (by decide +kernel) rfl
theorem wq83 : Cond.selects yX3_bestAhead.cls yX3_bestAhead yX3_bestAhead ∈ xTB := xq 83 (by decide +kernel) rfl
theorem wq84 : Cond.selects yX3_countShadedMinutes.cls yX3_countShadedMinutes yX3_countShadedMinutes ∈ xTB := xq 84 (by decide +kernel) rfl
theorem wq85 : Cond.selects yX3_howManyNeverShaded.cls yX3_howManyNeverShaded yX3_howManyNeverShaded ∈ xTB := xq 85 (by decide +kernel) rfl
theorem wq86 : Cond.selects yX3_mostShaded.cls yX3_mostShaded yX3_mostShaded ∈ xTB := xq 86 (by decide +kernel) rfl
theorem wq87 : Cond.selects yX10_isFreeForLamp.cls yX10_isFreeForLamp yX10_isFreeForLamp ∈ xTB := xq 87 (by decide +kernel) rfl
theorem wq88 : Cond.selects yX0_spotsInLampShadows.cls yX0_spotsInLampShadows yX0_spotsInLampShadows ∈ xTB := xq 88 (by decide +kernel) rfl
theorem wq89 : Cond.selects yX10_hasBytesBeyond.cls yX10_hasBytesBeyond yX10_hasBytesBeyond ∈ xTB := xq 89 (by decide +kernel) rfl
theorem wq91 : Cond.selects yX10_printMakers.cls yX10_printMakers yX10_printMakers ∈ xTB := xq 91 (by decide +kernel) rfl
theorem wq92 : Cond.selects yX10_brokenPrint.cls yX10_brokenPrint yX10_brokenPrint ∈ xTB := xq 92 (by decide +kernel) rfl
theorem wq93 : Cond.selects yX6_isDryWalk.cls yX6_isDryWalk yX6_isDryWalk ∈ xTB := xq 93 (by decide +kernel) rfl
theorem wq94 : Cond.selects yX10_printStarters.cls yX10_printStarters yX10_printStarters ∈ xTB := xq 94 (by decide +kernel) rfl
theorem wq95 : Cond.selects yX10_printsFailAt.cls yX10_printsFailAt yX10_printsFailAt ∈ xTB := xq 95 (by decide +kernel) rfl
theorem wq96 : Cond.selects yX10_cloudySets.cls yX10_cloudySets yX10_cloudySets ∈ xTB := xq 96 (by decide +kernel) rfl
theorem wq97 : Cond.selects yX10_servedOutside.cls yX10_servedOutside yX10_servedOutside ∈ xTB := xq 97 (by decide +kernel) rfl
theorem wq98 : Cond.selects yX10_areAllPlaces.cls yX10_areAllPlaces yX10_areAllPlaces ∈ xTB := xq 98 (by decide +kernel) rfl
theorem wq99 : Cond.selects yX10_sentencesTogether.cls yX10_sentencesTogether yX10_sentencesTogether ∈ xTB := xq 99 (by decide +kernel) rfl
theorem wq100 : Cond.selects yX10_groupSentences.cls yX10_groupSentences yX10_groupSentences ∈ xTB := xq 100 (by decide +kernel) rfl
theorem wq101 : Cond.selects yX10_joinGroups.cls yX10_joinGroups yX10_joinGroups ∈ xTB := xq 101 (by decide +kernel) rfl
theorem wq102 : Cond.selects yX10_longestOfGroup.cls yX10_longestOfGroup yX10_longestOfGroup ∈ xTB := xq 102 (by decide +kernel) rfl
theorem wq103 : Cond.selects yX8_numberAt.cls yX8_numberAt yX8_numberAt ∈ xTB := xq 103 (by decide +kernel) rfl
theorem wq217 : Cond.arrayClass FieldType.int ∈ xTB := xq 217 (by decide +kernel) rfl
theorem wq512 : Cond.fieldLink "ShadowCourt" (10) "ShadowCourt" "tape" "LShadowCourt$Tape;" ∈ xTB := xq 512 (by decide +kernel) rfl
theorem wq513 : Cond.fieldLink "ShadowCourt" (19) "ShadowCourt" "market" "LShadowCourt$Market;" ∈ xTB := xq 513 (by decide +kernel) rfl
theorem wq514 : Cond.fieldLink "ShadowCourt" (26) "ShadowCourt" "law" "LShadowCourt$Law;" ∈ xTB := xq 514 (by decide +kernel) rfl
theorem wq515 : Cond.fieldLink "ShadowCourt" (35) "ShadowCourt" "lawReader" "LShadowCourt$LawReader;" ∈ xTB := xq 515 (by decide +kernel) rfl
theorem wq516 : Cond.fieldLink "ShadowCourt" (42) "ShadowCourt" "walkReader" "LShadowCourt$WalkReader;" ∈ xTB := xq 516 (by decide +kernel) rfl
theorem wq517 : Cond.fieldLink "ShadowCourt" (51) "ShadowCourt" "clock" "LShadowCourt$Clock;" ∈ xTB := xq 517 (by decide +kernel) rfl
theorem wq518 : Cond.fieldLink "ShadowCourt" (70) "ShadowCourt" "foresight" "LShadowCourt$Foresight;" ∈ xTB := xq 518 (by decide +kernel) rfl
theorem wq519 : Cond.fieldLink "ShadowCourt" (79) "ShadowCourt" "crowd" "LShadowCourt$Crowd;" ∈ xTB := xq 519 (by decide +kernel) rfl
theorem wq520 : Cond.fieldLink "ShadowCourt" (58) "ShadowCourt" "now" "LShadowCourt$Day;" ∈ xTB := xq 520 (by decide +kernel) rfl
theorem wq521 : Cond.fieldLink "ShadowCourt" (62) "ShadowCourt" "kept" "LShadowCourt$Day;" ∈ xTB := xq 521 (by decide +kernel) rfl
theorem wq522 : Cond.fieldLink "ShadowCourt" (83) "ShadowCourt" "groupOf" "[I" ∈ xTB := xq 522 (by decide +kernel) rfl
theorem wq523 : Cond.fieldLink "ShadowCourt" (87) "ShadowCourt" "isKept" "Z" ∈ xTB := xq 523 (by decide +kernel) rfl
theorem wq555 : Cond.instanceMethod yX8_putNumber ∈ xTB := xq 555 (by decide +kernel) rfl
theorem wq561 : Cond.methodLink "ShadowCourt" (99) yX10_isIn ∈ xTB := xq 561 (by decide +kernel) rfl
theorem wq566 : Cond.instanceMethod yX8_open ∈ xTB := xq 566 (by decide +kernel) rfl
theorem wq573 : Cond.instanceMethod yX6_readFrom ∈ xTB := xq 573 (by decide +kernel) rfl
theorem wq607 : Cond.instanceMethod yX8_drop ∈ xTB := xq 607 (by decide +kernel) rfl
theorem wq609 : Cond.methodLink "ShadowCourt" (116) yX10_sendAwayWhoCannotStand ∈ xTB := xq 609 (by decide +kernel) rfl
theorem wq611 : Cond.instanceMethod yX10_sendAwayWhoCannotStand ∈ xTB := xq 611 (by decide +kernel) rfl
theorem wq623 : Cond.instanceMethod yX2_setFelon ∈ xTB := xq 623 (by decide +kernel) rfl
theorem wq627 : Cond.instanceMethod yX6_howMany ∈ xTB := xq 627 (by decide +kernel) rfl
theorem wq635 : Cond.instanceMethod yX5_readWhole ∈ xTB := xq 635 (by decide +kernel) rfl
theorem wq696 : Cond.instanceMethod yX4_copyFrom ∈ xTB := xq 696 (by decide +kernel) rfl
theorem wq705 : Cond.instanceMethod yX6_openSpot ∈ xTB := xq 705 (by decide +kernel) rfl
theorem wq717 : Cond.instanceMethod yX9_readWhole ∈ xTB := xq 717 (by decide +kernel) rfl
theorem wq739 : Cond.instanceMethod yX9_copyOfSteps ∈ xTB := xq 739 (by decide +kernel) rfl
theorem wq741 : Cond.methodLink "ShadowCourt$WalkReader" (27) (⟨"java/lang/Math", "min", "(II)I"⟩ : MethodName) ∈ xTB := xq 741 (by decide +kernel) rfl
theorem wq742 : Cond.methodLink "ShadowCourt$WalkReader" (33) (⟨"java/lang/Math", "max", "(II)I"⟩ : MethodName) ∈ xTB := xq 742 (by decide +kernel) rfl
theorem wq906 : Cond.methodLink "ShadowCourt" (167) yX10_canBeTried ∈ xTB := xq 906 (by decide +kernel) rfl
theorem wq908 : Cond.instanceMethod yX10_canBeTried ∈ xTB := xq 908 (by decide +kernel) rfl
theorem wq926 : Cond.instanceMethod yX2_howManyDrowned ∈ xTB := xq 926 (by decide +kernel) rfl
theorem wq930 : Cond.instanceMethod yX2_howManyOweNothing ∈ xTB := xq 930 (by decide +kernel) rfl
theorem wq939 : Cond.instanceMethod yX0_shadowsAt ∈ xTB := xq 939 (by decide +kernel) rfl
theorem wq957 : Cond.instanceMethod yX1_most ∈ xTB := xq 957 (by decide +kernel) rfl
theorem wq978 : Cond.instanceMethod yX7_howManyInMore ∈ xTB := xq 978 (by decide +kernel) rfl
theorem wq987 : Cond.instanceMethod yX3_fewestSteps ∈ xTB := xq 987 (by decide +kernel) rfl
theorem wq1020 : Cond.instanceMethod yX3_leastOwedWay ∈ xTB := xq 1020 (by decide +kernel) rfl
theorem wq1039 : Cond.instanceMethod yX3_bestAhead ∈ xTB := xq 1039 (by decide +kernel) rfl
theorem wq1048 : Cond.instanceMethod yX3_countShadedMinutes ∈ xTB := xq 1048 (by decide +kernel) rfl
theorem wq1052 : Cond.instanceMethod yX3_howManyNeverShaded ∈ xTB := xq 1052 (by decide +kernel) rfl
theorem wq1057 : Cond.instanceMethod yX3_mostShaded ∈ xTB := xq 1057 (by decide +kernel) rfl
theorem wq1063 : Cond.methodLink "ShadowCourt" (266) yX10_isFreeForLamp ∈ xTB := xq 1063 (by decide +kernel) rfl
theorem wq1065 : Cond.instanceMethod yX10_isFreeForLamp ∈ xTB := xq 1065 (by decide +kernel) rfl
theorem wq1068 : Cond.methodLink "ShadowCourt" (330) yX10_holds ∈ xTB := xq 1068 (by decide +kernel) rfl
theorem wq1071 : Cond.instanceMethod yX0_spotsInLampShadows ∈ xTB := xq 1071 (by decide +kernel) rfl
theorem wq1073 : Cond.methodLink "ShadowCourt" (272) (⟨"java/lang/Math", "max", "(II)I"⟩ : MethodName) ∈ xTB := xq 1073 (by decide +kernel) rfl
theorem wq1078 : Cond.methodLink "ShadowCourt" (277) yX10_hasBytesBeyond ∈ xTB := xq 1078 (by decide +kernel) rfl
theorem wq1080 : Cond.instanceMethod yX10_hasBytesBeyond ∈ xTB := xq 1080 (by decide +kernel) rfl
theorem wq1086 : Cond.methodLink "ShadowCourt" (280) yX10_printMakers ∈ xTB := xq 1086 (by decide +kernel) rfl
theorem wq1088 : Cond.instanceMethod yX10_printMakers ∈ xTB := xq 1088 (by decide +kernel) rfl
theorem wq1090 : Cond.methodLink "ShadowCourt" (337) yX10_brokenPrint ∈ xTB := xq 1090 (by decide +kernel) rfl
theorem wq1092 : Cond.instanceMethod yX10_brokenPrint ∈ xTB := xq 1092 (by decide +kernel) rfl
theorem wq1096 : Cond.instanceMethod yX6_isDryWalk ∈ xTB := xq 1096 (by decide +kernel) rfl
theorem wq1098 : Cond.methodLink "ShadowCourt" (340) yX10_printStarters ∈ xTB := xq 1098 (by decide +kernel) rfl
theorem wq1100 : Cond.instanceMethod yX10_printStarters ∈ xTB := xq 1100 (by decide +kernel) rfl
theorem wq1102 : Cond.methodLink "ShadowCourt" (283) yX10_printsFailAt ∈ xTB := xq 1102 (by decide +kernel) rfl
theorem wq1104 : Cond.instanceMethod yX10_printsFailAt ∈ xTB := xq 1104 (by decide +kernel) rfl
theorem wq1106 : Cond.methodLink "ShadowCourt" (311) yX10_bitsOfTold ∈ xTB := xq 1106 (by decide +kernel) rfl
theorem wq1107 : Cond.static yX10_bitsOfTold ∈ xTB := xq 1107 (by decide +kernel) rfl
theorem wq1113 : Cond.methodLink "ShadowCourt" (286) yX10_cloudySets ∈ xTB := xq 1113 (by decide +kernel) rfl
theorem wq1115 : Cond.instanceMethod yX10_cloudySets ∈ xTB := xq 1115 (by decide +kernel) rfl
theorem wq1117 : Cond.methodLink "ShadowCourt" (343) yX10_servedOutside ∈ xTB := xq 1117 (by decide +kernel) rfl
theorem wq1119 : Cond.instanceMethod yX10_servedOutside ∈ xTB := xq 1119 (by decide +kernel) rfl
theorem wq1125 : Cond.methodLink "ShadowCourt" (292) yX10_areAllPlaces ∈ xTB := xq 1125 (by decide +kernel) rfl
theorem wq1127 : Cond.instanceMethod yX10_areAllPlaces ∈ xTB := xq 1127 (by decide +kernel) rfl
theorem wq1129 : Cond.methodLink "ShadowCourt" (296) yX10_sentencesTogether ∈ xTB := xq 1129 (by decide +kernel) rfl
theorem wq1131 : Cond.instanceMethod yX10_sentencesTogether ∈ xTB := xq 1131 (by decide +kernel) rfl
theorem wq1133 : Cond.methodLink "ShadowCourt" (346) yX10_groupSentences ∈ xTB := xq 1133 (by decide +kernel) rfl
theorem wq1135 : Cond.instanceMethod yX10_groupSentences ∈ xTB := xq 1135 (by decide +kernel) rfl
theorem wq1137 : Cond.methodLink "ShadowCourt" (353) yX10_joinGroups ∈ xTB := xq 1137 (by decide +kernel) rfl
theorem wq1139 : Cond.instanceMethod yX10_joinGroups ∈ xTB := xq 1139 (by decide +kernel) rfl
theorem wq1141 : Cond.methodLink "ShadowCourt" (350) yX10_longestOfGroup ∈ xTB := xq 1141 (by decide +kernel) rfl
theorem wq1143 : Cond.instanceMethod yX10_longestOfGroup ∈ xTB := xq 1143 (by decide +kernel) rfl
theorem wq1153 : Cond.constant "ShadowCourt" (299) (65535) ∈ xTB := xq 1153 (by decide +kernel) rfl
theorem wq1169 : Cond.instanceMethod yX8_numberAt ∈ xTB := xq 1169 (by decide +kernel) rfl
theorem wn198 : Cond.fieldLinkNest "ShadowCourt" (91) "ShadowCourt$Tape" "length" "I" "ShadowCourt" ∈ xNL := xn 198 (by decide +kernel) rfl
theorem wn205 : Cond.fieldLinkNest "ShadowCourt" (113) "ShadowCourt$Tape" "fault" "I" "ShadowCourt" ∈ xNL := xn 205 (by decide +kernel) rfl
theorem wn263 : Cond.fieldLinkNest "ShadowCourt" (134) "ShadowCourt$Law" "clauses" "I" "ShadowCourt" ∈ xNL := xn 263 (by decide +kernel) rfl
theorem wn295 : Cond.fieldLinkNest "ShadowCourt" (127) "ShadowCourt$LawReader" "written" "LShadowCourt$Law;" "ShadowCourt" ∈ xNL := xn 295 (by decide +kernel) rfl
theorem wn310 : Cond.fieldLinkNest "ShadowCourt" (153) "ShadowCourt$WalkReader" "size" "I" "ShadowCourt" ∈ xNL := xn 310 (by decide +kernel) rfl
theorem wn341 : Cond.fieldLinkNest "ShadowCourt" (229) "ShadowCourt$Shadows" "size" "I" "ShadowCourt" ∈ xNL := xn 341 (by decide +kernel) rfl
theorem wn356 : Cond.fieldLinkNest "ShadowCourt" (160) "ShadowCourt$Clock" "lampSpot" "[I" "ShadowCourt" ∈ xNL := xn 356 (by decide +kernel) rfl
theorem wn360 : Cond.fieldLinkNest "ShadowCourt" (225) "ShadowCourt$Clock" "shadows" "LShadowCourt$Shadows;" "ShadowCourt" ∈ xNL := xn 360 (by decide +kernel) rfl
theorem wn385 : Cond.fieldLinkNest "ShadowCourt" (141) "ShadowCourt$Day" "judgeSpot" "[I" "ShadowCourt" ∈ xNL := xn 385 (by decide +kernel) rfl
theorem wn391 : Cond.fieldLinkNest "ShadowCourt" (191) "ShadowCourt$Day" "felonSpot" "[I" "ShadowCourt" ∈ xNL := xn 391 (by decide +kernel) rfl
theorem wn394 : Cond.fieldLinkNest "ShadowCourt" (194) "ShadowCourt$Day" "owed" "[I" "ShadowCourt" ∈ xNL := xn 394 (by decide +kernel) rfl
theorem wn397 : Cond.fieldLinkNest "ShadowCourt" (200) "ShadowCourt$Day" "away" "[I" "ShadowCourt" ∈ xNL := xn 397 (by decide +kernel) rfl
theorem wn399 : Cond.fieldLinkNest "ShadowCourt" (203) "ShadowCourt$Day" "drowned" "[Z" "ShadowCourt" ∈ xNL := xn 399 (by decide +kernel) rfl
theorem wn403 : Cond.fieldLinkNest "ShadowCourt" (305) "ShadowCourt$Day" "minute" "I" "ShadowCourt" ∈ xNL := xn 403 (by decide +kernel) rfl
theorem wn405 : Cond.fieldLinkNest "ShadowCourt" (300) "ShadowCourt$Day" "drawState" "I" "ShadowCourt" ∈ xNL := xn 405 (by decide +kernel) rfl
theorem wn407 : Cond.fieldLinkNest "ShadowCourt" (175) "ShadowCourt$Day" "timesAway" "I" "ShadowCourt" ∈ xNL := xn 407 (by decide +kernel) rfl
theorem wn411 : Cond.fieldLinkNest "ShadowCourt" (182) "ShadowCourt$Day" "cloudyMinutes" "I" "ShadowCourt" ∈ xNL := xn 411 (by decide +kernel) rfl
theorem wn413 : Cond.fieldLinkNest "ShadowCourt" (185) "ShadowCourt$Day" "felonSteps" "I" "ShadowCourt" ∈ xNL := xn 413 (by decide +kernel) rfl
theorem wn456 : Cond.fieldLinkNest "ShadowCourt" (245) "ShadowCourt$Foresight" "bestWay" "[I" "ShadowCourt" ∈ xNL := xn 456 (by decide +kernel) rfl
theorem wn458 : Cond.fieldLinkNest "ShadowCourt" (251) "ShadowCourt$Foresight" "bestFelon" "I" "ShadowCourt" ∈ xNL := xn 458 (by decide +kernel) rfl
theorem wn460 : Cond.fieldLinkNest "ShadowCourt" (263) "ShadowCourt$Foresight" "shadedMinutes" "[I" "ShadowCourt" ∈ xNL := xn 460 (by decide +kernel) rfl
theorem wn553 : Cond.methodLinkNest "ShadowCourt" (95) yX8_putNumber "ShadowCourt" ∈ xNL := xn 553 (by decide +kernel) rfl
theorem wn564 : Cond.methodLinkNest "ShadowCourt" (103) yX8_open "ShadowCourt" ∈ xNL := xn 564 (by decide +kernel) rfl
theorem wn571 : Cond.methodLinkNest "ShadowCourt" (106) yX6_readFrom "ShadowCourt" ∈ xNL := xn 571 (by decide +kernel) rfl
theorem wn605 : Cond.methodLinkNest "ShadowCourt" (110) yX8_drop "ShadowCourt" ∈ xNL := xn 605 (by decide +kernel) rfl
theorem wn613 : Cond.methodLinkNest "ShadowCourt" (327) yX6_isOpen "ShadowCourt" ∈ xNL := xn 613 (by decide +kernel) rfl
theorem wn621 : Cond.methodLinkNest "ShadowCourt" (156) yX2_setFelon "ShadowCourt" ∈ xNL := xn 621 (by decide +kernel) rfl
theorem wn625 : Cond.methodLinkNest "ShadowCourt" (119) yX6_howMany "ShadowCourt" ∈ xNL := xn 625 (by decide +kernel) rfl
theorem wn633 : Cond.methodLinkNest "ShadowCourt" (123) yX5_readWhole "ShadowCourt" ∈ xNL := xn 633 (by decide +kernel) rfl
theorem wn694 : Cond.methodLinkNest "ShadowCourt" (130) yX4_copyFrom "ShadowCourt" ∈ xNL := xn 694 (by decide +kernel) rfl
theorem wn703 : Cond.methodLinkNest "ShadowCourt" (137) yX6_openSpot "ShadowCourt" ∈ xNL := xn 703 (by decide +kernel) rfl
theorem wn715 : Cond.methodLinkNest "ShadowCourt" (144) yX9_readWhole "ShadowCourt" ∈ xNL := xn 715 (by decide +kernel) rfl
theorem wn737 : Cond.methodLinkNest "ShadowCourt" (145) yX9_copyOfSteps "ShadowCourt" ∈ xNL := xn 737 (by decide +kernel) rfl
theorem wn743 : Cond.methodLinkNest "ShadowCourt" (149) yX2_setWalk "ShadowCourt" ∈ xNL := xn 743 (by decide +kernel) rfl
theorem wn759 : Cond.methodLinkNest "ShadowCourt" (163) yX0_goOn "ShadowCourt" ∈ xNL := xn 759 (by decide +kernel) rfl
theorem wn910 : Cond.methodLinkNest "ShadowCourt" (197) yX2_hasFelon "ShadowCourt" ∈ xNL := xn 910 (by decide +kernel) rfl
theorem wn911 : Cond.methodLinkNest "ShadowCourt" (239) yX2_hasJudge "ShadowCourt" ∈ xNL := xn 911 (by decide +kernel) rfl
theorem wn912 : Cond.methodLinkNest "ShadowCourt" (171) yX3_copyOfNow "ShadowCourt" ∈ xNL := xn 912 (by decide +kernel) rfl
theorem wn924 : Cond.methodLinkNest "ShadowCourt" (178) yX2_howManyDrowned "ShadowCourt" ∈ xNL := xn 924 (by decide +kernel) rfl
theorem wn928 : Cond.methodLinkNest "ShadowCourt" (188) yX2_howManyOweNothing "ShadowCourt" ∈ xNL := xn 928 (by decide +kernel) rfl
theorem wn936 : Cond.methodLinkNest "ShadowCourt" (207) yX0_reachOf "ShadowCourt" ∈ xNL := xn 936 (by decide +kernel) rfl
theorem wn937 : Cond.methodLinkNest "ShadowCourt" (211) yX0_shadowsAt "ShadowCourt" ∈ xNL := xn 937 (by decide +kernel) rfl
theorem wn949 : Cond.methodLinkNest "ShadowCourt" (214) yX6_spotAt "ShadowCourt" ∈ xNL := xn 949 (by decide +kernel) rfl
theorem wn954 : Cond.methodLinkNest "ShadowCourt" (217) yX0_castCloudless "ShadowCourt" ∈ xNL := xn 954 (by decide +kernel) rfl
theorem wn955 : Cond.methodLinkNest "ShadowCourt" (221) yX1_most "ShadowCourt" ∈ xNL := xn 955 (by decide +kernel) rfl
theorem wn976 : Cond.methodLinkNest "ShadowCourt" (232) yX7_howManyInMore "ShadowCourt" ∈ xNL := xn 976 (by decide +kernel) rfl
theorem wn985 : Cond.methodLinkNest "ShadowCourt" (235) yX3_fewestSteps "ShadowCourt" ∈ xNL := xn 985 (by decide +kernel) rfl
theorem wn1018 : Cond.methodLinkNest "ShadowCourt" (242) yX3_leastOwedWay "ShadowCourt" ∈ xNL := xn 1018 (by decide +kernel) rfl
theorem wn1037 : Cond.methodLinkNest "ShadowCourt" (248) yX3_bestAhead "ShadowCourt" ∈ xNL := xn 1037 (by decide +kernel) rfl
theorem wn1046 : Cond.methodLinkNest "ShadowCourt" (254) yX3_countShadedMinutes "ShadowCourt" ∈ xNL := xn 1046 (by decide +kernel) rfl
theorem wn1050 : Cond.methodLinkNest "ShadowCourt" (257) yX3_howManyNeverShaded "ShadowCourt" ∈ xNL := xn 1050 (by decide +kernel) rfl
theorem wn1055 : Cond.methodLinkNest "ShadowCourt" (260) yX3_mostShaded "ShadowCourt" ∈ xNL := xn 1055 (by decide +kernel) rfl
theorem wn1067 : Cond.methodLinkNest "ShadowCourt" (324) yX6_kindAt "ShadowCourt" ∈ xNL := xn 1067 (by decide +kernel) rfl
theorem wn1069 : Cond.methodLinkNest "ShadowCourt" (269) yX0_spotsInLampShadows "ShadowCourt" ∈ xNL := xn 1069 (by decide +kernel) rfl
theorem wn1082 : Cond.methodLinkNest "ShadowCourt" (289) yX8_byteAt "ShadowCourt" ∈ xNL := xn 1082 (by decide +kernel) rfl
theorem wn1094 : Cond.methodLinkNest "ShadowCourt" (334) yX6_isDryWalk "ShadowCourt" ∈ xNL := xn 1094 (by decide +kernel) rfl
theorem wn1158 : Cond.methodLinkNest "ShadowCourt" (303) yX2_copyFrom "ShadowCourt" ∈ xNL := xn 1158 (by decide +kernel) rfl
theorem wn1167 : Cond.methodLinkNest "ShadowCourt" (308) yX8_numberAt "ShadowCourt" ∈ xNL := xn 1167 (by decide +kernel) rfl
theorem wn1176 : Cond.methodLinkNest "ShadowCourt" (315) yX2_owedByAll "ShadowCourt" ∈ xNL := xn 1176 (by decide +kernel) rfl
theorem wn1177 : Cond.methodLinkNest "ShadowCourt" (318) yX4_isNight "ShadowCourt" ∈ xNL := xn 1177 (by decide +kernel) rfl
theorem wn1178 : Cond.methodLinkNest "ShadowCourt" (321) yX2_stepsLeft "ShadowCourt" ∈ xNL := xn 1178 (by decide +kernel) rfl
theorem dX10_areAllPlaces_0 : decode cX10_areAllPlaces 0 = .ok (.iconst 0, 1) := by decide +kernel
theorem dX10_areAllPlaces_1 : decode cX10_areAllPlaces 1 = .ok (.istore_n 3, 1) := by decide +kernel
theorem dX10_areAllPlaces_2 : decode cX10_areAllPlaces 2 = .ok (.iload_n 3, 1) := by decide +kernel
theorem dX10_areAllPlaces_3 : decode cX10_areAllPlaces 3 = .ok (.iconst 2, 1) := by decide +kernel
theorem dX10_areAllPlaces_4 : decode cX10_areAllPlaces 4 = .ok (.iload_n 2, 1) := by decide +kernel
theorem dX10_areAllPlaces_5 : decode cX10_areAllPlaces 5 = .ok (.imul, 1) := by decide +kernel
theorem dX10_areAllPlaces_6 : decode cX10_areAllPlaces 6 = .ok (.if_icmp .ge 29, 3) := by decide +kernel
theorem dX10_areAllPlaces_9 : decode cX10_areAllPlaces 9 = .ok (.aload_n 0, 1) := by decide +kernel
theorem dX10_areAllPlaces_10 : decode cX10_areAllPlaces 10 = .ok (.getfield 10, 3) := by decide +kernel
theorem dX10_areAllPlaces_13 : decode cX10_areAllPlaces 13 = .ok (.iconst 2, 1) := by decide +kernel
theorem dX10_areAllPlaces_14 : decode cX10_areAllPlaces 14 = .ok (.iload_n 1, 1) := by decide +kernel
theorem dX10_areAllPlaces_15 : decode cX10_areAllPlaces 15 = .ok (.imul, 1) := by decide +kernel
theorem dX10_areAllPlaces_16 : decode cX10_areAllPlaces 16 = .ok (.iconst 1, 1) := by decide +kernel
theorem dX10_areAllPlaces_17 : decode cX10_areAllPlaces 17 = .ok (.iadd, 1) := by decide +kernel
theorem dX10_areAllPlaces_18 : decode cX10_areAllPlaces 18 = .ok (.iload_n 3, 1) := by decide +kernel
theorem dX10_areAllPlaces_19 : decode cX10_areAllPlaces 19 = .ok (.iadd, 1) := by decide +kernel
theorem dX10_areAllPlaces_20 : decode cX10_areAllPlaces 20 = .ok (.invokevirtual 289, 3) := by decide +kernel
theorem dX10_areAllPlaces_23 : decode cX10_areAllPlaces 23 = .ok (.iload_n 1, 1) := by decide +kernel
theorem dX10_areAllPlaces_24 : decode cX10_areAllPlaces 24 = .ok (.if_icmp .lt 5, 3) := by decide +kernel
theorem dX10_areAllPlaces_27 : decode cX10_areAllPlaces 27 = .ok (.iconst 0, 1) := by decide +kernel
theorem dX10_areAllPlaces_28 : decode cX10_areAllPlaces 28 = .ok (.ireturn, 1) := by decide +kernel
theorem dX10_areAllPlaces_29 : decode cX10_areAllPlaces 29 = .ok (.iinc 3 1, 3) := by decide +kernel
theorem dX10_areAllPlaces_32 : decode cX10_areAllPlaces 32 = .ok (.goto (-30), 3) := by decide +kernel
theorem dX10_areAllPlaces_35 : decode cX10_areAllPlaces 35 = .ok (.iconst 1, 1) := by decide +kernel
theorem dX10_areAllPlaces_36 : decode cX10_areAllPlaces 36 = .ok (.ireturn, 1) := by decide +kernel
theorem dX10_atOnce_0 : decode cX10_atOnce 0 = .ok (.iload_n 1, 1) := by decide +kernel
theorem dX10_atOnce_1 : decode cX10_atOnce 1 = .ok (.iconst 0, 1) := by decide +kernel
theorem dX10_atOnce_2 : decode cX10_atOnce 2 = .ok (.iconst 2, 1) := by decide +kernel
theorem dX10_atOnce_3 : decode cX10_atOnce 3 = .ok (.invokestatic 99, 3) := by decide +kernel
theorem dX10_atOnce_6 : decode cX10_atOnce 6 = .ok (.ifCond .ne 5, 3) := by decide +kernel
theorem dX10_atOnce_9 : decode cX10_atOnce 9 = .ok (.iconst (-1), 1) := by decide +kernel
theorem dX10_atOnce_10 : decode cX10_atOnce 10 = .ok (.ireturn, 1) := by decide +kernel
theorem dX10_atOnce_11 : decode cX10_atOnce 11 = .ok (.aload_n 0, 1) := by decide +kernel
theorem dX10_atOnce_12 : decode cX10_atOnce 12 = .ok (.getfield 51, 3) := by decide +kernel
theorem dX10_atOnce_15 : decode cX10_atOnce 15 = .ok (.aload_n 0, 1) := by decide +kernel
theorem dX10_atOnce_16 : decode cX10_atOnce 16 = .ok (.getfield 58, 3) := by decide +kernel
theorem dX10_atOnce_19 : decode cX10_atOnce 19 = .ok (.invokevirtual 217, 3) := by decide +kernel
theorem dX10_atOnce_22 : decode cX10_atOnce 22 = .ok (.iload_n 1, 1) := by decide +kernel
theorem dX10_atOnce_23 : decode cX10_atOnce 23 = .ok (.ifCond .ne 15, 3) := by decide +kernel
theorem dX10_atOnce_26 : decode cX10_atOnce 26 = .ok (.aload_n 0, 1) := by decide +kernel
theorem dX10_atOnce_27 : decode cX10_atOnce 27 = .ok (.getfield 79, 3) := by decide +kernel
theorem dX10_atOnce_30 : decode cX10_atOnce 30 = .ok (.aload_n 0, 1) := by decide +kernel
theorem dX10_atOnce_31 : decode cX10_atOnce 31 = .ok (.getfield 58, 3) := by decide +kernel
theorem dX10_atOnce_34 : decode cX10_atOnce 34 = .ok (.invokevirtual 221, 3) := by decide +kernel
theorem dX10_atOnce_37 : decode cX10_atOnce 37 = .ok (.ireturn, 1) := by decide +kernel
theorem dX10_atOnce_38 : decode cX10_atOnce 38 = .ok (.iload_n 1, 1) := by decide +kernel
theorem dX10_atOnce_39 : decode cX10_atOnce 39 = .ok (.iconst 1, 1) := by decide +kernel
theorem dX10_atOnce_40 : decode cX10_atOnce 40 = .ok (.if_icmp .ne 16, 3) := by decide +kernel
theorem dX10_atOnce_43 : decode cX10_atOnce 43 = .ok (.aload_n 0, 1) := by decide +kernel
theorem dX10_atOnce_44 : decode cX10_atOnce 44 = .ok (.getfield 51, 3) := by decide +kernel
theorem dX10_atOnce_47 : decode cX10_atOnce 47 = .ok (.getfield 225, 3) := by decide +kernel
theorem dX10_atOnce_50 : decode cX10_atOnce 50 = .ok (.getfield 229, 3) := by decide +kernel
theorem dX10_atOnce_53 : decode cX10_atOnce 53 = .ok (.goto 13, 3) := by decide +kernel
theorem dX10_atOnce_56 : decode cX10_atOnce 56 = .ok (.aload_n 0, 1) := by decide +kernel
theorem dX10_atOnce_57 : decode cX10_atOnce 57 = .ok (.getfield 51, 3) := by decide +kernel
theorem dX10_atOnce_60 : decode cX10_atOnce 60 = .ok (.getfield 225, 3) := by decide +kernel
theorem dX10_atOnce_63 : decode cX10_atOnce 63 = .ok (.invokevirtual 232, 3) := by decide +kernel
theorem dX10_atOnce_66 : decode cX10_atOnce 66 = .ok (.ireturn, 1) := by decide +kernel
theorem dX10_brokenPrint_0 : decode cX10_brokenPrint 0 = .ok (.iconst 1, 1) := by decide +kernel
theorem dX10_brokenPrint_1 : decode cX10_brokenPrint 1 = .ok (.istore_n 2, 1) := by decide +kernel
theorem dX10_brokenPrint_2 : decode cX10_brokenPrint 2 = .ok (.iload_n 2, 1) := by decide +kernel
theorem dX10_brokenPrint_3 : decode cX10_brokenPrint 3 = .ok (.iload_n 1, 1) := by decide +kernel
theorem dX10_brokenPrint_4 : decode cX10_brokenPrint 4 = .ok (.if_icmp .ge 39, 3) := by decide +kernel
theorem dX10_brokenPrint_7 : decode cX10_brokenPrint 7 = .ok (.aload_n 0, 1) := by decide +kernel
theorem dX10_brokenPrint_8 : decode cX10_brokenPrint 8 = .ok (.getfield 19, 3) := by decide +kernel
theorem dX10_brokenPrint_11 : decode cX10_brokenPrint 11 = .ok (.aload_n 0, 1) := by decide +kernel
theorem dX10_brokenPrint_12 : decode cX10_brokenPrint 12 = .ok (.getfield 10, 3) := by decide +kernel
theorem dX10_brokenPrint_15 : decode cX10_brokenPrint 15 = .ok (.iload_n 2, 1) := by decide +kernel
theorem dX10_brokenPrint_16 : decode cX10_brokenPrint 16 = .ok (.iconst 1, 1) := by decide +kernel
theorem dX10_brokenPrint_17 : decode cX10_brokenPrint 17 = .ok (.isub, 1) := by decide +kernel
theorem dX10_brokenPrint_18 : decode cX10_brokenPrint 18 = .ok (.invokevirtual 289, 3) := by decide +kernel
theorem dX10_brokenPrint_21 : decode cX10_brokenPrint 21 = .ok (.aload_n 0, 1) := by decide +kernel
theorem dX10_brokenPrint_22 : decode cX10_brokenPrint 22 = .ok (.getfield 10, 3) := by decide +kernel
theorem dX10_brokenPrint_25 : decode cX10_brokenPrint 25 = .ok (.iload_n 2, 1) := by decide +kernel
theorem dX10_brokenPrint_26 : decode cX10_brokenPrint 26 = .ok (.invokevirtual 289, 3) := by decide +kernel
theorem dX10_brokenPrint_29 : decode cX10_brokenPrint 29 = .ok (.invokevirtual 334, 3) := by decide +kernel
theorem dX10_brokenPrint_32 : decode cX10_brokenPrint 32 = .ok (.ifCond .ne 5, 3) := by decide +kernel
theorem dX10_brokenPrint_35 : decode cX10_brokenPrint 35 = .ok (.iload_n 2, 1) := by decide +kernel
theorem dX10_brokenPrint_36 : decode cX10_brokenPrint 36 = .ok (.ireturn, 1) := by decide +kernel
theorem dX10_brokenPrint_37 : decode cX10_brokenPrint 37 = .ok (.iinc 2 1, 3) := by decide +kernel
theorem dX10_brokenPrint_40 : decode cX10_brokenPrint 40 = .ok (.goto (-38), 3) := by decide +kernel
theorem dX10_brokenPrint_43 : decode cX10_brokenPrint 43 = .ok (.iload_n 1, 1) := by decide +kernel
theorem dX10_brokenPrint_44 : decode cX10_brokenPrint 44 = .ok (.ireturn, 1) := by decide +kernel
theorem dX10_canBeTried_0 : decode cX10_canBeTried 0 = .ok (.iload_n 1, 1) := by decide +kernel
theorem dX10_canBeTried_1 : decode cX10_canBeTried 1 = .ok (.bipush 10, 2) := by decide +kernel
theorem dX10_canBeTried_3 : decode cX10_canBeTried 3 = .ok (.bipush 29, 2) := by decide +kernel
theorem dX10_canBeTried_5 : decode cX10_canBeTried 5 = .ok (.invokestatic 99, 3) := by decide +kernel
theorem dX10_canBeTried_8 : decode cX10_canBeTried 8 = .ok (.ifCond .eq 15, 3) := by decide +kernel
theorem dX10_canBeTried_11 : decode cX10_canBeTried 11 = .ok (.aload_n 0, 1) := by decide +kernel
theorem dX10_canBeTried_12 : decode cX10_canBeTried 12 = .ok (.getfield 58, 3) := by decide +kernel
theorem dX10_canBeTried_15 : decode cX10_canBeTried 15 = .ok (.iload_n 1, 1) := by decide +kernel
theorem dX10_canBeTried_16 : decode cX10_canBeTried 16 = .ok (.bipush 10, 2) := by decide +kernel
theorem dX10_canBeTried_18 : decode cX10_canBeTried 18 = .ok (.irem, 1) := by decide +kernel
theorem dX10_canBeTried_19 : decode cX10_canBeTried 19 = .ok (.invokevirtual 197, 3) := by decide +kernel
theorem dX10_canBeTried_22 : decode cX10_canBeTried 22 = .ok (.ireturn, 1) := by decide +kernel
theorem dX10_canBeTried_23 : decode cX10_canBeTried 23 = .ok (.iload_n 1, 1) := by decide +kernel
theorem dX10_canBeTried_24 : decode cX10_canBeTried 24 = .ok (.iconst 0, 1) := by decide +kernel
theorem dX10_canBeTried_25 : decode cX10_canBeTried 25 = .ok (.iconst 5, 1) := by decide +kernel
theorem dX10_canBeTried_26 : decode cX10_canBeTried 26 = .ok (.invokestatic 99, 3) := by decide +kernel
theorem dX10_canBeTried_29 : decode cX10_canBeTried 29 = .ok (.ifCond .ne 28, 3) := by decide +kernel
theorem dX10_canBeTried_32 : decode cX10_canBeTried 32 = .ok (.iload_n 1, 1) := by decide +kernel
theorem dX10_canBeTried_33 : decode cX10_canBeTried 33 = .ok (.bipush 30, 2) := by decide +kernel
theorem dX10_canBeTried_35 : decode cX10_canBeTried 35 = .ok (.bipush 31, 2) := by decide +kernel
theorem dX10_canBeTried_37 : decode cX10_canBeTried 37 = .ok (.invokestatic 99, 3) := by decide +kernel
theorem dX10_canBeTried_40 : decode cX10_canBeTried 40 = .ok (.ifCond .eq 21, 3) := by decide +kernel
theorem dX10_canBeTried_43 : decode cX10_canBeTried 43 = .ok (.aload_n 0, 1) := by decide +kernel
theorem dX10_canBeTried_44 : decode cX10_canBeTried 44 = .ok (.getfield 58, 3) := by decide +kernel
theorem dX10_canBeTried_47 : decode cX10_canBeTried 47 = .ok (.iload_n 1, 1) := by decide +kernel
theorem dX10_canBeTried_48 : decode cX10_canBeTried 48 = .ok (.bipush 30, 2) := by decide +kernel
theorem dX10_canBeTried_50 : decode cX10_canBeTried 50 = .ok (.isub, 1) := by decide +kernel
theorem dX10_canBeTried_51 : decode cX10_canBeTried 51 = .ok (.invokevirtual 239, 3) := by decide +kernel
theorem dX10_canBeTried_54 : decode cX10_canBeTried 54 = .ok (.ifCond .eq 7, 3) := by decide +kernel
theorem dX10_canBeTried_57 : decode cX10_canBeTried 57 = .ok (.iconst 1, 1) := by decide +kernel
theorem dX10_canBeTried_58 : decode cX10_canBeTried 58 = .ok (.goto 4, 3) := by decide +kernel
theorem dX10_canBeTried_61 : decode cX10_canBeTried 61 = .ok (.iconst 0, 1) := by decide +kernel
theorem dX10_canBeTried_62 : decode cX10_canBeTried 62 = .ok (.ireturn, 1) := by decide +kernel
theorem dX10_check_0 : decode cX10_check 0 = .ok (.iload_n 1, 1) := by decide +kernel
theorem dX10_check_1 : decode cX10_check 1 = .ok (.iconst 0, 1) := by decide +kernel
theorem dX10_check_2 : decode cX10_check 2 = .ok (.bipush 10, 2) := by decide +kernel
theorem dX10_check_4 : decode cX10_check 4 = .ok (.invokestatic 99, 3) := by decide +kernel
theorem dX10_check_7 : decode cX10_check 7 = .ok (.ifCond .eq 16, 3) := by decide +kernel
theorem dX10_check_10 : decode cX10_check 10 = .ok (.iconst 4, 1) := by decide +kernel
theorem dX10_check_11 : decode cX10_check 11 = .ok (.iload_n 1, 1) := by decide +kernel
theorem dX10_check_12 : decode cX10_check 12 = .ok (.imul, 1) := by decide +kernel
theorem dX10_check_13 : decode cX10_check 13 = .ok (.aload_n 0, 1) := by decide +kernel
theorem dX10_check_14 : decode cX10_check 14 = .ok (.getfield 10, 3) := by decide +kernel
theorem dX10_check_17 : decode cX10_check 17 = .ok (.getfield 91, 3) := by decide +kernel
theorem dX10_check_20 : decode cX10_check 20 = .ok (.if_icmp .le 6, 3) := by decide +kernel
theorem dX10_check_23 : decode cX10_check 23 = .ok (.bipush (-2), 2) := by decide +kernel
theorem dX10_check_25 : decode cX10_check 25 = .ok (.ireturn, 1) := by decide +kernel
theorem dX10_check_26 : decode cX10_check 26 = .ok (.iconst (-1), 1) := by decide +kernel
theorem dX10_check_27 : decode cX10_check 27 = .ok (.istore_n 2, 1) := by decide +kernel
theorem dX10_check_28 : decode cX10_check 28 = .ok (.iconst 0, 1) := by decide +kernel
theorem dX10_check_29 : decode cX10_check 29 = .ok (.istore_n 3, 1) := by decide +kernel
theorem dX10_check_30 : decode cX10_check 30 = .ok (.iload_n 3, 1) := by decide +kernel
theorem dX10_check_31 : decode cX10_check 31 = .ok (.iload_n 1, 1) := by decide +kernel
theorem dX10_check_32 : decode cX10_check 32 = .ok (.if_icmp .ge 38, 3) := by decide +kernel
theorem dX10_check_35 : decode cX10_check 35 = .ok (.iload_n 2, 1) := by decide +kernel
theorem dX10_check_36 : decode cX10_check 36 = .ok (.iconst (-1), 1) := by decide +kernel
theorem dX10_check_37 : decode cX10_check 37 = .ok (.if_icmp .ne 33, 3) := by decide +kernel
theorem dX10_check_40 : decode cX10_check 40 = .ok (.aload_n 0, 1) := by decide +kernel
theorem dX10_check_41 : decode cX10_check 41 = .ok (.getfield 10, 3) := by decide +kernel
theorem dX10_check_44 : decode cX10_check 44 = .ok (.iconst 4, 1) := by decide +kernel
theorem dX10_check_45 : decode cX10_check 45 = .ok (.iload_n 3, 1) := by decide +kernel
theorem dX10_check_46 : decode cX10_check 46 = .ok (.imul, 1) := by decide +kernel
theorem dX10_check_47 : decode cX10_check 47 = .ok (.invokevirtual 308, 3) := by decide +kernel
theorem dX10_check_50 : decode cX10_check 50 = .ok (.aload_n 0, 1) := by decide +kernel
theorem dX10_check_51 : decode cX10_check 51 = .ok (.getfield 58, 3) := by decide +kernel
theorem dX10_check_54 : decode cX10_check 54 = .ok (.getfield 194, 3) := by decide +kernel
theorem dX10_check_57 : decode cX10_check 57 = .ok (.iload_n 3, 1) := by decide +kernel
theorem dX10_check_58 : decode cX10_check 58 = .ok (.iaload, 1) := by decide +kernel
theorem dX10_check_59 : decode cX10_check 59 = .ok (.if_icmp .eq 5, 3) := by decide +kernel
theorem dX10_check_62 : decode cX10_check 62 = .ok (.iload_n 3, 1) := by decide +kernel
theorem dX10_check_63 : decode cX10_check 63 = .ok (.istore_n 2, 1) := by decide +kernel
theorem dX10_check_64 : decode cX10_check 64 = .ok (.iinc 3 1, 3) := by decide +kernel
theorem dX10_check_67 : decode cX10_check 67 = .ok (.goto (-37), 3) := by decide +kernel
theorem dX10_check_70 : decode cX10_check 70 = .ok (.aload_n 0, 1) := by decide +kernel
theorem dX10_check_71 : decode cX10_check 71 = .ok (.getfield 10, 3) := by decide +kernel
theorem dX10_check_74 : decode cX10_check 74 = .ok (.invokevirtual 110, 3) := by decide +kernel
theorem dX10_check_77 : decode cX10_check 77 = .ok (.iload_n 2, 1) := by decide +kernel
theorem dX10_check_78 : decode cX10_check 78 = .ok (.ireturn, 1) := by decide +kernel
theorem dX10_cloudy_0 : decode cX10_cloudy 0 = .ok (.iload_n 1, 1) := by decide +kernel
theorem dX10_cloudy_1 : decode cX10_cloudy 1 = .ok (.iconst 1, 1) := by decide +kernel
theorem dX10_cloudy_2 : decode cX10_cloudy 2 = .ok (.bipush 10, 2) := by decide +kernel
theorem dX10_cloudy_4 : decode cX10_cloudy 4 = .ok (.invokestatic 99, 3) := by decide +kernel
theorem dX10_cloudy_7 : decode cX10_cloudy 7 = .ok (.ifCond .eq 33, 3) := by decide +kernel
theorem dX10_cloudy_10 : decode cX10_cloudy 10 = .ok (.iload_n 2, 1) := by decide +kernel
theorem dX10_cloudy_11 : decode cX10_cloudy 11 = .ok (.iconst 0, 1) := by decide +kernel
theorem dX10_cloudy_12 : decode cX10_cloudy 12 = .ok (.bipush 90, 2) := by decide +kernel
theorem dX10_cloudy_14 : decode cX10_cloudy 14 = .ok (.invokestatic 99, 3) := by decide +kernel
theorem dX10_cloudy_17 : decode cX10_cloudy 17 = .ok (.ifCond .eq 23, 3) := by decide +kernel
theorem dX10_cloudy_20 : decode cX10_cloudy 20 = .ok (.iload_n 3, 1) := by decide +kernel
theorem dX10_cloudy_21 : decode cX10_cloudy 21 = .ok (.iconst 0, 1) := by decide +kernel
theorem dX10_cloudy_22 : decode cX10_cloudy 22 = .ok (.iconst 2, 1) := by decide +kernel
theorem dX10_cloudy_23 : decode cX10_cloudy 23 = .ok (.invokestatic 99, 3) := by decide +kernel
theorem dX10_cloudy_26 : decode cX10_cloudy 26 = .ok (.ifCond .eq 14, 3) := by decide +kernel
theorem dX10_cloudy_29 : decode cX10_cloudy 29 = .ok (.iload_n 1, 1) := by decide +kernel
theorem dX10_cloudy_30 : decode cX10_cloudy 30 = .ok (.aload_n 0, 1) := by decide +kernel
theorem dX10_cloudy_31 : decode cX10_cloudy 31 = .ok (.getfield 10, 3) := by decide +kernel
theorem dX10_cloudy_34 : decode cX10_cloudy 34 = .ok (.getfield 91, 3) := by decide +kernel
theorem dX10_cloudy_37 : decode cX10_cloudy 37 = .ok (.if_icmp .le 5, 3) := by decide +kernel
theorem dX10_cloudy_40 : decode cX10_cloudy 40 = .ok (.iconst (-1), 1) := by decide +kernel
theorem dX10_cloudy_41 : decode cX10_cloudy 41 = .ok (.ireturn, 1) := by decide +kernel
theorem dX10_cloudy_42 : decode cX10_cloudy 42 = .ok (.aload_n 0, 1) := by decide +kernel
theorem dX10_cloudy_43 : decode cX10_cloudy 43 = .ok (.iload_n 1, 1) := by decide +kernel
theorem dX10_cloudy_44 : decode cX10_cloudy 44 = .ok (.iconst 1, 1) := by decide +kernel
theorem dX10_cloudy_45 : decode cX10_cloudy 45 = .ok (.bipush 9, 2) := by decide +kernel
theorem dX10_cloudy_47 : decode cX10_cloudy 47 = .ok (.invokevirtual 277, 3) := by decide +kernel
theorem dX10_cloudy_50 : decode cX10_cloudy 50 = .ok (.ifCond .eq 8, 3) := by decide +kernel
theorem dX10_cloudy_53 : decode cX10_cloudy 53 = .ok (.bipush (-3), 2) := by decide +kernel
theorem dX10_cloudy_55 : decode cX10_cloudy 55 = .ok (.goto 10, 3) := by decide +kernel
theorem dX10_cloudy_58 : decode cX10_cloudy 58 = .ok (.aload_n 0, 1) := by decide +kernel
theorem dX10_cloudy_59 : decode cX10_cloudy 59 = .ok (.iload_n 1, 1) := by decide +kernel
theorem dX10_cloudy_60 : decode cX10_cloudy 60 = .ok (.iload_n 2, 1) := by decide +kernel
theorem dX10_cloudy_61 : decode cX10_cloudy 61 = .ok (.iload_n 3, 1) := by decide +kernel
theorem dX10_cloudy_62 : decode cX10_cloudy 62 = .ok (.invokevirtual 286, 3) := by decide +kernel
theorem dX10_cloudy_65 : decode cX10_cloudy 65 = .ok (.istore 4, 2) := by decide +kernel
theorem dX10_cloudy_67 : decode cX10_cloudy 67 = .ok (.aload_n 0, 1) := by decide +kernel
theorem dX10_cloudy_68 : decode cX10_cloudy 68 = .ok (.getfield 10, 3) := by decide +kernel
theorem dX10_cloudy_71 : decode cX10_cloudy 71 = .ok (.invokevirtual 110, 3) := by decide +kernel
theorem dX10_cloudy_74 : decode cX10_cloudy 74 = .ok (.iload 4, 2) := by decide +kernel
theorem dX10_cloudy_76 : decode cX10_cloudy 76 = .ok (.ireturn, 1) := by decide +kernel
theorem dX10_cloudySets_0 : decode cX10_cloudySets 0 = .ok (.iconst 0, 1) := by decide +kernel
theorem dX10_cloudySets_1 : decode cX10_cloudySets 1 = .ok (.istore 4, 2) := by decide +kernel
theorem dX10_cloudySets_3 : decode cX10_cloudySets 3 = .ok (.bipush (-2), 2) := by decide +kernel
theorem dX10_cloudySets_5 : decode cX10_cloudySets 5 = .ok (.istore 5, 2) := by decide +kernel
theorem dX10_cloudySets_7 : decode cX10_cloudySets 7 = .ok (.iconst (-1), 1) := by decide +kernel
theorem dX10_cloudySets_8 : decode cX10_cloudySets 8 = .ok (.istore 6, 2) := by decide +kernel
theorem dX10_cloudySets_10 : decode cX10_cloudySets 10 = .ok (.iconst 0, 1) := by decide +kernel
theorem dX10_cloudySets_11 : decode cX10_cloudySets 11 = .ok (.istore 7, 2) := by decide +kernel
theorem dX10_cloudySets_13 : decode cX10_cloudySets 13 = .ok (.iload 7, 2) := by decide +kernel
theorem dX10_cloudySets_15 : decode cX10_cloudySets 15 = .ok (.iconst 1, 1) := by decide +kernel
theorem dX10_cloudySets_16 : decode cX10_cloudySets 16 = .ok (.iload_n 1, 1) := by decide +kernel
theorem dX10_cloudySets_17 : decode cX10_cloudySets 17 = .ok (.ishl, 1) := by decide +kernel
theorem dX10_cloudySets_18 : decode cX10_cloudySets 18 = .ok (.if_icmp .ge 42, 3) := by decide +kernel
theorem dX10_cloudySets_21 : decode cX10_cloudySets 21 = .ok (.aload_n 0, 1) := by decide +kernel
theorem dX10_cloudySets_22 : decode cX10_cloudySets 22 = .ok (.iload 7, 2) := by decide +kernel
theorem dX10_cloudySets_24 : decode cX10_cloudySets 24 = .ok (.iload_n 1, 1) := by decide +kernel
theorem dX10_cloudySets_25 : decode cX10_cloudySets 25 = .ok (.invokevirtual 343, 3) := by decide +kernel
theorem dX10_cloudySets_28 : decode cX10_cloudySets 28 = .ok (.iload_n 2, 1) := by decide +kernel
theorem dX10_cloudySets_29 : decode cX10_cloudySets 29 = .ok (.if_icmp .eq 6, 3) := by decide +kernel
theorem dX10_cloudySets_32 : decode cX10_cloudySets 32 = .ok (.goto 22, 3) := by decide +kernel
theorem dX10_cloudySets_35 : decode cX10_cloudySets 35 = .ok (.iload 4, 2) := by decide +kernel
theorem dX10_cloudySets_37 : decode cX10_cloudySets 37 = .ok (.ifCond .ne 7, 3) := by decide +kernel
theorem dX10_cloudySets_40 : decode cX10_cloudySets 40 = .ok (.iload 7, 2) := by decide +kernel
theorem dX10_cloudySets_42 : decode cX10_cloudySets 42 = .ok (.istore 5, 2) := by decide +kernel
theorem dX10_cloudySets_44 : decode cX10_cloudySets 44 = .ok (.iinc 4 1, 3) := by decide +kernel
theorem dX10_cloudySets_47 : decode cX10_cloudySets 47 = .ok (.iload 6, 2) := by decide +kernel
theorem dX10_cloudySets_49 : decode cX10_cloudySets 49 = .ok (.iload 7, 2) := by decide +kernel
theorem dX10_cloudySets_51 : decode cX10_cloudySets 51 = .ok (.iand, 1) := by decide +kernel
theorem dX10_cloudySets_52 : decode cX10_cloudySets 52 = .ok (.istore 6, 2) := by decide +kernel
theorem dX10_cloudySets_54 : decode cX10_cloudySets 54 = .ok (.iinc 7 1, 3) := by decide +kernel
theorem dX10_cloudySets_57 : decode cX10_cloudySets 57 = .ok (.goto (-44), 3) := by decide +kernel
theorem dX10_cloudySets_60 : decode cX10_cloudySets 60 = .ok (.iload_n 3, 1) := by decide +kernel
theorem dX10_cloudySets_61 : decode cX10_cloudySets 61 = .ok (.ifCond .ne 6, 3) := by decide +kernel
theorem dX10_cloudySets_64 : decode cX10_cloudySets 64 = .ok (.iload 4, 2) := by decide +kernel
theorem dX10_cloudySets_66 : decode cX10_cloudySets 66 = .ok (.ireturn, 1) := by decide +kernel
theorem dX10_cloudySets_67 : decode cX10_cloudySets 67 = .ok (.iload_n 3, 1) := by decide +kernel
theorem dX10_cloudySets_68 : decode cX10_cloudySets 68 = .ok (.iconst 1, 1) := by decide +kernel
theorem dX10_cloudySets_69 : decode cX10_cloudySets 69 = .ok (.if_icmp .eq 8, 3) := by decide +kernel
theorem dX10_cloudySets_72 : decode cX10_cloudySets 72 = .ok (.iload 4, 2) := by decide +kernel
theorem dX10_cloudySets_74 : decode cX10_cloudySets 74 = .ok (.ifCond .ne 8, 3) := by decide +kernel
theorem dX10_cloudySets_77 : decode cX10_cloudySets 77 = .ok (.iload 5, 2) := by decide +kernel
theorem dX10_cloudySets_79 : decode cX10_cloudySets 79 = .ok (.goto 5, 3) := by decide +kernel
theorem dX10_cloudySets_82 : decode cX10_cloudySets 82 = .ok (.iload 6, 2) := by decide +kernel
theorem dX10_cloudySets_84 : decode cX10_cloudySets 84 = .ok (.ireturn, 1) := by decide +kernel
theorem dX10_count_0 : decode cX10_count 0 = .ok (.iload_n 1, 1) := by decide +kernel
theorem dX10_count_1 : decode cX10_count 1 = .ok (.tableswitch 147 0 8 #[51, 59, 70, 81, 92, 100, 108, 116, 124], 51) := by decide +kernel
theorem dX10_count_52 : decode cX10_count 52 = .ok (.aload_n 0, 1) := by decide +kernel
theorem dX10_count_53 : decode cX10_count 53 = .ok (.getfield 58, 3) := by decide +kernel
theorem dX10_count_56 : decode cX10_count 56 = .ok (.getfield 305, 3) := by decide +kernel
theorem dX10_count_59 : decode cX10_count 59 = .ok (.ireturn, 1) := by decide +kernel
theorem dX10_count_60 : decode cX10_count 60 = .ok (.aload_n 0, 1) := by decide +kernel
theorem dX10_count_61 : decode cX10_count 61 = .ok (.getfield 58, 3) := by decide +kernel
theorem dX10_count_64 : decode cX10_count 64 = .ok (.getfield 141, 3) := by decide +kernel
theorem dX10_count_67 : decode cX10_count 67 = .ok (.invokestatic 311, 3) := by decide +kernel
theorem dX10_count_70 : decode cX10_count 70 = .ok (.ireturn, 1) := by decide +kernel
theorem dX10_count_71 : decode cX10_count 71 = .ok (.aload_n 0, 1) := by decide +kernel
theorem dX10_count_72 : decode cX10_count 72 = .ok (.getfield 58, 3) := by decide +kernel
theorem dX10_count_75 : decode cX10_count 75 = .ok (.getfield 191, 3) := by decide +kernel
theorem dX10_count_78 : decode cX10_count 78 = .ok (.invokestatic 311, 3) := by decide +kernel
theorem dX10_count_81 : decode cX10_count 81 = .ok (.ireturn, 1) := by decide +kernel
theorem dX10_count_82 : decode cX10_count 82 = .ok (.aload_n 0, 1) := by decide +kernel
theorem dX10_count_83 : decode cX10_count 83 = .ok (.getfield 51, 3) := by decide +kernel
theorem dX10_count_86 : decode cX10_count 86 = .ok (.getfield 160, 3) := by decide +kernel
theorem dX10_count_89 : decode cX10_count 89 = .ok (.invokestatic 311, 3) := by decide +kernel
theorem dX10_count_92 : decode cX10_count 92 = .ok (.ireturn, 1) := by decide +kernel
theorem dX10_count_93 : decode cX10_count 93 = .ok (.aload_n 0, 1) := by decide +kernel
theorem dX10_count_94 : decode cX10_count 94 = .ok (.getfield 58, 3) := by decide +kernel
theorem dX10_count_97 : decode cX10_count 97 = .ok (.invokevirtual 315, 3) := by decide +kernel
theorem dX10_count_100 : decode cX10_count 100 = .ok (.ireturn, 1) := by decide +kernel
theorem dX10_count_101 : decode cX10_count 101 = .ok (.aload_n 0, 1) := by decide +kernel
theorem dX10_count_102 : decode cX10_count 102 = .ok (.getfield 26, 3) := by decide +kernel
theorem dX10_count_105 : decode cX10_count 105 = .ok (.getfield 134, 3) := by decide +kernel
theorem dX10_count_108 : decode cX10_count 108 = .ok (.ireturn, 1) := by decide +kernel
theorem dX10_count_109 : decode cX10_count 109 = .ok (.aload_n 0, 1) := by decide +kernel
theorem dX10_count_110 : decode cX10_count 110 = .ok (.getfield 10, 3) := by decide +kernel
theorem dX10_count_113 : decode cX10_count 113 = .ok (.getfield 91, 3) := by decide +kernel
theorem dX10_count_116 : decode cX10_count 116 = .ok (.ireturn, 1) := by decide +kernel
theorem dX10_count_117 : decode cX10_count 117 = .ok (.aload_n 0, 1) := by decide +kernel
theorem dX10_count_118 : decode cX10_count 118 = .ok (.getfield 58, 3) := by decide +kernel
theorem dX10_count_121 : decode cX10_count 121 = .ok (.getfield 300, 3) := by decide +kernel
theorem dX10_count_124 : decode cX10_count 124 = .ok (.ireturn, 1) := by decide +kernel
theorem dX10_count_125 : decode cX10_count 125 = .ok (.aload_n 0, 1) := by decide +kernel
theorem dX10_count_126 : decode cX10_count 126 = .ok (.getfield 26, 3) := by decide +kernel
theorem dX10_count_129 : decode cX10_count 129 = .ok (.aload_n 0, 1) := by decide +kernel
theorem dX10_count_130 : decode cX10_count 130 = .ok (.getfield 58, 3) := by decide +kernel
theorem dX10_count_133 : decode cX10_count 133 = .ok (.getfield 305, 3) := by decide +kernel
theorem dX10_count_136 : decode cX10_count 136 = .ok (.invokevirtual 318, 3) := by decide +kernel
theorem dX10_count_139 : decode cX10_count 139 = .ok (.ifCond .eq 7, 3) := by decide +kernel
theorem dX10_count_142 : decode cX10_count 142 = .ok (.iconst 1, 1) := by decide +kernel
theorem dX10_count_143 : decode cX10_count 143 = .ok (.goto 4, 3) := by decide +kernel
theorem dX10_count_146 : decode cX10_count 146 = .ok (.iconst 0, 1) := by decide +kernel
theorem dX10_count_147 : decode cX10_count 147 = .ok (.ireturn, 1) := by decide +kernel
theorem dX10_count_148 : decode cX10_count 148 = .ok (.iload_n 1, 1) := by decide +kernel
theorem dX10_count_149 : decode cX10_count 149 = .ok (.bipush 10, 2) := by decide +kernel
theorem dX10_count_151 : decode cX10_count 151 = .ok (.bipush 11, 2) := by decide +kernel
theorem dX10_count_153 : decode cX10_count 153 = .ok (.invokestatic 99, 3) := by decide +kernel
theorem dX10_count_156 : decode cX10_count 156 = .ok (.ifCond .eq 16, 3) := by decide +kernel
theorem dX10_count_159 : decode cX10_count 159 = .ok (.aload_n 0, 1) := by decide +kernel
theorem dX10_count_160 : decode cX10_count 160 = .ok (.getfield 58, 3) := by decide +kernel
theorem dX10_count_163 : decode cX10_count 163 = .ok (.getfield 141, 3) := by decide +kernel
theorem dX10_count_166 : decode cX10_count 166 = .ok (.iload_n 1, 1) := by decide +kernel
theorem dX10_count_167 : decode cX10_count 167 = .ok (.bipush 10, 2) := by decide +kernel
theorem dX10_count_169 : decode cX10_count 169 = .ok (.isub, 1) := by decide +kernel
theorem dX10_count_170 : decode cX10_count 170 = .ok (.iaload, 1) := by decide +kernel
theorem dX10_count_171 : decode cX10_count 171 = .ok (.ireturn, 1) := by decide +kernel
theorem dX10_count_172 : decode cX10_count 172 = .ok (.iload_n 1, 1) := by decide +kernel
theorem dX10_count_173 : decode cX10_count 173 = .ok (.bipush 20, 2) := by decide +kernel
theorem dX10_count_175 : decode cX10_count 175 = .ok (.bipush 21, 2) := by decide +kernel
theorem dX10_count_177 : decode cX10_count 177 = .ok (.invokestatic 99, 3) := by decide +kernel
theorem dX10_count_180 : decode cX10_count 180 = .ok (.ifCond .eq 15, 3) := by decide +kernel
theorem dX10_count_183 : decode cX10_count 183 = .ok (.aload_n 0, 1) := by decide +kernel
theorem dX10_count_184 : decode cX10_count 184 = .ok (.getfield 58, 3) := by decide +kernel
theorem dX10_count_187 : decode cX10_count 187 = .ok (.iload_n 1, 1) := by decide +kernel
theorem dX10_count_188 : decode cX10_count 188 = .ok (.bipush 20, 2) := by decide +kernel
theorem dX10_count_190 : decode cX10_count 190 = .ok (.isub, 1) := by decide +kernel
theorem dX10_count_191 : decode cX10_count 191 = .ok (.invokevirtual 321, 3) := by decide +kernel
theorem dX10_count_194 : decode cX10_count 194 = .ok (.ireturn, 1) := by decide +kernel
theorem dX10_count_195 : decode cX10_count 195 = .ok (.iload_n 1, 1) := by decide +kernel
theorem dX10_count_196 : decode cX10_count 196 = .ok (.bipush 30, 2) := by decide +kernel
theorem dX10_count_198 : decode cX10_count 198 = .ok (.bipush 33, 2) := by decide +kernel
theorem dX10_count_200 : decode cX10_count 200 = .ok (.invokestatic 99, 3) := by decide +kernel
theorem dX10_count_203 : decode cX10_count 203 = .ok (.ifCond .eq 16, 3) := by decide +kernel
theorem dX10_count_206 : decode cX10_count 206 = .ok (.aload_n 0, 1) := by decide +kernel
theorem dX10_count_207 : decode cX10_count 207 = .ok (.getfield 51, 3) := by decide +kernel
theorem dX10_count_210 : decode cX10_count 210 = .ok (.getfield 160, 3) := by decide +kernel
theorem dX10_count_213 : decode cX10_count 213 = .ok (.iload_n 1, 1) := by decide +kernel
theorem dX10_count_214 : decode cX10_count 214 = .ok (.bipush 30, 2) := by decide +kernel
theorem dX10_count_216 : decode cX10_count 216 = .ok (.isub, 1) := by decide +kernel
theorem dX10_count_217 : decode cX10_count 217 = .ok (.iaload, 1) := by decide +kernel
theorem dX10_count_218 : decode cX10_count 218 = .ok (.ireturn, 1) := by decide +kernel
theorem dX10_count_219 : decode cX10_count 219 = .ok (.iload_n 1, 1) := by decide +kernel
theorem dX10_count_220 : decode cX10_count 220 = .ok (.bipush 100, 2) := by decide +kernel
theorem dX10_count_222 : decode cX10_count 222 = .ok (.sipush 199, 3) := by decide +kernel
theorem dX10_count_225 : decode cX10_count 225 = .ok (.invokestatic 99, 3) := by decide +kernel
theorem dX10_count_228 : decode cX10_count 228 = .ok (.ifCond .eq 17, 3) := by decide +kernel
theorem dX10_count_231 : decode cX10_count 231 = .ok (.aload_n 0, 1) := by decide +kernel
theorem dX10_count_232 : decode cX10_count 232 = .ok (.getfield 19, 3) := by decide +kernel
theorem dX10_count_235 : decode cX10_count 235 = .ok (.iload_n 1, 1) := by decide +kernel
theorem dX10_count_236 : decode cX10_count 236 = .ok (.bipush 100, 2) := by decide +kernel
theorem dX10_count_238 : decode cX10_count 238 = .ok (.isub, 1) := by decide +kernel
theorem dX10_count_239 : decode cX10_count 239 = .ok (.invokevirtual 324, 3) := by decide +kernel
theorem dX10_count_242 : decode cX10_count 242 = .ok (.goto 4, 3) := by decide +kernel
theorem dX10_count_245 : decode cX10_count 245 = .ok (.iconst (-1), 1) := by decide +kernel
theorem dX10_count_246 : decode cX10_count 246 = .ok (.ireturn, 1) := by decide +kernel
theorem dX10_dark_0 : decode cX10_dark 0 = .ok (.iload_n 1, 1) := by decide +kernel
theorem dX10_dark_1 : decode cX10_dark 1 = .ok (.iconst 1, 1) := by decide +kernel
theorem dX10_dark_2 : decode cX10_dark 2 = .ok (.bipush 60, 2) := by decide +kernel
theorem dX10_dark_4 : decode cX10_dark 4 = .ok (.invokestatic 99, 3) := by decide +kernel
theorem dX10_dark_7 : decode cX10_dark 7 = .ok (.ifCond .eq 12, 3) := by decide +kernel
theorem dX10_dark_10 : decode cX10_dark 10 = .ok (.iload_n 2, 1) := by decide +kernel
theorem dX10_dark_11 : decode cX10_dark 11 = .ok (.iconst 0, 1) := by decide +kernel
theorem dX10_dark_12 : decode cX10_dark 12 = .ok (.iconst 2, 1) := by decide +kernel
theorem dX10_dark_13 : decode cX10_dark 13 = .ok (.invokestatic 99, 3) := by decide +kernel
theorem dX10_dark_16 : decode cX10_dark 16 = .ok (.ifCond .ne 5, 3) := by decide +kernel
theorem dX10_dark_19 : decode cX10_dark 19 = .ok (.iconst (-1), 1) := by decide +kernel
theorem dX10_dark_20 : decode cX10_dark 20 = .ok (.ireturn, 1) := by decide +kernel
theorem dX10_dark_21 : decode cX10_dark 21 = .ok (.aload_n 0, 1) := by decide +kernel
theorem dX10_dark_22 : decode cX10_dark 22 = .ok (.getfield 70, 3) := by decide +kernel
theorem dX10_dark_25 : decode cX10_dark 25 = .ok (.iload_n 1, 1) := by decide +kernel
theorem dX10_dark_26 : decode cX10_dark 26 = .ok (.invokevirtual 254, 3) := by decide +kernel
theorem dX10_dark_29 : decode cX10_dark 29 = .ok (.iload_n 2, 1) := by decide +kernel
theorem dX10_dark_30 : decode cX10_dark 30 = .ok (.ifCond .ne 11, 3) := by decide +kernel
theorem dX10_dark_33 : decode cX10_dark 33 = .ok (.aload_n 0, 1) := by decide +kernel
theorem dX10_dark_34 : decode cX10_dark 34 = .ok (.getfield 70, 3) := by decide +kernel
theorem dX10_dark_37 : decode cX10_dark 37 = .ok (.invokevirtual 257, 3) := by decide +kernel
theorem dX10_dark_40 : decode cX10_dark 40 = .ok (.ireturn, 1) := by decide +kernel
theorem dX10_dark_41 : decode cX10_dark 41 = .ok (.aload_n 0, 1) := by decide +kernel
theorem dX10_dark_42 : decode cX10_dark 42 = .ok (.getfield 70, 3) := by decide +kernel
theorem dX10_dark_45 : decode cX10_dark 45 = .ok (.invokevirtual 260, 3) := by decide +kernel
theorem dX10_dark_48 : decode cX10_dark 48 = .ok (.istore_n 3, 1) := by decide +kernel
theorem dX10_dark_49 : decode cX10_dark 49 = .ok (.iload_n 2, 1) := by decide +kernel
theorem dX10_dark_50 : decode cX10_dark 50 = .ok (.iconst 1, 1) := by decide +kernel
theorem dX10_dark_51 : decode cX10_dark 51 = .ok (.if_icmp .ne 15, 3) := by decide +kernel
theorem dX10_dark_54 : decode cX10_dark 54 = .ok (.iload_n 3, 1) := by decide +kernel
theorem dX10_dark_55 : decode cX10_dark 55 = .ok (.iconst (-1), 1) := by decide +kernel
theorem dX10_dark_56 : decode cX10_dark 56 = .ok (.if_icmp .ne 8, 3) := by decide +kernel
theorem dX10_dark_59 : decode cX10_dark 59 = .ok (.bipush (-2), 2) := by decide +kernel
theorem dX10_dark_61 : decode cX10_dark 61 = .ok (.goto 4, 3) := by decide +kernel
theorem dX10_dark_64 : decode cX10_dark 64 = .ok (.iload_n 3, 1) := by decide +kernel
theorem dX10_dark_65 : decode cX10_dark 65 = .ok (.ireturn, 1) := by decide +kernel
theorem dX10_dark_66 : decode cX10_dark 66 = .ok (.iload_n 3, 1) := by decide +kernel
theorem dX10_dark_67 : decode cX10_dark 67 = .ok (.iconst (-1), 1) := by decide +kernel
theorem dX10_dark_68 : decode cX10_dark 68 = .ok (.if_icmp .ne 7, 3) := by decide +kernel
theorem dX10_dark_71 : decode cX10_dark 71 = .ok (.iconst 0, 1) := by decide +kernel
theorem dX10_dark_72 : decode cX10_dark 72 = .ok (.goto 12, 3) := by decide +kernel
theorem dX10_dark_75 : decode cX10_dark 75 = .ok (.aload_n 0, 1) := by decide +kernel
theorem dX10_dark_76 : decode cX10_dark 76 = .ok (.getfield 70, 3) := by decide +kernel
theorem dX10_dark_79 : decode cX10_dark 79 = .ok (.getfield 263, 3) := by decide +kernel
theorem dX10_dark_82 : decode cX10_dark 82 = .ok (.iload_n 3, 1) := by decide +kernel
theorem dX10_dark_83 : decode cX10_dark 83 = .ok (.iaload, 1) := by decide +kernel
theorem dX10_dark_84 : decode cX10_dark 84 = .ok (.ireturn, 1) := by decide +kernel
theorem dX10_feed_0 : decode cX10_feed 0 = .ok (.aload_n 0, 1) := by decide +kernel
theorem dX10_feed_1 : decode cX10_feed 1 = .ok (.getfield 10, 3) := by decide +kernel
theorem dX10_feed_4 : decode cX10_feed 4 = .ok (.getfield 91, 3) := by decide +kernel
theorem dX10_feed_7 : decode cX10_feed 7 = .ok (.sipush 240, 3) := by decide +kernel
theorem dX10_feed_10 : decode cX10_feed 10 = .ok (.if_icmp .le 5, 3) := by decide +kernel
theorem dX10_feed_13 : decode cX10_feed 13 = .ok (.iconst (-1), 1) := by decide +kernel
theorem dX10_feed_14 : decode cX10_feed 14 = .ok (.ireturn, 1) := by decide +kernel
theorem dX10_feed_15 : decode cX10_feed 15 = .ok (.aload_n 0, 1) := by decide +kernel
theorem dX10_feed_16 : decode cX10_feed 16 = .ok (.getfield 10, 3) := by decide +kernel
theorem dX10_feed_19 : decode cX10_feed 19 = .ok (.iload_n 1, 1) := by decide +kernel
theorem dX10_feed_20 : decode cX10_feed 20 = .ok (.invokevirtual 95, 3) := by decide +kernel
theorem dX10_feed_23 : decode cX10_feed 23 = .ok (.aload_n 0, 1) := by decide +kernel
theorem dX10_feed_24 : decode cX10_feed 24 = .ok (.getfield 10, 3) := by decide +kernel
theorem dX10_feed_27 : decode cX10_feed 27 = .ok (.iload_n 2, 1) := by decide +kernel
theorem dX10_feed_28 : decode cX10_feed 28 = .ok (.invokevirtual 95, 3) := by decide +kernel
theorem dX10_feed_31 : decode cX10_feed 31 = .ok (.aload_n 0, 1) := by decide +kernel
theorem dX10_feed_32 : decode cX10_feed 32 = .ok (.getfield 10, 3) := by decide +kernel
theorem dX10_feed_35 : decode cX10_feed 35 = .ok (.iload_n 3, 1) := by decide +kernel
theorem dX10_feed_36 : decode cX10_feed 36 = .ok (.invokevirtual 95, 3) := by decide +kernel
theorem dX10_feed_39 : decode cX10_feed 39 = .ok (.aload_n 0, 1) := by decide +kernel
theorem dX10_feed_40 : decode cX10_feed 40 = .ok (.getfield 10, 3) := by decide +kernel
theorem dX10_feed_43 : decode cX10_feed 43 = .ok (.iload 4, 2) := by decide +kernel
theorem dX10_feed_45 : decode cX10_feed 45 = .ok (.invokevirtual 95, 3) := by decide +kernel
theorem dX10_feed_48 : decode cX10_feed 48 = .ok (.aload_n 0, 1) := by decide +kernel
theorem dX10_feed_49 : decode cX10_feed 49 = .ok (.getfield 10, 3) := by decide +kernel
theorem dX10_feed_52 : decode cX10_feed 52 = .ok (.iload 5, 2) := by decide +kernel
theorem dX10_feed_54 : decode cX10_feed 54 = .ok (.invokevirtual 95, 3) := by decide +kernel
theorem dX10_feed_57 : decode cX10_feed 57 = .ok (.aload_n 0, 1) := by decide +kernel
theorem dX10_feed_58 : decode cX10_feed 58 = .ok (.getfield 10, 3) := by decide +kernel
theorem dX10_feed_61 : decode cX10_feed 61 = .ok (.getfield 91, 3) := by decide +kernel
theorem dX10_feed_64 : decode cX10_feed 64 = .ok (.ireturn, 1) := by decide +kernel
theorem dX10_felon_0 : decode cX10_felon 0 = .ok (.aload_n 0, 1) := by decide +kernel
theorem dX10_felon_1 : decode cX10_felon 1 = .ok (.getfield 19, 3) := by decide +kernel
theorem dX10_felon_4 : decode cX10_felon 4 = .ok (.iload_n 2, 1) := by decide +kernel
theorem dX10_felon_5 : decode cX10_felon 5 = .ok (.iload_n 3, 1) := by decide +kernel
theorem dX10_felon_6 : decode cX10_felon 6 = .ok (.invokevirtual 137, 3) := by decide +kernel
theorem dX10_felon_9 : decode cX10_felon 9 = .ok (.istore 5, 2) := by decide +kernel
theorem dX10_felon_11 : decode cX10_felon 11 = .ok (.iload_n 1, 1) := by decide +kernel
theorem dX10_felon_12 : decode cX10_felon 12 = .ok (.iconst 0, 1) := by decide +kernel
theorem dX10_felon_13 : decode cX10_felon 13 = .ok (.bipush 9, 2) := by decide +kernel
theorem dX10_felon_15 : decode cX10_felon 15 = .ok (.invokestatic 99, 3) := by decide +kernel
theorem dX10_felon_18 : decode cX10_felon 18 = .ok (.ifCond .eq 21, 3) := by decide +kernel
theorem dX10_felon_21 : decode cX10_felon 21 = .ok (.iload 5, 2) := by decide +kernel
theorem dX10_felon_23 : decode cX10_felon 23 = .ok (.iconst (-1), 1) := by decide +kernel
theorem dX10_felon_24 : decode cX10_felon 24 = .ok (.if_icmp .eq 15, 3) := by decide +kernel
theorem dX10_felon_27 : decode cX10_felon 27 = .ok (.iload 4, 2) := by decide +kernel
theorem dX10_felon_29 : decode cX10_felon 29 = .ok (.iconst 0, 1) := by decide +kernel
theorem dX10_felon_30 : decode cX10_felon 30 = .ok (.sipush 999, 3) := by decide +kernel
theorem dX10_felon_33 : decode cX10_felon 33 = .ok (.invokestatic 99, 3) := by decide +kernel
theorem dX10_felon_36 : decode cX10_felon 36 = .ok (.ifCond .ne 5, 3) := by decide +kernel
theorem dX10_felon_39 : decode cX10_felon 39 = .ok (.iconst 0, 1) := by decide +kernel
theorem dX10_felon_40 : decode cX10_felon 40 = .ok (.ireturn, 1) := by decide +kernel
theorem dX10_felon_41 : decode cX10_felon 41 = .ok (.aload_n 0, 1) := by decide +kernel
theorem dX10_felon_42 : decode cX10_felon 42 = .ok (.getfield 58, 3) := by decide +kernel
theorem dX10_felon_45 : decode cX10_felon 45 = .ok (.iload_n 1, 1) := by decide +kernel
theorem dX10_felon_46 : decode cX10_felon 46 = .ok (.iload 5, 2) := by decide +kernel
theorem dX10_felon_48 : decode cX10_felon 48 = .ok (.iload 4, 2) := by decide +kernel
theorem dX10_felon_50 : decode cX10_felon 50 = .ok (.invokevirtual 156, 3) := by decide +kernel
theorem dX10_felon_53 : decode cX10_felon 53 = .ok (.iconst 1, 1) := by decide +kernel
theorem dX10_felon_54 : decode cX10_felon 54 = .ok (.ireturn, 1) := by decide +kernel
theorem dX10_felonIs_0 : decode cX10_felonIs 0 = .ok (.aload_n 0, 1) := by decide +kernel
theorem dX10_felonIs_1 : decode cX10_felonIs 1 = .ok (.getfield 58, 3) := by decide +kernel
theorem dX10_felonIs_4 : decode cX10_felonIs 4 = .ok (.iload_n 1, 1) := by decide +kernel
theorem dX10_felonIs_5 : decode cX10_felonIs 5 = .ok (.invokevirtual 197, 3) := by decide +kernel
theorem dX10_felonIs_8 : decode cX10_felonIs 8 = .ok (.ifCond .ne 5, 3) := by decide +kernel
theorem dX10_felonIs_11 : decode cX10_felonIs 11 = .ok (.iconst (-1), 1) := by decide +kernel
theorem dX10_felonIs_12 : decode cX10_felonIs 12 = .ok (.ireturn, 1) := by decide +kernel
theorem dX10_felonIs_13 : decode cX10_felonIs 13 = .ok (.iload_n 2, 1) := by decide +kernel
theorem dX10_felonIs_14 : decode cX10_felonIs 14 = .ok (.tableswitch 120 0 5 #[38, 48, 58, 68, 86, 99], 38) := by decide +kernel
theorem dX10_felonIs_52 : decode cX10_felonIs 52 = .ok (.aload_n 0, 1) := by decide +kernel
theorem dX10_felonIs_53 : decode cX10_felonIs 53 = .ok (.getfield 58, 3) := by decide +kernel
theorem dX10_felonIs_56 : decode cX10_felonIs 56 = .ok (.getfield 191, 3) := by decide +kernel
theorem dX10_felonIs_59 : decode cX10_felonIs 59 = .ok (.iload_n 1, 1) := by decide +kernel
theorem dX10_felonIs_60 : decode cX10_felonIs 60 = .ok (.iaload, 1) := by decide +kernel
theorem dX10_felonIs_61 : decode cX10_felonIs 61 = .ok (.ireturn, 1) := by decide +kernel
theorem dX10_felonIs_62 : decode cX10_felonIs 62 = .ok (.aload_n 0, 1) := by decide +kernel
theorem dX10_felonIs_63 : decode cX10_felonIs 63 = .ok (.getfield 58, 3) := by decide +kernel
theorem dX10_felonIs_66 : decode cX10_felonIs 66 = .ok (.getfield 194, 3) := by decide +kernel
theorem dX10_felonIs_69 : decode cX10_felonIs 69 = .ok (.iload_n 1, 1) := by decide +kernel
theorem dX10_felonIs_70 : decode cX10_felonIs 70 = .ok (.iaload, 1) := by decide +kernel
theorem dX10_felonIs_71 : decode cX10_felonIs 71 = .ok (.ireturn, 1) := by decide +kernel
theorem dX10_felonIs_72 : decode cX10_felonIs 72 = .ok (.aload_n 0, 1) := by decide +kernel
theorem dX10_felonIs_73 : decode cX10_felonIs 73 = .ok (.getfield 58, 3) := by decide +kernel
theorem dX10_felonIs_76 : decode cX10_felonIs 76 = .ok (.getfield 200, 3) := by decide +kernel
theorem dX10_felonIs_79 : decode cX10_felonIs 79 = .ok (.iload_n 1, 1) := by decide +kernel
theorem dX10_felonIs_80 : decode cX10_felonIs 80 = .ok (.iaload, 1) := by decide +kernel
theorem dX10_felonIs_81 : decode cX10_felonIs 81 = .ok (.ireturn, 1) := by decide +kernel
theorem dX10_felonIs_82 : decode cX10_felonIs 82 = .ok (.aload_n 0, 1) := by decide +kernel
theorem dX10_felonIs_83 : decode cX10_felonIs 83 = .ok (.getfield 58, 3) := by decide +kernel
theorem dX10_felonIs_86 : decode cX10_felonIs 86 = .ok (.getfield 203, 3) := by decide +kernel
theorem dX10_felonIs_89 : decode cX10_felonIs 89 = .ok (.iload_n 1, 1) := by decide +kernel
theorem dX10_felonIs_90 : decode cX10_felonIs 90 = .ok (.baload, 1) := by decide +kernel
theorem dX10_felonIs_91 : decode cX10_felonIs 91 = .ok (.ifCond .eq 7, 3) := by decide +kernel
theorem dX10_felonIs_94 : decode cX10_felonIs 94 = .ok (.iconst 1, 1) := by decide +kernel
theorem dX10_felonIs_95 : decode cX10_felonIs 95 = .ok (.goto 4, 3) := by decide +kernel
theorem dX10_felonIs_98 : decode cX10_felonIs 98 = .ok (.iconst 0, 1) := by decide +kernel
theorem dX10_felonIs_99 : decode cX10_felonIs 99 = .ok (.ireturn, 1) := by decide +kernel
theorem dX10_felonIs_100 : decode cX10_felonIs 100 = .ok (.aload_n 0, 1) := by decide +kernel
theorem dX10_felonIs_101 : decode cX10_felonIs 101 = .ok (.getfield 51, 3) := by decide +kernel
theorem dX10_felonIs_104 : decode cX10_felonIs 104 = .ok (.aload_n 0, 1) := by decide +kernel
theorem dX10_felonIs_105 : decode cX10_felonIs 105 = .ok (.getfield 58, 3) := by decide +kernel
theorem dX10_felonIs_108 : decode cX10_felonIs 108 = .ok (.iload_n 1, 1) := by decide +kernel
theorem dX10_felonIs_109 : decode cX10_felonIs 109 = .ok (.invokevirtual 207, 3) := by decide +kernel
theorem dX10_felonIs_112 : decode cX10_felonIs 112 = .ok (.ireturn, 1) := by decide +kernel
theorem dX10_felonIs_113 : decode cX10_felonIs 113 = .ok (.aload_n 0, 1) := by decide +kernel
theorem dX10_felonIs_114 : decode cX10_felonIs 114 = .ok (.getfield 51, 3) := by decide +kernel
theorem dX10_felonIs_117 : decode cX10_felonIs 117 = .ok (.aload_n 0, 1) := by decide +kernel
theorem dX10_felonIs_118 : decode cX10_felonIs 118 = .ok (.getfield 58, 3) := by decide +kernel
theorem dX10_felonIs_121 : decode cX10_felonIs 121 = .ok (.aload_n 0, 1) := by decide +kernel
theorem dX10_felonIs_122 : decode cX10_felonIs 122 = .ok (.getfield 58, 3) := by decide +kernel
theorem dX10_felonIs_125 : decode cX10_felonIs 125 = .ok (.getfield 191, 3) := by decide +kernel
theorem dX10_felonIs_128 : decode cX10_felonIs 128 = .ok (.iload_n 1, 1) := by decide +kernel
theorem dX10_felonIs_129 : decode cX10_felonIs 129 = .ok (.iaload, 1) := by decide +kernel
theorem dX10_felonIs_130 : decode cX10_felonIs 130 = .ok (.invokevirtual 211, 3) := by decide +kernel
theorem dX10_felonIs_133 : decode cX10_felonIs 133 = .ok (.ireturn, 1) := by decide +kernel
theorem dX10_felonIs_134 : decode cX10_felonIs 134 = .ok (.iconst (-1), 1) := by decide +kernel
theorem dX10_felonIs_135 : decode cX10_felonIs 135 = .ok (.ireturn, 1) := by decide +kernel
theorem dX10_fewest_0 : decode cX10_fewest 0 = .ok (.aload_n 0, 1) := by decide +kernel
theorem dX10_fewest_1 : decode cX10_fewest 1 = .ok (.getfield 58, 3) := by decide +kernel
theorem dX10_fewest_4 : decode cX10_fewest 4 = .ok (.iload_n 1, 1) := by decide +kernel
theorem dX10_fewest_5 : decode cX10_fewest 5 = .ok (.invokevirtual 197, 3) := by decide +kernel
theorem dX10_fewest_8 : decode cX10_fewest 8 = .ok (.ifCond .eq 22, 3) := by decide +kernel
theorem dX10_fewest_11 : decode cX10_fewest 11 = .ok (.iload_n 2, 1) := by decide +kernel
theorem dX10_fewest_12 : decode cX10_fewest 12 = .ok (.iconst 1, 1) := by decide +kernel
theorem dX10_fewest_13 : decode cX10_fewest 13 = .ok (.bipush 30, 2) := by decide +kernel
theorem dX10_fewest_15 : decode cX10_fewest 15 = .ok (.invokestatic 99, 3) := by decide +kernel
theorem dX10_fewest_18 : decode cX10_fewest 18 = .ok (.ifCond .eq 12, 3) := by decide +kernel
theorem dX10_fewest_21 : decode cX10_fewest 21 = .ok (.iload_n 3, 1) := by decide +kernel
theorem dX10_fewest_22 : decode cX10_fewest 22 = .ok (.iconst 1, 1) := by decide +kernel
theorem dX10_fewest_23 : decode cX10_fewest 23 = .ok (.iload_n 2, 1) := by decide +kernel
theorem dX10_fewest_24 : decode cX10_fewest 24 = .ok (.invokestatic 99, 3) := by decide +kernel
theorem dX10_fewest_27 : decode cX10_fewest 27 = .ok (.ifCond .ne 5, 3) := by decide +kernel
theorem dX10_fewest_30 : decode cX10_fewest 30 = .ok (.iconst (-1), 1) := by decide +kernel
theorem dX10_fewest_31 : decode cX10_fewest 31 = .ok (.ireturn, 1) := by decide +kernel
theorem dX10_fewest_32 : decode cX10_fewest 32 = .ok (.aload_n 0, 1) := by decide +kernel
theorem dX10_fewest_33 : decode cX10_fewest 33 = .ok (.getfield 70, 3) := by decide +kernel
theorem dX10_fewest_36 : decode cX10_fewest 36 = .ok (.aload_n 0, 1) := by decide +kernel
theorem dX10_fewest_37 : decode cX10_fewest 37 = .ok (.getfield 58, 3) := by decide +kernel
theorem dX10_fewest_40 : decode cX10_fewest 40 = .ok (.getfield 191, 3) := by decide +kernel
theorem dX10_fewest_43 : decode cX10_fewest 43 = .ok (.iload_n 1, 1) := by decide +kernel
theorem dX10_fewest_44 : decode cX10_fewest 44 = .ok (.iaload, 1) := by decide +kernel
theorem dX10_fewest_45 : decode cX10_fewest 45 = .ok (.iload_n 2, 1) := by decide +kernel
theorem dX10_fewest_46 : decode cX10_fewest 46 = .ok (.iload_n 3, 1) := by decide +kernel
theorem dX10_fewest_47 : decode cX10_fewest 47 = .ok (.invokevirtual 235, 3) := by decide +kernel
theorem dX10_fewest_50 : decode cX10_fewest 50 = .ok (.ireturn, 1) := by decide +kernel
theorem dX10_first_0 : decode cX10_first 0 = .ok (.iload_n 1, 1) := by decide +kernel
theorem dX10_first_1 : decode cX10_first 1 = .ok (.iconst 1, 1) := by decide +kernel
theorem dX10_first_2 : decode cX10_first 2 = .ok (.bipush 60, 2) := by decide +kernel
theorem dX10_first_4 : decode cX10_first 4 = .ok (.invokestatic 99, 3) := by decide +kernel
theorem dX10_first_7 : decode cX10_first 7 = .ok (.ifCond .eq 12, 3) := by decide +kernel
theorem dX10_first_10 : decode cX10_first 10 = .ok (.iload_n 2, 1) := by decide +kernel
theorem dX10_first_11 : decode cX10_first 11 = .ok (.iconst 0, 1) := by decide +kernel
theorem dX10_first_12 : decode cX10_first 12 = .ok (.iconst 1, 1) := by decide +kernel
theorem dX10_first_13 : decode cX10_first 13 = .ok (.invokestatic 99, 3) := by decide +kernel
theorem dX10_first_16 : decode cX10_first 16 = .ok (.ifCond .ne 5, 3) := by decide +kernel
theorem dX10_first_19 : decode cX10_first 19 = .ok (.iconst (-1), 1) := by decide +kernel
theorem dX10_first_20 : decode cX10_first 20 = .ok (.ireturn, 1) := by decide +kernel
theorem dX10_first_21 : decode cX10_first 21 = .ok (.aload_n 0, 1) := by decide +kernel
theorem dX10_first_22 : decode cX10_first 22 = .ok (.getfield 70, 3) := by decide +kernel
theorem dX10_first_25 : decode cX10_first 25 = .ok (.iload_n 1, 1) := by decide +kernel
theorem dX10_first_26 : decode cX10_first 26 = .ok (.invokevirtual 248, 3) := by decide +kernel
theorem dX10_first_29 : decode cX10_first 29 = .ok (.istore_n 3, 1) := by decide +kernel
theorem dX10_first_30 : decode cX10_first 30 = .ok (.iload_n 2, 1) := by decide +kernel
theorem dX10_first_31 : decode cX10_first 31 = .ok (.ifCond .ne 13, 3) := by decide +kernel
theorem dX10_first_34 : decode cX10_first 34 = .ok (.aload_n 0, 1) := by decide +kernel
theorem dX10_first_35 : decode cX10_first 35 = .ok (.getfield 70, 3) := by decide +kernel
theorem dX10_first_38 : decode cX10_first 38 = .ok (.getfield 251, 3) := by decide +kernel
theorem dX10_first_41 : decode cX10_first 41 = .ok (.goto 4, 3) := by decide +kernel
theorem dX10_first_44 : decode cX10_first 44 = .ok (.iload_n 3, 1) := by decide +kernel
theorem dX10_first_45 : decode cX10_first 45 = .ok (.ireturn, 1) := by decide +kernel
theorem dX10_groupSentences_0 : decode cX10_groupSentences 0 = .ok (.iconst 0, 1) := by decide +kernel
theorem dX10_groupSentences_1 : decode cX10_groupSentences 1 = .ok (.istore_n 3, 1) := by decide +kernel
theorem dX10_groupSentences_2 : decode cX10_groupSentences 2 = .ok (.iload_n 3, 1) := by decide +kernel
theorem dX10_groupSentences_3 : decode cX10_groupSentences 3 = .ok (.iload_n 1, 1) := by decide +kernel
theorem dX10_groupSentences_4 : decode cX10_groupSentences 4 = .ok (.if_icmp .ge 22, 3) := by decide +kernel
theorem dX10_groupSentences_7 : decode cX10_groupSentences 7 = .ok (.iload_n 3, 1) := by decide +kernel
theorem dX10_groupSentences_8 : decode cX10_groupSentences 8 = .ok (.bipush 8, 2) := by decide +kernel
theorem dX10_groupSentences_10 : decode cX10_groupSentences 10 = .ok (.if_icmp .ge 16, 3) := by decide +kernel
theorem dX10_groupSentences_13 : decode cX10_groupSentences 13 = .ok (.aload_n 0, 1) := by decide +kernel
theorem dX10_groupSentences_14 : decode cX10_groupSentences 14 = .ok (.getfield 83, 3) := by decide +kernel
theorem dX10_groupSentences_17 : decode cX10_groupSentences 17 = .ok (.iload_n 3, 1) := by decide +kernel
theorem dX10_groupSentences_18 : decode cX10_groupSentences 18 = .ok (.iload_n 3, 1) := by decide +kernel
theorem dX10_groupSentences_19 : decode cX10_groupSentences 19 = .ok (.iastore, 1) := by decide +kernel
theorem dX10_groupSentences_20 : decode cX10_groupSentences 20 = .ok (.iinc 3 1, 3) := by decide +kernel
theorem dX10_groupSentences_23 : decode cX10_groupSentences 23 = .ok (.goto (-21), 3) := by decide +kernel
theorem dX10_groupSentences_26 : decode cX10_groupSentences 26 = .ok (.iconst 0, 1) := by decide +kernel
theorem dX10_groupSentences_27 : decode cX10_groupSentences 27 = .ok (.istore_n 3, 1) := by decide +kernel
theorem dX10_groupSentences_28 : decode cX10_groupSentences 28 = .ok (.iload_n 3, 1) := by decide +kernel
theorem dX10_groupSentences_29 : decode cX10_groupSentences 29 = .ok (.iload_n 2, 1) := by decide +kernel
theorem dX10_groupSentences_30 : decode cX10_groupSentences 30 = .ok (.if_icmp .ge 88, 3) := by decide +kernel
theorem dX10_groupSentences_33 : decode cX10_groupSentences 33 = .ok (.aload_n 0, 1) := by decide +kernel
theorem dX10_groupSentences_34 : decode cX10_groupSentences 34 = .ok (.getfield 10, 3) := by decide +kernel
theorem dX10_groupSentences_37 : decode cX10_groupSentences 37 = .ok (.iconst 2, 1) := by decide +kernel
theorem dX10_groupSentences_38 : decode cX10_groupSentences 38 = .ok (.iload_n 1, 1) := by decide +kernel
theorem dX10_groupSentences_39 : decode cX10_groupSentences 39 = .ok (.imul, 1) := by decide +kernel
theorem dX10_groupSentences_40 : decode cX10_groupSentences 40 = .ok (.iconst 1, 1) := by decide +kernel
theorem dX10_groupSentences_41 : decode cX10_groupSentences 41 = .ok (.iadd, 1) := by decide +kernel
theorem dX10_groupSentences_42 : decode cX10_groupSentences 42 = .ok (.iconst 2, 1) := by decide +kernel
theorem dX10_groupSentences_43 : decode cX10_groupSentences 43 = .ok (.iload_n 3, 1) := by decide +kernel
theorem dX10_groupSentences_44 : decode cX10_groupSentences 44 = .ok (.imul, 1) := by decide +kernel
theorem dX10_groupSentences_45 : decode cX10_groupSentences 45 = .ok (.iadd, 1) := by decide +kernel
theorem dX10_groupSentences_46 : decode cX10_groupSentences 46 = .ok (.invokevirtual 289, 3) := by decide +kernel
theorem dX10_groupSentences_49 : decode cX10_groupSentences 49 = .ok (.istore 4, 2) := by decide +kernel
theorem dX10_groupSentences_51 : decode cX10_groupSentences 51 = .ok (.aload_n 0, 1) := by decide +kernel
theorem dX10_groupSentences_52 : decode cX10_groupSentences 52 = .ok (.getfield 10, 3) := by decide +kernel
theorem dX10_groupSentences_55 : decode cX10_groupSentences 55 = .ok (.iconst 2, 1) := by decide +kernel
theorem dX10_groupSentences_56 : decode cX10_groupSentences 56 = .ok (.iload_n 1, 1) := by decide +kernel
theorem dX10_groupSentences_57 : decode cX10_groupSentences 57 = .ok (.imul, 1) := by decide +kernel
theorem dX10_groupSentences_58 : decode cX10_groupSentences 58 = .ok (.iconst 2, 1) := by decide +kernel
theorem dX10_groupSentences_59 : decode cX10_groupSentences 59 = .ok (.iadd, 1) := by decide +kernel
theorem dX10_groupSentences_60 : decode cX10_groupSentences 60 = .ok (.iconst 2, 1) := by decide +kernel
theorem dX10_groupSentences_61 : decode cX10_groupSentences 61 = .ok (.iload_n 3, 1) := by decide +kernel
theorem dX10_groupSentences_62 : decode cX10_groupSentences 62 = .ok (.imul, 1) := by decide +kernel
theorem dX10_groupSentences_63 : decode cX10_groupSentences 63 = .ok (.iadd, 1) := by decide +kernel
theorem dX10_groupSentences_64 : decode cX10_groupSentences 64 = .ok (.invokevirtual 289, 3) := by decide +kernel
theorem dX10_groupSentences_67 : decode cX10_groupSentences 67 = .ok (.istore 5, 2) := by decide +kernel
theorem dX10_groupSentences_69 : decode cX10_groupSentences 69 = .ok (.iload 4, 2) := by decide +kernel
theorem dX10_groupSentences_71 : decode cX10_groupSentences 71 = .ok (.iconst 0, 1) := by decide +kernel
theorem dX10_groupSentences_72 : decode cX10_groupSentences 72 = .ok (.iload_n 1, 1) := by decide +kernel
theorem dX10_groupSentences_73 : decode cX10_groupSentences 73 = .ok (.iconst 1, 1) := by decide +kernel
theorem dX10_groupSentences_74 : decode cX10_groupSentences 74 = .ok (.isub, 1) := by decide +kernel
theorem dX10_groupSentences_75 : decode cX10_groupSentences 75 = .ok (.invokestatic 99, 3) := by decide +kernel
theorem dX10_groupSentences_78 : decode cX10_groupSentences 78 = .ok (.ifCond .eq 34, 3) := by decide +kernel
theorem dX10_groupSentences_81 : decode cX10_groupSentences 81 = .ok (.iload 5, 2) := by decide +kernel
theorem dX10_groupSentences_83 : decode cX10_groupSentences 83 = .ok (.iconst 0, 1) := by decide +kernel
theorem dX10_groupSentences_84 : decode cX10_groupSentences 84 = .ok (.iload_n 1, 1) := by decide +kernel
theorem dX10_groupSentences_85 : decode cX10_groupSentences 85 = .ok (.iconst 1, 1) := by decide +kernel
theorem dX10_groupSentences_86 : decode cX10_groupSentences 86 = .ok (.isub, 1) := by decide +kernel
theorem dX10_groupSentences_87 : decode cX10_groupSentences 87 = .ok (.invokestatic 99, 3) := by decide +kernel
theorem dX10_groupSentences_90 : decode cX10_groupSentences 90 = .ok (.ifCond .eq 22, 3) := by decide +kernel
theorem dX10_groupSentences_93 : decode cX10_groupSentences 93 = .ok (.aload_n 0, 1) := by decide +kernel
theorem dX10_groupSentences_94 : decode cX10_groupSentences 94 = .ok (.iload_n 1, 1) := by decide +kernel
theorem dX10_groupSentences_95 : decode cX10_groupSentences 95 = .ok (.aload_n 0, 1) := by decide +kernel
theorem dX10_groupSentences_96 : decode cX10_groupSentences 96 = .ok (.getfield 83, 3) := by decide +kernel
theorem dX10_groupSentences_99 : decode cX10_groupSentences 99 = .ok (.iload 4, 2) := by decide +kernel
theorem dX10_groupSentences_101 : decode cX10_groupSentences 101 = .ok (.iaload, 1) := by decide +kernel
theorem dX10_groupSentences_102 : decode cX10_groupSentences 102 = .ok (.aload_n 0, 1) := by decide +kernel
theorem dX10_groupSentences_103 : decode cX10_groupSentences 103 = .ok (.getfield 83, 3) := by decide +kernel
theorem dX10_groupSentences_106 : decode cX10_groupSentences 106 = .ok (.iload 5, 2) := by decide +kernel
theorem dX10_groupSentences_108 : decode cX10_groupSentences 108 = .ok (.iaload, 1) := by decide +kernel
theorem dX10_groupSentences_109 : decode cX10_groupSentences 109 = .ok (.invokevirtual 353, 3) := by decide +kernel
theorem dX10_groupSentences_112 : decode cX10_groupSentences 112 = .ok (.iinc 3 1, 3) := by decide +kernel
theorem dX10_groupSentences_115 : decode cX10_groupSentences 115 = .ok (.goto (-87), 3) := by decide +kernel
theorem dX10_groupSentences_118 : decode cX10_groupSentences 118 = .ok (.return_, 1) := by decide +kernel
theorem dX10_hasBytesBeyond_0 : decode cX10_hasBytesBeyond 0 = .ok (.iconst 0, 1) := by decide +kernel
theorem dX10_hasBytesBeyond_1 : decode cX10_hasBytesBeyond 1 = .ok (.istore 4, 2) := by decide +kernel
theorem dX10_hasBytesBeyond_3 : decode cX10_hasBytesBeyond 3 = .ok (.iload 4, 2) := by decide +kernel
theorem dX10_hasBytesBeyond_5 : decode cX10_hasBytesBeyond 5 = .ok (.iload_n 1, 1) := by decide +kernel
theorem dX10_hasBytesBeyond_6 : decode cX10_hasBytesBeyond 6 = .ok (.if_icmp .ge 28, 3) := by decide +kernel
theorem dX10_hasBytesBeyond_9 : decode cX10_hasBytesBeyond 9 = .ok (.aload_n 0, 1) := by decide +kernel
theorem dX10_hasBytesBeyond_10 : decode cX10_hasBytesBeyond 10 = .ok (.getfield 10, 3) := by decide +kernel
theorem dX10_hasBytesBeyond_13 : decode cX10_hasBytesBeyond 13 = .ok (.iload 4, 2) := by decide +kernel
theorem dX10_hasBytesBeyond_15 : decode cX10_hasBytesBeyond 15 = .ok (.invokevirtual 289, 3) := by decide +kernel
theorem dX10_hasBytesBeyond_18 : decode cX10_hasBytesBeyond 18 = .ok (.iload_n 2, 1) := by decide +kernel
theorem dX10_hasBytesBeyond_19 : decode cX10_hasBytesBeyond 19 = .ok (.iload_n 3, 1) := by decide +kernel
theorem dX10_hasBytesBeyond_20 : decode cX10_hasBytesBeyond 20 = .ok (.invokestatic 99, 3) := by decide +kernel
theorem dX10_hasBytesBeyond_23 : decode cX10_hasBytesBeyond 23 = .ok (.ifCond .ne 5, 3) := by decide +kernel
theorem dX10_hasBytesBeyond_26 : decode cX10_hasBytesBeyond 26 = .ok (.iconst 1, 1) := by decide +kernel
theorem dX10_hasBytesBeyond_27 : decode cX10_hasBytesBeyond 27 = .ok (.ireturn, 1) := by decide +kernel
theorem dX10_hasBytesBeyond_28 : decode cX10_hasBytesBeyond 28 = .ok (.iinc 4 1, 3) := by decide +kernel
theorem dX10_hasBytesBeyond_31 : decode cX10_hasBytesBeyond 31 = .ok (.goto (-28), 3) := by decide +kernel
theorem dX10_hasBytesBeyond_34 : decode cX10_hasBytesBeyond 34 = .ok (.iconst 0, 1) := by decide +kernel
theorem dX10_hasBytesBeyond_35 : decode cX10_hasBytesBeyond 35 = .ok (.ireturn, 1) := by decide +kernel
theorem dX10_home_0 : decode cX10_home 0 = .ok (.aload_n 0, 1) := by decide +kernel
theorem dX10_home_1 : decode cX10_home 1 = .ok (.getfield 58, 3) := by decide +kernel
theorem dX10_home_4 : decode cX10_home 4 = .ok (.iload_n 1, 1) := by decide +kernel
theorem dX10_home_5 : decode cX10_home 5 = .ok (.invokevirtual 239, 3) := by decide +kernel
theorem dX10_home_8 : decode cX10_home 8 = .ok (.ifCond .eq 12, 3) := by decide +kernel
theorem dX10_home_11 : decode cX10_home 11 = .ok (.iload_n 2, 1) := by decide +kernel
theorem dX10_home_12 : decode cX10_home 12 = .ok (.iconst 1, 1) := by decide +kernel
theorem dX10_home_13 : decode cX10_home 13 = .ok (.iconst 5, 1) := by decide +kernel
theorem dX10_home_14 : decode cX10_home 14 = .ok (.invokestatic 99, 3) := by decide +kernel
theorem dX10_home_17 : decode cX10_home 17 = .ok (.ifCond .ne 5, 3) := by decide +kernel
theorem dX10_home_20 : decode cX10_home 20 = .ok (.iconst (-1), 1) := by decide +kernel
theorem dX10_home_21 : decode cX10_home 21 = .ok (.ireturn, 1) := by decide +kernel
theorem dX10_home_22 : decode cX10_home 22 = .ok (.iload_n 3, 1) := by decide +kernel
theorem dX10_home_23 : decode cX10_home 23 = .ok (.bipush 10, 2) := by decide +kernel
theorem dX10_home_25 : decode cX10_home 25 = .ok (.if_icmp .eq 16, 3) := by decide +kernel
theorem dX10_home_28 : decode cX10_home 28 = .ok (.iload_n 3, 1) := by decide +kernel
theorem dX10_home_29 : decode cX10_home 29 = .ok (.iconst 0, 1) := by decide +kernel
theorem dX10_home_30 : decode cX10_home 30 = .ok (.iload_n 2, 1) := by decide +kernel
theorem dX10_home_31 : decode cX10_home 31 = .ok (.iconst 1, 1) := by decide +kernel
theorem dX10_home_32 : decode cX10_home 32 = .ok (.isub, 1) := by decide +kernel
theorem dX10_home_33 : decode cX10_home 33 = .ok (.invokestatic 99, 3) := by decide +kernel
theorem dX10_home_36 : decode cX10_home 36 = .ok (.ifCond .ne 5, 3) := by decide +kernel
theorem dX10_home_39 : decode cX10_home 39 = .ok (.iconst (-1), 1) := by decide +kernel
theorem dX10_home_40 : decode cX10_home 40 = .ok (.ireturn, 1) := by decide +kernel
theorem dX10_home_41 : decode cX10_home 41 = .ok (.aload_n 0, 1) := by decide +kernel
theorem dX10_home_42 : decode cX10_home 42 = .ok (.getfield 70, 3) := by decide +kernel
theorem dX10_home_45 : decode cX10_home 45 = .ok (.iload_n 1, 1) := by decide +kernel
theorem dX10_home_46 : decode cX10_home 46 = .ok (.iload_n 2, 1) := by decide +kernel
theorem dX10_home_47 : decode cX10_home 47 = .ok (.invokevirtual 242, 3) := by decide +kernel
theorem dX10_home_50 : decode cX10_home 50 = .ok (.istore 4, 2) := by decide +kernel
theorem dX10_home_52 : decode cX10_home 52 = .ok (.iload_n 3, 1) := by decide +kernel
theorem dX10_home_53 : decode cX10_home 53 = .ok (.bipush 10, 2) := by decide +kernel
theorem dX10_home_55 : decode cX10_home 55 = .ok (.if_icmp .ne 8, 3) := by decide +kernel
theorem dX10_home_58 : decode cX10_home 58 = .ok (.iload 4, 2) := by decide +kernel
theorem dX10_home_60 : decode cX10_home 60 = .ok (.goto 12, 3) := by decide +kernel
theorem dX10_home_63 : decode cX10_home 63 = .ok (.aload_n 0, 1) := by decide +kernel
theorem dX10_home_64 : decode cX10_home 64 = .ok (.getfield 70, 3) := by decide +kernel
theorem dX10_home_67 : decode cX10_home 67 = .ok (.getfield 245, 3) := by decide +kernel
theorem dX10_home_70 : decode cX10_home 70 = .ok (.iload_n 3, 1) := by decide +kernel
theorem dX10_home_71 : decode cX10_home 71 = .ok (.iaload, 1) := by decide +kernel
theorem dX10_home_72 : decode cX10_home 72 = .ok (.ireturn, 1) := by decide +kernel
theorem dX10_hung_0 : decode cX10_hung 0 = .ok (.iload_n 1, 1) := by decide +kernel
theorem dX10_hung_1 : decode cX10_hung 1 = .ok (.iconst 0, 1) := by decide +kernel
theorem dX10_hung_2 : decode cX10_hung 2 = .ok (.iconst 1, 1) := by decide +kernel
theorem dX10_hung_3 : decode cX10_hung 3 = .ok (.invokestatic 99, 3) := by decide +kernel
theorem dX10_hung_6 : decode cX10_hung 6 = .ok (.ifCond .ne 5, 3) := by decide +kernel
theorem dX10_hung_9 : decode cX10_hung 9 = .ok (.iconst (-1), 1) := by decide +kernel
theorem dX10_hung_10 : decode cX10_hung 10 = .ok (.ireturn, 1) := by decide +kernel
theorem dX10_hung_11 : decode cX10_hung 11 = .ok (.bipush (-2), 2) := by decide +kernel
theorem dX10_hung_13 : decode cX10_hung 13 = .ok (.istore_n 2, 1) := by decide +kernel
theorem dX10_hung_14 : decode cX10_hung 14 = .ok (.iconst (-1), 1) := by decide +kernel
theorem dX10_hung_15 : decode cX10_hung 15 = .ok (.istore_n 3, 1) := by decide +kernel
theorem dX10_hung_16 : decode cX10_hung 16 = .ok (.iconst 0, 1) := by decide +kernel
theorem dX10_hung_17 : decode cX10_hung 17 = .ok (.istore 4, 2) := by decide +kernel
theorem dX10_hung_19 : decode cX10_hung 19 = .ok (.iload 4, 2) := by decide +kernel
theorem dX10_hung_21 : decode cX10_hung 21 = .ok (.bipush 100, 2) := by decide +kernel
theorem dX10_hung_23 : decode cX10_hung 23 = .ok (.if_icmp .ge 48, 3) := by decide +kernel
theorem dX10_hung_26 : decode cX10_hung 26 = .ok (.aload_n 0, 1) := by decide +kernel
theorem dX10_hung_27 : decode cX10_hung 27 = .ok (.iload 4, 2) := by decide +kernel
theorem dX10_hung_29 : decode cX10_hung 29 = .ok (.invokevirtual 266, 3) := by decide +kernel
theorem dX10_hung_32 : decode cX10_hung 32 = .ok (.ifCond .ne 6, 3) := by decide +kernel
theorem dX10_hung_35 : decode cX10_hung 35 = .ok (.goto 30, 3) := by decide +kernel
theorem dX10_hung_38 : decode cX10_hung 38 = .ok (.aload_n 0, 1) := by decide +kernel
theorem dX10_hung_39 : decode cX10_hung 39 = .ok (.getfield 51, 3) := by decide +kernel
theorem dX10_hung_42 : decode cX10_hung 42 = .ok (.aload_n 0, 1) := by decide +kernel
theorem dX10_hung_43 : decode cX10_hung 43 = .ok (.getfield 58, 3) := by decide +kernel
theorem dX10_hung_46 : decode cX10_hung 46 = .ok (.iload 4, 2) := by decide +kernel
theorem dX10_hung_48 : decode cX10_hung 48 = .ok (.invokevirtual 269, 3) := by decide +kernel
theorem dX10_hung_51 : decode cX10_hung 51 = .ok (.istore 5, 2) := by decide +kernel
theorem dX10_hung_53 : decode cX10_hung 53 = .ok (.iload 5, 2) := by decide +kernel
theorem dX10_hung_55 : decode cX10_hung 55 = .ok (.iload_n 3, 1) := by decide +kernel
theorem dX10_hung_56 : decode cX10_hung 56 = .ok (.if_icmp .le 9, 3) := by decide +kernel
theorem dX10_hung_59 : decode cX10_hung 59 = .ok (.iload 5, 2) := by decide +kernel
theorem dX10_hung_61 : decode cX10_hung 61 = .ok (.istore_n 3, 1) := by decide +kernel
theorem dX10_hung_62 : decode cX10_hung 62 = .ok (.iload 4, 2) := by decide +kernel
theorem dX10_hung_64 : decode cX10_hung 64 = .ok (.istore_n 2, 1) := by decide +kernel
theorem dX10_hung_65 : decode cX10_hung 65 = .ok (.iinc 4 1, 3) := by decide +kernel
theorem dX10_hung_68 : decode cX10_hung 68 = .ok (.goto (-49), 3) := by decide +kernel
theorem dX10_hung_71 : decode cX10_hung 71 = .ok (.iload_n 1, 1) := by decide +kernel
theorem dX10_hung_72 : decode cX10_hung 72 = .ok (.ifCond .ne 7, 3) := by decide +kernel
theorem dX10_hung_75 : decode cX10_hung 75 = .ok (.iload_n 2, 1) := by decide +kernel
theorem dX10_hung_76 : decode cX10_hung 76 = .ok (.goto 8, 3) := by decide +kernel
theorem dX10_hung_79 : decode cX10_hung 79 = .ok (.iload_n 3, 1) := by decide +kernel
theorem dX10_hung_80 : decode cX10_hung 80 = .ok (.iconst 0, 1) := by decide +kernel
theorem dX10_hung_81 : decode cX10_hung 81 = .ok (.invokestatic 272, 3) := by decide +kernel
theorem dX10_hung_84 : decode cX10_hung 84 = .ok (.ireturn, 1) := by decide +kernel
theorem dX10_isFreeForLamp_0 : decode cX10_isFreeForLamp 0 = .ok (.aload_n 0, 1) := by decide +kernel
theorem dX10_isFreeForLamp_1 : decode cX10_isFreeForLamp 1 = .ok (.getfield 19, 3) := by decide +kernel
theorem dX10_isFreeForLamp_4 : decode cX10_isFreeForLamp 4 = .ok (.iload_n 1, 1) := by decide +kernel
theorem dX10_isFreeForLamp_5 : decode cX10_isFreeForLamp 5 = .ok (.invokevirtual 324, 3) := by decide +kernel
theorem dX10_isFreeForLamp_8 : decode cX10_isFreeForLamp 8 = .ok (.ifCond .ne 49, 3) := by decide +kernel
theorem dX10_isFreeForLamp_11 : decode cX10_isFreeForLamp 11 = .ok (.aload_n 0, 1) := by decide +kernel
theorem dX10_isFreeForLamp_12 : decode cX10_isFreeForLamp 12 = .ok (.getfield 58, 3) := by decide +kernel
theorem dX10_isFreeForLamp_15 : decode cX10_isFreeForLamp 15 = .ok (.getfield 141, 3) := by decide +kernel
theorem dX10_isFreeForLamp_18 : decode cX10_isFreeForLamp 18 = .ok (.iload_n 1, 1) := by decide +kernel
theorem dX10_isFreeForLamp_19 : decode cX10_isFreeForLamp 19 = .ok (.invokestatic 330, 3) := by decide +kernel
theorem dX10_isFreeForLamp_22 : decode cX10_isFreeForLamp 22 = .ok (.ifCond .ne 35, 3) := by decide +kernel
theorem dX10_isFreeForLamp_25 : decode cX10_isFreeForLamp 25 = .ok (.aload_n 0, 1) := by decide +kernel
theorem dX10_isFreeForLamp_26 : decode cX10_isFreeForLamp 26 = .ok (.getfield 58, 3) := by decide +kernel
theorem dX10_isFreeForLamp_29 : decode cX10_isFreeForLamp 29 = .ok (.getfield 191, 3) := by decide +kernel
theorem dX10_isFreeForLamp_32 : decode cX10_isFreeForLamp 32 = .ok (.iload_n 1, 1) := by decide +kernel
theorem dX10_isFreeForLamp_33 : decode cX10_isFreeForLamp 33 = .ok (.invokestatic 330, 3) := by decide +kernel
theorem dX10_isFreeForLamp_36 : decode cX10_isFreeForLamp 36 = .ok (.ifCond .ne 21, 3) := by decide +kernel
theorem dX10_isFreeForLamp_39 : decode cX10_isFreeForLamp 39 = .ok (.aload_n 0, 1) := by decide +kernel
theorem dX10_isFreeForLamp_40 : decode cX10_isFreeForLamp 40 = .ok (.getfield 51, 3) := by decide +kernel
theorem dX10_isFreeForLamp_43 : decode cX10_isFreeForLamp 43 = .ok (.getfield 160, 3) := by decide +kernel
theorem dX10_isFreeForLamp_46 : decode cX10_isFreeForLamp 46 = .ok (.iload_n 1, 1) := by decide +kernel
theorem dX10_isFreeForLamp_47 : decode cX10_isFreeForLamp 47 = .ok (.invokestatic 330, 3) := by decide +kernel
theorem dX10_isFreeForLamp_50 : decode cX10_isFreeForLamp 50 = .ok (.ifCond .ne 7, 3) := by decide +kernel
theorem dX10_isFreeForLamp_53 : decode cX10_isFreeForLamp 53 = .ok (.iconst 1, 1) := by decide +kernel
theorem dX10_isFreeForLamp_54 : decode cX10_isFreeForLamp 54 = .ok (.goto 4, 3) := by decide +kernel
theorem dX10_isFreeForLamp_57 : decode cX10_isFreeForLamp 57 = .ok (.iconst 0, 1) := by decide +kernel
theorem dX10_isFreeForLamp_58 : decode cX10_isFreeForLamp 58 = .ok (.ireturn, 1) := by decide +kernel
theorem dX10_joinGroups_0 : decode cX10_joinGroups 0 = .ok (.iconst 0, 1) := by decide +kernel
theorem dX10_joinGroups_1 : decode cX10_joinGroups 1 = .ok (.istore 4, 2) := by decide +kernel
theorem dX10_joinGroups_3 : decode cX10_joinGroups 3 = .ok (.iload 4, 2) := by decide +kernel
theorem dX10_joinGroups_5 : decode cX10_joinGroups 5 = .ok (.iload_n 1, 1) := by decide +kernel
theorem dX10_joinGroups_6 : decode cX10_joinGroups 6 = .ok (.if_icmp .ge 28, 3) := by decide +kernel
theorem dX10_joinGroups_9 : decode cX10_joinGroups 9 = .ok (.aload_n 0, 1) := by decide +kernel
theorem dX10_joinGroups_10 : decode cX10_joinGroups 10 = .ok (.getfield 83, 3) := by decide +kernel
theorem dX10_joinGroups_13 : decode cX10_joinGroups 13 = .ok (.iload 4, 2) := by decide +kernel
theorem dX10_joinGroups_15 : decode cX10_joinGroups 15 = .ok (.iaload, 1) := by decide +kernel
theorem dX10_joinGroups_16 : decode cX10_joinGroups 16 = .ok (.iload_n 3, 1) := by decide +kernel
theorem dX10_joinGroups_17 : decode cX10_joinGroups 17 = .ok (.if_icmp .ne 11, 3) := by decide +kernel
theorem dX10_joinGroups_20 : decode cX10_joinGroups 20 = .ok (.aload_n 0, 1) := by decide +kernel
theorem dX10_joinGroups_21 : decode cX10_joinGroups 21 = .ok (.getfield 83, 3) := by decide +kernel
theorem dX10_joinGroups_24 : decode cX10_joinGroups 24 = .ok (.iload 4, 2) := by decide +kernel
theorem dX10_joinGroups_26 : decode cX10_joinGroups 26 = .ok (.iload_n 2, 1) := by decide +kernel
theorem dX10_joinGroups_27 : decode cX10_joinGroups 27 = .ok (.iastore, 1) := by decide +kernel
theorem dX10_joinGroups_28 : decode cX10_joinGroups 28 = .ok (.iinc 4 1, 3) := by decide +kernel
theorem dX10_joinGroups_31 : decode cX10_joinGroups 31 = .ok (.goto (-28), 3) := by decide +kernel
theorem dX10_joinGroups_34 : decode cX10_joinGroups 34 = .ok (.return_, 1) := by decide +kernel
theorem dX10_judge_0 : decode cX10_judge 0 = .ok (.aload_n 0, 1) := by decide +kernel
theorem dX10_judge_1 : decode cX10_judge 1 = .ok (.getfield 19, 3) := by decide +kernel
theorem dX10_judge_4 : decode cX10_judge 4 = .ok (.iload_n 2, 1) := by decide +kernel
theorem dX10_judge_5 : decode cX10_judge 5 = .ok (.iload_n 3, 1) := by decide +kernel
theorem dX10_judge_6 : decode cX10_judge 6 = .ok (.invokevirtual 137, 3) := by decide +kernel
theorem dX10_judge_9 : decode cX10_judge 9 = .ok (.istore 4, 2) := by decide +kernel
theorem dX10_judge_11 : decode cX10_judge 11 = .ok (.iload_n 1, 1) := by decide +kernel
theorem dX10_judge_12 : decode cX10_judge 12 = .ok (.iconst 0, 1) := by decide +kernel
theorem dX10_judge_13 : decode cX10_judge 13 = .ok (.iconst 1, 1) := by decide +kernel
theorem dX10_judge_14 : decode cX10_judge 14 = .ok (.invokestatic 99, 3) := by decide +kernel
theorem dX10_judge_17 : decode cX10_judge 17 = .ok (.ifCond .eq 25, 3) := by decide +kernel
theorem dX10_judge_20 : decode cX10_judge 20 = .ok (.iload 4, 2) := by decide +kernel
theorem dX10_judge_22 : decode cX10_judge 22 = .ok (.iconst (-1), 1) := by decide +kernel
theorem dX10_judge_23 : decode cX10_judge 23 = .ok (.if_icmp .eq 19, 3) := by decide +kernel
theorem dX10_judge_26 : decode cX10_judge 26 = .ok (.aload_n 0, 1) := by decide +kernel
theorem dX10_judge_27 : decode cX10_judge 27 = .ok (.getfield 58, 3) := by decide +kernel
theorem dX10_judge_30 : decode cX10_judge 30 = .ok (.getfield 141, 3) := by decide +kernel
theorem dX10_judge_33 : decode cX10_judge 33 = .ok (.iconst 1, 1) := by decide +kernel
theorem dX10_judge_34 : decode cX10_judge 34 = .ok (.iload_n 1, 1) := by decide +kernel
theorem dX10_judge_35 : decode cX10_judge 35 = .ok (.isub, 1) := by decide +kernel
theorem dX10_judge_36 : decode cX10_judge 36 = .ok (.iaload, 1) := by decide +kernel
theorem dX10_judge_37 : decode cX10_judge 37 = .ok (.iload 4, 2) := by decide +kernel
theorem dX10_judge_39 : decode cX10_judge 39 = .ok (.if_icmp .ne 5, 3) := by decide +kernel
theorem dX10_judge_42 : decode cX10_judge 42 = .ok (.iconst 0, 1) := by decide +kernel
theorem dX10_judge_43 : decode cX10_judge 43 = .ok (.ireturn, 1) := by decide +kernel
theorem dX10_judge_44 : decode cX10_judge 44 = .ok (.aload_n 0, 1) := by decide +kernel
theorem dX10_judge_45 : decode cX10_judge 45 = .ok (.getfield 58, 3) := by decide +kernel
theorem dX10_judge_48 : decode cX10_judge 48 = .ok (.getfield 141, 3) := by decide +kernel
theorem dX10_judge_51 : decode cX10_judge 51 = .ok (.iload_n 1, 1) := by decide +kernel
theorem dX10_judge_52 : decode cX10_judge 52 = .ok (.iload 4, 2) := by decide +kernel
theorem dX10_judge_54 : decode cX10_judge 54 = .ok (.iastore, 1) := by decide +kernel
theorem dX10_judge_55 : decode cX10_judge 55 = .ok (.iconst 1, 1) := by decide +kernel
theorem dX10_judge_56 : decode cX10_judge 56 = .ok (.ireturn, 1) := by decide +kernel
theorem dX10_keep_0 : decode cX10_keep 0 = .ok (.aload_n 0, 1) := by decide +kernel
theorem dX10_keep_1 : decode cX10_keep 1 = .ok (.getfield 62, 3) := by decide +kernel
theorem dX10_keep_4 : decode cX10_keep 4 = .ok (.aload_n 0, 1) := by decide +kernel
theorem dX10_keep_5 : decode cX10_keep 5 = .ok (.getfield 58, 3) := by decide +kernel
theorem dX10_keep_8 : decode cX10_keep 8 = .ok (.invokevirtual 303, 3) := by decide +kernel
theorem dX10_keep_11 : decode cX10_keep 11 = .ok (.aload_n 0, 1) := by decide +kernel
theorem dX10_keep_12 : decode cX10_keep 12 = .ok (.iconst 1, 1) := by decide +kernel
theorem dX10_keep_13 : decode cX10_keep 13 = .ok (.putfield 87, 3) := by decide +kernel
theorem dX10_keep_16 : decode cX10_keep 16 = .ok (.aload_n 0, 1) := by decide +kernel
theorem dX10_keep_17 : decode cX10_keep 17 = .ok (.getfield 58, 3) := by decide +kernel
theorem dX10_keep_20 : decode cX10_keep 20 = .ok (.getfield 305, 3) := by decide +kernel
theorem dX10_keep_23 : decode cX10_keep 23 = .ok (.ireturn, 1) := by decide +kernel
theorem dX10_lamp_0 : decode cX10_lamp 0 = .ok (.iload_n 1, 1) := by decide +kernel
theorem dX10_lamp_1 : decode cX10_lamp 1 = .ok (.iconst 0, 1) := by decide +kernel
theorem dX10_lamp_2 : decode cX10_lamp 2 = .ok (.iconst 3, 1) := by decide +kernel
theorem dX10_lamp_3 : decode cX10_lamp 3 = .ok (.invokestatic 99, 3) := by decide +kernel
theorem dX10_lamp_6 : decode cX10_lamp 6 = .ok (.ifCond .ne 5, 3) := by decide +kernel
theorem dX10_lamp_9 : decode cX10_lamp 9 = .ok (.iconst 0, 1) := by decide +kernel
theorem dX10_lamp_10 : decode cX10_lamp 10 = .ok (.ireturn, 1) := by decide +kernel
theorem dX10_lamp_11 : decode cX10_lamp 11 = .ok (.aload_n 0, 1) := by decide +kernel
theorem dX10_lamp_12 : decode cX10_lamp 12 = .ok (.getfield 19, 3) := by decide +kernel
theorem dX10_lamp_15 : decode cX10_lamp 15 = .ok (.iload_n 2, 1) := by decide +kernel
theorem dX10_lamp_16 : decode cX10_lamp 16 = .ok (.iload_n 3, 1) := by decide +kernel
theorem dX10_lamp_17 : decode cX10_lamp 17 = .ok (.invokevirtual 137, 3) := by decide +kernel
theorem dX10_lamp_20 : decode cX10_lamp 20 = .ok (.istore 4, 2) := by decide +kernel
theorem dX10_lamp_22 : decode cX10_lamp 22 = .ok (.iload_n 2, 1) := by decide +kernel
theorem dX10_lamp_23 : decode cX10_lamp 23 = .ok (.iconst (-1), 1) := by decide +kernel
theorem dX10_lamp_24 : decode cX10_lamp 24 = .ok (.if_icmp .eq 11, 3) := by decide +kernel
theorem dX10_lamp_27 : decode cX10_lamp 27 = .ok (.iload 4, 2) := by decide +kernel
theorem dX10_lamp_29 : decode cX10_lamp 29 = .ok (.iconst (-1), 1) := by decide +kernel
theorem dX10_lamp_30 : decode cX10_lamp 30 = .ok (.if_icmp .ne 5, 3) := by decide +kernel
theorem dX10_lamp_33 : decode cX10_lamp 33 = .ok (.iconst 0, 1) := by decide +kernel
theorem dX10_lamp_34 : decode cX10_lamp 34 = .ok (.ireturn, 1) := by decide +kernel
theorem dX10_lamp_35 : decode cX10_lamp 35 = .ok (.aload_n 0, 1) := by decide +kernel
theorem dX10_lamp_36 : decode cX10_lamp 36 = .ok (.getfield 51, 3) := by decide +kernel
theorem dX10_lamp_39 : decode cX10_lamp 39 = .ok (.getfield 160, 3) := by decide +kernel
theorem dX10_lamp_42 : decode cX10_lamp 42 = .ok (.iload_n 1, 1) := by decide +kernel
theorem dX10_lamp_43 : decode cX10_lamp 43 = .ok (.iload 4, 2) := by decide +kernel
theorem dX10_lamp_45 : decode cX10_lamp 45 = .ok (.iastore, 1) := by decide +kernel
theorem dX10_lamp_46 : decode cX10_lamp 46 = .ok (.iconst 1, 1) := by decide +kernel
theorem dX10_lamp_47 : decode cX10_lamp 47 = .ok (.ireturn, 1) := by decide +kernel
theorem dX10_law_0 : decode cX10_law 0 = .ok (.iload_n 1, 1) := by decide +kernel
theorem dX10_law_1 : decode cX10_law 1 = .ok (.iconst 1, 1) := by decide +kernel
theorem dX10_law_2 : decode cX10_law 2 = .ok (.sipush 240, 3) := by decide +kernel
theorem dX10_law_5 : decode cX10_law 5 = .ok (.invokestatic 99, 3) := by decide +kernel
theorem dX10_law_8 : decode cX10_law 8 = .ok (.ifCond .eq 14, 3) := by decide +kernel
theorem dX10_law_11 : decode cX10_law 11 = .ok (.iload_n 1, 1) := by decide +kernel
theorem dX10_law_12 : decode cX10_law 12 = .ok (.aload_n 0, 1) := by decide +kernel
theorem dX10_law_13 : decode cX10_law 13 = .ok (.getfield 10, 3) := by decide +kernel
theorem dX10_law_16 : decode cX10_law 16 = .ok (.getfield 91, 3) := by decide +kernel
theorem dX10_law_19 : decode cX10_law 19 = .ok (.if_icmp .le 5, 3) := by decide +kernel
theorem dX10_law_22 : decode cX10_law 22 = .ok (.iconst (-1), 1) := by decide +kernel
theorem dX10_law_23 : decode cX10_law 23 = .ok (.ireturn, 1) := by decide +kernel
theorem dX10_law_24 : decode cX10_law 24 = .ok (.aload_n 0, 1) := by decide +kernel
theorem dX10_law_25 : decode cX10_law 25 = .ok (.getfield 10, 3) := by decide +kernel
theorem dX10_law_28 : decode cX10_law 28 = .ok (.iload_n 1, 1) := by decide +kernel
theorem dX10_law_29 : decode cX10_law 29 = .ok (.invokevirtual 103, 3) := by decide +kernel
theorem dX10_law_32 : decode cX10_law 32 = .ok (.aload_n 0, 1) := by decide +kernel
theorem dX10_law_33 : decode cX10_law 33 = .ok (.getfield 35, 3) := by decide +kernel
theorem dX10_law_36 : decode cX10_law 36 = .ok (.invokevirtual 123, 3) := by decide +kernel
theorem dX10_law_39 : decode cX10_law 39 = .ok (.istore_n 2, 1) := by decide +kernel
theorem dX10_law_40 : decode cX10_law 40 = .ok (.aload_n 0, 1) := by decide +kernel
theorem dX10_law_41 : decode cX10_law 41 = .ok (.getfield 10, 3) := by decide +kernel
theorem dX10_law_44 : decode cX10_law 44 = .ok (.invokevirtual 110, 3) := by decide +kernel
theorem dX10_law_47 : decode cX10_law 47 = .ok (.iload_n 2, 1) := by decide +kernel
theorem dX10_law_48 : decode cX10_law 48 = .ok (.ifCond .ne 11, 3) := by decide +kernel
theorem dX10_law_51 : decode cX10_law 51 = .ok (.aload_n 0, 1) := by decide +kernel
theorem dX10_law_52 : decode cX10_law 52 = .ok (.getfield 10, 3) := by decide +kernel
theorem dX10_law_55 : decode cX10_law 55 = .ok (.getfield 113, 3) := by decide +kernel
theorem dX10_law_58 : decode cX10_law 58 = .ok (.ireturn, 1) := by decide +kernel
theorem dX10_law_59 : decode cX10_law 59 = .ok (.aload_n 0, 1) := by decide +kernel
theorem dX10_law_60 : decode cX10_law 60 = .ok (.getfield 26, 3) := by decide +kernel
theorem dX10_law_63 : decode cX10_law 63 = .ok (.aload_n 0, 1) := by decide +kernel
theorem dX10_law_64 : decode cX10_law 64 = .ok (.getfield 35, 3) := by decide +kernel
theorem dX10_law_67 : decode cX10_law 67 = .ok (.getfield 127, 3) := by decide +kernel
theorem dX10_law_70 : decode cX10_law 70 = .ok (.invokevirtual 130, 3) := by decide +kernel
theorem dX10_law_73 : decode cX10_law 73 = .ok (.aload_n 0, 1) := by decide +kernel
theorem dX10_law_74 : decode cX10_law 74 = .ok (.getfield 26, 3) := by decide +kernel
theorem dX10_law_77 : decode cX10_law 77 = .ok (.getfield 134, 3) := by decide +kernel
theorem dX10_law_80 : decode cX10_law 80 = .ok (.ireturn, 1) := by decide +kernel
theorem dX10_longestOfGroup_0 : decode cX10_longestOfGroup 0 = .ok (.iconst (-1), 1) := by decide +kernel
theorem dX10_longestOfGroup_1 : decode cX10_longestOfGroup 1 = .ok (.istore_n 3, 1) := by decide +kernel
theorem dX10_longestOfGroup_2 : decode cX10_longestOfGroup 2 = .ok (.iconst 0, 1) := by decide +kernel
theorem dX10_longestOfGroup_3 : decode cX10_longestOfGroup 3 = .ok (.istore 4, 2) := by decide +kernel
theorem dX10_longestOfGroup_5 : decode cX10_longestOfGroup 5 = .ok (.iload 4, 2) := by decide +kernel
theorem dX10_longestOfGroup_7 : decode cX10_longestOfGroup 7 = .ok (.iload_n 1, 1) := by decide +kernel
theorem dX10_longestOfGroup_8 : decode cX10_longestOfGroup 8 = .ok (.if_icmp .ge 54, 3) := by decide +kernel
theorem dX10_longestOfGroup_11 : decode cX10_longestOfGroup 11 = .ok (.aload_n 0, 1) := by decide +kernel
theorem dX10_longestOfGroup_12 : decode cX10_longestOfGroup 12 = .ok (.getfield 83, 3) := by decide +kernel
theorem dX10_longestOfGroup_15 : decode cX10_longestOfGroup 15 = .ok (.iload 4, 2) := by decide +kernel
theorem dX10_longestOfGroup_17 : decode cX10_longestOfGroup 17 = .ok (.iaload, 1) := by decide +kernel
theorem dX10_longestOfGroup_18 : decode cX10_longestOfGroup 18 = .ok (.iload_n 2, 1) := by decide +kernel
theorem dX10_longestOfGroup_19 : decode cX10_longestOfGroup 19 = .ok (.if_icmp .ne 37, 3) := by decide +kernel
theorem dX10_longestOfGroup_22 : decode cX10_longestOfGroup 22 = .ok (.iload_n 3, 1) := by decide +kernel
theorem dX10_longestOfGroup_23 : decode cX10_longestOfGroup 23 = .ok (.sipush 256, 3) := by decide +kernel
theorem dX10_longestOfGroup_26 : decode cX10_longestOfGroup 26 = .ok (.aload_n 0, 1) := by decide +kernel
theorem dX10_longestOfGroup_27 : decode cX10_longestOfGroup 27 = .ok (.getfield 10, 3) := by decide +kernel
theorem dX10_longestOfGroup_30 : decode cX10_longestOfGroup 30 = .ok (.iconst 2, 1) := by decide +kernel
theorem dX10_longestOfGroup_31 : decode cX10_longestOfGroup 31 = .ok (.iload 4, 2) := by decide +kernel
theorem dX10_longestOfGroup_33 : decode cX10_longestOfGroup 33 = .ok (.imul, 1) := by decide +kernel
theorem dX10_longestOfGroup_34 : decode cX10_longestOfGroup 34 = .ok (.invokevirtual 289, 3) := by decide +kernel
theorem dX10_longestOfGroup_37 : decode cX10_longestOfGroup 37 = .ok (.imul, 1) := by decide +kernel
theorem dX10_longestOfGroup_38 : decode cX10_longestOfGroup 38 = .ok (.aload_n 0, 1) := by decide +kernel
theorem dX10_longestOfGroup_39 : decode cX10_longestOfGroup 39 = .ok (.getfield 10, 3) := by decide +kernel
theorem dX10_longestOfGroup_42 : decode cX10_longestOfGroup 42 = .ok (.iconst 2, 1) := by decide +kernel
theorem dX10_longestOfGroup_43 : decode cX10_longestOfGroup 43 = .ok (.iload 4, 2) := by decide +kernel
theorem dX10_longestOfGroup_45 : decode cX10_longestOfGroup 45 = .ok (.imul, 1) := by decide +kernel
theorem dX10_longestOfGroup_46 : decode cX10_longestOfGroup 46 = .ok (.iconst 1, 1) := by decide +kernel
theorem dX10_longestOfGroup_47 : decode cX10_longestOfGroup 47 = .ok (.iadd, 1) := by decide +kernel
theorem dX10_longestOfGroup_48 : decode cX10_longestOfGroup 48 = .ok (.invokevirtual 289, 3) := by decide +kernel
theorem dX10_longestOfGroup_51 : decode cX10_longestOfGroup 51 = .ok (.iadd, 1) := by decide +kernel
theorem dX10_longestOfGroup_52 : decode cX10_longestOfGroup 52 = .ok (.invokestatic 272, 3) := by decide +kernel
theorem dX10_longestOfGroup_55 : decode cX10_longestOfGroup 55 = .ok (.istore_n 3, 1) := by decide +kernel
theorem dX10_longestOfGroup_56 : decode cX10_longestOfGroup 56 = .ok (.iinc 4 1, 3) := by decide +kernel
theorem dX10_longestOfGroup_59 : decode cX10_longestOfGroup 59 = .ok (.goto (-54), 3) := by decide +kernel
theorem dX10_longestOfGroup_62 : decode cX10_longestOfGroup 62 = .ok (.iload_n 3, 1) := by decide +kernel
theorem dX10_longestOfGroup_63 : decode cX10_longestOfGroup 63 = .ok (.ireturn, 1) := by decide +kernel
theorem dX10_market_0 : decode cX10_market 0 = .ok (.iload_n 1, 1) := by decide +kernel
theorem dX10_market_1 : decode cX10_market 1 = .ok (.iconst 1, 1) := by decide +kernel
theorem dX10_market_2 : decode cX10_market 2 = .ok (.sipush 140, 3) := by decide +kernel
theorem dX10_market_5 : decode cX10_market 5 = .ok (.invokestatic 99, 3) := by decide +kernel
theorem dX10_market_8 : decode cX10_market 8 = .ok (.ifCond .eq 14, 3) := by decide +kernel
theorem dX10_market_11 : decode cX10_market 11 = .ok (.iload_n 1, 1) := by decide +kernel
theorem dX10_market_12 : decode cX10_market 12 = .ok (.aload_n 0, 1) := by decide +kernel
theorem dX10_market_13 : decode cX10_market 13 = .ok (.getfield 10, 3) := by decide +kernel
theorem dX10_market_16 : decode cX10_market 16 = .ok (.getfield 91, 3) := by decide +kernel
theorem dX10_market_19 : decode cX10_market 19 = .ok (.if_icmp .le 5, 3) := by decide +kernel
theorem dX10_market_22 : decode cX10_market 22 = .ok (.iconst (-1), 1) := by decide +kernel
theorem dX10_market_23 : decode cX10_market 23 = .ok (.ireturn, 1) := by decide +kernel
theorem dX10_market_24 : decode cX10_market 24 = .ok (.aload_n 0, 1) := by decide +kernel
theorem dX10_market_25 : decode cX10_market 25 = .ok (.getfield 10, 3) := by decide +kernel
theorem dX10_market_28 : decode cX10_market 28 = .ok (.iload_n 1, 1) := by decide +kernel
theorem dX10_market_29 : decode cX10_market 29 = .ok (.invokevirtual 103, 3) := by decide +kernel
theorem dX10_market_32 : decode cX10_market 32 = .ok (.aload_n 0, 1) := by decide +kernel
theorem dX10_market_33 : decode cX10_market 33 = .ok (.getfield 19, 3) := by decide +kernel
theorem dX10_market_36 : decode cX10_market 36 = .ok (.aload_n 0, 1) := by decide +kernel
theorem dX10_market_37 : decode cX10_market 37 = .ok (.getfield 10, 3) := by decide +kernel
theorem dX10_market_40 : decode cX10_market 40 = .ok (.invokevirtual 106, 3) := by decide +kernel
theorem dX10_market_43 : decode cX10_market 43 = .ok (.istore_n 2, 1) := by decide +kernel
theorem dX10_market_44 : decode cX10_market 44 = .ok (.aload_n 0, 1) := by decide +kernel
theorem dX10_market_45 : decode cX10_market 45 = .ok (.getfield 10, 3) := by decide +kernel
theorem dX10_market_48 : decode cX10_market 48 = .ok (.invokevirtual 110, 3) := by decide +kernel
theorem dX10_market_51 : decode cX10_market 51 = .ok (.iload_n 2, 1) := by decide +kernel
theorem dX10_market_52 : decode cX10_market 52 = .ok (.ifCond .ne 11, 3) := by decide +kernel
theorem dX10_market_55 : decode cX10_market 55 = .ok (.aload_n 0, 1) := by decide +kernel
theorem dX10_market_56 : decode cX10_market 56 = .ok (.getfield 10, 3) := by decide +kernel
theorem dX10_market_59 : decode cX10_market 59 = .ok (.getfield 113, 3) := by decide +kernel
theorem dX10_market_62 : decode cX10_market 62 = .ok (.ireturn, 1) := by decide +kernel
theorem dX10_market_63 : decode cX10_market 63 = .ok (.aload_n 0, 1) := by decide +kernel
theorem dX10_market_64 : decode cX10_market 64 = .ok (.invokevirtual 116, 3) := by decide +kernel
theorem dX10_market_67 : decode cX10_market 67 = .ok (.aload_n 0, 1) := by decide +kernel
theorem dX10_market_68 : decode cX10_market 68 = .ok (.iconst 0, 1) := by decide +kernel
theorem dX10_market_69 : decode cX10_market 69 = .ok (.putfield 87, 3) := by decide +kernel
theorem dX10_market_72 : decode cX10_market 72 = .ok (.bipush 100, 2) := by decide +kernel
theorem dX10_market_74 : decode cX10_market 74 = .ok (.aload_n 0, 1) := by decide +kernel
theorem dX10_market_75 : decode cX10_market 75 = .ok (.getfield 19, 3) := by decide +kernel
theorem dX10_market_78 : decode cX10_market 78 = .ok (.iconst 0, 1) := by decide +kernel
theorem dX10_market_79 : decode cX10_market 79 = .ok (.invokevirtual 119, 3) := by decide +kernel
theorem dX10_market_82 : decode cX10_market 82 = .ok (.isub, 1) := by decide +kernel
theorem dX10_market_83 : decode cX10_market 83 = .ok (.ireturn, 1) := by decide +kernel
theorem dX10_minutes_0 : decode cX10_minutes 0 = .ok (.iload_n 1, 1) := by decide +kernel
theorem dX10_minutes_1 : decode cX10_minutes 1 = .ok (.iconst 1, 1) := by decide +kernel
theorem dX10_minutes_2 : decode cX10_minutes 2 = .ok (.bipush 120, 2) := by decide +kernel
theorem dX10_minutes_4 : decode cX10_minutes 4 = .ok (.invokestatic 99, 3) := by decide +kernel
theorem dX10_minutes_7 : decode cX10_minutes 7 = .ok (.ifCond .eq 19, 3) := by decide +kernel
theorem dX10_minutes_10 : decode cX10_minutes 10 = .ok (.aload_n 0, 1) := by decide +kernel
theorem dX10_minutes_11 : decode cX10_minutes 11 = .ok (.getfield 51, 3) := by decide +kernel
theorem dX10_minutes_14 : decode cX10_minutes 14 = .ok (.aload_n 0, 1) := by decide +kernel
theorem dX10_minutes_15 : decode cX10_minutes 15 = .ok (.getfield 58, 3) := by decide +kernel
theorem dX10_minutes_18 : decode cX10_minutes 18 = .ok (.iload_n 1, 1) := by decide +kernel
theorem dX10_minutes_19 : decode cX10_minutes 19 = .ok (.iconst (-1), 1) := by decide +kernel
theorem dX10_minutes_20 : decode cX10_minutes 20 = .ok (.invokevirtual 163, 3) := by decide +kernel
theorem dX10_minutes_23 : decode cX10_minutes 23 = .ok (.goto 4, 3) := by decide +kernel
theorem dX10_minutes_26 : decode cX10_minutes 26 = .ok (.iconst (-1), 1) := by decide +kernel
theorem dX10_minutes_27 : decode cX10_minutes 27 = .ok (.ireturn, 1) := by decide +kernel
theorem dX10_printMakers_0 : decode cX10_printMakers 0 = .ok (.aload_n 0, 1) := by decide +kernel
theorem dX10_printMakers_1 : decode cX10_printMakers 1 = .ok (.iload_n 1, 1) := by decide +kernel
theorem dX10_printMakers_2 : decode cX10_printMakers 2 = .ok (.invokevirtual 337, 3) := by decide +kernel
theorem dX10_printMakers_5 : decode cX10_printMakers 5 = .ok (.iload_n 1, 1) := by decide +kernel
theorem dX10_printMakers_6 : decode cX10_printMakers 6 = .ok (.if_icmp .ne 10, 3) := by decide +kernel
theorem dX10_printMakers_9 : decode cX10_printMakers 9 = .ok (.aload_n 0, 1) := by decide +kernel
theorem dX10_printMakers_10 : decode cX10_printMakers 10 = .ok (.invokevirtual 340, 3) := by decide +kernel
theorem dX10_printMakers_13 : decode cX10_printMakers 13 = .ok (.goto 4, 3) := by decide +kernel
theorem dX10_printMakers_16 : decode cX10_printMakers 16 = .ok (.iconst 0, 1) := by decide +kernel
theorem dX10_printMakers_17 : decode cX10_printMakers 17 = .ok (.ireturn, 1) := by decide +kernel
theorem dX10_printStarters_0 : decode cX10_printStarters 0 = .ok (.iconst 0, 1) := by decide +kernel
theorem dX10_printStarters_1 : decode cX10_printStarters 1 = .ok (.istore_n 1, 1) := by decide +kernel
theorem dX10_printStarters_2 : decode cX10_printStarters 2 = .ok (.iconst 0, 1) := by decide +kernel
theorem dX10_printStarters_3 : decode cX10_printStarters 3 = .ok (.istore_n 2, 1) := by decide +kernel
theorem dX10_printStarters_4 : decode cX10_printStarters 4 = .ok (.iload_n 2, 1) := by decide +kernel
theorem dX10_printStarters_5 : decode cX10_printStarters 5 = .ok (.bipush 10, 2) := by decide +kernel
theorem dX10_printStarters_7 : decode cX10_printStarters 7 = .ok (.if_icmp .ge 53, 3) := by decide +kernel
theorem dX10_printStarters_10 : decode cX10_printStarters 10 = .ok (.aload_n 0, 1) := by decide +kernel
theorem dX10_printStarters_11 : decode cX10_printStarters 11 = .ok (.getfield 58, 3) := by decide +kernel
theorem dX10_printStarters_14 : decode cX10_printStarters 14 = .ok (.iload_n 2, 1) := by decide +kernel
theorem dX10_printStarters_15 : decode cX10_printStarters 15 = .ok (.invokevirtual 197, 3) := by decide +kernel
theorem dX10_printStarters_18 : decode cX10_printStarters 18 = .ok (.ifCond .eq 36, 3) := by decide +kernel
theorem dX10_printStarters_21 : decode cX10_printStarters 21 = .ok (.aload_n 0, 1) := by decide +kernel
theorem dX10_printStarters_22 : decode cX10_printStarters 22 = .ok (.getfield 19, 3) := by decide +kernel
theorem dX10_printStarters_25 : decode cX10_printStarters 25 = .ok (.aload_n 0, 1) := by decide +kernel
theorem dX10_printStarters_26 : decode cX10_printStarters 26 = .ok (.getfield 58, 3) := by decide +kernel
theorem dX10_printStarters_29 : decode cX10_printStarters 29 = .ok (.getfield 191, 3) := by decide +kernel
theorem dX10_printStarters_32 : decode cX10_printStarters 32 = .ok (.iload_n 2, 1) := by decide +kernel
theorem dX10_printStarters_33 : decode cX10_printStarters 33 = .ok (.iaload, 1) := by decide +kernel
theorem dX10_printStarters_34 : decode cX10_printStarters 34 = .ok (.aload_n 0, 1) := by decide +kernel
theorem dX10_printStarters_35 : decode cX10_printStarters 35 = .ok (.getfield 10, 3) := by decide +kernel
theorem dX10_printStarters_38 : decode cX10_printStarters 38 = .ok (.iconst 0, 1) := by decide +kernel
theorem dX10_printStarters_39 : decode cX10_printStarters 39 = .ok (.invokevirtual 289, 3) := by decide +kernel
theorem dX10_printStarters_42 : decode cX10_printStarters 42 = .ok (.invokevirtual 334, 3) := by decide +kernel
theorem dX10_printStarters_45 : decode cX10_printStarters 45 = .ok (.ifCond .eq 9, 3) := by decide +kernel
theorem dX10_printStarters_48 : decode cX10_printStarters 48 = .ok (.iload_n 1, 1) := by decide +kernel
theorem dX10_printStarters_49 : decode cX10_printStarters 49 = .ok (.iconst 1, 1) := by decide +kernel
theorem dX10_printStarters_50 : decode cX10_printStarters 50 = .ok (.iload_n 2, 1) := by decide +kernel
theorem dX10_printStarters_51 : decode cX10_printStarters 51 = .ok (.ishl, 1) := by decide +kernel
theorem dX10_printStarters_52 : decode cX10_printStarters 52 = .ok (.ior, 1) := by decide +kernel
theorem dX10_printStarters_53 : decode cX10_printStarters 53 = .ok (.istore_n 1, 1) := by decide +kernel
theorem dX10_printStarters_54 : decode cX10_printStarters 54 = .ok (.iinc 2 1, 3) := by decide +kernel
theorem dX10_printStarters_57 : decode cX10_printStarters 57 = .ok (.goto (-53), 3) := by decide +kernel
theorem dX10_printStarters_60 : decode cX10_printStarters 60 = .ok (.iload_n 1, 1) := by decide +kernel
theorem dX10_printStarters_61 : decode cX10_printStarters 61 = .ok (.ireturn, 1) := by decide +kernel
theorem dX10_prints_0 : decode cX10_prints 0 = .ok (.iload_n 1, 1) := by decide +kernel
theorem dX10_prints_1 : decode cX10_prints 1 = .ok (.iconst 2, 1) := by decide +kernel
theorem dX10_prints_2 : decode cX10_prints 2 = .ok (.bipush 20, 2) := by decide +kernel
theorem dX10_prints_4 : decode cX10_prints 4 = .ok (.invokestatic 99, 3) := by decide +kernel
theorem dX10_prints_7 : decode cX10_prints 7 = .ok (.ifCond .eq 23, 3) := by decide +kernel
theorem dX10_prints_10 : decode cX10_prints 10 = .ok (.iload_n 2, 1) := by decide +kernel
theorem dX10_prints_11 : decode cX10_prints 11 = .ok (.iconst 0, 1) := by decide +kernel
theorem dX10_prints_12 : decode cX10_prints 12 = .ok (.iconst 1, 1) := by decide +kernel
theorem dX10_prints_13 : decode cX10_prints 13 = .ok (.invokestatic 99, 3) := by decide +kernel
theorem dX10_prints_16 : decode cX10_prints 16 = .ok (.ifCond .eq 14, 3) := by decide +kernel
theorem dX10_prints_19 : decode cX10_prints 19 = .ok (.iload_n 1, 1) := by decide +kernel
theorem dX10_prints_20 : decode cX10_prints 20 = .ok (.aload_n 0, 1) := by decide +kernel
theorem dX10_prints_21 : decode cX10_prints 21 = .ok (.getfield 10, 3) := by decide +kernel
theorem dX10_prints_24 : decode cX10_prints 24 = .ok (.getfield 91, 3) := by decide +kernel
theorem dX10_prints_27 : decode cX10_prints 27 = .ok (.if_icmp .le 5, 3) := by decide +kernel
theorem dX10_prints_30 : decode cX10_prints 30 = .ok (.iconst (-1), 1) := by decide +kernel
theorem dX10_prints_31 : decode cX10_prints 31 = .ok (.ireturn, 1) := by decide +kernel
theorem dX10_prints_32 : decode cX10_prints 32 = .ok (.iconst (-1), 1) := by decide +kernel
theorem dX10_prints_33 : decode cX10_prints 33 = .ok (.istore_n 3, 1) := by decide +kernel
theorem dX10_prints_34 : decode cX10_prints 34 = .ok (.aload_n 0, 1) := by decide +kernel
theorem dX10_prints_35 : decode cX10_prints 35 = .ok (.iload_n 1, 1) := by decide +kernel
theorem dX10_prints_36 : decode cX10_prints 36 = .ok (.iconst 0, 1) := by decide +kernel
theorem dX10_prints_37 : decode cX10_prints 37 = .ok (.bipush 99, 2) := by decide +kernel
theorem dX10_prints_39 : decode cX10_prints 39 = .ok (.invokevirtual 277, 3) := by decide +kernel
theorem dX10_prints_42 : decode cX10_prints 42 = .ok (.ifCond .eq 9, 3) := by decide +kernel
theorem dX10_prints_45 : decode cX10_prints 45 = .ok (.bipush (-3), 2) := by decide +kernel
theorem dX10_prints_47 : decode cX10_prints 47 = .ok (.istore_n 3, 1) := by decide +kernel
theorem dX10_prints_48 : decode cX10_prints 48 = .ok (.goto 22, 3) := by decide +kernel
theorem dX10_prints_51 : decode cX10_prints 51 = .ok (.iload_n 2, 1) := by decide +kernel
theorem dX10_prints_52 : decode cX10_prints 52 = .ok (.ifCond .ne 12, 3) := by decide +kernel
theorem dX10_prints_55 : decode cX10_prints 55 = .ok (.aload_n 0, 1) := by decide +kernel
theorem dX10_prints_56 : decode cX10_prints 56 = .ok (.iload_n 1, 1) := by decide +kernel
theorem dX10_prints_57 : decode cX10_prints 57 = .ok (.invokevirtual 280, 3) := by decide +kernel
theorem dX10_prints_60 : decode cX10_prints 60 = .ok (.istore_n 3, 1) := by decide +kernel
theorem dX10_prints_61 : decode cX10_prints 61 = .ok (.goto 9, 3) := by decide +kernel
theorem dX10_prints_64 : decode cX10_prints 64 = .ok (.aload_n 0, 1) := by decide +kernel
theorem dX10_prints_65 : decode cX10_prints 65 = .ok (.iload_n 1, 1) := by decide +kernel
theorem dX10_prints_66 : decode cX10_prints 66 = .ok (.invokevirtual 283, 3) := by decide +kernel
theorem dX10_prints_69 : decode cX10_prints 69 = .ok (.istore_n 3, 1) := by decide +kernel
theorem dX10_prints_70 : decode cX10_prints 70 = .ok (.aload_n 0, 1) := by decide +kernel
theorem dX10_prints_71 : decode cX10_prints 71 = .ok (.getfield 10, 3) := by decide +kernel
theorem dX10_prints_74 : decode cX10_prints 74 = .ok (.invokevirtual 110, 3) := by decide +kernel
theorem dX10_prints_77 : decode cX10_prints 77 = .ok (.iload_n 3, 1) := by decide +kernel
theorem dX10_prints_78 : decode cX10_prints 78 = .ok (.ireturn, 1) := by decide +kernel
theorem dX10_printsFailAt_0 : decode cX10_printsFailAt 0 = .ok (.aload_n 0, 1) := by decide +kernel
theorem dX10_printsFailAt_1 : decode cX10_printsFailAt 1 = .ok (.getfield 58, 3) := by decide +kernel
theorem dX10_printsFailAt_4 : decode cX10_printsFailAt 4 = .ok (.getfield 191, 3) := by decide +kernel
theorem dX10_printsFailAt_7 : decode cX10_printsFailAt 7 = .ok (.invokestatic 311, 3) := by decide +kernel
theorem dX10_printsFailAt_10 : decode cX10_printsFailAt 10 = .ok (.ifCond .ne 6, 3) := by decide +kernel
theorem dX10_printsFailAt_13 : decode cX10_printsFailAt 13 = .ok (.bipush (-4), 2) := by decide +kernel
theorem dX10_printsFailAt_15 : decode cX10_printsFailAt 15 = .ok (.ireturn, 1) := by decide +kernel
theorem dX10_printsFailAt_16 : decode cX10_printsFailAt 16 = .ok (.aload_n 0, 1) := by decide +kernel
theorem dX10_printsFailAt_17 : decode cX10_printsFailAt 17 = .ok (.invokevirtual 340, 3) := by decide +kernel
theorem dX10_printsFailAt_20 : decode cX10_printsFailAt 20 = .ok (.ifCond .ne 5, 3) := by decide +kernel
theorem dX10_printsFailAt_23 : decode cX10_printsFailAt 23 = .ok (.iconst 0, 1) := by decide +kernel
theorem dX10_printsFailAt_24 : decode cX10_printsFailAt 24 = .ok (.ireturn, 1) := by decide +kernel
theorem dX10_printsFailAt_25 : decode cX10_printsFailAt 25 = .ok (.aload_n 0, 1) := by decide +kernel
theorem dX10_printsFailAt_26 : decode cX10_printsFailAt 26 = .ok (.iload_n 1, 1) := by decide +kernel
theorem dX10_printsFailAt_27 : decode cX10_printsFailAt 27 = .ok (.invokevirtual 337, 3) := by decide +kernel
theorem dX10_printsFailAt_30 : decode cX10_printsFailAt 30 = .ok (.istore_n 2, 1) := by decide +kernel
theorem dX10_printsFailAt_31 : decode cX10_printsFailAt 31 = .ok (.iload_n 2, 1) := by decide +kernel
theorem dX10_printsFailAt_32 : decode cX10_printsFailAt 32 = .ok (.iload_n 1, 1) := by decide +kernel
theorem dX10_printsFailAt_33 : decode cX10_printsFailAt 33 = .ok (.if_icmp .ne 8, 3) := by decide +kernel
theorem dX10_printsFailAt_36 : decode cX10_printsFailAt 36 = .ok (.bipush (-2), 2) := by decide +kernel
theorem dX10_printsFailAt_38 : decode cX10_printsFailAt 38 = .ok (.goto 4, 3) := by decide +kernel
theorem dX10_printsFailAt_41 : decode cX10_printsFailAt 41 = .ok (.iload_n 2, 1) := by decide +kernel
theorem dX10_printsFailAt_42 : decode cX10_printsFailAt 42 = .ok (.ireturn, 1) := by decide +kernel
theorem dX10_seed_0 : decode cX10_seed 0 = .ok (.iload_n 1, 1) := by decide +kernel
theorem dX10_seed_1 : decode cX10_seed 1 = .ok (.iconst 0, 1) := by decide +kernel
theorem dX10_seed_2 : decode cX10_seed 2 = .ok (.ldc_w 299, 3) := by decide +kernel
theorem dX10_seed_5 : decode cX10_seed 5 = .ok (.invokestatic 99, 3) := by decide +kernel
theorem dX10_seed_8 : decode cX10_seed 8 = .ok (.ifCond .ne 5, 3) := by decide +kernel
theorem dX10_seed_11 : decode cX10_seed 11 = .ok (.iconst 0, 1) := by decide +kernel
theorem dX10_seed_12 : decode cX10_seed 12 = .ok (.ireturn, 1) := by decide +kernel
theorem dX10_seed_13 : decode cX10_seed 13 = .ok (.aload_n 0, 1) := by decide +kernel
theorem dX10_seed_14 : decode cX10_seed 14 = .ok (.getfield 58, 3) := by decide +kernel
theorem dX10_seed_17 : decode cX10_seed 17 = .ok (.iload_n 1, 1) := by decide +kernel
theorem dX10_seed_18 : decode cX10_seed 18 = .ok (.putfield 300, 3) := by decide +kernel
theorem dX10_seed_21 : decode cX10_seed 21 = .ok (.iconst 1, 1) := by decide +kernel
theorem dX10_seed_22 : decode cX10_seed 22 = .ok (.ireturn, 1) := by decide +kernel
theorem dX10_sendAwayWhoCannotStand_0 : decode cX10_sendAwayWhoCannotStand 0 = .ok (.iconst 0, 1) := by decide +kernel
theorem dX10_sendAwayWhoCannotStand_1 : decode cX10_sendAwayWhoCannotStand 1 = .ok (.istore_n 1, 1) := by decide +kernel
theorem dX10_sendAwayWhoCannotStand_2 : decode cX10_sendAwayWhoCannotStand 2 = .ok (.iload_n 1, 1) := by decide +kernel
theorem dX10_sendAwayWhoCannotStand_3 : decode cX10_sendAwayWhoCannotStand 3 = .ok (.iconst 2, 1) := by decide +kernel
theorem dX10_sendAwayWhoCannotStand_4 : decode cX10_sendAwayWhoCannotStand 4 = .ok (.if_icmp .ge 38, 3) := by decide +kernel
theorem dX10_sendAwayWhoCannotStand_7 : decode cX10_sendAwayWhoCannotStand 7 = .ok (.aload_n 0, 1) := by decide +kernel
theorem dX10_sendAwayWhoCannotStand_8 : decode cX10_sendAwayWhoCannotStand 8 = .ok (.getfield 19, 3) := by decide +kernel
theorem dX10_sendAwayWhoCannotStand_11 : decode cX10_sendAwayWhoCannotStand 11 = .ok (.aload_n 0, 1) := by decide +kernel
theorem dX10_sendAwayWhoCannotStand_12 : decode cX10_sendAwayWhoCannotStand 12 = .ok (.getfield 58, 3) := by decide +kernel
theorem dX10_sendAwayWhoCannotStand_15 : decode cX10_sendAwayWhoCannotStand 15 = .ok (.getfield 141, 3) := by decide +kernel
theorem dX10_sendAwayWhoCannotStand_18 : decode cX10_sendAwayWhoCannotStand 18 = .ok (.iload_n 1, 1) := by decide +kernel
theorem dX10_sendAwayWhoCannotStand_19 : decode cX10_sendAwayWhoCannotStand 19 = .ok (.iaload, 1) := by decide +kernel
theorem dX10_sendAwayWhoCannotStand_20 : decode cX10_sendAwayWhoCannotStand 20 = .ok (.invokevirtual 327, 3) := by decide +kernel
theorem dX10_sendAwayWhoCannotStand_23 : decode cX10_sendAwayWhoCannotStand 23 = .ok (.ifCond .ne 13, 3) := by decide +kernel
theorem dX10_sendAwayWhoCannotStand_26 : decode cX10_sendAwayWhoCannotStand 26 = .ok (.aload_n 0, 1) := by decide +kernel
theorem dX10_sendAwayWhoCannotStand_27 : decode cX10_sendAwayWhoCannotStand 27 = .ok (.getfield 58, 3) := by decide +kernel
theorem dX10_sendAwayWhoCannotStand_30 : decode cX10_sendAwayWhoCannotStand 30 = .ok (.getfield 141, 3) := by decide +kernel
theorem dX10_sendAwayWhoCannotStand_33 : decode cX10_sendAwayWhoCannotStand 33 = .ok (.iload_n 1, 1) := by decide +kernel
theorem dX10_sendAwayWhoCannotStand_34 : decode cX10_sendAwayWhoCannotStand 34 = .ok (.iconst (-1), 1) := by decide +kernel
theorem dX10_sendAwayWhoCannotStand_35 : decode cX10_sendAwayWhoCannotStand 35 = .ok (.iastore, 1) := by decide +kernel
theorem dX10_sendAwayWhoCannotStand_36 : decode cX10_sendAwayWhoCannotStand 36 = .ok (.iinc 1 1, 3) := by decide +kernel
theorem dX10_sendAwayWhoCannotStand_39 : decode cX10_sendAwayWhoCannotStand 39 = .ok (.goto (-37), 3) := by decide +kernel
theorem dX10_sendAwayWhoCannotStand_42 : decode cX10_sendAwayWhoCannotStand 42 = .ok (.iconst 0, 1) := by decide +kernel
theorem dX10_sendAwayWhoCannotStand_43 : decode cX10_sendAwayWhoCannotStand 43 = .ok (.istore_n 1, 1) := by decide +kernel
theorem dX10_sendAwayWhoCannotStand_44 : decode cX10_sendAwayWhoCannotStand 44 = .ok (.iload_n 1, 1) := by decide +kernel
theorem dX10_sendAwayWhoCannotStand_45 : decode cX10_sendAwayWhoCannotStand 45 = .ok (.bipush 10, 2) := by decide +kernel
theorem dX10_sendAwayWhoCannotStand_47 : decode cX10_sendAwayWhoCannotStand 47 = .ok (.if_icmp .ge 38, 3) := by decide +kernel
theorem dX10_sendAwayWhoCannotStand_50 : decode cX10_sendAwayWhoCannotStand 50 = .ok (.aload_n 0, 1) := by decide +kernel
theorem dX10_sendAwayWhoCannotStand_51 : decode cX10_sendAwayWhoCannotStand 51 = .ok (.getfield 19, 3) := by decide +kernel
theorem dX10_sendAwayWhoCannotStand_54 : decode cX10_sendAwayWhoCannotStand 54 = .ok (.aload_n 0, 1) := by decide +kernel
theorem dX10_sendAwayWhoCannotStand_55 : decode cX10_sendAwayWhoCannotStand 55 = .ok (.getfield 58, 3) := by decide +kernel
theorem dX10_sendAwayWhoCannotStand_58 : decode cX10_sendAwayWhoCannotStand 58 = .ok (.getfield 191, 3) := by decide +kernel
theorem dX10_sendAwayWhoCannotStand_61 : decode cX10_sendAwayWhoCannotStand 61 = .ok (.iload_n 1, 1) := by decide +kernel
theorem dX10_sendAwayWhoCannotStand_62 : decode cX10_sendAwayWhoCannotStand 62 = .ok (.iaload, 1) := by decide +kernel
theorem dX10_sendAwayWhoCannotStand_63 : decode cX10_sendAwayWhoCannotStand 63 = .ok (.invokevirtual 327, 3) := by decide +kernel
theorem dX10_sendAwayWhoCannotStand_66 : decode cX10_sendAwayWhoCannotStand 66 = .ok (.ifCond .ne 13, 3) := by decide +kernel
theorem dX10_sendAwayWhoCannotStand_69 : decode cX10_sendAwayWhoCannotStand 69 = .ok (.aload_n 0, 1) := by decide +kernel
theorem dX10_sendAwayWhoCannotStand_70 : decode cX10_sendAwayWhoCannotStand 70 = .ok (.getfield 58, 3) := by decide +kernel
theorem dX10_sendAwayWhoCannotStand_73 : decode cX10_sendAwayWhoCannotStand 73 = .ok (.iload_n 1, 1) := by decide +kernel
theorem dX10_sendAwayWhoCannotStand_74 : decode cX10_sendAwayWhoCannotStand 74 = .ok (.iconst (-1), 1) := by decide +kernel
theorem dX10_sendAwayWhoCannotStand_75 : decode cX10_sendAwayWhoCannotStand 75 = .ok (.iconst 0, 1) := by decide +kernel
theorem dX10_sendAwayWhoCannotStand_76 : decode cX10_sendAwayWhoCannotStand 76 = .ok (.invokevirtual 156, 3) := by decide +kernel
theorem dX10_sendAwayWhoCannotStand_79 : decode cX10_sendAwayWhoCannotStand 79 = .ok (.iinc 1 1, 3) := by decide +kernel
theorem dX10_sendAwayWhoCannotStand_82 : decode cX10_sendAwayWhoCannotStand 82 = .ok (.goto (-38), 3) := by decide +kernel
theorem dX10_sendAwayWhoCannotStand_85 : decode cX10_sendAwayWhoCannotStand 85 = .ok (.iconst 0, 1) := by decide +kernel
theorem dX10_sendAwayWhoCannotStand_86 : decode cX10_sendAwayWhoCannotStand 86 = .ok (.istore_n 1, 1) := by decide +kernel
theorem dX10_sendAwayWhoCannotStand_87 : decode cX10_sendAwayWhoCannotStand 87 = .ok (.iload_n 1, 1) := by decide +kernel
theorem dX10_sendAwayWhoCannotStand_88 : decode cX10_sendAwayWhoCannotStand 88 = .ok (.iconst 4, 1) := by decide +kernel
theorem dX10_sendAwayWhoCannotStand_89 : decode cX10_sendAwayWhoCannotStand 89 = .ok (.if_icmp .ge 38, 3) := by decide +kernel
theorem dX10_sendAwayWhoCannotStand_92 : decode cX10_sendAwayWhoCannotStand 92 = .ok (.aload_n 0, 1) := by decide +kernel
theorem dX10_sendAwayWhoCannotStand_93 : decode cX10_sendAwayWhoCannotStand 93 = .ok (.getfield 19, 3) := by decide +kernel
theorem dX10_sendAwayWhoCannotStand_96 : decode cX10_sendAwayWhoCannotStand 96 = .ok (.aload_n 0, 1) := by decide +kernel
theorem dX10_sendAwayWhoCannotStand_97 : decode cX10_sendAwayWhoCannotStand 97 = .ok (.getfield 51, 3) := by decide +kernel
theorem dX10_sendAwayWhoCannotStand_100 : decode cX10_sendAwayWhoCannotStand 100 = .ok (.getfield 160, 3) := by decide +kernel
theorem dX10_sendAwayWhoCannotStand_103 : decode cX10_sendAwayWhoCannotStand 103 = .ok (.iload_n 1, 1) := by decide +kernel
theorem dX10_sendAwayWhoCannotStand_104 : decode cX10_sendAwayWhoCannotStand 104 = .ok (.iaload, 1) := by decide +kernel
theorem dX10_sendAwayWhoCannotStand_105 : decode cX10_sendAwayWhoCannotStand 105 = .ok (.invokevirtual 327, 3) := by decide +kernel
theorem dX10_sendAwayWhoCannotStand_108 : decode cX10_sendAwayWhoCannotStand 108 = .ok (.ifCond .ne 13, 3) := by decide +kernel
theorem dX10_sendAwayWhoCannotStand_111 : decode cX10_sendAwayWhoCannotStand 111 = .ok (.aload_n 0, 1) := by decide +kernel
theorem dX10_sendAwayWhoCannotStand_112 : decode cX10_sendAwayWhoCannotStand 112 = .ok (.getfield 51, 3) := by decide +kernel
theorem dX10_sendAwayWhoCannotStand_115 : decode cX10_sendAwayWhoCannotStand 115 = .ok (.getfield 160, 3) := by decide +kernel
theorem dX10_sendAwayWhoCannotStand_118 : decode cX10_sendAwayWhoCannotStand 118 = .ok (.iload_n 1, 1) := by decide +kernel
theorem dX10_sendAwayWhoCannotStand_119 : decode cX10_sendAwayWhoCannotStand 119 = .ok (.iconst (-1), 1) := by decide +kernel
theorem dX10_sendAwayWhoCannotStand_120 : decode cX10_sendAwayWhoCannotStand 120 = .ok (.iastore, 1) := by decide +kernel
theorem dX10_sendAwayWhoCannotStand_121 : decode cX10_sendAwayWhoCannotStand 121 = .ok (.iinc 1 1, 3) := by decide +kernel
theorem dX10_sendAwayWhoCannotStand_124 : decode cX10_sendAwayWhoCannotStand 124 = .ok (.goto (-37), 3) := by decide +kernel
theorem dX10_sendAwayWhoCannotStand_127 : decode cX10_sendAwayWhoCannotStand 127 = .ok (.return_, 1) := by decide +kernel
theorem dX10_sentencesTogether_0 : decode cX10_sentencesTogether 0 = .ok (.aload_n 0, 1) := by decide +kernel
theorem dX10_sentencesTogether_1 : decode cX10_sentencesTogether 1 = .ok (.iload_n 1, 1) := by decide +kernel
theorem dX10_sentencesTogether_2 : decode cX10_sentencesTogether 2 = .ok (.iload_n 2, 1) := by decide +kernel
theorem dX10_sentencesTogether_3 : decode cX10_sentencesTogether 3 = .ok (.invokevirtual 346, 3) := by decide +kernel
theorem dX10_sentencesTogether_6 : decode cX10_sentencesTogether 6 = .ok (.iconst 0, 1) := by decide +kernel
theorem dX10_sentencesTogether_7 : decode cX10_sentencesTogether 7 = .ok (.istore 4, 2) := by decide +kernel
theorem dX10_sentencesTogether_9 : decode cX10_sentencesTogether 9 = .ok (.iconst 0, 1) := by decide +kernel
theorem dX10_sentencesTogether_10 : decode cX10_sentencesTogether 10 = .ok (.istore 5, 2) := by decide +kernel
theorem dX10_sentencesTogether_12 : decode cX10_sentencesTogether 12 = .ok (.iconst 0, 1) := by decide +kernel
theorem dX10_sentencesTogether_13 : decode cX10_sentencesTogether 13 = .ok (.istore 6, 2) := by decide +kernel
theorem dX10_sentencesTogether_15 : decode cX10_sentencesTogether 15 = .ok (.iconst 0, 1) := by decide +kernel
theorem dX10_sentencesTogether_16 : decode cX10_sentencesTogether 16 = .ok (.istore 7, 2) := by decide +kernel
theorem dX10_sentencesTogether_18 : decode cX10_sentencesTogether 18 = .ok (.iload 7, 2) := by decide +kernel
theorem dX10_sentencesTogether_20 : decode cX10_sentencesTogether 20 = .ok (.iload_n 1, 1) := by decide +kernel
theorem dX10_sentencesTogether_21 : decode cX10_sentencesTogether 21 = .ok (.if_icmp .ge 43, 3) := by decide +kernel
theorem dX10_sentencesTogether_24 : decode cX10_sentencesTogether 24 = .ok (.aload_n 0, 1) := by decide +kernel
theorem dX10_sentencesTogether_25 : decode cX10_sentencesTogether 25 = .ok (.iload_n 1, 1) := by decide +kernel
theorem dX10_sentencesTogether_26 : decode cX10_sentencesTogether 26 = .ok (.iload 7, 2) := by decide +kernel
theorem dX10_sentencesTogether_28 : decode cX10_sentencesTogether 28 = .ok (.invokevirtual 350, 3) := by decide +kernel
theorem dX10_sentencesTogether_31 : decode cX10_sentencesTogether 31 = .ok (.istore 8, 2) := by decide +kernel
theorem dX10_sentencesTogether_33 : decode cX10_sentencesTogether 33 = .ok (.iload 8, 2) := by decide +kernel
theorem dX10_sentencesTogether_35 : decode cX10_sentencesTogether 35 = .ok (.iconst (-1), 1) := by decide +kernel
theorem dX10_sentencesTogether_36 : decode cX10_sentencesTogether 36 = .ok (.if_icmp .eq 22, 3) := by decide +kernel
theorem dX10_sentencesTogether_39 : decode cX10_sentencesTogether 39 = .ok (.iinc 5 1, 3) := by decide +kernel
theorem dX10_sentencesTogether_42 : decode cX10_sentencesTogether 42 = .ok (.iload 4, 2) := by decide +kernel
theorem dX10_sentencesTogether_44 : decode cX10_sentencesTogether 44 = .ok (.iload 8, 2) := by decide +kernel
theorem dX10_sentencesTogether_46 : decode cX10_sentencesTogether 46 = .ok (.iadd, 1) := by decide +kernel
theorem dX10_sentencesTogether_47 : decode cX10_sentencesTogether 47 = .ok (.istore 4, 2) := by decide +kernel
theorem dX10_sentencesTogether_49 : decode cX10_sentencesTogether 49 = .ok (.iload 6, 2) := by decide +kernel
theorem dX10_sentencesTogether_51 : decode cX10_sentencesTogether 51 = .ok (.iload 8, 2) := by decide +kernel
theorem dX10_sentencesTogether_53 : decode cX10_sentencesTogether 53 = .ok (.invokestatic 272, 3) := by decide +kernel
theorem dX10_sentencesTogether_56 : decode cX10_sentencesTogether 56 = .ok (.istore 6, 2) := by decide +kernel
theorem dX10_sentencesTogether_58 : decode cX10_sentencesTogether 58 = .ok (.iinc 7 1, 3) := by decide +kernel
theorem dX10_sentencesTogether_61 : decode cX10_sentencesTogether 61 = .ok (.goto (-43), 3) := by decide +kernel
theorem dX10_sentencesTogether_64 : decode cX10_sentencesTogether 64 = .ok (.iload_n 3, 1) := by decide +kernel
theorem dX10_sentencesTogether_65 : decode cX10_sentencesTogether 65 = .ok (.ifCond .ne 8, 3) := by decide +kernel
theorem dX10_sentencesTogether_68 : decode cX10_sentencesTogether 68 = .ok (.iload 4, 2) := by decide +kernel
theorem dX10_sentencesTogether_70 : decode cX10_sentencesTogether 70 = .ok (.goto 15, 3) := by decide +kernel
theorem dX10_sentencesTogether_73 : decode cX10_sentencesTogether 73 = .ok (.iload_n 3, 1) := by decide +kernel
theorem dX10_sentencesTogether_74 : decode cX10_sentencesTogether 74 = .ok (.iconst 1, 1) := by decide +kernel
theorem dX10_sentencesTogether_75 : decode cX10_sentencesTogether 75 = .ok (.if_icmp .ne 8, 3) := by decide +kernel
theorem dX10_sentencesTogether_78 : decode cX10_sentencesTogether 78 = .ok (.iload 5, 2) := by decide +kernel
theorem dX10_sentencesTogether_80 : decode cX10_sentencesTogether 80 = .ok (.goto 5, 3) := by decide +kernel
theorem dX10_sentencesTogether_83 : decode cX10_sentencesTogether 83 = .ok (.iload 6, 2) := by decide +kernel
theorem dX10_sentencesTogether_85 : decode cX10_sentencesTogether 85 = .ok (.ireturn, 1) := by decide +kernel
theorem dX10_servedBy_0 : decode cX10_servedBy 0 = .ok (.iload_n 1, 1) := by decide +kernel
theorem dX10_servedBy_1 : decode cX10_servedBy 1 = .ok (.iconst 1, 1) := by decide +kernel
theorem dX10_servedBy_2 : decode cX10_servedBy 2 = .ok (.bipush 60, 2) := by decide +kernel
theorem dX10_servedBy_4 : decode cX10_servedBy 4 = .ok (.invokestatic 99, 3) := by decide +kernel
theorem dX10_servedBy_7 : decode cX10_servedBy 7 = .ok (.ifCond .eq 12, 3) := by decide +kernel
theorem dX10_servedBy_10 : decode cX10_servedBy 10 = .ok (.iload_n 2, 1) := by decide +kernel
theorem dX10_servedBy_11 : decode cX10_servedBy 11 = .ok (.iconst 0, 1) := by decide +kernel
theorem dX10_servedBy_12 : decode cX10_servedBy 12 = .ok (.iconst 2, 1) := by decide +kernel
theorem dX10_servedBy_13 : decode cX10_servedBy 13 = .ok (.invokestatic 99, 3) := by decide +kernel
theorem dX10_servedBy_16 : decode cX10_servedBy 16 = .ok (.ifCond .ne 5, 3) := by decide +kernel
theorem dX10_servedBy_19 : decode cX10_servedBy 19 = .ok (.iconst (-1), 1) := by decide +kernel
theorem dX10_servedBy_20 : decode cX10_servedBy 20 = .ok (.ireturn, 1) := by decide +kernel
theorem dX10_servedBy_21 : decode cX10_servedBy 21 = .ok (.iload_n 2, 1) := by decide +kernel
theorem dX10_servedBy_22 : decode cX10_servedBy 22 = .ok (.iconst 1, 1) := by decide +kernel
theorem dX10_servedBy_23 : decode cX10_servedBy 23 = .ok (.if_icmp .eq 14, 3) := by decide +kernel
theorem dX10_servedBy_26 : decode cX10_servedBy 26 = .ok (.aload_n 0, 1) := by decide +kernel
theorem dX10_servedBy_27 : decode cX10_servedBy 27 = .ok (.getfield 58, 3) := by decide +kernel
theorem dX10_servedBy_30 : decode cX10_servedBy 30 = .ok (.iconst 0, 1) := by decide +kernel
theorem dX10_servedBy_31 : decode cX10_servedBy 31 = .ok (.invokevirtual 239, 3) := by decide +kernel
theorem dX10_servedBy_34 : decode cX10_servedBy 34 = .ok (.ifCond .eq 18, 3) := by decide +kernel
theorem dX10_servedBy_37 : decode cX10_servedBy 37 = .ok (.iload_n 2, 1) := by decide +kernel
theorem dX10_servedBy_38 : decode cX10_servedBy 38 = .ok (.ifCond .eq 16, 3) := by decide +kernel
theorem dX10_servedBy_41 : decode cX10_servedBy 41 = .ok (.aload_n 0, 1) := by decide +kernel
theorem dX10_servedBy_42 : decode cX10_servedBy 42 = .ok (.getfield 58, 3) := by decide +kernel
theorem dX10_servedBy_45 : decode cX10_servedBy 45 = .ok (.iconst 1, 1) := by decide +kernel
theorem dX10_servedBy_46 : decode cX10_servedBy 46 = .ok (.invokevirtual 239, 3) := by decide +kernel
theorem dX10_servedBy_49 : decode cX10_servedBy 49 = .ok (.ifCond .ne 5, 3) := by decide +kernel
theorem dX10_servedBy_52 : decode cX10_servedBy 52 = .ok (.iconst (-1), 1) := by decide +kernel
theorem dX10_servedBy_53 : decode cX10_servedBy 53 = .ok (.ireturn, 1) := by decide +kernel
theorem dX10_servedBy_54 : decode cX10_servedBy 54 = .ok (.aload_n 0, 1) := by decide +kernel
theorem dX10_servedBy_55 : decode cX10_servedBy 55 = .ok (.getfield 70, 3) := by decide +kernel
theorem dX10_servedBy_58 : decode cX10_servedBy 58 = .ok (.invokevirtual 171, 3) := by decide +kernel
theorem dX10_servedBy_61 : decode cX10_servedBy 61 = .ok (.astore_n 3, 1) := by decide +kernel
theorem dX10_servedBy_62 : decode cX10_servedBy 62 = .ok (.iload_n 2, 1) := by decide +kernel
theorem dX10_servedBy_63 : decode cX10_servedBy 63 = .ok (.iconst 2, 1) := by decide +kernel
theorem dX10_servedBy_64 : decode cX10_servedBy 64 = .ok (.if_icmp .ge 12, 3) := by decide +kernel
theorem dX10_servedBy_67 : decode cX10_servedBy 67 = .ok (.aload_n 3, 1) := by decide +kernel
theorem dX10_servedBy_68 : decode cX10_servedBy 68 = .ok (.getfield 141, 3) := by decide +kernel
theorem dX10_servedBy_71 : decode cX10_servedBy 71 = .ok (.iconst 1, 1) := by decide +kernel
theorem dX10_servedBy_72 : decode cX10_servedBy 72 = .ok (.iload_n 2, 1) := by decide +kernel
theorem dX10_servedBy_73 : decode cX10_servedBy 73 = .ok (.isub, 1) := by decide +kernel
theorem dX10_servedBy_74 : decode cX10_servedBy 74 = .ok (.iconst (-1), 1) := by decide +kernel
theorem dX10_servedBy_75 : decode cX10_servedBy 75 = .ok (.iastore, 1) := by decide +kernel
theorem dX10_servedBy_76 : decode cX10_servedBy 76 = .ok (.aload_n 0, 1) := by decide +kernel
theorem dX10_servedBy_77 : decode cX10_servedBy 77 = .ok (.getfield 51, 3) := by decide +kernel
theorem dX10_servedBy_80 : decode cX10_servedBy 80 = .ok (.aload_n 3, 1) := by decide +kernel
theorem dX10_servedBy_81 : decode cX10_servedBy 81 = .ok (.iload_n 1, 1) := by decide +kernel
theorem dX10_servedBy_82 : decode cX10_servedBy 82 = .ok (.iconst (-1), 1) := by decide +kernel
theorem dX10_servedBy_83 : decode cX10_servedBy 83 = .ok (.invokevirtual 163, 3) := by decide +kernel
theorem dX10_servedBy_86 : decode cX10_servedBy 86 = .ok (.ireturn, 1) := by decide +kernel
theorem dX10_servedOutside_0 : decode cX10_servedOutside 0 = .ok (.iconst 0, 1) := by decide +kernel
theorem dX10_servedOutside_1 : decode cX10_servedOutside 1 = .ok (.istore_n 3, 1) := by decide +kernel
theorem dX10_servedOutside_2 : decode cX10_servedOutside 2 = .ok (.iconst 0, 1) := by decide +kernel
theorem dX10_servedOutside_3 : decode cX10_servedOutside 3 = .ok (.istore 4, 2) := by decide +kernel
theorem dX10_servedOutside_5 : decode cX10_servedOutside 5 = .ok (.iload 4, 2) := by decide +kernel
theorem dX10_servedOutside_7 : decode cX10_servedOutside 7 = .ok (.iload_n 2, 1) := by decide +kernel
theorem dX10_servedOutside_8 : decode cX10_servedOutside 8 = .ok (.if_icmp .ge 30, 3) := by decide +kernel
theorem dX10_servedOutside_11 : decode cX10_servedOutside 11 = .ok (.iload_n 1, 1) := by decide +kernel
theorem dX10_servedOutside_12 : decode cX10_servedOutside 12 = .ok (.iload 4, 2) := by decide +kernel
theorem dX10_servedOutside_14 : decode cX10_servedOutside 14 = .ok (.ishr, 1) := by decide +kernel
theorem dX10_servedOutside_15 : decode cX10_servedOutside 15 = .ok (.iconst 1, 1) := by decide +kernel
theorem dX10_servedOutside_16 : decode cX10_servedOutside 16 = .ok (.iand, 1) := by decide +kernel
theorem dX10_servedOutside_17 : decode cX10_servedOutside 17 = .ok (.ifCond .ne 15, 3) := by decide +kernel
theorem dX10_servedOutside_20 : decode cX10_servedOutside 20 = .ok (.iload_n 3, 1) := by decide +kernel
theorem dX10_servedOutside_21 : decode cX10_servedOutside 21 = .ok (.aload_n 0, 1) := by decide +kernel
theorem dX10_servedOutside_22 : decode cX10_servedOutside 22 = .ok (.getfield 10, 3) := by decide +kernel
theorem dX10_servedOutside_25 : decode cX10_servedOutside 25 = .ok (.iload 4, 2) := by decide +kernel
theorem dX10_servedOutside_27 : decode cX10_servedOutside 27 = .ok (.invokevirtual 289, 3) := by decide +kernel
theorem dX10_servedOutside_30 : decode cX10_servedOutside 30 = .ok (.iadd, 1) := by decide +kernel
theorem dX10_servedOutside_31 : decode cX10_servedOutside 31 = .ok (.istore_n 3, 1) := by decide +kernel
theorem dX10_servedOutside_32 : decode cX10_servedOutside 32 = .ok (.iinc 4 1, 3) := by decide +kernel
theorem dX10_servedOutside_35 : decode cX10_servedOutside 35 = .ok (.goto (-30), 3) := by decide +kernel
theorem dX10_servedOutside_38 : decode cX10_servedOutside 38 = .ok (.iload_n 3, 1) := by decide +kernel
theorem dX10_servedOutside_39 : decode cX10_servedOutside 39 = .ok (.ireturn, 1) := by decide +kernel
theorem dX10_shade_0 : decode cX10_shade 0 = .ok (.iload_n 1, 1) := by decide +kernel
theorem dX10_shade_1 : decode cX10_shade 1 = .ok (.iload_n 2, 1) := by decide +kernel
theorem dX10_shade_2 : decode cX10_shade 2 = .ok (.invokestatic 214, 3) := by decide +kernel
theorem dX10_shade_5 : decode cX10_shade 5 = .ok (.istore_n 3, 1) := by decide +kernel
theorem dX10_shade_6 : decode cX10_shade 6 = .ok (.iload_n 3, 1) := by decide +kernel
theorem dX10_shade_7 : decode cX10_shade 7 = .ok (.iconst (-1), 1) := by decide +kernel
theorem dX10_shade_8 : decode cX10_shade 8 = .ok (.if_icmp .ne 7, 3) := by decide +kernel
theorem dX10_shade_11 : decode cX10_shade 11 = .ok (.iconst (-1), 1) := by decide +kernel
theorem dX10_shade_12 : decode cX10_shade 12 = .ok (.goto 15, 3) := by decide +kernel
theorem dX10_shade_15 : decode cX10_shade 15 = .ok (.aload_n 0, 1) := by decide +kernel
theorem dX10_shade_16 : decode cX10_shade 16 = .ok (.getfield 51, 3) := by decide +kernel
theorem dX10_shade_19 : decode cX10_shade 19 = .ok (.aload_n 0, 1) := by decide +kernel
theorem dX10_shade_20 : decode cX10_shade 20 = .ok (.getfield 58, 3) := by decide +kernel
theorem dX10_shade_23 : decode cX10_shade 23 = .ok (.iload_n 3, 1) := by decide +kernel
theorem dX10_shade_24 : decode cX10_shade 24 = .ok (.invokevirtual 211, 3) := by decide +kernel
theorem dX10_shade_27 : decode cX10_shade 27 = .ok (.ireturn, 1) := by decide +kernel
theorem dX10_together_0 : decode cX10_together 0 = .ok (.iload_n 1, 1) := by decide +kernel
theorem dX10_together_1 : decode cX10_together 1 = .ok (.iconst 1, 1) := by decide +kernel
theorem dX10_together_2 : decode cX10_together 2 = .ok (.bipush 8, 2) := by decide +kernel
theorem dX10_together_4 : decode cX10_together 4 = .ok (.invokestatic 99, 3) := by decide +kernel
theorem dX10_together_7 : decode cX10_together 7 = .ok (.ifCond .eq 27, 3) := by decide +kernel
theorem dX10_together_10 : decode cX10_together 10 = .ok (.iload_n 2, 1) := by decide +kernel
theorem dX10_together_11 : decode cX10_together 11 = .ok (.iconst 0, 1) := by decide +kernel
theorem dX10_together_12 : decode cX10_together 12 = .ok (.iconst 2, 1) := by decide +kernel
theorem dX10_together_13 : decode cX10_together 13 = .ok (.invokestatic 99, 3) := by decide +kernel
theorem dX10_together_16 : decode cX10_together 16 = .ok (.ifCond .eq 18, 3) := by decide +kernel
theorem dX10_together_19 : decode cX10_together 19 = .ok (.aload_n 0, 1) := by decide +kernel
theorem dX10_together_20 : decode cX10_together 20 = .ok (.getfield 10, 3) := by decide +kernel
theorem dX10_together_23 : decode cX10_together 23 = .ok (.getfield 91, 3) := by decide +kernel
theorem dX10_together_26 : decode cX10_together 26 = .ok (.iconst 2, 1) := by decide +kernel
theorem dX10_together_27 : decode cX10_together 27 = .ok (.iload_n 1, 1) := by decide +kernel
theorem dX10_together_28 : decode cX10_together 28 = .ok (.imul, 1) := by decide +kernel
theorem dX10_together_29 : decode cX10_together 29 = .ok (.iconst 1, 1) := by decide +kernel
theorem dX10_together_30 : decode cX10_together 30 = .ok (.iadd, 1) := by decide +kernel
theorem dX10_together_31 : decode cX10_together 31 = .ok (.if_icmp .ge 5, 3) := by decide +kernel
theorem dX10_together_34 : decode cX10_together 34 = .ok (.iconst (-1), 1) := by decide +kernel
theorem dX10_together_35 : decode cX10_together 35 = .ok (.ireturn, 1) := by decide +kernel
theorem dX10_together_36 : decode cX10_together 36 = .ok (.aload_n 0, 1) := by decide +kernel
theorem dX10_together_37 : decode cX10_together 37 = .ok (.getfield 10, 3) := by decide +kernel
theorem dX10_together_40 : decode cX10_together 40 = .ok (.iconst 2, 1) := by decide +kernel
theorem dX10_together_41 : decode cX10_together 41 = .ok (.iload_n 1, 1) := by decide +kernel
theorem dX10_together_42 : decode cX10_together 42 = .ok (.imul, 1) := by decide +kernel
theorem dX10_together_43 : decode cX10_together 43 = .ok (.invokevirtual 289, 3) := by decide +kernel
theorem dX10_together_46 : decode cX10_together 46 = .ok (.istore_n 3, 1) := by decide +kernel
theorem dX10_together_47 : decode cX10_together 47 = .ok (.aload_n 0, 1) := by decide +kernel
theorem dX10_together_48 : decode cX10_together 48 = .ok (.getfield 10, 3) := by decide +kernel
theorem dX10_together_51 : decode cX10_together 51 = .ok (.getfield 91, 3) := by decide +kernel
theorem dX10_together_54 : decode cX10_together 54 = .ok (.iconst 2, 1) := by decide +kernel
theorem dX10_together_55 : decode cX10_together 55 = .ok (.iload_n 1, 1) := by decide +kernel
theorem dX10_together_56 : decode cX10_together 56 = .ok (.imul, 1) := by decide +kernel
theorem dX10_together_57 : decode cX10_together 57 = .ok (.iconst 1, 1) := by decide +kernel
theorem dX10_together_58 : decode cX10_together 58 = .ok (.iadd, 1) := by decide +kernel
theorem dX10_together_59 : decode cX10_together 59 = .ok (.iconst 2, 1) := by decide +kernel
theorem dX10_together_60 : decode cX10_together 60 = .ok (.iload_n 3, 1) := by decide +kernel
theorem dX10_together_61 : decode cX10_together 61 = .ok (.imul, 1) := by decide +kernel
theorem dX10_together_62 : decode cX10_together 62 = .ok (.iadd, 1) := by decide +kernel
theorem dX10_together_63 : decode cX10_together 63 = .ok (.if_icmp .ge 5, 3) := by decide +kernel
theorem dX10_together_66 : decode cX10_together 66 = .ok (.iconst (-1), 1) := by decide +kernel
theorem dX10_together_67 : decode cX10_together 67 = .ok (.ireturn, 1) := by decide +kernel
theorem dX10_together_68 : decode cX10_together 68 = .ok (.bipush (-2), 2) := by decide +kernel
theorem dX10_together_70 : decode cX10_together 70 = .ok (.istore 4, 2) := by decide +kernel
theorem dX10_together_72 : decode cX10_together 72 = .ok (.iload_n 3, 1) := by decide +kernel
theorem dX10_together_73 : decode cX10_together 73 = .ok (.bipush 12, 2) := by decide +kernel
theorem dX10_together_75 : decode cX10_together 75 = .ok (.if_icmp .gt 21, 3) := by decide +kernel
theorem dX10_together_78 : decode cX10_together 78 = .ok (.aload_n 0, 1) := by decide +kernel
theorem dX10_together_79 : decode cX10_together 79 = .ok (.iload_n 1, 1) := by decide +kernel
theorem dX10_together_80 : decode cX10_together 80 = .ok (.iload_n 3, 1) := by decide +kernel
theorem dX10_together_81 : decode cX10_together 81 = .ok (.invokevirtual 292, 3) := by decide +kernel
theorem dX10_together_84 : decode cX10_together 84 = .ok (.ifCond .eq 12, 3) := by decide +kernel
theorem dX10_together_87 : decode cX10_together 87 = .ok (.aload_n 0, 1) := by decide +kernel
theorem dX10_together_88 : decode cX10_together 88 = .ok (.iload_n 1, 1) := by decide +kernel
theorem dX10_together_89 : decode cX10_together 89 = .ok (.iload_n 3, 1) := by decide +kernel
theorem dX10_together_90 : decode cX10_together 90 = .ok (.iload_n 2, 1) := by decide +kernel
theorem dX10_together_91 : decode cX10_together 91 = .ok (.invokevirtual 296, 3) := by decide +kernel
theorem dX10_together_94 : decode cX10_together 94 = .ok (.istore 4, 2) := by decide +kernel
theorem dX10_together_96 : decode cX10_together 96 = .ok (.aload_n 0, 1) := by decide +kernel
theorem dX10_together_97 : decode cX10_together 97 = .ok (.getfield 10, 3) := by decide +kernel
theorem dX10_together_100 : decode cX10_together 100 = .ok (.invokevirtual 110, 3) := by decide +kernel
theorem dX10_together_103 : decode cX10_together 103 = .ok (.iload 4, 2) := by decide +kernel
theorem dX10_together_105 : decode cX10_together 105 = .ok (.ireturn, 1) := by decide +kernel
theorem dX10_tried_0 : decode cX10_tried 0 = .ok (.iload_n 1, 1) := by decide +kernel
theorem dX10_tried_1 : decode cX10_tried 1 = .ok (.iconst 1, 1) := by decide +kernel
theorem dX10_tried_2 : decode cX10_tried 2 = .ok (.bipush 120, 2) := by decide +kernel
theorem dX10_tried_4 : decode cX10_tried 4 = .ok (.invokestatic 99, 3) := by decide +kernel
theorem dX10_tried_7 : decode cX10_tried 7 = .ok (.ifCond .eq 11, 3) := by decide +kernel
theorem dX10_tried_10 : decode cX10_tried 10 = .ok (.aload_n 0, 1) := by decide +kernel
theorem dX10_tried_11 : decode cX10_tried 11 = .ok (.iload_n 2, 1) := by decide +kernel
theorem dX10_tried_12 : decode cX10_tried 12 = .ok (.invokevirtual 167, 3) := by decide +kernel
theorem dX10_tried_15 : decode cX10_tried 15 = .ok (.ifCond .ne 5, 3) := by decide +kernel
theorem dX10_tried_18 : decode cX10_tried 18 = .ok (.iconst (-1), 1) := by decide +kernel
theorem dX10_tried_19 : decode cX10_tried 19 = .ok (.ireturn, 1) := by decide +kernel
theorem dX10_tried_20 : decode cX10_tried 20 = .ok (.aload_n 0, 1) := by decide +kernel
theorem dX10_tried_21 : decode cX10_tried 21 = .ok (.getfield 70, 3) := by decide +kernel
theorem dX10_tried_24 : decode cX10_tried 24 = .ok (.invokevirtual 171, 3) := by decide +kernel
theorem dX10_tried_27 : decode cX10_tried 27 = .ok (.astore_n 3, 1) := by decide +kernel
theorem dX10_tried_28 : decode cX10_tried 28 = .ok (.aload_n 0, 1) := by decide +kernel
theorem dX10_tried_29 : decode cX10_tried 29 = .ok (.getfield 51, 3) := by decide +kernel
theorem dX10_tried_32 : decode cX10_tried 32 = .ok (.aload_n 3, 1) := by decide +kernel
theorem dX10_tried_33 : decode cX10_tried 33 = .ok (.iload_n 1, 1) := by decide +kernel
theorem dX10_tried_34 : decode cX10_tried 34 = .ok (.iconst (-1), 1) := by decide +kernel
theorem dX10_tried_35 : decode cX10_tried 35 = .ok (.invokevirtual 163, 3) := by decide +kernel
theorem dX10_tried_38 : decode cX10_tried 38 = .ok (.istore 4, 2) := by decide +kernel
theorem dX10_tried_40 : decode cX10_tried 40 = .ok (.iload_n 2, 1) := by decide +kernel
theorem dX10_tried_41 : decode cX10_tried 41 = .ok (.tableswitch 67 0 5 #[39, 42, 47, 52, 57, 62], 39) := by decide +kernel
theorem dX10_tried_80 : decode cX10_tried 80 = .ok (.iload 4, 2) := by decide +kernel
theorem dX10_tried_82 : decode cX10_tried 82 = .ok (.ireturn, 1) := by decide +kernel
theorem dX10_tried_83 : decode cX10_tried 83 = .ok (.aload_n 3, 1) := by decide +kernel
theorem dX10_tried_84 : decode cX10_tried 84 = .ok (.getfield 175, 3) := by decide +kernel
theorem dX10_tried_87 : decode cX10_tried 87 = .ok (.ireturn, 1) := by decide +kernel
theorem dX10_tried_88 : decode cX10_tried 88 = .ok (.aload_n 3, 1) := by decide +kernel
theorem dX10_tried_89 : decode cX10_tried 89 = .ok (.invokevirtual 178, 3) := by decide +kernel
theorem dX10_tried_92 : decode cX10_tried 92 = .ok (.ireturn, 1) := by decide +kernel
theorem dX10_tried_93 : decode cX10_tried 93 = .ok (.aload_n 3, 1) := by decide +kernel
theorem dX10_tried_94 : decode cX10_tried 94 = .ok (.getfield 182, 3) := by decide +kernel
theorem dX10_tried_97 : decode cX10_tried 97 = .ok (.ireturn, 1) := by decide +kernel
theorem dX10_tried_98 : decode cX10_tried 98 = .ok (.aload_n 3, 1) := by decide +kernel
theorem dX10_tried_99 : decode cX10_tried 99 = .ok (.getfield 185, 3) := by decide +kernel
theorem dX10_tried_102 : decode cX10_tried 102 = .ok (.ireturn, 1) := by decide +kernel
theorem dX10_tried_103 : decode cX10_tried 103 = .ok (.aload_n 3, 1) := by decide +kernel
theorem dX10_tried_104 : decode cX10_tried 104 = .ok (.invokevirtual 188, 3) := by decide +kernel
theorem dX10_tried_107 : decode cX10_tried 107 = .ok (.ireturn, 1) := by decide +kernel
theorem dX10_tried_108 : decode cX10_tried 108 = .ok (.iload_n 2, 1) := by decide +kernel
theorem dX10_tried_109 : decode cX10_tried 109 = .ok (.bipush 10, 2) := by decide +kernel
theorem dX10_tried_111 : decode cX10_tried 111 = .ok (.bipush 19, 2) := by decide +kernel
theorem dX10_tried_113 : decode cX10_tried 113 = .ok (.invokestatic 99, 3) := by decide +kernel
theorem dX10_tried_116 : decode cX10_tried 116 = .ok (.ifCond .eq 13, 3) := by decide +kernel
theorem dX10_tried_119 : decode cX10_tried 119 = .ok (.aload_n 3, 1) := by decide +kernel
theorem dX10_tried_120 : decode cX10_tried 120 = .ok (.getfield 191, 3) := by decide +kernel
theorem dX10_tried_123 : decode cX10_tried 123 = .ok (.iload_n 2, 1) := by decide +kernel
theorem dX10_tried_124 : decode cX10_tried 124 = .ok (.bipush 10, 2) := by decide +kernel
theorem dX10_tried_126 : decode cX10_tried 126 = .ok (.isub, 1) := by decide +kernel
theorem dX10_tried_127 : decode cX10_tried 127 = .ok (.iaload, 1) := by decide +kernel
theorem dX10_tried_128 : decode cX10_tried 128 = .ok (.ireturn, 1) := by decide +kernel
theorem dX10_tried_129 : decode cX10_tried 129 = .ok (.iload_n 2, 1) := by decide +kernel
theorem dX10_tried_130 : decode cX10_tried 130 = .ok (.bipush 20, 2) := by decide +kernel
theorem dX10_tried_132 : decode cX10_tried 132 = .ok (.bipush 29, 2) := by decide +kernel
theorem dX10_tried_134 : decode cX10_tried 134 = .ok (.invokestatic 99, 3) := by decide +kernel
theorem dX10_tried_137 : decode cX10_tried 137 = .ok (.ifCond .eq 13, 3) := by decide +kernel
theorem dX10_tried_140 : decode cX10_tried 140 = .ok (.aload_n 3, 1) := by decide +kernel
theorem dX10_tried_141 : decode cX10_tried 141 = .ok (.getfield 194, 3) := by decide +kernel
theorem dX10_tried_144 : decode cX10_tried 144 = .ok (.iload_n 2, 1) := by decide +kernel
theorem dX10_tried_145 : decode cX10_tried 145 = .ok (.bipush 20, 2) := by decide +kernel
theorem dX10_tried_147 : decode cX10_tried 147 = .ok (.isub, 1) := by decide +kernel
theorem dX10_tried_148 : decode cX10_tried 148 = .ok (.iaload, 1) := by decide +kernel
theorem dX10_tried_149 : decode cX10_tried 149 = .ok (.ireturn, 1) := by decide +kernel
theorem dX10_tried_150 : decode cX10_tried 150 = .ok (.iload_n 2, 1) := by decide +kernel
theorem dX10_tried_151 : decode cX10_tried 151 = .ok (.bipush 30, 2) := by decide +kernel
theorem dX10_tried_153 : decode cX10_tried 153 = .ok (.bipush 31, 2) := by decide +kernel
theorem dX10_tried_155 : decode cX10_tried 155 = .ok (.invokestatic 99, 3) := by decide +kernel
theorem dX10_tried_158 : decode cX10_tried 158 = .ok (.ifCond .eq 15, 3) := by decide +kernel
theorem dX10_tried_161 : decode cX10_tried 161 = .ok (.aload_n 3, 1) := by decide +kernel
theorem dX10_tried_162 : decode cX10_tried 162 = .ok (.getfield 141, 3) := by decide +kernel
theorem dX10_tried_165 : decode cX10_tried 165 = .ok (.iload_n 2, 1) := by decide +kernel
theorem dX10_tried_166 : decode cX10_tried 166 = .ok (.bipush 30, 2) := by decide +kernel
theorem dX10_tried_168 : decode cX10_tried 168 = .ok (.isub, 1) := by decide +kernel
theorem dX10_tried_169 : decode cX10_tried 169 = .ok (.iaload, 1) := by decide +kernel
theorem dX10_tried_170 : decode cX10_tried 170 = .ok (.goto 4, 3) := by decide +kernel
theorem dX10_tried_173 : decode cX10_tried 173 = .ok (.iconst (-1), 1) := by decide +kernel
theorem dX10_tried_174 : decode cX10_tried 174 = .ok (.ireturn, 1) := by decide +kernel
theorem dX10_undo_0 : decode cX10_undo 0 = .ok (.aload_n 0, 1) := by decide +kernel
theorem dX10_undo_1 : decode cX10_undo 1 = .ok (.getfield 87, 3) := by decide +kernel
theorem dX10_undo_4 : decode cX10_undo 4 = .ok (.ifCond .eq 14, 3) := by decide +kernel
theorem dX10_undo_7 : decode cX10_undo 7 = .ok (.aload_n 0, 1) := by decide +kernel
theorem dX10_undo_8 : decode cX10_undo 8 = .ok (.getfield 58, 3) := by decide +kernel
theorem dX10_undo_11 : decode cX10_undo 11 = .ok (.aload_n 0, 1) := by decide +kernel
theorem dX10_undo_12 : decode cX10_undo 12 = .ok (.getfield 62, 3) := by decide +kernel
theorem dX10_undo_15 : decode cX10_undo 15 = .ok (.invokevirtual 303, 3) := by decide +kernel
theorem dX10_undo_18 : decode cX10_undo 18 = .ok (.aload_n 0, 1) := by decide +kernel
theorem dX10_undo_19 : decode cX10_undo 19 = .ok (.getfield 87, 3) := by decide +kernel
theorem dX10_undo_22 : decode cX10_undo 22 = .ok (.ireturn, 1) := by decide +kernel
theorem dX10_walk_0 : decode cX10_walk 0 = .ok (.iload_n 1, 1) := by decide +kernel
theorem dX10_walk_1 : decode cX10_walk 1 = .ok (.iconst 0, 1) := by decide +kernel
theorem dX10_walk_2 : decode cX10_walk 2 = .ok (.iconst 1, 1) := by decide +kernel
theorem dX10_walk_3 : decode cX10_walk 3 = .ok (.invokestatic 99, 3) := by decide +kernel
theorem dX10_walk_6 : decode cX10_walk 6 = .ok (.ifCond .eq 24, 3) := by decide +kernel
theorem dX10_walk_9 : decode cX10_walk 9 = .ok (.iload_n 2, 1) := by decide +kernel
theorem dX10_walk_10 : decode cX10_walk 10 = .ok (.iconst 1, 1) := by decide +kernel
theorem dX10_walk_11 : decode cX10_walk 11 = .ok (.bipush 80, 2) := by decide +kernel
theorem dX10_walk_13 : decode cX10_walk 13 = .ok (.invokestatic 99, 3) := by decide +kernel
theorem dX10_walk_16 : decode cX10_walk 16 = .ok (.ifCond .eq 14, 3) := by decide +kernel
theorem dX10_walk_19 : decode cX10_walk 19 = .ok (.iload_n 2, 1) := by decide +kernel
theorem dX10_walk_20 : decode cX10_walk 20 = .ok (.aload_n 0, 1) := by decide +kernel
theorem dX10_walk_21 : decode cX10_walk 21 = .ok (.getfield 10, 3) := by decide +kernel
theorem dX10_walk_24 : decode cX10_walk 24 = .ok (.getfield 91, 3) := by decide +kernel
theorem dX10_walk_27 : decode cX10_walk 27 = .ok (.if_icmp .le 5, 3) := by decide +kernel
theorem dX10_walk_30 : decode cX10_walk 30 = .ok (.iconst (-1), 1) := by decide +kernel
theorem dX10_walk_31 : decode cX10_walk 31 = .ok (.ireturn, 1) := by decide +kernel
theorem dX10_walk_32 : decode cX10_walk 32 = .ok (.aload_n 0, 1) := by decide +kernel
theorem dX10_walk_33 : decode cX10_walk 33 = .ok (.getfield 10, 3) := by decide +kernel
theorem dX10_walk_36 : decode cX10_walk 36 = .ok (.iload_n 2, 1) := by decide +kernel
theorem dX10_walk_37 : decode cX10_walk 37 = .ok (.invokevirtual 103, 3) := by decide +kernel
theorem dX10_walk_40 : decode cX10_walk 40 = .ok (.aload_n 0, 1) := by decide +kernel
theorem dX10_walk_41 : decode cX10_walk 41 = .ok (.getfield 42, 3) := by decide +kernel
theorem dX10_walk_44 : decode cX10_walk 44 = .ok (.invokevirtual 144, 3) := by decide +kernel
theorem dX10_walk_47 : decode cX10_walk 47 = .ok (.istore_n 3, 1) := by decide +kernel
theorem dX10_walk_48 : decode cX10_walk 48 = .ok (.aload_n 0, 1) := by decide +kernel
theorem dX10_walk_49 : decode cX10_walk 49 = .ok (.getfield 10, 3) := by decide +kernel
theorem dX10_walk_52 : decode cX10_walk 52 = .ok (.invokevirtual 110, 3) := by decide +kernel
theorem dX10_walk_55 : decode cX10_walk 55 = .ok (.iload_n 3, 1) := by decide +kernel
theorem dX10_walk_56 : decode cX10_walk 56 = .ok (.ifCond .ne 11, 3) := by decide +kernel
theorem dX10_walk_59 : decode cX10_walk 59 = .ok (.aload_n 0, 1) := by decide +kernel
theorem dX10_walk_60 : decode cX10_walk 60 = .ok (.getfield 10, 3) := by decide +kernel
theorem dX10_walk_63 : decode cX10_walk 63 = .ok (.getfield 113, 3) := by decide +kernel
theorem dX10_walk_66 : decode cX10_walk 66 = .ok (.ireturn, 1) := by decide +kernel
theorem dX10_walk_67 : decode cX10_walk 67 = .ok (.aload_n 0, 1) := by decide +kernel
theorem dX10_walk_68 : decode cX10_walk 68 = .ok (.getfield 58, 3) := by decide +kernel
theorem dX10_walk_71 : decode cX10_walk 71 = .ok (.iload_n 1, 1) := by decide +kernel
theorem dX10_walk_72 : decode cX10_walk 72 = .ok (.aload_n 0, 1) := by decide +kernel
theorem dX10_walk_73 : decode cX10_walk 73 = .ok (.getfield 42, 3) := by decide +kernel
theorem dX10_walk_76 : decode cX10_walk 76 = .ok (.invokevirtual 145, 3) := by decide +kernel
theorem dX10_walk_79 : decode cX10_walk 79 = .ok (.invokevirtual 149, 3) := by decide +kernel
theorem dX10_walk_82 : decode cX10_walk 82 = .ok (.aload_n 0, 1) := by decide +kernel
theorem dX10_walk_83 : decode cX10_walk 83 = .ok (.getfield 42, 3) := by decide +kernel
theorem dX10_walk_86 : decode cX10_walk 86 = .ok (.getfield 153, 3) := by decide +kernel
theorem dX10_walk_89 : decode cX10_walk 89 = .ok (.ireturn, 1) := by decide +kernel
theorem dX9_copyOfSteps_0 : decode cX9_copyOfSteps 0 = .ok (.iconst 0, 1) := by decide +kernel
theorem dX9_copyOfSteps_1 : decode cX9_copyOfSteps 1 = .ok (.aload_n 0, 1) := by decide +kernel
theorem dX9_copyOfSteps_2 : decode cX9_copyOfSteps 2 = .ok (.getfield 19, 3) := by decide +kernel
theorem dX9_copyOfSteps_5 : decode cX9_copyOfSteps 5 = .ok (.bipush 60, 2) := by decide +kernel
theorem dX9_copyOfSteps_7 : decode cX9_copyOfSteps 7 = .ok (.invokestatic 27, 3) := by decide +kernel
theorem dX9_copyOfSteps_10 : decode cX9_copyOfSteps 10 = .ok (.invokestatic 33, 3) := by decide +kernel
theorem dX9_copyOfSteps_13 : decode cX9_copyOfSteps 13 = .ok (.newarray .int, 2) := by decide +kernel
theorem dX9_copyOfSteps_15 : decode cX9_copyOfSteps 15 = .ok (.astore_n 1, 1) := by decide +kernel
theorem dX9_copyOfSteps_16 : decode cX9_copyOfSteps 16 = .ok (.iconst 0, 1) := by decide +kernel
theorem dX9_copyOfSteps_17 : decode cX9_copyOfSteps 17 = .ok (.istore_n 2, 1) := by decide +kernel
theorem dX9_copyOfSteps_18 : decode cX9_copyOfSteps 18 = .ok (.iload_n 2, 1) := by decide +kernel
theorem dX9_copyOfSteps_19 : decode cX9_copyOfSteps 19 = .ok (.aload_n 1, 1) := by decide +kernel
theorem dX9_copyOfSteps_20 : decode cX9_copyOfSteps 20 = .ok (.arraylength, 1) := by decide +kernel
theorem dX9_copyOfSteps_21 : decode cX9_copyOfSteps 21 = .ok (.if_icmp .ge 18, 3) := by decide +kernel
theorem dX9_copyOfSteps_24 : decode cX9_copyOfSteps 24 = .ok (.aload_n 1, 1) := by decide +kernel
theorem dX9_copyOfSteps_25 : decode cX9_copyOfSteps 25 = .ok (.iload_n 2, 1) := by decide +kernel
theorem dX9_copyOfSteps_26 : decode cX9_copyOfSteps 26 = .ok (.aload_n 0, 1) := by decide +kernel
theorem dX9_copyOfSteps_27 : decode cX9_copyOfSteps 27 = .ok (.getfield 15, 3) := by decide +kernel
theorem dX9_copyOfSteps_30 : decode cX9_copyOfSteps 30 = .ok (.iload_n 2, 1) := by decide +kernel
theorem dX9_copyOfSteps_31 : decode cX9_copyOfSteps 31 = .ok (.iaload, 1) := by decide +kernel
theorem dX9_copyOfSteps_32 : decode cX9_copyOfSteps 32 = .ok (.iastore, 1) := by decide +kernel
theorem dX9_copyOfSteps_33 : decode cX9_copyOfSteps 33 = .ok (.iinc 2 1, 3) := by decide +kernel
theorem dX9_copyOfSteps_36 : decode cX9_copyOfSteps 36 = .ok (.goto (-18), 3) := by decide +kernel
theorem dX9_copyOfSteps_39 : decode cX9_copyOfSteps 39 = .ok (.aload_n 1, 1) := by decide +kernel
theorem dX9_copyOfSteps_40 : decode cX9_copyOfSteps 40 = .ok (.areturn, 1) := by decide +kernel


