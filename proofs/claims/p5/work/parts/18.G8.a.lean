theorem cls_X9 : xCls RX9 TX9 3 9 tyX9 := ⟨xin [311, 313, 315] (by decide +kernel) (by decide +kernel), rfl, tyX9_ok, nmX9⟩
theorem st_X9_2 (h0 : Nat) (σ : xS) (k : Nat) (a : Int) : xobj h0 (xU σ k 2 a) k 9 = (xobj h0 σ k 9).set 2 (.int (xJ a)) := by simp [xobj, xU]
theorem ln_X9_2 (h0 : Nat) (σ : xS) (k : Nat) : 2 < (xobj h0 σ k 9).length := by simp [xobj]
theorem cf_X6_kindOf : xCF yX6_kindOf cX6_kindOf 1 (some .int) 1 := ⟨xq 592 (by decide +kernel) rfl, xq 170 (by decide +kernel) rfl, by decide +kernel⟩
theorem cf_X6_readRow : xCF yX6_readRow cX6_readRow 8 (some .boolean) 2 := ⟨xq 578 (by decide +kernel) rfl, xq 170 (by decide +kernel) rfl, by decide +kernel⟩
theorem cf_X6_timesOf : xCF yX6_timesOf cX6_timesOf 1 (some .int) 1 := ⟨xq 585 (by decide +kernel) rfl, xq 170 (by decide +kernel) rfl, by decide +kernel⟩
theorem cf_X9_readStep : xCF yX9_readStep cX9_readStep 6 (some .boolean) 1 := ⟨xq 726 (by decide +kernel) rfl, xq 173 (by decide +kernel) rfl, by decide +kernel⟩
theorem cf_X9_readSteps : xCF yX9_readSteps cX9_readSteps 4 (some .boolean) 1 := ⟨xq 722 (by decide +kernel) rfl, xq 173 (by decide +kernel) rfl, by decide +kernel⟩
theorem cf_X9_repeat : xCF yX9_repeat cX9_repeat 5 (some .boolean) 2 := ⟨xq 733 (by decide +kernel) rfl, xq 173 (by decide +kernel) rfl, by decide +kernel⟩
theorem cf_X9_stepOf : xCF yX9_stepOf cX9_stepOf 1 (some .int) 1 := ⟨xq 736 (by decide +kernel) rfl, xq 173 (by decide +kernel) rfl, by decide +kernel⟩
theorem wq3 : Cond.selects yX6_readRow.cls yX6_readRow yX6_readRow ∈ xTB := xq 3 (by decide +kernel) rfl
theorem wq29 : Cond.selects yX9_readSteps.cls yX9_readSteps yX9_readSteps ∈ xTB := xq 29 (by decide +kernel) rfl
theorem wq30 : Cond.selects yX9_readStep.cls yX9_readStep yX9_readStep ∈ xTB := xq 30 (by decide +kernel) rfl
theorem wq31 : Cond.selects yX9_repeat.cls yX9_repeat yX9_repeat ∈ xTB := xq 31 (by decide +kernel) rfl
theorem wq227 : Cond.fieldLink "ShadowCourt$Market" (15) "ShadowCourt$Market" "drawn" "[I" ∈ xTB := xq 227 (by decide +kernel) rfl
theorem wq307 : Cond.fieldLink "ShadowCourt$WalkReader" (9) "ShadowCourt$WalkReader" "tape" "LShadowCourt$Tape;" ∈ xTB := xq 307 (by decide +kernel) rfl
theorem wq308 : Cond.fieldLink "ShadowCourt$WalkReader" (15) "ShadowCourt$WalkReader" "steps" "[I" ∈ xTB := xq 308 (by decide +kernel) rfl
theorem wq309 : Cond.fieldLink "ShadowCourt$WalkReader" (19) "ShadowCourt$WalkReader" "size" "I" ∈ xTB := xq 309 (by decide +kernel) rfl
theorem wq575 : Cond.methodLink "ShadowCourt$Market" (48) yX6_readRow ∈ xTB := xq 575 (by decide +kernel) rfl
theorem wq577 : Cond.instanceMethod yX6_readRow ∈ xTB := xq 577 (by decide +kernel) rfl
theorem wq583 : Cond.methodLink "ShadowCourt$Market" (61) yX6_timesOf ∈ xTB := xq 583 (by decide +kernel) rfl
theorem wq584 : Cond.static yX6_timesOf ∈ xTB := xq 584 (by decide +kernel) rfl
theorem wq590 : Cond.methodLink "ShadowCourt$Market" (58) yX6_kindOf ∈ xTB := xq 590 (by decide +kernel) rfl
theorem wq591 : Cond.static yX6_kindOf ∈ xTB := xq 591 (by decide +kernel) rfl
theorem wq593 : Cond.methodLink "ShadowCourt$Market" (81) (⟨"java/lang/Math", "max", "(II)I"⟩ : MethodName) ∈ xTB := xq 593 (by decide +kernel) rfl
theorem wq602 : Cond.methodLink "ShadowCourt$Market" (75) (⟨"java/lang/System", "arraycopy", "(Ljava/lang/Object;ILjava/lang/Object;II)V"⟩ : MethodName) ∈ xTB := xq 602 (by decide +kernel) rfl
theorem wq719 : Cond.methodLink "ShadowCourt$WalkReader" (23) yX9_readSteps ∈ xTB := xq 719 (by decide +kernel) rfl
theorem wq721 : Cond.instanceMethod yX9_readSteps ∈ xTB := xq 721 (by decide +kernel) rfl
theorem wq723 : Cond.methodLink "ShadowCourt$WalkReader" (36) yX9_readStep ∈ xTB := xq 723 (by decide +kernel) rfl
theorem wq725 : Cond.instanceMethod yX9_readStep ∈ xTB := xq 725 (by decide +kernel) rfl
theorem wq730 : Cond.methodLink "ShadowCourt$WalkReader" (55) yX9_repeat ∈ xTB := xq 730 (by decide +kernel) rfl
theorem wq732 : Cond.instanceMethod yX9_repeat ∈ xTB := xq 732 (by decide +kernel) rfl
theorem wq734 : Cond.methodLink "ShadowCourt$WalkReader" (58) yX9_stepOf ∈ xTB := xq 734 (by decide +kernel) rfl
theorem wq735 : Cond.static yX9_stepOf ∈ xTB := xq 735 (by decide +kernel) rfl
theorem wn202 : Cond.fieldLinkNest "ShadowCourt$WalkReader" (45) "ShadowCourt$Tape" "at" "I" "ShadowCourt" ∈ xNL := xn 202 (by decide +kernel) rfl
theorem wn203 : Cond.fieldLinkNest "ShadowCourt$Market" (64) "ShadowCourt$Tape" "at" "I" "ShadowCourt" ∈ xNL := xn 203 (by decide +kernel) rfl
theorem wn579 : Cond.methodLinkNest "ShadowCourt$Market" (52) yX8_sign "ShadowCourt" ∈ xNL := xn 579 (by decide +kernel) rfl
theorem wn586 : Cond.methodLinkNest "ShadowCourt$Market" (68) yX8_fails "ShadowCourt" ∈ xNL := xn 586 (by decide +kernel) rfl
theorem wn596 : Cond.methodLinkNest "ShadowCourt$Market" (72) yX8_passes "ShadowCourt" ∈ xNL := xn 596 (by decide +kernel) rfl
theorem wn727 : Cond.methodLinkNest "ShadowCourt$WalkReader" (39) yX8_sign "ShadowCourt" ∈ xNL := xn 727 (by decide +kernel) rfl
theorem wn728 : Cond.methodLinkNest "ShadowCourt$WalkReader" (48) yX8_fails "ShadowCourt" ∈ xNL := xn 728 (by decide +kernel) rfl
theorem wn729 : Cond.methodLinkNest "ShadowCourt$WalkReader" (52) yX8_passes "ShadowCourt" ∈ xNL := xn 729 (by decide +kernel) rfl
theorem dX6_readFrom_0 : decode cX6_readFrom 0 = .ok (.iconst 0, 1) := by decide +kernel
theorem dX6_readFrom_1 : decode cX6_readFrom 1 = .ok (.istore_n 2, 1) := by decide +kernel
theorem dX6_readFrom_2 : decode cX6_readFrom 2 = .ok (.iload_n 2, 1) := by decide +kernel
theorem dX6_readFrom_3 : decode cX6_readFrom 3 = .ok (.bipush 10, 2) := by decide +kernel
theorem dX6_readFrom_5 : decode cX6_readFrom 5 = .ok (.if_icmp .ge 73, 3) := by decide +kernel
theorem dX6_readFrom_8 : decode cX6_readFrom 8 = .ok (.aload_n 0, 1) := by decide +kernel
theorem dX6_readFrom_9 : decode cX6_readFrom 9 = .ok (.aload_n 1, 1) := by decide +kernel
theorem dX6_readFrom_10 : decode cX6_readFrom 10 = .ok (.iload_n 2, 1) := by decide +kernel
theorem dX6_readFrom_11 : decode cX6_readFrom 11 = .ok (.invokevirtual 48, 3) := by decide +kernel
theorem dX6_readFrom_14 : decode cX6_readFrom 14 = .ok (.ifCond .ne 5, 3) := by decide +kernel
theorem dX6_readFrom_17 : decode cX6_readFrom 17 = .ok (.iconst 0, 1) := by decide +kernel
theorem dX6_readFrom_18 : decode cX6_readFrom 18 = .ok (.ireturn, 1) := by decide +kernel
theorem dX6_readFrom_19 : decode cX6_readFrom 19 = .ok (.aload_n 1, 1) := by decide +kernel
theorem dX6_readFrom_20 : decode cX6_readFrom 20 = .ok (.invokevirtual 52, 3) := by decide +kernel
theorem dX6_readFrom_23 : decode cX6_readFrom 23 = .ok (.invokestatic 58, 3) := by decide +kernel
theorem dX6_readFrom_26 : decode cX6_readFrom 26 = .ok (.iconst (-1), 1) := by decide +kernel
theorem dX6_readFrom_27 : decode cX6_readFrom 27 = .ok (.if_icmp .ne 13, 3) := by decide +kernel
theorem dX6_readFrom_30 : decode cX6_readFrom 30 = .ok (.aload_n 1, 1) := by decide +kernel
theorem dX6_readFrom_31 : decode cX6_readFrom 31 = .ok (.invokevirtual 52, 3) := by decide +kernel
theorem dX6_readFrom_34 : decode cX6_readFrom 34 = .ok (.invokestatic 61, 3) := by decide +kernel
theorem dX6_readFrom_37 : decode cX6_readFrom 37 = .ok (.ifCond .le 14, 3) := by decide +kernel
theorem dX6_readFrom_40 : decode cX6_readFrom 40 = .ok (.aload_n 1, 1) := by decide +kernel
theorem dX6_readFrom_41 : decode cX6_readFrom 41 = .ok (.bipush 6, 2) := by decide +kernel
theorem dX6_readFrom_43 : decode cX6_readFrom 43 = .ok (.aload_n 1, 1) := by decide +kernel
theorem dX6_readFrom_44 : decode cX6_readFrom 44 = .ok (.getfield 64, 3) := by decide +kernel
theorem dX6_readFrom_47 : decode cX6_readFrom 47 = .ok (.invokevirtual 68, 3) := by decide +kernel
theorem dX6_readFrom_50 : decode cX6_readFrom 50 = .ok (.ireturn, 1) := by decide +kernel
theorem dX6_readFrom_51 : decode cX6_readFrom 51 = .ok (.aload_n 1, 1) := by decide +kernel
theorem dX6_readFrom_52 : decode cX6_readFrom 52 = .ok (.iload_n 2, 1) := by decide +kernel
theorem dX6_readFrom_53 : decode cX6_readFrom 53 = .ok (.bipush 9, 2) := by decide +kernel
theorem dX6_readFrom_55 : decode cX6_readFrom 55 = .ok (.if_icmp .ge 8, 3) := by decide +kernel
theorem dX6_readFrom_58 : decode cX6_readFrom 58 = .ok (.bipush 47, 2) := by decide +kernel
theorem dX6_readFrom_60 : decode cX6_readFrom 60 = .ok (.goto 4, 3) := by decide +kernel
theorem dX6_readFrom_63 : decode cX6_readFrom 63 = .ok (.iconst (-1), 1) := by decide +kernel
theorem dX6_readFrom_64 : decode cX6_readFrom 64 = .ok (.invokevirtual 72, 3) := by decide +kernel
theorem dX6_readFrom_67 : decode cX6_readFrom 67 = .ok (.ifCond .ne 5, 3) := by decide +kernel
theorem dX6_readFrom_70 : decode cX6_readFrom 70 = .ok (.iconst 0, 1) := by decide +kernel
theorem dX6_readFrom_71 : decode cX6_readFrom 71 = .ok (.ireturn, 1) := by decide +kernel
theorem dX6_readFrom_72 : decode cX6_readFrom 72 = .ok (.iinc 2 1, 3) := by decide +kernel
theorem dX6_readFrom_75 : decode cX6_readFrom 75 = .ok (.goto (-73), 3) := by decide +kernel
theorem dX6_readFrom_78 : decode cX6_readFrom 78 = .ok (.aload_n 0, 1) := by decide +kernel
theorem dX6_readFrom_79 : decode cX6_readFrom 79 = .ok (.getfield 15, 3) := by decide +kernel
theorem dX6_readFrom_82 : decode cX6_readFrom 82 = .ok (.iconst 0, 1) := by decide +kernel
theorem dX6_readFrom_83 : decode cX6_readFrom 83 = .ok (.aload_n 0, 1) := by decide +kernel
theorem dX6_readFrom_84 : decode cX6_readFrom 84 = .ok (.getfield 9, 3) := by decide +kernel
theorem dX6_readFrom_87 : decode cX6_readFrom 87 = .ok (.iconst 0, 1) := by decide +kernel
theorem dX6_readFrom_88 : decode cX6_readFrom 88 = .ok (.bipush 100, 2) := by decide +kernel
theorem dX6_readFrom_90 : decode cX6_readFrom 90 = .ok (.invokestatic 75, 3) := by decide +kernel
theorem dX6_readFrom_93 : decode cX6_readFrom 93 = .ok (.iconst 0, 1) := by decide +kernel
theorem dX6_readFrom_94 : decode cX6_readFrom 94 = .ok (.istore_n 2, 1) := by decide +kernel
theorem dX6_readFrom_95 : decode cX6_readFrom 95 = .ok (.iload_n 2, 1) := by decide +kernel
theorem dX6_readFrom_96 : decode cX6_readFrom 96 = .ok (.aload_n 0, 1) := by decide +kernel
theorem dX6_readFrom_97 : decode cX6_readFrom 97 = .ok (.getfield 23, 3) := by decide +kernel
theorem dX6_readFrom_100 : decode cX6_readFrom 100 = .ok (.arraylength, 1) := by decide +kernel
theorem dX6_readFrom_101 : decode cX6_readFrom 101 = .ok (.if_icmp .ge 16, 3) := by decide +kernel
theorem dX6_readFrom_104 : decode cX6_readFrom 104 = .ok (.aload_n 0, 1) := by decide +kernel
theorem dX6_readFrom_105 : decode cX6_readFrom 105 = .ok (.getfield 23, 3) := by decide +kernel
theorem dX6_readFrom_108 : decode cX6_readFrom 108 = .ok (.iload_n 2, 1) := by decide +kernel
theorem dX6_readFrom_109 : decode cX6_readFrom 109 = .ok (.iconst 0, 1) := by decide +kernel
theorem dX6_readFrom_110 : decode cX6_readFrom 110 = .ok (.bastore, 1) := by decide +kernel
theorem dX6_readFrom_111 : decode cX6_readFrom 111 = .ok (.iinc 2 1, 3) := by decide +kernel
theorem dX6_readFrom_114 : decode cX6_readFrom 114 = .ok (.goto (-19), 3) := by decide +kernel
theorem dX6_readFrom_117 : decode cX6_readFrom 117 = .ok (.iconst 1, 1) := by decide +kernel
theorem dX6_readFrom_118 : decode cX6_readFrom 118 = .ok (.ireturn, 1) := by decide +kernel
theorem dX6_readRow_0 : decode cX6_readRow 0 = .ok (.iconst 0, 1) := by decide +kernel
theorem dX6_readRow_1 : decode cX6_readRow 1 = .ok (.istore_n 3, 1) := by decide +kernel
theorem dX6_readRow_2 : decode cX6_readRow 2 = .ok (.iconst 0, 1) := by decide +kernel
theorem dX6_readRow_3 : decode cX6_readRow 3 = .ok (.istore 4, 2) := by decide +kernel
theorem dX6_readRow_5 : decode cX6_readRow 5 = .ok (.iload 4, 2) := by decide +kernel
theorem dX6_readRow_7 : decode cX6_readRow 7 = .ok (.bipush 10, 2) := by decide +kernel
theorem dX6_readRow_9 : decode cX6_readRow 9 = .ok (.if_icmp .ge 135, 3) := by decide +kernel
theorem dX6_readRow_12 : decode cX6_readRow 12 = .ok (.iload_n 3, 1) := by decide +kernel
theorem dX6_readRow_13 : decode cX6_readRow 13 = .ok (.bipush 10, 2) := by decide +kernel
theorem dX6_readRow_15 : decode cX6_readRow 15 = .ok (.if_icmp .ge 129, 3) := by decide +kernel
theorem dX6_readRow_18 : decode cX6_readRow 18 = .ok (.aload_n 1, 1) := by decide +kernel
theorem dX6_readRow_19 : decode cX6_readRow 19 = .ok (.invokevirtual 52, 3) := by decide +kernel
theorem dX6_readRow_22 : decode cX6_readRow 22 = .ok (.invokestatic 61, 3) := by decide +kernel
theorem dX6_readRow_25 : decode cX6_readRow 25 = .ok (.istore 5, 2) := by decide +kernel
theorem dX6_readRow_27 : decode cX6_readRow 27 = .ok (.iload_n 3, 1) := by decide +kernel
theorem dX6_readRow_28 : decode cX6_readRow 28 = .ok (.iload 5, 2) := by decide +kernel
theorem dX6_readRow_30 : decode cX6_readRow 30 = .ok (.iadd, 1) := by decide +kernel
theorem dX6_readRow_31 : decode cX6_readRow 31 = .ok (.bipush 10, 2) := by decide +kernel
theorem dX6_readRow_33 : decode cX6_readRow 33 = .ok (.if_icmp .le 14, 3) := by decide +kernel
theorem dX6_readRow_36 : decode cX6_readRow 36 = .ok (.aload_n 1, 1) := by decide +kernel
theorem dX6_readRow_37 : decode cX6_readRow 37 = .ok (.bipush 6, 2) := by decide +kernel
theorem dX6_readRow_39 : decode cX6_readRow 39 = .ok (.aload_n 1, 1) := by decide +kernel
theorem dX6_readRow_40 : decode cX6_readRow 40 = .ok (.getfield 64, 3) := by decide +kernel
theorem dX6_readRow_43 : decode cX6_readRow 43 = .ok (.invokevirtual 68, 3) := by decide +kernel
theorem dX6_readRow_46 : decode cX6_readRow 46 = .ok (.ireturn, 1) := by decide +kernel
theorem dX6_readRow_47 : decode cX6_readRow 47 = .ok (.iload 5, 2) := by decide +kernel
theorem dX6_readRow_49 : decode cX6_readRow 49 = .ok (.ifCond .le 13, 3) := by decide +kernel
theorem dX6_readRow_52 : decode cX6_readRow 52 = .ok (.aload_n 1, 1) := by decide +kernel
theorem dX6_readRow_53 : decode cX6_readRow 53 = .ok (.dup, 1) := by decide +kernel
theorem dX6_readRow_54 : decode cX6_readRow 54 = .ok (.getfield 64, 3) := by decide +kernel
theorem dX6_readRow_57 : decode cX6_readRow 57 = .ok (.iconst 1, 1) := by decide +kernel
theorem dX6_readRow_58 : decode cX6_readRow 58 = .ok (.iadd, 1) := by decide +kernel
theorem dX6_readRow_59 : decode cX6_readRow 59 = .ok (.putfield 64, 3) := by decide +kernel
theorem dX6_readRow_62 : decode cX6_readRow 62 = .ok (.aload_n 1, 1) := by decide +kernel
theorem dX6_readRow_63 : decode cX6_readRow 63 = .ok (.invokevirtual 52, 3) := by decide +kernel
theorem dX6_readRow_66 : decode cX6_readRow 66 = .ok (.invokestatic 58, 3) := by decide +kernel
theorem dX6_readRow_69 : decode cX6_readRow 69 = .ok (.istore 6, 2) := by decide +kernel
theorem dX6_readRow_71 : decode cX6_readRow 71 = .ok (.iload 6, 2) := by decide +kernel
theorem dX6_readRow_73 : decode cX6_readRow 73 = .ok (.iconst (-1), 1) := by decide +kernel
theorem dX6_readRow_74 : decode cX6_readRow 74 = .ok (.if_icmp .ne 13, 3) := by decide +kernel
theorem dX6_readRow_77 : decode cX6_readRow 77 = .ok (.aload_n 1, 1) := by decide +kernel
theorem dX6_readRow_78 : decode cX6_readRow 78 = .ok (.iconst 1, 1) := by decide +kernel
theorem dX6_readRow_79 : decode cX6_readRow 79 = .ok (.aload_n 1, 1) := by decide +kernel
theorem dX6_readRow_80 : decode cX6_readRow 80 = .ok (.getfield 64, 3) := by decide +kernel
theorem dX6_readRow_83 : decode cX6_readRow 83 = .ok (.invokevirtual 68, 3) := by decide +kernel
theorem dX6_readRow_86 : decode cX6_readRow 86 = .ok (.ireturn, 1) := by decide +kernel
theorem dX6_readRow_87 : decode cX6_readRow 87 = .ok (.aload_n 1, 1) := by decide +kernel
theorem dX6_readRow_88 : decode cX6_readRow 88 = .ok (.dup, 1) := by decide +kernel
theorem dX6_readRow_89 : decode cX6_readRow 89 = .ok (.getfield 64, 3) := by decide +kernel
theorem dX6_readRow_92 : decode cX6_readRow 92 = .ok (.iconst 1, 1) := by decide +kernel
theorem dX6_readRow_93 : decode cX6_readRow 93 = .ok (.iadd, 1) := by decide +kernel
theorem dX6_readRow_94 : decode cX6_readRow 94 = .ok (.putfield 64, 3) := by decide +kernel
theorem dX6_readRow_97 : decode cX6_readRow 97 = .ok (.iload_n 3, 1) := by decide +kernel
theorem dX6_readRow_98 : decode cX6_readRow 98 = .ok (.iload 5, 2) := by decide +kernel
theorem dX6_readRow_100 : decode cX6_readRow 100 = .ok (.iconst 1, 1) := by decide +kernel
theorem dX6_readRow_101 : decode cX6_readRow 101 = .ok (.invokestatic 81, 3) := by decide +kernel
theorem dX6_readRow_104 : decode cX6_readRow 104 = .ok (.iadd, 1) := by decide +kernel
theorem dX6_readRow_105 : decode cX6_readRow 105 = .ok (.istore 7, 2) := by decide +kernel
theorem dX6_readRow_107 : decode cX6_readRow 107 = .ok (.iload_n 3, 1) := by decide +kernel
theorem dX6_readRow_108 : decode cX6_readRow 108 = .ok (.iload 7, 2) := by decide +kernel
theorem dX6_readRow_110 : decode cX6_readRow 110 = .ok (.if_icmp .ge 28, 3) := by decide +kernel
theorem dX6_readRow_113 : decode cX6_readRow 113 = .ok (.iload_n 3, 1) := by decide +kernel
theorem dX6_readRow_114 : decode cX6_readRow 114 = .ok (.bipush 10, 2) := by decide +kernel
theorem dX6_readRow_116 : decode cX6_readRow 116 = .ok (.if_icmp .ge 22, 3) := by decide +kernel
theorem dX6_readRow_119 : decode cX6_readRow 119 = .ok (.aload_n 0, 1) := by decide +kernel
theorem dX6_readRow_120 : decode cX6_readRow 120 = .ok (.getfield 15, 3) := by decide +kernel
theorem dX6_readRow_123 : decode cX6_readRow 123 = .ok (.bipush 10, 2) := by decide +kernel
theorem dX6_readRow_125 : decode cX6_readRow 125 = .ok (.iload_n 2, 1) := by decide +kernel
theorem dX6_readRow_126 : decode cX6_readRow 126 = .ok (.imul, 1) := by decide +kernel
theorem dX6_readRow_127 : decode cX6_readRow 127 = .ok (.iload_n 3, 1) := by decide +kernel
theorem dX6_readRow_128 : decode cX6_readRow 128 = .ok (.iadd, 1) := by decide +kernel
theorem dX6_readRow_129 : decode cX6_readRow 129 = .ok (.iload 6, 2) := by decide +kernel
theorem dX6_readRow_131 : decode cX6_readRow 131 = .ok (.iastore, 1) := by decide +kernel
theorem dX6_readRow_132 : decode cX6_readRow 132 = .ok (.iinc 3 1, 3) := by decide +kernel
theorem dX6_readRow_135 : decode cX6_readRow 135 = .ok (.goto (-28), 3) := by decide +kernel
theorem dX6_readRow_138 : decode cX6_readRow 138 = .ok (.iinc 4 1, 3) := by decide +kernel
theorem dX6_readRow_141 : decode cX6_readRow 141 = .ok (.goto (-136), 3) := by decide +kernel
theorem dX6_readRow_144 : decode cX6_readRow 144 = .ok (.iconst 1, 1) := by decide +kernel
theorem dX6_readRow_145 : decode cX6_readRow 145 = .ok (.ireturn, 1) := by decide +kernel
theorem dX9_readStep_0 : decode cX9_readStep 0 = .ok (.aload_n 0, 1) := by decide +kernel
theorem dX9_readStep_1 : decode cX9_readStep 1 = .ok (.getfield 9, 3) := by decide +kernel
theorem dX9_readStep_4 : decode cX9_readStep 4 = .ok (.getfield 45, 3) := by decide +kernel
theorem dX9_readStep_7 : decode cX9_readStep 7 = .ok (.istore_n 2, 1) := by decide +kernel
theorem dX9_readStep_8 : decode cX9_readStep 8 = .ok (.aload_n 0, 1) := by decide +kernel
theorem dX9_readStep_9 : decode cX9_readStep 9 = .ok (.getfield 19, 3) := by decide +kernel
theorem dX9_readStep_12 : decode cX9_readStep 12 = .ok (.istore_n 3, 1) := by decide +kernel
theorem dX9_readStep_13 : decode cX9_readStep 13 = .ok (.iconst 1, 1) := by decide +kernel
theorem dX9_readStep_14 : decode cX9_readStep 14 = .ok (.istore 4, 2) := by decide +kernel
theorem dX9_readStep_16 : decode cX9_readStep 16 = .ok (.aload_n 0, 1) := by decide +kernel
theorem dX9_readStep_17 : decode cX9_readStep 17 = .ok (.getfield 9, 3) := by decide +kernel
theorem dX9_readStep_20 : decode cX9_readStep 20 = .ok (.invokevirtual 39, 3) := by decide +kernel
theorem dX9_readStep_23 : decode cX9_readStep 23 = .ok (.bipush 50, 2) := by decide +kernel
theorem dX9_readStep_25 : decode cX9_readStep 25 = .ok (.if_icmp .lt 40, 3) := by decide +kernel
theorem dX9_readStep_28 : decode cX9_readStep 28 = .ok (.aload_n 0, 1) := by decide +kernel
theorem dX9_readStep_29 : decode cX9_readStep 29 = .ok (.getfield 9, 3) := by decide +kernel
theorem dX9_readStep_32 : decode cX9_readStep 32 = .ok (.invokevirtual 39, 3) := by decide +kernel
theorem dX9_readStep_35 : decode cX9_readStep 35 = .ok (.bipush 57, 2) := by decide +kernel
theorem dX9_readStep_37 : decode cX9_readStep 37 = .ok (.if_icmp .gt 28, 3) := by decide +kernel
theorem dX9_readStep_40 : decode cX9_readStep 40 = .ok (.aload_n 0, 1) := by decide +kernel
theorem dX9_readStep_41 : decode cX9_readStep 41 = .ok (.getfield 9, 3) := by decide +kernel
theorem dX9_readStep_44 : decode cX9_readStep 44 = .ok (.invokevirtual 39, 3) := by decide +kernel
theorem dX9_readStep_47 : decode cX9_readStep 47 = .ok (.bipush 48, 2) := by decide +kernel
theorem dX9_readStep_49 : decode cX9_readStep 49 = .ok (.isub, 1) := by decide +kernel
theorem dX9_readStep_50 : decode cX9_readStep 50 = .ok (.istore 4, 2) := by decide +kernel
theorem dX9_readStep_52 : decode cX9_readStep 52 = .ok (.aload_n 0, 1) := by decide +kernel
theorem dX9_readStep_53 : decode cX9_readStep 53 = .ok (.getfield 9, 3) := by decide +kernel
theorem dX9_readStep_56 : decode cX9_readStep 56 = .ok (.dup, 1) := by decide +kernel
theorem dX9_readStep_57 : decode cX9_readStep 57 = .ok (.getfield 45, 3) := by decide +kernel
theorem dX9_readStep_60 : decode cX9_readStep 60 = .ok (.iconst 1, 1) := by decide +kernel
theorem dX9_readStep_61 : decode cX9_readStep 61 = .ok (.iadd, 1) := by decide +kernel
theorem dX9_readStep_62 : decode cX9_readStep 62 = .ok (.putfield 45, 3) := by decide +kernel
theorem dX9_readStep_65 : decode cX9_readStep 65 = .ok (.aload_n 0, 1) := by decide +kernel
theorem dX9_readStep_66 : decode cX9_readStep 66 = .ok (.getfield 9, 3) := by decide +kernel
theorem dX9_readStep_69 : decode cX9_readStep 69 = .ok (.invokevirtual 39, 3) := by decide +kernel
theorem dX9_readStep_72 : decode cX9_readStep 72 = .ok (.bipush 40, 2) := by decide +kernel
theorem dX9_readStep_74 : decode cX9_readStep 74 = .ok (.if_icmp .ne 92, 3) := by decide +kernel
theorem dX9_readStep_77 : decode cX9_readStep 77 = .ok (.iload_n 1, 1) := by decide +kernel
theorem dX9_readStep_78 : decode cX9_readStep 78 = .ok (.iconst 2, 1) := by decide +kernel
theorem dX9_readStep_79 : decode cX9_readStep 79 = .ok (.if_icmp .lt 19, 3) := by decide +kernel
theorem dX9_readStep_82 : decode cX9_readStep 82 = .ok (.aload_n 0, 1) := by decide +kernel
theorem dX9_readStep_83 : decode cX9_readStep 83 = .ok (.getfield 9, 3) := by decide +kernel
theorem dX9_readStep_86 : decode cX9_readStep 86 = .ok (.iconst 5, 1) := by decide +kernel
theorem dX9_readStep_87 : decode cX9_readStep 87 = .ok (.aload_n 0, 1) := by decide +kernel
theorem dX9_readStep_88 : decode cX9_readStep 88 = .ok (.getfield 9, 3) := by decide +kernel
theorem dX9_readStep_91 : decode cX9_readStep 91 = .ok (.getfield 45, 3) := by decide +kernel
theorem dX9_readStep_94 : decode cX9_readStep 94 = .ok (.invokevirtual 48, 3) := by decide +kernel
theorem dX9_readStep_97 : decode cX9_readStep 97 = .ok (.ireturn, 1) := by decide +kernel
theorem dX9_readStep_98 : decode cX9_readStep 98 = .ok (.aload_n 0, 1) := by decide +kernel
theorem dX9_readStep_99 : decode cX9_readStep 99 = .ok (.getfield 9, 3) := by decide +kernel
theorem dX9_readStep_102 : decode cX9_readStep 102 = .ok (.dup, 1) := by decide +kernel
theorem dX9_readStep_103 : decode cX9_readStep 103 = .ok (.getfield 45, 3) := by decide +kernel
theorem dX9_readStep_106 : decode cX9_readStep 106 = .ok (.iconst 1, 1) := by decide +kernel
theorem dX9_readStep_107 : decode cX9_readStep 107 = .ok (.iadd, 1) := by decide +kernel
theorem dX9_readStep_108 : decode cX9_readStep 108 = .ok (.putfield 45, 3) := by decide +kernel
theorem dX9_readStep_111 : decode cX9_readStep 111 = .ok (.aload_n 0, 1) := by decide +kernel
theorem dX9_readStep_112 : decode cX9_readStep 112 = .ok (.iload_n 1, 1) := by decide +kernel
theorem dX9_readStep_113 : decode cX9_readStep 113 = .ok (.iconst 1, 1) := by decide +kernel
theorem dX9_readStep_114 : decode cX9_readStep 114 = .ok (.iadd, 1) := by decide +kernel
theorem dX9_readStep_115 : decode cX9_readStep 115 = .ok (.invokevirtual 23, 3) := by decide +kernel
theorem dX9_readStep_118 : decode cX9_readStep 118 = .ok (.ifCond .eq 15, 3) := by decide +kernel
theorem dX9_readStep_121 : decode cX9_readStep 121 = .ok (.aload_n 0, 1) := by decide +kernel
theorem dX9_readStep_122 : decode cX9_readStep 122 = .ok (.getfield 9, 3) := by decide +kernel
theorem dX9_readStep_125 : decode cX9_readStep 125 = .ok (.bipush 41, 2) := by decide +kernel
theorem dX9_readStep_127 : decode cX9_readStep 127 = .ok (.invokevirtual 52, 3) := by decide +kernel
theorem dX9_readStep_130 : decode cX9_readStep 130 = .ok (.ifCond .ne 5, 3) := by decide +kernel
theorem dX9_readStep_133 : decode cX9_readStep 133 = .ok (.iconst 0, 1) := by decide +kernel
theorem dX9_readStep_134 : decode cX9_readStep 134 = .ok (.ireturn, 1) := by decide +kernel
theorem dX9_readStep_135 : decode cX9_readStep 135 = .ok (.aload_n 0, 1) := by decide +kernel
theorem dX9_readStep_136 : decode cX9_readStep 136 = .ok (.iload_n 3, 1) := by decide +kernel
theorem dX9_readStep_137 : decode cX9_readStep 137 = .ok (.iload 4, 2) := by decide +kernel
theorem dX9_readStep_139 : decode cX9_readStep 139 = .ok (.iconst 1, 1) := by decide +kernel
theorem dX9_readStep_140 : decode cX9_readStep 140 = .ok (.isub, 1) := by decide +kernel
theorem dX9_readStep_141 : decode cX9_readStep 141 = .ok (.invokevirtual 55, 3) := by decide +kernel
theorem dX9_readStep_144 : decode cX9_readStep 144 = .ok (.ifCond .ne 16, 3) := by decide +kernel
theorem dX9_readStep_147 : decode cX9_readStep 147 = .ok (.aload_n 0, 1) := by decide +kernel
theorem dX9_readStep_148 : decode cX9_readStep 148 = .ok (.getfield 9, 3) := by decide +kernel
theorem dX9_readStep_151 : decode cX9_readStep 151 = .ok (.bipush 6, 2) := by decide +kernel
theorem dX9_readStep_153 : decode cX9_readStep 153 = .ok (.iload_n 2, 1) := by decide +kernel
theorem dX9_readStep_154 : decode cX9_readStep 154 = .ok (.invokevirtual 48, 3) := by decide +kernel
theorem dX9_readStep_157 : decode cX9_readStep 157 = .ok (.ifCond .eq 7, 3) := by decide +kernel
theorem dX9_readStep_160 : decode cX9_readStep 160 = .ok (.iconst 1, 1) := by decide +kernel
theorem dX9_readStep_161 : decode cX9_readStep 161 = .ok (.goto 4, 3) := by decide +kernel
theorem dX9_readStep_164 : decode cX9_readStep 164 = .ok (.iconst 0, 1) := by decide +kernel
theorem dX9_readStep_165 : decode cX9_readStep 165 = .ok (.ireturn, 1) := by decide +kernel
theorem dX9_readStep_166 : decode cX9_readStep 166 = .ok (.aload_n 0, 1) := by decide +kernel
theorem dX9_readStep_167 : decode cX9_readStep 167 = .ok (.getfield 9, 3) := by decide +kernel
theorem dX9_readStep_170 : decode cX9_readStep 170 = .ok (.invokevirtual 39, 3) := by decide +kernel
theorem dX9_readStep_173 : decode cX9_readStep 173 = .ok (.invokestatic 58, 3) := by decide +kernel
theorem dX9_readStep_176 : decode cX9_readStep 176 = .ok (.istore 5, 2) := by decide +kernel
theorem dX9_readStep_178 : decode cX9_readStep 178 = .ok (.iload 5, 2) := by decide +kernel
theorem dX9_readStep_180 : decode cX9_readStep 180 = .ok (.iconst (-1), 1) := by decide +kernel
theorem dX9_readStep_181 : decode cX9_readStep 181 = .ok (.if_icmp .ne 19, 3) := by decide +kernel
theorem dX9_readStep_184 : decode cX9_readStep 184 = .ok (.aload_n 0, 1) := by decide +kernel
theorem dX9_readStep_185 : decode cX9_readStep 185 = .ok (.getfield 9, 3) := by decide +kernel
theorem dX9_readStep_188 : decode cX9_readStep 188 = .ok (.iconst 1, 1) := by decide +kernel
theorem dX9_readStep_189 : decode cX9_readStep 189 = .ok (.aload_n 0, 1) := by decide +kernel
theorem dX9_readStep_190 : decode cX9_readStep 190 = .ok (.getfield 9, 3) := by decide +kernel
theorem dX9_readStep_193 : decode cX9_readStep 193 = .ok (.getfield 45, 3) := by decide +kernel
theorem dX9_readStep_196 : decode cX9_readStep 196 = .ok (.invokevirtual 48, 3) := by decide +kernel
theorem dX9_readStep_199 : decode cX9_readStep 199 = .ok (.ireturn, 1) := by decide +kernel
theorem dX9_readStep_200 : decode cX9_readStep 200 = .ok (.aload_n 0, 1) := by decide +kernel
theorem dX9_readStep_201 : decode cX9_readStep 201 = .ok (.getfield 9, 3) := by decide +kernel
theorem dX9_readStep_204 : decode cX9_readStep 204 = .ok (.dup, 1) := by decide +kernel
theorem dX9_readStep_205 : decode cX9_readStep 205 = .ok (.getfield 45, 3) := by decide +kernel
theorem dX9_readStep_208 : decode cX9_readStep 208 = .ok (.iconst 1, 1) := by decide +kernel
theorem dX9_readStep_209 : decode cX9_readStep 209 = .ok (.iadd, 1) := by decide +kernel
theorem dX9_readStep_210 : decode cX9_readStep 210 = .ok (.putfield 45, 3) := by decide +kernel
theorem dX9_readStep_213 : decode cX9_readStep 213 = .ok (.aload_n 0, 1) := by decide +kernel
theorem dX9_readStep_214 : decode cX9_readStep 214 = .ok (.getfield 19, 3) := by decide +kernel
theorem dX9_readStep_217 : decode cX9_readStep 217 = .ok (.bipush 60, 2) := by decide +kernel
theorem dX9_readStep_219 : decode cX9_readStep 219 = .ok (.if_icmp .lt 14, 3) := by decide +kernel
theorem dX9_readStep_222 : decode cX9_readStep 222 = .ok (.aload_n 0, 1) := by decide +kernel
theorem dX9_readStep_223 : decode cX9_readStep 223 = .ok (.getfield 9, 3) := by decide +kernel
theorem dX9_readStep_226 : decode cX9_readStep 226 = .ok (.bipush 6, 2) := by decide +kernel
theorem dX9_readStep_228 : decode cX9_readStep 228 = .ok (.iload_n 2, 1) := by decide +kernel
theorem dX9_readStep_229 : decode cX9_readStep 229 = .ok (.invokevirtual 48, 3) := by decide +kernel
theorem dX9_readStep_232 : decode cX9_readStep 232 = .ok (.ireturn, 1) := by decide +kernel
theorem dX9_readStep_233 : decode cX9_readStep 233 = .ok (.aload_n 0, 1) := by decide +kernel
theorem dX9_readStep_234 : decode cX9_readStep 234 = .ok (.getfield 15, 3) := by decide +kernel
theorem dX9_readStep_237 : decode cX9_readStep 237 = .ok (.aload_n 0, 1) := by decide +kernel
theorem dX9_readStep_238 : decode cX9_readStep 238 = .ok (.getfield 19, 3) := by decide +kernel
theorem dX9_readStep_241 : decode cX9_readStep 241 = .ok (.iload 5, 2) := by decide +kernel
theorem dX9_readStep_243 : decode cX9_readStep 243 = .ok (.iastore, 1) := by decide +kernel
theorem dX9_readStep_244 : decode cX9_readStep 244 = .ok (.aload_n 0, 1) := by decide +kernel
theorem dX9_readStep_245 : decode cX9_readStep 245 = .ok (.dup, 1) := by decide +kernel
theorem dX9_readStep_246 : decode cX9_readStep 246 = .ok (.getfield 19, 3) := by decide +kernel
theorem dX9_readStep_249 : decode cX9_readStep 249 = .ok (.iconst 1, 1) := by decide +kernel
theorem dX9_readStep_250 : decode cX9_readStep 250 = .ok (.iadd, 1) := by decide +kernel
theorem dX9_readStep_251 : decode cX9_readStep 251 = .ok (.putfield 19, 3) := by decide +kernel
theorem dX9_readStep_254 : decode cX9_readStep 254 = .ok (.aload_n 0, 1) := by decide +kernel
theorem dX9_readStep_255 : decode cX9_readStep 255 = .ok (.iload_n 3, 1) := by decide +kernel
theorem dX9_readStep_256 : decode cX9_readStep 256 = .ok (.iload 4, 2) := by decide +kernel
theorem dX9_readStep_258 : decode cX9_readStep 258 = .ok (.iconst 1, 1) := by decide +kernel
theorem dX9_readStep_259 : decode cX9_readStep 259 = .ok (.isub, 1) := by decide +kernel
theorem dX9_readStep_260 : decode cX9_readStep 260 = .ok (.invokevirtual 55, 3) := by decide +kernel
theorem dX9_readStep_263 : decode cX9_readStep 263 = .ok (.ifCond .ne 16, 3) := by decide +kernel
theorem dX9_readStep_266 : decode cX9_readStep 266 = .ok (.aload_n 0, 1) := by decide +kernel
theorem dX9_readStep_267 : decode cX9_readStep 267 = .ok (.getfield 9, 3) := by decide +kernel
theorem dX9_readStep_270 : decode cX9_readStep 270 = .ok (.bipush 6, 2) := by decide +kernel
theorem dX9_readStep_272 : decode cX9_readStep 272 = .ok (.iload_n 2, 1) := by decide +kernel
theorem dX9_readStep_273 : decode cX9_readStep 273 = .ok (.invokevirtual 48, 3) := by decide +kernel
theorem dX9_readStep_276 : decode cX9_readStep 276 = .ok (.ifCond .eq 7, 3) := by decide +kernel
theorem dX9_readStep_279 : decode cX9_readStep 279 = .ok (.iconst 1, 1) := by decide +kernel
theorem dX9_readStep_280 : decode cX9_readStep 280 = .ok (.goto 4, 3) := by decide +kernel
theorem dX9_readStep_283 : decode cX9_readStep 283 = .ok (.iconst 0, 1) := by decide +kernel
theorem dX9_readStep_284 : decode cX9_readStep 284 = .ok (.ireturn, 1) := by decide +kernel
theorem dX9_readSteps_0 : decode cX9_readSteps 0 = .ok (.iload_n 1, 1) := by decide +kernel
theorem dX9_readSteps_1 : decode cX9_readSteps 1 = .ok (.ifCond .ne 7, 3) := by decide +kernel
theorem dX9_readSteps_4 : decode cX9_readSteps 4 = .ok (.iconst (-1), 1) := by decide +kernel
theorem dX9_readSteps_5 : decode cX9_readSteps 5 = .ok (.goto 5, 3) := by decide +kernel
theorem dX9_readSteps_8 : decode cX9_readSteps 8 = .ok (.bipush 41, 2) := by decide +kernel
theorem dX9_readSteps_10 : decode cX9_readSteps 10 = .ok (.istore_n 2, 1) := by decide +kernel
theorem dX9_readSteps_11 : decode cX9_readSteps 11 = .ok (.iconst 0, 1) := by decide +kernel
theorem dX9_readSteps_12 : decode cX9_readSteps 12 = .ok (.istore_n 3, 1) := by decide +kernel
theorem dX9_readSteps_13 : decode cX9_readSteps 13 = .ok (.iload_n 3, 1) := by decide +kernel
theorem dX9_readSteps_14 : decode cX9_readSteps 14 = .ok (.bipush 80, 2) := by decide +kernel
theorem dX9_readSteps_16 : decode cX9_readSteps 16 = .ok (.if_icmp .ge 32, 3) := by decide +kernel
theorem dX9_readSteps_19 : decode cX9_readSteps 19 = .ok (.aload_n 0, 1) := by decide +kernel
theorem dX9_readSteps_20 : decode cX9_readSteps 20 = .ok (.iload_n 1, 1) := by decide +kernel
theorem dX9_readSteps_21 : decode cX9_readSteps 21 = .ok (.invokevirtual 36, 3) := by decide +kernel
theorem dX9_readSteps_24 : decode cX9_readSteps 24 = .ok (.ifCond .ne 5, 3) := by decide +kernel
theorem dX9_readSteps_27 : decode cX9_readSteps 27 = .ok (.iconst 0, 1) := by decide +kernel
theorem dX9_readSteps_28 : decode cX9_readSteps 28 = .ok (.ireturn, 1) := by decide +kernel
theorem dX9_readSteps_29 : decode cX9_readSteps 29 = .ok (.aload_n 0, 1) := by decide +kernel
theorem dX9_readSteps_30 : decode cX9_readSteps 30 = .ok (.getfield 9, 3) := by decide +kernel
theorem dX9_readSteps_33 : decode cX9_readSteps 33 = .ok (.invokevirtual 39, 3) := by decide +kernel
theorem dX9_readSteps_36 : decode cX9_readSteps 36 = .ok (.iload_n 2, 1) := by decide +kernel
theorem dX9_readSteps_37 : decode cX9_readSteps 37 = .ok (.if_icmp .ne 5, 3) := by decide +kernel
theorem dX9_readSteps_40 : decode cX9_readSteps 40 = .ok (.iconst 1, 1) := by decide +kernel
theorem dX9_readSteps_41 : decode cX9_readSteps 41 = .ok (.ireturn, 1) := by decide +kernel
theorem dX9_readSteps_42 : decode cX9_readSteps 42 = .ok (.iinc 3 1, 3) := by decide +kernel
theorem dX9_readSteps_45 : decode cX9_readSteps 45 = .ok (.goto (-32), 3) := by decide +kernel
theorem dX9_readSteps_48 : decode cX9_readSteps 48 = .ok (.iconst 0, 1) := by decide +kernel
theorem dX9_readSteps_49 : decode cX9_readSteps 49 = .ok (.ireturn, 1) := by decide +kernel
theorem dX9_readWhole_0 : decode cX9_readWhole 0 = .ok (.aload_n 0, 1) := by decide +kernel
theorem dX9_readWhole_1 : decode cX9_readWhole 1 = .ok (.iconst 0, 1) := by decide +kernel
theorem dX9_readWhole_2 : decode cX9_readWhole 2 = .ok (.putfield 19, 3) := by decide +kernel
theorem dX9_readWhole_5 : decode cX9_readWhole 5 = .ok (.aload_n 0, 1) := by decide +kernel
theorem dX9_readWhole_6 : decode cX9_readWhole 6 = .ok (.iconst 0, 1) := by decide +kernel
theorem dX9_readWhole_7 : decode cX9_readWhole 7 = .ok (.invokevirtual 23, 3) := by decide +kernel
theorem dX9_readWhole_10 : decode cX9_readWhole 10 = .ok (.ireturn, 1) := by decide +kernel
theorem dX9_repeat_0 : decode cX9_repeat 0 = .ok (.aload_n 0, 1) := by decide +kernel
theorem dX9_repeat_1 : decode cX9_repeat 1 = .ok (.getfield 19, 3) := by decide +kernel
theorem dX9_repeat_4 : decode cX9_repeat 4 = .ok (.iload_n 1, 1) := by decide +kernel
theorem dX9_repeat_5 : decode cX9_repeat 5 = .ok (.isub, 1) := by decide +kernel
theorem dX9_repeat_6 : decode cX9_repeat 6 = .ok (.istore_n 3, 1) := by decide +kernel
theorem dX9_repeat_7 : decode cX9_repeat 7 = .ok (.aload_n 0, 1) := by decide +kernel
theorem dX9_repeat_8 : decode cX9_repeat 8 = .ok (.getfield 19, 3) := by decide +kernel
theorem dX9_repeat_11 : decode cX9_repeat 11 = .ok (.iload_n 2, 1) := by decide +kernel
theorem dX9_repeat_12 : decode cX9_repeat 12 = .ok (.iload_n 3, 1) := by decide +kernel
theorem dX9_repeat_13 : decode cX9_repeat 13 = .ok (.imul, 1) := by decide +kernel
theorem dX9_repeat_14 : decode cX9_repeat 14 = .ok (.iadd, 1) := by decide +kernel
theorem dX9_repeat_15 : decode cX9_repeat 15 = .ok (.bipush 60, 2) := by decide +kernel
theorem dX9_repeat_17 : decode cX9_repeat 17 = .ok (.if_icmp .le 5, 3) := by decide +kernel
theorem dX9_repeat_20 : decode cX9_repeat 20 = .ok (.iconst 0, 1) := by decide +kernel
theorem dX9_repeat_21 : decode cX9_repeat 21 = .ok (.ireturn, 1) := by decide +kernel
theorem dX9_repeat_22 : decode cX9_repeat 22 = .ok (.iconst 0, 1) := by decide +kernel
theorem dX9_repeat_23 : decode cX9_repeat 23 = .ok (.istore 4, 2) := by decide +kernel
theorem dX9_repeat_25 : decode cX9_repeat 25 = .ok (.iload 4, 2) := by decide +kernel
theorem dX9_repeat_27 : decode cX9_repeat 27 = .ok (.iload_n 2, 1) := by decide +kernel
theorem dX9_repeat_28 : decode cX9_repeat 28 = .ok (.iload_n 3, 1) := by decide +kernel
theorem dX9_repeat_29 : decode cX9_repeat 29 = .ok (.imul, 1) := by decide +kernel
theorem dX9_repeat_30 : decode cX9_repeat 30 = .ok (.if_icmp .ge 50, 3) := by decide +kernel
theorem dX9_repeat_33 : decode cX9_repeat 33 = .ok (.iload_n 1, 1) := by decide +kernel
theorem dX9_repeat_34 : decode cX9_repeat 34 = .ok (.ifCond .lt 46, 3) := by decide +kernel
theorem dX9_repeat_37 : decode cX9_repeat 37 = .ok (.aload_n 0, 1) := by decide +kernel
theorem dX9_repeat_38 : decode cX9_repeat 38 = .ok (.getfield 19, 3) := by decide +kernel
theorem dX9_repeat_41 : decode cX9_repeat 41 = .ok (.bipush 60, 2) := by decide +kernel
theorem dX9_repeat_43 : decode cX9_repeat 43 = .ok (.if_icmp .ge 37, 3) := by decide +kernel
theorem dX9_repeat_46 : decode cX9_repeat 46 = .ok (.aload_n 0, 1) := by decide +kernel
theorem dX9_repeat_47 : decode cX9_repeat 47 = .ok (.getfield 15, 3) := by decide +kernel
theorem dX9_repeat_50 : decode cX9_repeat 50 = .ok (.aload_n 0, 1) := by decide +kernel
theorem dX9_repeat_51 : decode cX9_repeat 51 = .ok (.getfield 19, 3) := by decide +kernel
theorem dX9_repeat_54 : decode cX9_repeat 54 = .ok (.aload_n 0, 1) := by decide +kernel
theorem dX9_repeat_55 : decode cX9_repeat 55 = .ok (.getfield 15, 3) := by decide +kernel
theorem dX9_repeat_58 : decode cX9_repeat 58 = .ok (.iload_n 1, 1) := by decide +kernel
theorem dX9_repeat_59 : decode cX9_repeat 59 = .ok (.iload 4, 2) := by decide +kernel
theorem dX9_repeat_61 : decode cX9_repeat 61 = .ok (.iadd, 1) := by decide +kernel
theorem dX9_repeat_62 : decode cX9_repeat 62 = .ok (.iaload, 1) := by decide +kernel
theorem dX9_repeat_63 : decode cX9_repeat 63 = .ok (.iastore, 1) := by decide +kernel
theorem dX9_repeat_64 : decode cX9_repeat 64 = .ok (.aload_n 0, 1) := by decide +kernel
theorem dX9_repeat_65 : decode cX9_repeat 65 = .ok (.dup, 1) := by decide +kernel
theorem dX9_repeat_66 : decode cX9_repeat 66 = .ok (.getfield 19, 3) := by decide +kernel
theorem dX9_repeat_69 : decode cX9_repeat 69 = .ok (.iconst 1, 1) := by decide +kernel
theorem dX9_repeat_70 : decode cX9_repeat 70 = .ok (.iadd, 1) := by decide +kernel
theorem dX9_repeat_71 : decode cX9_repeat 71 = .ok (.putfield 19, 3) := by decide +kernel
theorem dX9_repeat_74 : decode cX9_repeat 74 = .ok (.iinc 4 1, 3) := by decide +kernel
theorem dX9_repeat_77 : decode cX9_repeat 77 = .ok (.goto (-52), 3) := by decide +kernel
theorem dX9_repeat_80 : decode cX9_repeat 80 = .ok (.iconst 1, 1) := by decide +kernel
theorem dX9_repeat_81 : decode cX9_repeat 81 = .ok (.ireturn, 1) := by decide +kernel
theorem dX9_stepOf_0 : decode cX9_stepOf 0 = .ok (.iload_n 0, 1) := by decide +kernel
theorem dX9_stepOf_1 : decode cX9_stepOf 1 = .ok (.lookupswitch 61 #[(46, 59), (101, 53), (110, 51), (115, 55), (119, 57)], 51) := by decide +kernel
theorem dX9_stepOf_52 : decode cX9_stepOf 52 = .ok (.iconst 0, 1) := by decide +kernel
theorem dX9_stepOf_53 : decode cX9_stepOf 53 = .ok (.ireturn, 1) := by decide +kernel
theorem dX9_stepOf_54 : decode cX9_stepOf 54 = .ok (.iconst 1, 1) := by decide +kernel
theorem dX9_stepOf_55 : decode cX9_stepOf 55 = .ok (.ireturn, 1) := by decide +kernel
theorem dX9_stepOf_56 : decode cX9_stepOf 56 = .ok (.iconst 2, 1) := by decide +kernel
theorem dX9_stepOf_57 : decode cX9_stepOf 57 = .ok (.ireturn, 1) := by decide +kernel
theorem dX9_stepOf_58 : decode cX9_stepOf 58 = .ok (.iconst 3, 1) := by decide +kernel
theorem dX9_stepOf_59 : decode cX9_stepOf 59 = .ok (.ireturn, 1) := by decide +kernel
theorem dX9_stepOf_60 : decode cX9_stepOf 60 = .ok (.iconst 4, 1) := by decide +kernel
theorem dX9_stepOf_61 : decode cX9_stepOf 61 = .ok (.ireturn, 1) := by decide +kernel
theorem dX9_stepOf_62 : decode cX9_stepOf 62 = .ok (.iconst (-1), 1) := by decide +kernel
theorem dX9_stepOf_63 : decode cX9_stepOf 63 = .ok (.ireturn, 1) := by decide +kernel
