theorem cls_X4 : xCls RX4 TX4 9 4 tyX4 := ⟨xin [266, 268, 270, 272, 274, 276, 278, 280, 282] (by decide +kernel) (by decide +kernel), rfl, tyX4_ok, nmX4⟩
theorem st_X4_2 (h0 : Nat) (σ : xS) (k : Nat) (a : Int) : xobj h0 (xU σ k 2 a) k 4 = (xobj h0 σ k 4).set 2 (.int (xJ a)) := by simp [xobj, xU]
theorem ln_X4_2 (h0 : Nat) (σ : xS) (k : Nat) : 2 < (xobj h0 σ k 4).length := by simp [xobj]
theorem st_X4_6 (h0 : Nat) (σ : xS) (k : Nat) (a : Int) : xobj h0 (xU σ k 6 a) k 4 = (xobj h0 σ k 4).set 6 (.int (xJ a)) := by simp [xobj, xU]
theorem ln_X4_6 (h0 : Nat) (σ : xS) (k : Nat) : 6 < (xobj h0 σ k 4).length := by simp [xobj]
theorem cf_X4_joined : xCF yX4_joined cX4_joined 3 (some .int) 3 := ⟨xq 814 (by decide +kernel) rfl, xq 171 (by decide +kernel) rfl, by decide +kernel⟩
theorem cf_X4_reckon : xCF yX4_reckon cX4_reckon 9 (some .int) 1 := ⟨xq 807 (by decide +kernel) rfl, xq 171 (by decide +kernel) rfl, by decide +kernel⟩
theorem cf_X4_tellMinute : xCF yX4_tellMinute cX4_tellMinute 3 none 1 := ⟨xq 794 (by decide +kernel) rfl, xq 171 (by decide +kernel) rfl, by decide +kernel⟩
theorem cf_X4_toldAt : xCF yX4_toldAt cX4_toldAt 2 (some .int) 1 := ⟨xq 811 (by decide +kernel) rfl, xq 171 (by decide +kernel) rfl, by decide +kernel⟩
theorem wq40 : Cond.selects yX4_tellMinute.cls yX4_tellMinute yX4_tellMinute ∈ xTB := xq 40 (by decide +kernel) rfl
theorem wq43 : Cond.selects yX4_reckon.cls yX4_reckon yX4_reckon ∈ xTB := xq 43 (by decide +kernel) rfl
theorem wq44 : Cond.selects yX4_toldAt.cls yX4_toldAt yX4_toldAt ∈ xTB := xq 44 (by decide +kernel) rfl
theorem wq181 : Cond.initialized "java/lang/System" ∈ xTB := xq 181 (by decide +kernel) rfl
theorem wq249 : Cond.fieldLink "ShadowCourt$Law" (34) "ShadowCourt$Law" "LETTERS" "[I" ∈ xTB := xq 249 (by decide +kernel) rfl
theorem wq251 : Cond.fieldLink "ShadowCourt$Law" (11) "ShadowCourt$Law" "orders" "[I" ∈ xTB := xq 251 (by decide +kernel) rfl
theorem wq252 : Cond.fieldLink "ShadowCourt$Law" (15) "ShadowCourt$Law" "words" "[I" ∈ xTB := xq 252 (by decide +kernel) rfl
theorem wq253 : Cond.fieldLink "ShadowCourt$Law" (18) "ShadowCourt$Law" "used" "I" ∈ xTB := xq 253 (by decide +kernel) rfl
theorem wq255 : Cond.fieldLink "ShadowCourt$Law" (22) "ShadowCourt$Law" "kindOfClause" "[I" ∈ xTB := xq 255 (by decide +kernel) rfl
theorem wq257 : Cond.fieldLink "ShadowCourt$Law" (25) "ShadowCourt$Law" "worthAt" "[I" ∈ xTB := xq 257 (by decide +kernel) rfl
theorem wq259 : Cond.fieldLink "ShadowCourt$Law" (28) "ShadowCourt$Law" "askedAt" "[I" ∈ xTB := xq 259 (by decide +kernel) rfl
theorem wq261 : Cond.fieldLink "ShadowCourt$Law" (31) "ShadowCourt$Law" "clauses" "I" ∈ xTB := xq 261 (by decide +kernel) rfl
theorem wq264 : Cond.fieldLink "ShadowCourt$Law" (37) "ShadowCourt$Law" "told" "[I" ∈ xTB := xq 264 (by decide +kernel) rfl
theorem wq265 : Cond.fieldLink "ShadowCourt$Law" (40) "ShadowCourt$Law" "stack" "[I" ∈ xTB := xq 265 (by decide +kernel) rfl
theorem wq594 : Cond.static (⟨"java/lang/Math", "max", "(II)I"⟩ : MethodName) ∈ xTB := xq 594 (by decide +kernel) rfl
theorem wq595 : Cond.code (⟨"java/lang/Math", "max", "(II)I"⟩ : MethodName) prog_14_method_65_code (2) (Option.some FieldType.int) ∈ xTB := xq 595 (by decide +kernel) rfl
theorem wq603 : Cond.static (⟨"java/lang/System", "arraycopy", "(Ljava/lang/Object;ILjava/lang/Object;II)V"⟩ : MethodName) ∈ xTB := xq 603 (by decide +kernel) rfl
theorem wq604 : Cond.native (⟨"java/lang/System", "arraycopy", "(Ljava/lang/Object;ILjava/lang/Object;II)V"⟩ : MethodName) ∈ xTB := xq 604 (by decide +kernel) rfl
theorem wq698 : Cond.methodLink "ShadowCourt$Law" (43) (⟨"java/lang/System", "arraycopy", "(Ljava/lang/Object;ILjava/lang/Object;II)V"⟩ : MethodName) ∈ xTB := xq 698 (by decide +kernel) rfl
theorem wq793 : Cond.instanceMethod yX4_tellMinute ∈ xTB := xq 793 (by decide +kernel) rfl
theorem wq804 : Cond.methodLink "ShadowCourt$Law" (53) yX4_reckon ∈ xTB := xq 804 (by decide +kernel) rfl
theorem wq806 : Cond.instanceMethod yX4_reckon ∈ xTB := xq 806 (by decide +kernel) rfl
theorem wq808 : Cond.methodLink "ShadowCourt$Law" (66) yX4_toldAt ∈ xTB := xq 808 (by decide +kernel) rfl
theorem wq810 : Cond.instanceMethod yX4_toldAt ∈ xTB := xq 810 (by decide +kernel) rfl
theorem wq812 : Cond.methodLink "ShadowCourt$Law" (69) yX4_joined ∈ xTB := xq 812 (by decide +kernel) rfl
theorem wq813 : Cond.static yX4_joined ∈ xTB := xq 813 (by decide +kernel) rfl
theorem wq815 : Cond.methodLink "ShadowCourt$Law" (57) (⟨"java/lang/Math", "min", "(II)I"⟩ : MethodName) ∈ xTB := xq 815 (by decide +kernel) rfl
theorem wq816 : Cond.methodLink "ShadowCourt$Law" (63) (⟨"java/lang/Math", "max", "(II)I"⟩ : MethodName) ∈ xTB := xq 816 (by decide +kernel) rfl
theorem wq821 : Cond.methodLink "ShadowCourt$Law" (49) yX4_tellMinute ∈ xTB := xq 821 (by decide +kernel) rfl
theorem dX4_copyFrom_0 : decode cX4_copyFrom 0 = .ok (.aload_n 1, 1) := by decide +kernel
theorem dX4_copyFrom_1 : decode cX4_copyFrom 1 = .ok (.getfield 11, 3) := by decide +kernel
theorem dX4_copyFrom_4 : decode cX4_copyFrom 4 = .ok (.iconst 0, 1) := by decide +kernel
theorem dX4_copyFrom_5 : decode cX4_copyFrom 5 = .ok (.aload_n 0, 1) := by decide +kernel
theorem dX4_copyFrom_6 : decode cX4_copyFrom 6 = .ok (.getfield 11, 3) := by decide +kernel
theorem dX4_copyFrom_9 : decode cX4_copyFrom 9 = .ok (.iconst 0, 1) := by decide +kernel
theorem dX4_copyFrom_10 : decode cX4_copyFrom 10 = .ok (.sipush 300, 3) := by decide +kernel
theorem dX4_copyFrom_13 : decode cX4_copyFrom 13 = .ok (.invokestatic 43, 3) := by decide +kernel
theorem dX4_copyFrom_16 : decode cX4_copyFrom 16 = .ok (.aload_n 1, 1) := by decide +kernel
theorem dX4_copyFrom_17 : decode cX4_copyFrom 17 = .ok (.getfield 15, 3) := by decide +kernel
theorem dX4_copyFrom_20 : decode cX4_copyFrom 20 = .ok (.iconst 0, 1) := by decide +kernel
theorem dX4_copyFrom_21 : decode cX4_copyFrom 21 = .ok (.aload_n 0, 1) := by decide +kernel
theorem dX4_copyFrom_22 : decode cX4_copyFrom 22 = .ok (.getfield 15, 3) := by decide +kernel
theorem dX4_copyFrom_25 : decode cX4_copyFrom 25 = .ok (.iconst 0, 1) := by decide +kernel
theorem dX4_copyFrom_26 : decode cX4_copyFrom 26 = .ok (.sipush 300, 3) := by decide +kernel
theorem dX4_copyFrom_29 : decode cX4_copyFrom 29 = .ok (.invokestatic 43, 3) := by decide +kernel
theorem dX4_copyFrom_32 : decode cX4_copyFrom 32 = .ok (.aload_n 0, 1) := by decide +kernel
theorem dX4_copyFrom_33 : decode cX4_copyFrom 33 = .ok (.aload_n 1, 1) := by decide +kernel
theorem dX4_copyFrom_34 : decode cX4_copyFrom 34 = .ok (.getfield 18, 3) := by decide +kernel
theorem dX4_copyFrom_37 : decode cX4_copyFrom 37 = .ok (.putfield 18, 3) := by decide +kernel
theorem dX4_copyFrom_40 : decode cX4_copyFrom 40 = .ok (.aload_n 1, 1) := by decide +kernel
theorem dX4_copyFrom_41 : decode cX4_copyFrom 41 = .ok (.getfield 22, 3) := by decide +kernel
theorem dX4_copyFrom_44 : decode cX4_copyFrom 44 = .ok (.iconst 0, 1) := by decide +kernel
theorem dX4_copyFrom_45 : decode cX4_copyFrom 45 = .ok (.aload_n 0, 1) := by decide +kernel
theorem dX4_copyFrom_46 : decode cX4_copyFrom 46 = .ok (.getfield 22, 3) := by decide +kernel
theorem dX4_copyFrom_49 : decode cX4_copyFrom 49 = .ok (.iconst 0, 1) := by decide +kernel
theorem dX4_copyFrom_50 : decode cX4_copyFrom 50 = .ok (.bipush 16, 2) := by decide +kernel
theorem dX4_copyFrom_52 : decode cX4_copyFrom 52 = .ok (.invokestatic 43, 3) := by decide +kernel
theorem dX4_copyFrom_55 : decode cX4_copyFrom 55 = .ok (.aload_n 1, 1) := by decide +kernel
theorem dX4_copyFrom_56 : decode cX4_copyFrom 56 = .ok (.getfield 25, 3) := by decide +kernel
theorem dX4_copyFrom_59 : decode cX4_copyFrom 59 = .ok (.iconst 0, 1) := by decide +kernel
theorem dX4_copyFrom_60 : decode cX4_copyFrom 60 = .ok (.aload_n 0, 1) := by decide +kernel
theorem dX4_copyFrom_61 : decode cX4_copyFrom 61 = .ok (.getfield 25, 3) := by decide +kernel
theorem dX4_copyFrom_64 : decode cX4_copyFrom 64 = .ok (.iconst 0, 1) := by decide +kernel
theorem dX4_copyFrom_65 : decode cX4_copyFrom 65 = .ok (.bipush 16, 2) := by decide +kernel
theorem dX4_copyFrom_67 : decode cX4_copyFrom 67 = .ok (.invokestatic 43, 3) := by decide +kernel
theorem dX4_copyFrom_70 : decode cX4_copyFrom 70 = .ok (.aload_n 1, 1) := by decide +kernel
theorem dX4_copyFrom_71 : decode cX4_copyFrom 71 = .ok (.getfield 28, 3) := by decide +kernel
theorem dX4_copyFrom_74 : decode cX4_copyFrom 74 = .ok (.iconst 0, 1) := by decide +kernel
theorem dX4_copyFrom_75 : decode cX4_copyFrom 75 = .ok (.aload_n 0, 1) := by decide +kernel
theorem dX4_copyFrom_76 : decode cX4_copyFrom 76 = .ok (.getfield 28, 3) := by decide +kernel
theorem dX4_copyFrom_79 : decode cX4_copyFrom 79 = .ok (.iconst 0, 1) := by decide +kernel
theorem dX4_copyFrom_80 : decode cX4_copyFrom 80 = .ok (.bipush 16, 2) := by decide +kernel
theorem dX4_copyFrom_82 : decode cX4_copyFrom 82 = .ok (.invokestatic 43, 3) := by decide +kernel
theorem dX4_copyFrom_85 : decode cX4_copyFrom 85 = .ok (.aload_n 0, 1) := by decide +kernel
theorem dX4_copyFrom_86 : decode cX4_copyFrom 86 = .ok (.aload_n 1, 1) := by decide +kernel
theorem dX4_copyFrom_87 : decode cX4_copyFrom 87 = .ok (.getfield 31, 3) := by decide +kernel
theorem dX4_copyFrom_90 : decode cX4_copyFrom 90 = .ok (.putfield 31, 3) := by decide +kernel
theorem dX4_copyFrom_93 : decode cX4_copyFrom 93 = .ok (.return_, 1) := by decide +kernel
theorem dX4_empty_0 : decode cX4_empty 0 = .ok (.aload_n 0, 1) := by decide +kernel
theorem dX4_empty_1 : decode cX4_empty 1 = .ok (.iconst 0, 1) := by decide +kernel
theorem dX4_empty_2 : decode cX4_empty 2 = .ok (.putfield 18, 3) := by decide +kernel
theorem dX4_empty_5 : decode cX4_empty 5 = .ok (.aload_n 0, 1) := by decide +kernel
theorem dX4_empty_6 : decode cX4_empty 6 = .ok (.iconst 0, 1) := by decide +kernel
theorem dX4_empty_7 : decode cX4_empty 7 = .ok (.putfield 31, 3) := by decide +kernel
theorem dX4_empty_10 : decode cX4_empty 10 = .ok (.return_, 1) := by decide +kernel
theorem dX4_isNight_0 : decode cX4_isNight 0 = .ok (.aload_n 0, 1) := by decide +kernel
theorem dX4_isNight_1 : decode cX4_isNight 1 = .ok (.iload_n 1, 1) := by decide +kernel
theorem dX4_isNight_2 : decode cX4_isNight 2 = .ok (.invokevirtual 49, 3) := by decide +kernel
theorem dX4_isNight_5 : decode cX4_isNight 5 = .ok (.iconst 0, 1) := by decide +kernel
theorem dX4_isNight_6 : decode cX4_isNight 6 = .ok (.istore_n 2, 1) := by decide +kernel
theorem dX4_isNight_7 : decode cX4_isNight 7 = .ok (.iload_n 2, 1) := by decide +kernel
theorem dX4_isNight_8 : decode cX4_isNight 8 = .ok (.aload_n 0, 1) := by decide +kernel
theorem dX4_isNight_9 : decode cX4_isNight 9 = .ok (.getfield 31, 3) := by decide +kernel
theorem dX4_isNight_12 : decode cX4_isNight 12 = .ok (.if_icmp .ge 35, 3) := by decide +kernel
theorem dX4_isNight_15 : decode cX4_isNight 15 = .ok (.aload_n 0, 1) := by decide +kernel
theorem dX4_isNight_16 : decode cX4_isNight 16 = .ok (.getfield 22, 3) := by decide +kernel
theorem dX4_isNight_19 : decode cX4_isNight 19 = .ok (.iload_n 2, 1) := by decide +kernel
theorem dX4_isNight_20 : decode cX4_isNight 20 = .ok (.iaload, 1) := by decide +kernel
theorem dX4_isNight_21 : decode cX4_isNight 21 = .ok (.bipush 110, 2) := by decide +kernel
theorem dX4_isNight_23 : decode cX4_isNight 23 = .ok (.if_icmp .ne 18, 3) := by decide +kernel
theorem dX4_isNight_26 : decode cX4_isNight 26 = .ok (.aload_n 0, 1) := by decide +kernel
theorem dX4_isNight_27 : decode cX4_isNight 27 = .ok (.aload_n 0, 1) := by decide +kernel
theorem dX4_isNight_28 : decode cX4_isNight 28 = .ok (.getfield 28, 3) := by decide +kernel
theorem dX4_isNight_31 : decode cX4_isNight 31 = .ok (.iload_n 2, 1) := by decide +kernel
theorem dX4_isNight_32 : decode cX4_isNight 32 = .ok (.iaload, 1) := by decide +kernel
theorem dX4_isNight_33 : decode cX4_isNight 33 = .ok (.invokevirtual 53, 3) := by decide +kernel
theorem dX4_isNight_36 : decode cX4_isNight 36 = .ok (.ifCond .eq 5, 3) := by decide +kernel
theorem dX4_isNight_39 : decode cX4_isNight 39 = .ok (.iconst 1, 1) := by decide +kernel
theorem dX4_isNight_40 : decode cX4_isNight 40 = .ok (.ireturn, 1) := by decide +kernel
theorem dX4_isNight_41 : decode cX4_isNight 41 = .ok (.iinc 2 1, 3) := by decide +kernel
theorem dX4_isNight_44 : decode cX4_isNight 44 = .ok (.goto (-37), 3) := by decide +kernel
theorem dX4_isNight_47 : decode cX4_isNight 47 = .ok (.iconst 0, 1) := by decide +kernel
theorem dX4_isNight_48 : decode cX4_isNight 48 = .ok (.ireturn, 1) := by decide +kernel
theorem dX4_joined_0 : decode cX4_joined 0 = .ok (.iload_n 0, 1) := by decide +kernel
theorem dX4_joined_1 : decode cX4_joined 1 = .ok (.lookupswitch 125 #[(37, 91), (42, 75), (43, 67), (45, 71), (47, 79), (60, 103), (62, 114)], 67) := by decide +kernel
theorem dX4_joined_68 : decode cX4_joined 68 = .ok (.iload_n 1, 1) := by decide +kernel
theorem dX4_joined_69 : decode cX4_joined 69 = .ok (.iload_n 2, 1) := by decide +kernel
theorem dX4_joined_70 : decode cX4_joined 70 = .ok (.iadd, 1) := by decide +kernel
theorem dX4_joined_71 : decode cX4_joined 71 = .ok (.ireturn, 1) := by decide +kernel
theorem dX4_joined_72 : decode cX4_joined 72 = .ok (.iload_n 1, 1) := by decide +kernel
theorem dX4_joined_73 : decode cX4_joined 73 = .ok (.iload_n 2, 1) := by decide +kernel
theorem dX4_joined_74 : decode cX4_joined 74 = .ok (.isub, 1) := by decide +kernel
theorem dX4_joined_75 : decode cX4_joined 75 = .ok (.ireturn, 1) := by decide +kernel
theorem dX4_joined_76 : decode cX4_joined 76 = .ok (.iload_n 1, 1) := by decide +kernel
theorem dX4_joined_77 : decode cX4_joined 77 = .ok (.iload_n 2, 1) := by decide +kernel
theorem dX4_joined_78 : decode cX4_joined 78 = .ok (.imul, 1) := by decide +kernel
theorem dX4_joined_79 : decode cX4_joined 79 = .ok (.ireturn, 1) := by decide +kernel
theorem dX4_joined_80 : decode cX4_joined 80 = .ok (.iload_n 2, 1) := by decide +kernel
theorem dX4_joined_81 : decode cX4_joined 81 = .ok (.ifCond .ne 7, 3) := by decide +kernel
theorem dX4_joined_84 : decode cX4_joined 84 = .ok (.iconst 0, 1) := by decide +kernel
theorem dX4_joined_85 : decode cX4_joined 85 = .ok (.goto 6, 3) := by decide +kernel
theorem dX4_joined_88 : decode cX4_joined 88 = .ok (.iload_n 1, 1) := by decide +kernel
theorem dX4_joined_89 : decode cX4_joined 89 = .ok (.iload_n 2, 1) := by decide +kernel
theorem dX4_joined_90 : decode cX4_joined 90 = .ok (.idiv, 1) := by decide +kernel
theorem dX4_joined_91 : decode cX4_joined 91 = .ok (.ireturn, 1) := by decide +kernel
theorem dX4_joined_92 : decode cX4_joined 92 = .ok (.iload_n 2, 1) := by decide +kernel
theorem dX4_joined_93 : decode cX4_joined 93 = .ok (.ifCond .ne 7, 3) := by decide +kernel
theorem dX4_joined_96 : decode cX4_joined 96 = .ok (.iconst 0, 1) := by decide +kernel
theorem dX4_joined_97 : decode cX4_joined 97 = .ok (.goto 6, 3) := by decide +kernel
theorem dX4_joined_100 : decode cX4_joined 100 = .ok (.iload_n 1, 1) := by decide +kernel
theorem dX4_joined_101 : decode cX4_joined 101 = .ok (.iload_n 2, 1) := by decide +kernel
theorem dX4_joined_102 : decode cX4_joined 102 = .ok (.irem, 1) := by decide +kernel
theorem dX4_joined_103 : decode cX4_joined 103 = .ok (.ireturn, 1) := by decide +kernel
theorem dX4_joined_104 : decode cX4_joined 104 = .ok (.iload_n 1, 1) := by decide +kernel
theorem dX4_joined_105 : decode cX4_joined 105 = .ok (.iload_n 2, 1) := by decide +kernel
theorem dX4_joined_106 : decode cX4_joined 106 = .ok (.if_icmp .ge 7, 3) := by decide +kernel
theorem dX4_joined_109 : decode cX4_joined 109 = .ok (.iconst 1, 1) := by decide +kernel
theorem dX4_joined_110 : decode cX4_joined 110 = .ok (.goto 4, 3) := by decide +kernel
theorem dX4_joined_113 : decode cX4_joined 113 = .ok (.iconst 0, 1) := by decide +kernel
theorem dX4_joined_114 : decode cX4_joined 114 = .ok (.ireturn, 1) := by decide +kernel
theorem dX4_joined_115 : decode cX4_joined 115 = .ok (.iload_n 1, 1) := by decide +kernel
theorem dX4_joined_116 : decode cX4_joined 116 = .ok (.iload_n 2, 1) := by decide +kernel
theorem dX4_joined_117 : decode cX4_joined 117 = .ok (.if_icmp .le 7, 3) := by decide +kernel
theorem dX4_joined_120 : decode cX4_joined 120 = .ok (.iconst 1, 1) := by decide +kernel
theorem dX4_joined_121 : decode cX4_joined 121 = .ok (.goto 4, 3) := by decide +kernel
theorem dX4_joined_124 : decode cX4_joined 124 = .ok (.iconst 0, 1) := by decide +kernel
theorem dX4_joined_125 : decode cX4_joined 125 = .ok (.ireturn, 1) := by decide +kernel
theorem dX4_joined_126 : decode cX4_joined 126 = .ok (.iload_n 1, 1) := by decide +kernel
theorem dX4_joined_127 : decode cX4_joined 127 = .ok (.iload_n 2, 1) := by decide +kernel
theorem dX4_joined_128 : decode cX4_joined 128 = .ok (.if_icmp .ne 7, 3) := by decide +kernel
theorem dX4_joined_131 : decode cX4_joined 131 = .ok (.iconst 1, 1) := by decide +kernel
theorem dX4_joined_132 : decode cX4_joined 132 = .ok (.goto 4, 3) := by decide +kernel
theorem dX4_joined_135 : decode cX4_joined 135 = .ok (.iconst 0, 1) := by decide +kernel
theorem dX4_joined_136 : decode cX4_joined 136 = .ok (.ireturn, 1) := by decide +kernel
theorem dX4_landSkip_0 : decode cX4_landSkip 0 = .ok (.iload_n 1, 1) := by decide +kernel
theorem dX4_landSkip_1 : decode cX4_landSkip 1 = .ok (.ifCond .lt 20, 3) := by decide +kernel
theorem dX4_landSkip_4 : decode cX4_landSkip 4 = .ok (.iload_n 1, 1) := by decide +kernel
theorem dX4_landSkip_5 : decode cX4_landSkip 5 = .ok (.sipush 300, 3) := by decide +kernel
theorem dX4_landSkip_8 : decode cX4_landSkip 8 = .ok (.if_icmp .ge 13, 3) := by decide +kernel
theorem dX4_landSkip_11 : decode cX4_landSkip 11 = .ok (.aload_n 0, 1) := by decide +kernel
theorem dX4_landSkip_12 : decode cX4_landSkip 12 = .ok (.getfield 15, 3) := by decide +kernel
theorem dX4_landSkip_15 : decode cX4_landSkip 15 = .ok (.iload_n 1, 1) := by decide +kernel
theorem dX4_landSkip_16 : decode cX4_landSkip 16 = .ok (.aload_n 0, 1) := by decide +kernel
theorem dX4_landSkip_17 : decode cX4_landSkip 17 = .ok (.getfield 18, 3) := by decide +kernel
theorem dX4_landSkip_20 : decode cX4_landSkip 20 = .ok (.iastore, 1) := by decide +kernel
theorem dX4_landSkip_21 : decode cX4_landSkip 21 = .ok (.return_, 1) := by decide +kernel
theorem dX4_placeOfLetter_0 : decode cX4_placeOfLetter 0 = .ok (.iconst 0, 1) := by decide +kernel
theorem dX4_placeOfLetter_1 : decode cX4_placeOfLetter 1 = .ok (.istore_n 1, 1) := by decide +kernel
theorem dX4_placeOfLetter_2 : decode cX4_placeOfLetter 2 = .ok (.iload_n 1, 1) := by decide +kernel
theorem dX4_placeOfLetter_3 : decode cX4_placeOfLetter 3 = .ok (.getstatic 34, 3) := by decide +kernel
theorem dX4_placeOfLetter_6 : decode cX4_placeOfLetter 6 = .ok (.arraylength, 1) := by decide +kernel
theorem dX4_placeOfLetter_7 : decode cX4_placeOfLetter 7 = .ok (.if_icmp .ge 20, 3) := by decide +kernel
theorem dX4_placeOfLetter_10 : decode cX4_placeOfLetter 10 = .ok (.getstatic 34, 3) := by decide +kernel
theorem dX4_placeOfLetter_13 : decode cX4_placeOfLetter 13 = .ok (.iload_n 1, 1) := by decide +kernel
theorem dX4_placeOfLetter_14 : decode cX4_placeOfLetter 14 = .ok (.iaload, 1) := by decide +kernel
theorem dX4_placeOfLetter_15 : decode cX4_placeOfLetter 15 = .ok (.iload_n 0, 1) := by decide +kernel
theorem dX4_placeOfLetter_16 : decode cX4_placeOfLetter 16 = .ok (.if_icmp .ne 5, 3) := by decide +kernel
theorem dX4_placeOfLetter_19 : decode cX4_placeOfLetter 19 = .ok (.iload_n 1, 1) := by decide +kernel
theorem dX4_placeOfLetter_20 : decode cX4_placeOfLetter 20 = .ok (.ireturn, 1) := by decide +kernel
theorem dX4_placeOfLetter_21 : decode cX4_placeOfLetter 21 = .ok (.iinc 1 1, 3) := by decide +kernel
theorem dX4_placeOfLetter_24 : decode cX4_placeOfLetter 24 = .ok (.goto (-22), 3) := by decide +kernel
theorem dX4_placeOfLetter_27 : decode cX4_placeOfLetter 27 = .ok (.iconst (-1), 1) := by decide +kernel
theorem dX4_placeOfLetter_28 : decode cX4_placeOfLetter 28 = .ok (.ireturn, 1) := by decide +kernel
theorem dX4_put_0 : decode cX4_put 0 = .ok (.aload_n 0, 1) := by decide +kernel
theorem dX4_put_1 : decode cX4_put 1 = .ok (.getfield 18, 3) := by decide +kernel
theorem dX4_put_4 : decode cX4_put 4 = .ok (.istore_n 3, 1) := by decide +kernel
theorem dX4_put_5 : decode cX4_put 5 = .ok (.iload_n 3, 1) := by decide +kernel
theorem dX4_put_6 : decode cX4_put 6 = .ok (.ifCond .lt 34, 3) := by decide +kernel
theorem dX4_put_9 : decode cX4_put 9 = .ok (.iload_n 3, 1) := by decide +kernel
theorem dX4_put_10 : decode cX4_put 10 = .ok (.sipush 300, 3) := by decide +kernel
theorem dX4_put_13 : decode cX4_put 13 = .ok (.if_icmp .ge 27, 3) := by decide +kernel
theorem dX4_put_16 : decode cX4_put 16 = .ok (.aload_n 0, 1) := by decide +kernel
theorem dX4_put_17 : decode cX4_put 17 = .ok (.getfield 11, 3) := by decide +kernel
theorem dX4_put_20 : decode cX4_put 20 = .ok (.iload_n 3, 1) := by decide +kernel
theorem dX4_put_21 : decode cX4_put 21 = .ok (.iload_n 1, 1) := by decide +kernel
theorem dX4_put_22 : decode cX4_put 22 = .ok (.iastore, 1) := by decide +kernel
theorem dX4_put_23 : decode cX4_put 23 = .ok (.aload_n 0, 1) := by decide +kernel
theorem dX4_put_24 : decode cX4_put 24 = .ok (.getfield 15, 3) := by decide +kernel
theorem dX4_put_27 : decode cX4_put 27 = .ok (.iload_n 3, 1) := by decide +kernel
theorem dX4_put_28 : decode cX4_put 28 = .ok (.iload_n 2, 1) := by decide +kernel
theorem dX4_put_29 : decode cX4_put 29 = .ok (.iastore, 1) := by decide +kernel
theorem dX4_put_30 : decode cX4_put 30 = .ok (.aload_n 0, 1) := by decide +kernel
theorem dX4_put_31 : decode cX4_put 31 = .ok (.dup, 1) := by decide +kernel
theorem dX4_put_32 : decode cX4_put 32 = .ok (.getfield 18, 3) := by decide +kernel
theorem dX4_put_35 : decode cX4_put 35 = .ok (.iconst 1, 1) := by decide +kernel
theorem dX4_put_36 : decode cX4_put 36 = .ok (.iadd, 1) := by decide +kernel
theorem dX4_put_37 : decode cX4_put 37 = .ok (.putfield 18, 3) := by decide +kernel
theorem dX4_put_40 : decode cX4_put 40 = .ok (.iload_n 3, 1) := by decide +kernel
theorem dX4_put_41 : decode cX4_put 41 = .ok (.ireturn, 1) := by decide +kernel
theorem dX4_reckon_0 : decode cX4_reckon 0 = .ok (.iload_n 1, 1) := by decide +kernel
theorem dX4_reckon_1 : decode cX4_reckon 1 = .ok (.istore_n 2, 1) := by decide +kernel
theorem dX4_reckon_2 : decode cX4_reckon 2 = .ok (.iconst 0, 1) := by decide +kernel
theorem dX4_reckon_3 : decode cX4_reckon 3 = .ok (.istore_n 3, 1) := by decide +kernel
theorem dX4_reckon_4 : decode cX4_reckon 4 = .ok (.iconst 0, 1) := by decide +kernel
theorem dX4_reckon_5 : decode cX4_reckon 5 = .ok (.istore 4, 2) := by decide +kernel
theorem dX4_reckon_7 : decode cX4_reckon 7 = .ok (.iload 4, 2) := by decide +kernel
theorem dX4_reckon_9 : decode cX4_reckon 9 = .ok (.sipush 300, 3) := by decide +kernel
theorem dX4_reckon_12 : decode cX4_reckon 12 = .ok (.if_icmp .ge 243, 3) := by decide +kernel
theorem dX4_reckon_15 : decode cX4_reckon 15 = .ok (.iload_n 2, 1) := by decide +kernel
theorem dX4_reckon_16 : decode cX4_reckon 16 = .ok (.ifCond .lt 239, 3) := by decide +kernel
theorem dX4_reckon_19 : decode cX4_reckon 19 = .ok (.iload_n 2, 1) := by decide +kernel
theorem dX4_reckon_20 : decode cX4_reckon 20 = .ok (.aload_n 0, 1) := by decide +kernel
theorem dX4_reckon_21 : decode cX4_reckon 21 = .ok (.getfield 18, 3) := by decide +kernel
theorem dX4_reckon_24 : decode cX4_reckon 24 = .ok (.if_icmp .ge 231, 3) := by decide +kernel
theorem dX4_reckon_27 : decode cX4_reckon 27 = .ok (.aload_n 0, 1) := by decide +kernel
theorem dX4_reckon_28 : decode cX4_reckon 28 = .ok (.getfield 11, 3) := by decide +kernel
theorem dX4_reckon_31 : decode cX4_reckon 31 = .ok (.iload_n 2, 1) := by decide +kernel
theorem dX4_reckon_32 : decode cX4_reckon 32 = .ok (.iaload, 1) := by decide +kernel
theorem dX4_reckon_33 : decode cX4_reckon 33 = .ok (.istore 5, 2) := by decide +kernel
theorem dX4_reckon_35 : decode cX4_reckon 35 = .ok (.aload_n 0, 1) := by decide +kernel
theorem dX4_reckon_36 : decode cX4_reckon 36 = .ok (.getfield 15, 3) := by decide +kernel
theorem dX4_reckon_39 : decode cX4_reckon 39 = .ok (.iload_n 2, 1) := by decide +kernel
theorem dX4_reckon_40 : decode cX4_reckon 40 = .ok (.iaload, 1) := by decide +kernel
theorem dX4_reckon_41 : decode cX4_reckon 41 = .ok (.istore 6, 2) := by decide +kernel
theorem dX4_reckon_43 : decode cX4_reckon 43 = .ok (.iinc 2 1, 3) := by decide +kernel
theorem dX4_reckon_46 : decode cX4_reckon 46 = .ok (.aload_n 0, 1) := by decide +kernel
theorem dX4_reckon_47 : decode cX4_reckon 47 = .ok (.getfield 40, 3) := by decide +kernel
theorem dX4_reckon_50 : decode cX4_reckon 50 = .ok (.iload_n 3, 1) := by decide +kernel
theorem dX4_reckon_51 : decode cX4_reckon 51 = .ok (.iaload, 1) := by decide +kernel
theorem dX4_reckon_52 : decode cX4_reckon 52 = .ok (.istore 7, 2) := by decide +kernel
theorem dX4_reckon_54 : decode cX4_reckon 54 = .ok (.iload_n 3, 1) := by decide +kernel
theorem dX4_reckon_55 : decode cX4_reckon 55 = .ok (.ifCond .le 9, 3) := by decide +kernel
theorem dX4_reckon_58 : decode cX4_reckon 58 = .ok (.iload_n 3, 1) := by decide +kernel
theorem dX4_reckon_59 : decode cX4_reckon 59 = .ok (.iconst 1, 1) := by decide +kernel
theorem dX4_reckon_60 : decode cX4_reckon 60 = .ok (.isub, 1) := by decide +kernel
theorem dX4_reckon_61 : decode cX4_reckon 61 = .ok (.goto 4, 3) := by decide +kernel
theorem dX4_reckon_64 : decode cX4_reckon 64 = .ok (.iconst 0, 1) := by decide +kernel
theorem dX4_reckon_65 : decode cX4_reckon 65 = .ok (.istore 8, 2) := by decide +kernel
theorem dX4_reckon_67 : decode cX4_reckon 67 = .ok (.iload 5, 2) := by decide +kernel
theorem dX4_reckon_69 : decode cX4_reckon 69 = .ok (.tableswitch 137 0 5 #[39, 42, 42, 82, 101, 101], 39) := by decide +kernel
theorem dX4_reckon_108 : decode cX4_reckon 108 = .ok (.iload 7, 2) := by decide +kernel
theorem dX4_reckon_110 : decode cX4_reckon 110 = .ok (.ireturn, 1) := by decide +kernel
theorem dX4_reckon_111 : decode cX4_reckon 111 = .ok (.iload_n 3, 1) := by decide +kernel
theorem dX4_reckon_112 : decode cX4_reckon 112 = .ok (.bipush 63, 2) := by decide +kernel
theorem dX4_reckon_114 : decode cX4_reckon 114 = .ok (.if_icmp .ge 9, 3) := by decide +kernel
theorem dX4_reckon_117 : decode cX4_reckon 117 = .ok (.iload_n 3, 1) := by decide +kernel
theorem dX4_reckon_118 : decode cX4_reckon 118 = .ok (.iconst 1, 1) := by decide +kernel
theorem dX4_reckon_119 : decode cX4_reckon 119 = .ok (.iadd, 1) := by decide +kernel
theorem dX4_reckon_120 : decode cX4_reckon 120 = .ok (.goto 4, 3) := by decide +kernel
theorem dX4_reckon_123 : decode cX4_reckon 123 = .ok (.iload_n 3, 1) := by decide +kernel
theorem dX4_reckon_124 : decode cX4_reckon 124 = .ok (.istore_n 3, 1) := by decide +kernel
theorem dX4_reckon_125 : decode cX4_reckon 125 = .ok (.aload_n 0, 1) := by decide +kernel
theorem dX4_reckon_126 : decode cX4_reckon 126 = .ok (.getfield 40, 3) := by decide +kernel
theorem dX4_reckon_129 : decode cX4_reckon 129 = .ok (.iload_n 3, 1) := by decide +kernel
theorem dX4_reckon_130 : decode cX4_reckon 130 = .ok (.iload 5, 2) := by decide +kernel
theorem dX4_reckon_132 : decode cX4_reckon 132 = .ok (.iconst 1, 1) := by decide +kernel
theorem dX4_reckon_133 : decode cX4_reckon 133 = .ok (.if_icmp .ne 8, 3) := by decide +kernel
theorem dX4_reckon_136 : decode cX4_reckon 136 = .ok (.iload 6, 2) := by decide +kernel
theorem dX4_reckon_138 : decode cX4_reckon 138 = .ok (.goto 9, 3) := by decide +kernel
theorem dX4_reckon_141 : decode cX4_reckon 141 = .ok (.aload_n 0, 1) := by decide +kernel
theorem dX4_reckon_142 : decode cX4_reckon 142 = .ok (.iload 6, 2) := by decide +kernel
theorem dX4_reckon_144 : decode cX4_reckon 144 = .ok (.invokevirtual 66, 3) := by decide +kernel
theorem dX4_reckon_147 : decode cX4_reckon 147 = .ok (.iastore, 1) := by decide +kernel
theorem dX4_reckon_148 : decode cX4_reckon 148 = .ok (.goto 101, 3) := by decide +kernel
theorem dX4_reckon_151 : decode cX4_reckon 151 = .ok (.aload_n 0, 1) := by decide +kernel
theorem dX4_reckon_152 : decode cX4_reckon 152 = .ok (.getfield 40, 3) := by decide +kernel
theorem dX4_reckon_155 : decode cX4_reckon 155 = .ok (.iload_n 3, 1) := by decide +kernel
theorem dX4_reckon_156 : decode cX4_reckon 156 = .ok (.iload 7, 2) := by decide +kernel
theorem dX4_reckon_158 : decode cX4_reckon 158 = .ok (.ifCond .ne 7, 3) := by decide +kernel
theorem dX4_reckon_161 : decode cX4_reckon 161 = .ok (.iconst 1, 1) := by decide +kernel
theorem dX4_reckon_162 : decode cX4_reckon 162 = .ok (.goto 4, 3) := by decide +kernel
theorem dX4_reckon_165 : decode cX4_reckon 165 = .ok (.iconst 0, 1) := by decide +kernel
theorem dX4_reckon_166 : decode cX4_reckon 166 = .ok (.iastore, 1) := by decide +kernel
theorem dX4_reckon_167 : decode cX4_reckon 167 = .ok (.goto 82, 3) := by decide +kernel
theorem dX4_reckon_170 : decode cX4_reckon 170 = .ok (.iload 7, 2) := by decide +kernel
theorem dX4_reckon_172 : decode cX4_reckon 172 = .ok (.ifCond .eq 7, 3) := by decide +kernel
theorem dX4_reckon_175 : decode cX4_reckon 175 = .ok (.iconst 1, 1) := by decide +kernel
theorem dX4_reckon_176 : decode cX4_reckon 176 = .ok (.goto 4, 3) := by decide +kernel
theorem dX4_reckon_179 : decode cX4_reckon 179 = .ok (.iconst 0, 1) := by decide +kernel
theorem dX4_reckon_180 : decode cX4_reckon 180 = .ok (.iload 5, 2) := by decide +kernel
theorem dX4_reckon_182 : decode cX4_reckon 182 = .ok (.iconst 5, 1) := by decide +kernel
theorem dX4_reckon_183 : decode cX4_reckon 183 = .ok (.if_icmp .ne 7, 3) := by decide +kernel
theorem dX4_reckon_186 : decode cX4_reckon 186 = .ok (.iconst 1, 1) := by decide +kernel
theorem dX4_reckon_187 : decode cX4_reckon 187 = .ok (.goto 4, 3) := by decide +kernel
theorem dX4_reckon_190 : decode cX4_reckon 190 = .ok (.iconst 0, 1) := by decide +kernel
theorem dX4_reckon_191 : decode cX4_reckon 191 = .ok (.if_icmp .ne 9, 3) := by decide +kernel
theorem dX4_reckon_194 : decode cX4_reckon 194 = .ok (.iload 6, 2) := by decide +kernel
theorem dX4_reckon_196 : decode cX4_reckon 196 = .ok (.istore_n 2, 1) := by decide +kernel
theorem dX4_reckon_197 : decode cX4_reckon 197 = .ok (.goto 52, 3) := by decide +kernel
theorem dX4_reckon_200 : decode cX4_reckon 200 = .ok (.iload 8, 2) := by decide +kernel
theorem dX4_reckon_202 : decode cX4_reckon 202 = .ok (.istore_n 3, 1) := by decide +kernel
theorem dX4_reckon_203 : decode cX4_reckon 203 = .ok (.goto 46, 3) := by decide +kernel
theorem dX4_reckon_206 : decode cX4_reckon 206 = .ok (.iload 7, 2) := by decide +kernel
theorem dX4_reckon_208 : decode cX4_reckon 208 = .ok (.ifCond .ne 19, 3) := by decide +kernel
theorem dX4_reckon_211 : decode cX4_reckon 211 = .ok (.iload 5, 2) := by decide +kernel
theorem dX4_reckon_213 : decode cX4_reckon 213 = .ok (.bipush 47, 2) := by decide +kernel
theorem dX4_reckon_215 : decode cX4_reckon 215 = .ok (.if_icmp .eq 10, 3) := by decide +kernel
theorem dX4_reckon_218 : decode cX4_reckon 218 = .ok (.iload 5, 2) := by decide +kernel
theorem dX4_reckon_220 : decode cX4_reckon 220 = .ok (.bipush 37, 2) := by decide +kernel
theorem dX4_reckon_222 : decode cX4_reckon 222 = .ok (.if_icmp .ne 5, 3) := by decide +kernel
theorem dX4_reckon_225 : decode cX4_reckon 225 = .ok (.iconst 0, 1) := by decide +kernel
theorem dX4_reckon_226 : decode cX4_reckon 226 = .ok (.ireturn, 1) := by decide +kernel
theorem dX4_reckon_227 : decode cX4_reckon 227 = .ok (.iload 8, 2) := by decide +kernel
theorem dX4_reckon_229 : decode cX4_reckon 229 = .ok (.istore_n 3, 1) := by decide +kernel
theorem dX4_reckon_230 : decode cX4_reckon 230 = .ok (.aload_n 0, 1) := by decide +kernel
theorem dX4_reckon_231 : decode cX4_reckon 231 = .ok (.getfield 40, 3) := by decide +kernel
theorem dX4_reckon_234 : decode cX4_reckon 234 = .ok (.iload_n 3, 1) := by decide +kernel
theorem dX4_reckon_235 : decode cX4_reckon 235 = .ok (.iload 5, 2) := by decide +kernel
theorem dX4_reckon_237 : decode cX4_reckon 237 = .ok (.aload_n 0, 1) := by decide +kernel
theorem dX4_reckon_238 : decode cX4_reckon 238 = .ok (.getfield 40, 3) := by decide +kernel
theorem dX4_reckon_241 : decode cX4_reckon 241 = .ok (.iload_n 3, 1) := by decide +kernel
theorem dX4_reckon_242 : decode cX4_reckon 242 = .ok (.iaload, 1) := by decide +kernel
theorem dX4_reckon_243 : decode cX4_reckon 243 = .ok (.iload 7, 2) := by decide +kernel
theorem dX4_reckon_245 : decode cX4_reckon 245 = .ok (.invokestatic 69, 3) := by decide +kernel
theorem dX4_reckon_248 : decode cX4_reckon 248 = .ok (.iastore, 1) := by decide +kernel
theorem dX4_reckon_249 : decode cX4_reckon 249 = .ok (.iinc 4 1, 3) := by decide +kernel
theorem dX4_reckon_252 : decode cX4_reckon 252 = .ok (.goto (-245), 3) := by decide +kernel
theorem dX4_reckon_255 : decode cX4_reckon 255 = .ok (.iconst 0, 1) := by decide +kernel
theorem dX4_reckon_256 : decode cX4_reckon 256 = .ok (.ireturn, 1) := by decide +kernel
theorem dX4_tellFelon_0 : decode cX4_tellFelon 0 = .ok (.aload_n 0, 1) := by decide +kernel
theorem dX4_tellFelon_1 : decode cX4_tellFelon 1 = .ok (.iload_n 1, 1) := by decide +kernel
theorem dX4_tellFelon_2 : decode cX4_tellFelon 2 = .ok (.invokevirtual 49, 3) := by decide +kernel
theorem dX4_tellFelon_5 : decode cX4_tellFelon 5 = .ok (.aload_n 0, 1) := by decide +kernel
theorem dX4_tellFelon_6 : decode cX4_tellFelon 6 = .ok (.getfield 37, 3) := by decide +kernel
theorem dX4_tellFelon_9 : decode cX4_tellFelon 9 = .ok (.iconst 3, 1) := by decide +kernel
theorem dX4_tellFelon_10 : decode cX4_tellFelon 10 = .ok (.iload_n 2, 1) := by decide +kernel
theorem dX4_tellFelon_11 : decode cX4_tellFelon 11 = .ok (.iastore, 1) := by decide +kernel
theorem dX4_tellFelon_12 : decode cX4_tellFelon 12 = .ok (.aload_n 0, 1) := by decide +kernel
theorem dX4_tellFelon_13 : decode cX4_tellFelon 13 = .ok (.getfield 37, 3) := by decide +kernel
theorem dX4_tellFelon_16 : decode cX4_tellFelon 16 = .ok (.iconst 4, 1) := by decide +kernel
theorem dX4_tellFelon_17 : decode cX4_tellFelon 17 = .ok (.iload_n 3, 1) := by decide +kernel
theorem dX4_tellFelon_18 : decode cX4_tellFelon 18 = .ok (.iastore, 1) := by decide +kernel
theorem dX4_tellFelon_19 : decode cX4_tellFelon 19 = .ok (.aload_n 0, 1) := by decide +kernel
theorem dX4_tellFelon_20 : decode cX4_tellFelon 20 = .ok (.getfield 37, 3) := by decide +kernel
theorem dX4_tellFelon_23 : decode cX4_tellFelon 23 = .ok (.iconst 5, 1) := by decide +kernel
theorem dX4_tellFelon_24 : decode cX4_tellFelon 24 = .ok (.iload 4, 2) := by decide +kernel
theorem dX4_tellFelon_26 : decode cX4_tellFelon 26 = .ok (.iastore, 1) := by decide +kernel
theorem dX4_tellFelon_27 : decode cX4_tellFelon 27 = .ok (.aload_n 0, 1) := by decide +kernel
theorem dX4_tellFelon_28 : decode cX4_tellFelon 28 = .ok (.getfield 37, 3) := by decide +kernel
theorem dX4_tellFelon_31 : decode cX4_tellFelon 31 = .ok (.bipush 6, 2) := by decide +kernel
theorem dX4_tellFelon_33 : decode cX4_tellFelon 33 = .ok (.iload 5, 2) := by decide +kernel
theorem dX4_tellFelon_35 : decode cX4_tellFelon 35 = .ok (.iastore, 1) := by decide +kernel
theorem dX4_tellFelon_36 : decode cX4_tellFelon 36 = .ok (.return_, 1) := by decide +kernel
theorem dX4_tellJudge_0 : decode cX4_tellJudge 0 = .ok (.aload_n 0, 1) := by decide +kernel
theorem dX4_tellJudge_1 : decode cX4_tellJudge 1 = .ok (.iload_n 1, 1) := by decide +kernel
theorem dX4_tellJudge_2 : decode cX4_tellJudge 2 = .ok (.invokevirtual 49, 3) := by decide +kernel
theorem dX4_tellJudge_5 : decode cX4_tellJudge 5 = .ok (.aload_n 0, 1) := by decide +kernel
theorem dX4_tellJudge_6 : decode cX4_tellJudge 6 = .ok (.getfield 37, 3) := by decide +kernel
theorem dX4_tellJudge_9 : decode cX4_tellJudge 9 = .ok (.iconst 2, 1) := by decide +kernel
theorem dX4_tellJudge_10 : decode cX4_tellJudge 10 = .ok (.iload_n 2, 1) := by decide +kernel
theorem dX4_tellJudge_11 : decode cX4_tellJudge 11 = .ok (.iastore, 1) := by decide +kernel
theorem dX4_tellJudge_12 : decode cX4_tellJudge 12 = .ok (.return_, 1) := by decide +kernel
theorem dX4_tellMinute_0 : decode cX4_tellMinute 0 = .ok (.iconst 2, 1) := by decide +kernel
theorem dX4_tellMinute_1 : decode cX4_tellMinute 1 = .ok (.istore_n 2, 1) := by decide +kernel
theorem dX4_tellMinute_2 : decode cX4_tellMinute 2 = .ok (.iload_n 2, 1) := by decide +kernel
theorem dX4_tellMinute_3 : decode cX4_tellMinute 3 = .ok (.aload_n 0, 1) := by decide +kernel
theorem dX4_tellMinute_4 : decode cX4_tellMinute 4 = .ok (.getfield 37, 3) := by decide +kernel
theorem dX4_tellMinute_7 : decode cX4_tellMinute 7 = .ok (.arraylength, 1) := by decide +kernel
theorem dX4_tellMinute_8 : decode cX4_tellMinute 8 = .ok (.if_icmp .ge 16, 3) := by decide +kernel
theorem dX4_tellMinute_11 : decode cX4_tellMinute 11 = .ok (.aload_n 0, 1) := by decide +kernel
theorem dX4_tellMinute_12 : decode cX4_tellMinute 12 = .ok (.getfield 37, 3) := by decide +kernel
theorem dX4_tellMinute_15 : decode cX4_tellMinute 15 = .ok (.iload_n 2, 1) := by decide +kernel
theorem dX4_tellMinute_16 : decode cX4_tellMinute 16 = .ok (.iconst 0, 1) := by decide +kernel
theorem dX4_tellMinute_17 : decode cX4_tellMinute 17 = .ok (.iastore, 1) := by decide +kernel
theorem dX4_tellMinute_18 : decode cX4_tellMinute 18 = .ok (.iinc 2 1, 3) := by decide +kernel
theorem dX4_tellMinute_21 : decode cX4_tellMinute 21 = .ok (.goto (-19), 3) := by decide +kernel
theorem dX4_tellMinute_24 : decode cX4_tellMinute 24 = .ok (.aload_n 0, 1) := by decide +kernel
theorem dX4_tellMinute_25 : decode cX4_tellMinute 25 = .ok (.getfield 37, 3) := by decide +kernel
theorem dX4_tellMinute_28 : decode cX4_tellMinute 28 = .ok (.iconst 0, 1) := by decide +kernel
theorem dX4_tellMinute_29 : decode cX4_tellMinute 29 = .ok (.iload_n 1, 1) := by decide +kernel
theorem dX4_tellMinute_30 : decode cX4_tellMinute 30 = .ok (.iastore, 1) := by decide +kernel
theorem dX4_tellMinute_31 : decode cX4_tellMinute 31 = .ok (.aload_n 0, 1) := by decide +kernel
theorem dX4_tellMinute_32 : decode cX4_tellMinute 32 = .ok (.getfield 37, 3) := by decide +kernel
theorem dX4_tellMinute_35 : decode cX4_tellMinute 35 = .ok (.iconst 1, 1) := by decide +kernel
theorem dX4_tellMinute_36 : decode cX4_tellMinute 36 = .ok (.iload_n 1, 1) := by decide +kernel
theorem dX4_tellMinute_37 : decode cX4_tellMinute 37 = .ok (.bipush 60, 2) := by decide +kernel
theorem dX4_tellMinute_39 : decode cX4_tellMinute 39 = .ok (.idiv, 1) := by decide +kernel
theorem dX4_tellMinute_40 : decode cX4_tellMinute 40 = .ok (.bipush 24, 2) := by decide +kernel
theorem dX4_tellMinute_42 : decode cX4_tellMinute 42 = .ok (.irem, 1) := by decide +kernel
theorem dX4_tellMinute_43 : decode cX4_tellMinute 43 = .ok (.iastore, 1) := by decide +kernel
theorem dX4_tellMinute_44 : decode cX4_tellMinute 44 = .ok (.return_, 1) := by decide +kernel
theorem dX4_toldAt_0 : decode cX4_toldAt 0 = .ok (.iload_n 1, 1) := by decide +kernel
theorem dX4_toldAt_1 : decode cX4_toldAt 1 = .ok (.ifCond .lt 21, 3) := by decide +kernel
theorem dX4_toldAt_4 : decode cX4_toldAt 4 = .ok (.iload_n 1, 1) := by decide +kernel
theorem dX4_toldAt_5 : decode cX4_toldAt 5 = .ok (.aload_n 0, 1) := by decide +kernel
theorem dX4_toldAt_6 : decode cX4_toldAt 6 = .ok (.getfield 37, 3) := by decide +kernel
theorem dX4_toldAt_9 : decode cX4_toldAt 9 = .ok (.arraylength, 1) := by decide +kernel
theorem dX4_toldAt_10 : decode cX4_toldAt 10 = .ok (.if_icmp .ge 12, 3) := by decide +kernel
theorem dX4_toldAt_13 : decode cX4_toldAt 13 = .ok (.aload_n 0, 1) := by decide +kernel
theorem dX4_toldAt_14 : decode cX4_toldAt 14 = .ok (.getfield 37, 3) := by decide +kernel
theorem dX4_toldAt_17 : decode cX4_toldAt 17 = .ok (.iload_n 1, 1) := by decide +kernel
theorem dX4_toldAt_18 : decode cX4_toldAt 18 = .ok (.iaload, 1) := by decide +kernel
theorem dX4_toldAt_19 : decode cX4_toldAt 19 = .ok (.goto 4, 3) := by decide +kernel
theorem dX4_toldAt_22 : decode cX4_toldAt 22 = .ok (.iconst 0, 1) := by decide +kernel
theorem dX4_toldAt_23 : decode cX4_toldAt 23 = .ok (.ireturn, 1) := by decide +kernel
theorem dX4_worthOf_0 : decode cX4_worthOf 0 = .ok (.iconst 0, 1) := by decide +kernel
theorem dX4_worthOf_1 : decode cX4_worthOf 1 = .ok (.istore_n 3, 1) := by decide +kernel
theorem dX4_worthOf_2 : decode cX4_worthOf 2 = .ok (.iload_n 3, 1) := by decide +kernel
theorem dX4_worthOf_3 : decode cX4_worthOf 3 = .ok (.aload_n 0, 1) := by decide +kernel
theorem dX4_worthOf_4 : decode cX4_worthOf 4 = .ok (.getfield 31, 3) := by decide +kernel
theorem dX4_worthOf_7 : decode cX4_worthOf 7 = .ok (.if_icmp .ge 51, 3) := by decide +kernel
theorem dX4_worthOf_10 : decode cX4_worthOf 10 = .ok (.aload_n 0, 1) := by decide +kernel
theorem dX4_worthOf_11 : decode cX4_worthOf 11 = .ok (.getfield 22, 3) := by decide +kernel
theorem dX4_worthOf_14 : decode cX4_worthOf 14 = .ok (.iload_n 3, 1) := by decide +kernel
theorem dX4_worthOf_15 : decode cX4_worthOf 15 = .ok (.iaload, 1) := by decide +kernel
theorem dX4_worthOf_16 : decode cX4_worthOf 16 = .ok (.iload_n 1, 1) := by decide +kernel
theorem dX4_worthOf_17 : decode cX4_worthOf 17 = .ok (.if_icmp .ne 35, 3) := by decide +kernel
theorem dX4_worthOf_20 : decode cX4_worthOf 20 = .ok (.aload_n 0, 1) := by decide +kernel
theorem dX4_worthOf_21 : decode cX4_worthOf 21 = .ok (.aload_n 0, 1) := by decide +kernel
theorem dX4_worthOf_22 : decode cX4_worthOf 22 = .ok (.getfield 28, 3) := by decide +kernel
theorem dX4_worthOf_25 : decode cX4_worthOf 25 = .ok (.iload_n 3, 1) := by decide +kernel
theorem dX4_worthOf_26 : decode cX4_worthOf 26 = .ok (.iaload, 1) := by decide +kernel
theorem dX4_worthOf_27 : decode cX4_worthOf 27 = .ok (.invokevirtual 53, 3) := by decide +kernel
theorem dX4_worthOf_30 : decode cX4_worthOf 30 = .ok (.ifCond .eq 22, 3) := by decide +kernel
theorem dX4_worthOf_33 : decode cX4_worthOf 33 = .ok (.iconst 0, 1) := by decide +kernel
theorem dX4_worthOf_34 : decode cX4_worthOf 34 = .ok (.iload_n 2, 1) := by decide +kernel
theorem dX4_worthOf_35 : decode cX4_worthOf 35 = .ok (.aload_n 0, 1) := by decide +kernel
theorem dX4_worthOf_36 : decode cX4_worthOf 36 = .ok (.aload_n 0, 1) := by decide +kernel
theorem dX4_worthOf_37 : decode cX4_worthOf 37 = .ok (.getfield 25, 3) := by decide +kernel
theorem dX4_worthOf_40 : decode cX4_worthOf 40 = .ok (.iload_n 3, 1) := by decide +kernel
theorem dX4_worthOf_41 : decode cX4_worthOf 41 = .ok (.iaload, 1) := by decide +kernel
theorem dX4_worthOf_42 : decode cX4_worthOf 42 = .ok (.invokevirtual 53, 3) := by decide +kernel
theorem dX4_worthOf_45 : decode cX4_worthOf 45 = .ok (.invokestatic 57, 3) := by decide +kernel
theorem dX4_worthOf_48 : decode cX4_worthOf 48 = .ok (.invokestatic 63, 3) := by decide +kernel
theorem dX4_worthOf_51 : decode cX4_worthOf 51 = .ok (.ireturn, 1) := by decide +kernel
theorem dX4_worthOf_52 : decode cX4_worthOf 52 = .ok (.iinc 3 1, 3) := by decide +kernel
theorem dX4_worthOf_55 : decode cX4_worthOf 55 = .ok (.goto (-53), 3) := by decide +kernel
theorem dX4_worthOf_58 : decode cX4_worthOf 58 = .ok (.iconst 0, 1) := by decide +kernel
theorem dX4_worthOf_59 : decode cX4_worthOf 59 = .ok (.ireturn, 1) := by decide +kernel
