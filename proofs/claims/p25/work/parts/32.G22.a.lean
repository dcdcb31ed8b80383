theorem st_X11_16 (h0 : Nat) (σ : xS) (k : Nat) (a : Int) : xobj h0 (xU σ k 16 a) k 11 = (xobj h0 σ k 11).set 16 (.int (xJ a)) := by simp [xobj, xU]
theorem ln_X11_16 (h0 : Nat) (σ : xS) (k : Nat) : 16 < (xobj h0 σ k 11).length := by simp [xobj]
theorem st_X11_17 (h0 : Nat) (σ : xS) (k : Nat) (a : Int) : xobj h0 (xU σ k 17 a) k 11 = (xobj h0 σ k 11).set 17 (.int (xJ a)) := by simp [xobj, xU]
theorem ln_X11_17 (h0 : Nat) (σ : xS) (k : Nat) : 17 < (xobj h0 σ k 11).length := by simp [xobj]
theorem cf_X11_isClause : xCF yX11_isClause cX11_isClause 1 (some .boolean) 1 := ⟨xq 1469 (by decide +kernel) rfl, xq 179 (by decide +kernel) rfl, by decide +kernel⟩
theorem cf_X11_readsClause : xCF yX11_readsClause cX11_readsClause 2 (some .boolean) 0 := ⟨xq 1466 (by decide +kernel) rfl, xq 179 (by decide +kernel) rfl, by decide +kernel⟩
theorem cf_X11_readsCondition : xCF yX11_readsCondition cX11_readsCondition 1 (some .boolean) 0 := ⟨xq 1516 (by decide +kernel) rfl, xq 179 (by decide +kernel) rfl, by decide +kernel⟩
theorem wq115 : Cond.selects yX11_readsClause.cls yX11_readsClause yX11_readsClause ∈ xTB := xq 115 (by decide +kernel) rfl
theorem wq125 : Cond.selects yX11_readsCondition.cls yX11_readsCondition yX11_readsCondition ∈ xTB := xq 125 (by decide +kernel) rfl
theorem wq1201 : Cond.fieldLink "ShadowCourtModel" (297) "ShadowCourtModel" "saidMany" "I" ∈ xTB := xq 1201 (by decide +kernel) rfl
theorem wq1205 : Cond.fieldLink "ShadowCourtModel" (41) "ShadowCourtModel" "saidLetter" "[I" ∈ xTB := xq 1205 (by decide +kernel) rfl
theorem wq1206 : Cond.fieldLink "ShadowCourtModel" (44) "ShadowCourtModel" "saidFrom" "[I" ∈ xTB := xq 1206 (by decide +kernel) rfl
theorem wq1207 : Cond.fieldLink "ShadowCourtModel" (47) "ShadowCourtModel" "saidHalf" "[I" ∈ xTB := xq 1207 (by decide +kernel) rfl
theorem wq1208 : Cond.fieldLink "ShadowCourtModel" (50) "ShadowCourtModel" "saidTo" "[I" ∈ xTB := xq 1208 (by decide +kernel) rfl
theorem wq1463 : Cond.methodLink "ShadowCourtModel" (303) yX11_readsClause ∈ xTB := xq 1463 (by decide +kernel) rfl
theorem wq1465 : Cond.instanceMethod yX11_readsClause ∈ xTB := xq 1465 (by decide +kernel) rfl
theorem wq1467 : Cond.methodLink "ShadowCourtModel" (294) yX11_isClause ∈ xTB := xq 1467 (by decide +kernel) rfl
theorem wq1468 : Cond.static yX11_isClause ∈ xTB := xq 1468 (by decide +kernel) rfl
theorem wq1513 : Cond.methodLink "ShadowCourtModel" (300) yX11_readsCondition ∈ xTB := xq 1513 (by decide +kernel) rfl
theorem wq1515 : Cond.instanceMethod yX11_readsCondition ∈ xTB := xq 1515 (by decide +kernel) rfl
theorem dX11_law_0 : decode cX11_law 0 = .ok (.iload_n 1, 1) := by decide +kernel
theorem dX11_law_1 : decode cX11_law 1 = .ok (.iconst 1, 1) := by decide +kernel
theorem dX11_law_2 : decode cX11_law 2 = .ok (.sipush 240, 3) := by decide +kernel
theorem dX11_law_5 : decode cX11_law 5 = .ok (.invokestatic 150, 3) := by decide +kernel
theorem dX11_law_8 : decode cX11_law 8 = .ok (.ifCond .eq 11, 3) := by decide +kernel
theorem dX11_law_11 : decode cX11_law 11 = .ok (.iload_n 1, 1) := by decide +kernel
theorem dX11_law_12 : decode cX11_law 12 = .ok (.aload_n 0, 1) := by decide +kernel
theorem dX11_law_13 : decode cX11_law 13 = .ok (.getfield 164, 3) := by decide +kernel
theorem dX11_law_16 : decode cX11_law 16 = .ok (.if_icmp .le 5, 3) := by decide +kernel
theorem dX11_law_19 : decode cX11_law 19 = .ok (.iconst (-1), 1) := by decide +kernel
theorem dX11_law_20 : decode cX11_law 20 = .ok (.ireturn, 1) := by decide +kernel
theorem dX11_law_21 : decode cX11_law 21 = .ok (.aload_n 0, 1) := by decide +kernel
theorem dX11_law_22 : decode cX11_law 22 = .ok (.iconst 0, 1) := by decide +kernel
theorem dX11_law_23 : decode cX11_law 23 = .ok (.putfield 171, 3) := by decide +kernel
theorem dX11_law_26 : decode cX11_law 26 = .ok (.aload_n 0, 1) := by decide +kernel
theorem dX11_law_27 : decode cX11_law 27 = .ok (.iload_n 1, 1) := by decide +kernel
theorem dX11_law_28 : decode cX11_law 28 = .ok (.putfield 174, 3) := by decide +kernel
theorem dX11_law_31 : decode cX11_law 31 = .ok (.aload_n 0, 1) := by decide +kernel
theorem dX11_law_32 : decode cX11_law 32 = .ok (.iconst 0, 1) := by decide +kernel
theorem dX11_law_33 : decode cX11_law 33 = .ok (.putfield 194, 3) := by decide +kernel
theorem dX11_law_36 : decode cX11_law 36 = .ok (.aload_n 0, 1) := by decide +kernel
theorem dX11_law_37 : decode cX11_law 37 = .ok (.iconst 0, 1) := by decide +kernel
theorem dX11_law_38 : decode cX11_law 38 = .ok (.putfield 297, 3) := by decide +kernel
theorem dX11_law_41 : decode cX11_law 41 = .ok (.aload_n 0, 1) := by decide +kernel
theorem dX11_law_42 : decode cX11_law 42 = .ok (.invokevirtual 303, 3) := by decide +kernel
theorem dX11_law_45 : decode cX11_law 45 = .ok (.istore_n 2, 1) := by decide +kernel
theorem dX11_law_46 : decode cX11_law 46 = .ok (.iload_n 2, 1) := by decide +kernel
theorem dX11_law_47 : decode cX11_law 47 = .ok (.ifCond .eq 39, 3) := by decide +kernel
theorem dX11_law_50 : decode cX11_law 50 = .ok (.aload_n 0, 1) := by decide +kernel
theorem dX11_law_51 : decode cX11_law 51 = .ok (.getfield 171, 3) := by decide +kernel
theorem dX11_law_54 : decode cX11_law 54 = .ok (.aload_n 0, 1) := by decide +kernel
theorem dX11_law_55 : decode cX11_law 55 = .ok (.getfield 174, 3) := by decide +kernel
theorem dX11_law_58 : decode cX11_law 58 = .ok (.if_icmp .ge 28, 3) := by decide +kernel
theorem dX11_law_61 : decode cX11_law 61 = .ok (.aload_n 0, 1) := by decide +kernel
theorem dX11_law_62 : decode cX11_law 62 = .ok (.bipush 59, 2) := by decide +kernel
theorem dX11_law_64 : decode cX11_law 64 = .ok (.invokevirtual 257, 3) := by decide +kernel
theorem dX11_law_67 : decode cX11_law 67 = .ok (.ifCond .eq 14, 3) := by decide +kernel
theorem dX11_law_70 : decode cX11_law 70 = .ok (.aload_n 0, 1) := by decide +kernel
theorem dX11_law_71 : decode cX11_law 71 = .ok (.invokevirtual 303, 3) := by decide +kernel
theorem dX11_law_74 : decode cX11_law 74 = .ok (.ifCond .eq 7, 3) := by decide +kernel
theorem dX11_law_77 : decode cX11_law 77 = .ok (.iconst 1, 1) := by decide +kernel
theorem dX11_law_78 : decode cX11_law 78 = .ok (.goto 4, 3) := by decide +kernel
theorem dX11_law_81 : decode cX11_law 81 = .ok (.iconst 0, 1) := by decide +kernel
theorem dX11_law_82 : decode cX11_law 82 = .ok (.istore_n 2, 1) := by decide +kernel
theorem dX11_law_83 : decode cX11_law 83 = .ok (.goto (-37), 3) := by decide +kernel
theorem dX11_law_86 : decode cX11_law 86 = .ok (.aload_n 0, 1) := by decide +kernel
theorem dX11_law_87 : decode cX11_law 87 = .ok (.iconst 0, 1) := by decide +kernel
theorem dX11_law_88 : decode cX11_law 88 = .ok (.putfield 164, 3) := by decide +kernel
theorem dX11_law_91 : decode cX11_law 91 = .ok (.iload_n 2, 1) := by decide +kernel
theorem dX11_law_92 : decode cX11_law 92 = .ok (.ifCond .ne 8, 3) := by decide +kernel
theorem dX11_law_95 : decode cX11_law 95 = .ok (.aload_n 0, 1) := by decide +kernel
theorem dX11_law_96 : decode cX11_law 96 = .ok (.getfield 181, 3) := by decide +kernel
theorem dX11_law_99 : decode cX11_law 99 = .ok (.ireturn, 1) := by decide +kernel
theorem dX11_law_100 : decode cX11_law 100 = .ok (.aload_n 0, 1) := by decide +kernel
theorem dX11_law_101 : decode cX11_law 101 = .ok (.aload_n 0, 1) := by decide +kernel
theorem dX11_law_102 : decode cX11_law 102 = .ok (.getfield 297, 3) := by decide +kernel
theorem dX11_law_105 : decode cX11_law 105 = .ok (.putfield 306, 3) := by decide +kernel
theorem dX11_law_108 : decode cX11_law 108 = .ok (.iconst 0, 1) := by decide +kernel
theorem dX11_law_109 : decode cX11_law 109 = .ok (.istore_n 3, 1) := by decide +kernel
theorem dX11_law_110 : decode cX11_law 110 = .ok (.iload_n 3, 1) := by decide +kernel
theorem dX11_law_111 : decode cX11_law 111 = .ok (.aload_n 0, 1) := by decide +kernel
theorem dX11_law_112 : decode cX11_law 112 = .ok (.getfield 194, 3) := by decide +kernel
theorem dX11_law_115 : decode cX11_law 115 = .ok (.if_icmp .ge 21, 3) := by decide +kernel
theorem dX11_law_118 : decode cX11_law 118 = .ok (.aload_n 0, 1) := by decide +kernel
theorem dX11_law_119 : decode cX11_law 119 = .ok (.getfield 53, 3) := by decide +kernel
theorem dX11_law_122 : decode cX11_law 122 = .ok (.iload_n 3, 1) := by decide +kernel
theorem dX11_law_123 : decode cX11_law 123 = .ok (.aload_n 0, 1) := by decide +kernel
theorem dX11_law_124 : decode cX11_law 124 = .ok (.getfield 35, 3) := by decide +kernel
theorem dX11_law_127 : decode cX11_law 127 = .ok (.iload_n 3, 1) := by decide +kernel
theorem dX11_law_128 : decode cX11_law 128 = .ok (.iaload, 1) := by decide +kernel
theorem dX11_law_129 : decode cX11_law 129 = .ok (.iastore, 1) := by decide +kernel
theorem dX11_law_130 : decode cX11_law 130 = .ok (.iinc 3 1, 3) := by decide +kernel
theorem dX11_law_133 : decode cX11_law 133 = .ok (.goto (-23), 3) := by decide +kernel
theorem dX11_law_136 : decode cX11_law 136 = .ok (.iconst 0, 1) := by decide +kernel
theorem dX11_law_137 : decode cX11_law 137 = .ok (.istore_n 3, 1) := by decide +kernel
theorem dX11_law_138 : decode cX11_law 138 = .ok (.iload_n 3, 1) := by decide +kernel
theorem dX11_law_139 : decode cX11_law 139 = .ok (.aload_n 0, 1) := by decide +kernel
theorem dX11_law_140 : decode cX11_law 140 = .ok (.getfield 297, 3) := by decide +kernel
theorem dX11_law_143 : decode cX11_law 143 = .ok (.if_icmp .ge 57, 3) := by decide +kernel
theorem dX11_law_146 : decode cX11_law 146 = .ok (.aload_n 0, 1) := by decide +kernel
theorem dX11_law_147 : decode cX11_law 147 = .ok (.getfield 56, 3) := by decide +kernel
theorem dX11_law_150 : decode cX11_law 150 = .ok (.iload_n 3, 1) := by decide +kernel
theorem dX11_law_151 : decode cX11_law 151 = .ok (.aload_n 0, 1) := by decide +kernel
theorem dX11_law_152 : decode cX11_law 152 = .ok (.getfield 41, 3) := by decide +kernel
theorem dX11_law_155 : decode cX11_law 155 = .ok (.iload_n 3, 1) := by decide +kernel
theorem dX11_law_156 : decode cX11_law 156 = .ok (.iaload, 1) := by decide +kernel
theorem dX11_law_157 : decode cX11_law 157 = .ok (.iastore, 1) := by decide +kernel
theorem dX11_law_158 : decode cX11_law 158 = .ok (.aload_n 0, 1) := by decide +kernel
theorem dX11_law_159 : decode cX11_law 159 = .ok (.getfield 59, 3) := by decide +kernel
theorem dX11_law_162 : decode cX11_law 162 = .ok (.iload_n 3, 1) := by decide +kernel
theorem dX11_law_163 : decode cX11_law 163 = .ok (.aload_n 0, 1) := by decide +kernel
theorem dX11_law_164 : decode cX11_law 164 = .ok (.getfield 44, 3) := by decide +kernel
theorem dX11_law_167 : decode cX11_law 167 = .ok (.iload_n 3, 1) := by decide +kernel
theorem dX11_law_168 : decode cX11_law 168 = .ok (.iaload, 1) := by decide +kernel
theorem dX11_law_169 : decode cX11_law 169 = .ok (.iastore, 1) := by decide +kernel
theorem dX11_law_170 : decode cX11_law 170 = .ok (.aload_n 0, 1) := by decide +kernel
theorem dX11_law_171 : decode cX11_law 171 = .ok (.getfield 62, 3) := by decide +kernel
theorem dX11_law_174 : decode cX11_law 174 = .ok (.iload_n 3, 1) := by decide +kernel
theorem dX11_law_175 : decode cX11_law 175 = .ok (.aload_n 0, 1) := by decide +kernel
theorem dX11_law_176 : decode cX11_law 176 = .ok (.getfield 47, 3) := by decide +kernel
theorem dX11_law_179 : decode cX11_law 179 = .ok (.iload_n 3, 1) := by decide +kernel
theorem dX11_law_180 : decode cX11_law 180 = .ok (.iaload, 1) := by decide +kernel
theorem dX11_law_181 : decode cX11_law 181 = .ok (.iastore, 1) := by decide +kernel
theorem dX11_law_182 : decode cX11_law 182 = .ok (.aload_n 0, 1) := by decide +kernel
theorem dX11_law_183 : decode cX11_law 183 = .ok (.getfield 65, 3) := by decide +kernel
theorem dX11_law_186 : decode cX11_law 186 = .ok (.iload_n 3, 1) := by decide +kernel
theorem dX11_law_187 : decode cX11_law 187 = .ok (.aload_n 0, 1) := by decide +kernel
theorem dX11_law_188 : decode cX11_law 188 = .ok (.getfield 50, 3) := by decide +kernel
theorem dX11_law_191 : decode cX11_law 191 = .ok (.iload_n 3, 1) := by decide +kernel
theorem dX11_law_192 : decode cX11_law 192 = .ok (.iaload, 1) := by decide +kernel
theorem dX11_law_193 : decode cX11_law 193 = .ok (.iastore, 1) := by decide +kernel
theorem dX11_law_194 : decode cX11_law 194 = .ok (.iinc 3 1, 3) := by decide +kernel
theorem dX11_law_197 : decode cX11_law 197 = .ok (.goto (-59), 3) := by decide +kernel
theorem dX11_law_200 : decode cX11_law 200 = .ok (.aload_n 0, 1) := by decide +kernel
theorem dX11_law_201 : decode cX11_law 201 = .ok (.getfield 297, 3) := by decide +kernel
theorem dX11_law_204 : decode cX11_law 204 = .ok (.ireturn, 1) := by decide +kernel
theorem dX11_readsClause_0 : decode cX11_readsClause 0 = .ok (.aload_n 0, 1) := by decide +kernel
theorem dX11_readsClause_1 : decode cX11_readsClause 1 = .ok (.invokevirtual 177, 3) := by decide +kernel
theorem dX11_readsClause_4 : decode cX11_readsClause 4 = .ok (.istore_n 1, 1) := by decide +kernel
theorem dX11_readsClause_5 : decode cX11_readsClause 5 = .ok (.iload_n 1, 1) := by decide +kernel
theorem dX11_readsClause_6 : decode cX11_readsClause 6 = .ok (.invokestatic 294, 3) := by decide +kernel
theorem dX11_readsClause_9 : decode cX11_readsClause 9 = .ok (.ifCond .ne 13, 3) := by decide +kernel
theorem dX11_readsClause_12 : decode cX11_readsClause 12 = .ok (.aload_n 0, 1) := by decide +kernel
theorem dX11_readsClause_13 : decode cX11_readsClause 13 = .ok (.iconst 1, 1) := by decide +kernel
theorem dX11_readsClause_14 : decode cX11_readsClause 14 = .ok (.aload_n 0, 1) := by decide +kernel
theorem dX11_readsClause_15 : decode cX11_readsClause 15 = .ok (.getfield 171, 3) := by decide +kernel
theorem dX11_readsClause_18 : decode cX11_readsClause 18 = .ok (.invokevirtual 184, 3) := by decide +kernel
theorem dX11_readsClause_21 : decode cX11_readsClause 21 = .ok (.ireturn, 1) := by decide +kernel
theorem dX11_readsClause_22 : decode cX11_readsClause 22 = .ok (.aload_n 0, 1) := by decide +kernel
theorem dX11_readsClause_23 : decode cX11_readsClause 23 = .ok (.getfield 297, 3) := by decide +kernel
theorem dX11_readsClause_26 : decode cX11_readsClause 26 = .ok (.bipush 16, 2) := by decide +kernel
theorem dX11_readsClause_28 : decode cX11_readsClause 28 = .ok (.if_icmp .ne 13, 3) := by decide +kernel
theorem dX11_readsClause_31 : decode cX11_readsClause 31 = .ok (.aload_n 0, 1) := by decide +kernel
theorem dX11_readsClause_32 : decode cX11_readsClause 32 = .ok (.iconst 4, 1) := by decide +kernel
theorem dX11_readsClause_33 : decode cX11_readsClause 33 = .ok (.aload_n 0, 1) := by decide +kernel
theorem dX11_readsClause_34 : decode cX11_readsClause 34 = .ok (.getfield 171, 3) := by decide +kernel
theorem dX11_readsClause_37 : decode cX11_readsClause 37 = .ok (.invokevirtual 184, 3) := by decide +kernel
theorem dX11_readsClause_40 : decode cX11_readsClause 40 = .ok (.ireturn, 1) := by decide +kernel
theorem dX11_readsClause_41 : decode cX11_readsClause 41 = .ok (.aload_n 0, 1) := by decide +kernel
theorem dX11_readsClause_42 : decode cX11_readsClause 42 = .ok (.getfield 41, 3) := by decide +kernel
theorem dX11_readsClause_45 : decode cX11_readsClause 45 = .ok (.aload_n 0, 1) := by decide +kernel
theorem dX11_readsClause_46 : decode cX11_readsClause 46 = .ok (.getfield 297, 3) := by decide +kernel
theorem dX11_readsClause_49 : decode cX11_readsClause 49 = .ok (.iload_n 1, 1) := by decide +kernel
theorem dX11_readsClause_50 : decode cX11_readsClause 50 = .ok (.iastore, 1) := by decide +kernel
theorem dX11_readsClause_51 : decode cX11_readsClause 51 = .ok (.aload_n 0, 1) := by decide +kernel
theorem dX11_readsClause_52 : decode cX11_readsClause 52 = .ok (.aload_n 0, 1) := by decide +kernel
theorem dX11_readsClause_53 : decode cX11_readsClause 53 = .ok (.getfield 171, 3) := by decide +kernel
theorem dX11_readsClause_56 : decode cX11_readsClause 56 = .ok (.iconst 1, 1) := by decide +kernel
theorem dX11_readsClause_57 : decode cX11_readsClause 57 = .ok (.iadd, 1) := by decide +kernel
theorem dX11_readsClause_58 : decode cX11_readsClause 58 = .ok (.putfield 171, 3) := by decide +kernel
theorem dX11_readsClause_61 : decode cX11_readsClause 61 = .ok (.aload_n 0, 1) := by decide +kernel
theorem dX11_readsClause_62 : decode cX11_readsClause 62 = .ok (.getfield 44, 3) := by decide +kernel
theorem dX11_readsClause_65 : decode cX11_readsClause 65 = .ok (.aload_n 0, 1) := by decide +kernel
theorem dX11_readsClause_66 : decode cX11_readsClause 66 = .ok (.getfield 297, 3) := by decide +kernel
theorem dX11_readsClause_69 : decode cX11_readsClause 69 = .ok (.aload_n 0, 1) := by decide +kernel
theorem dX11_readsClause_70 : decode cX11_readsClause 70 = .ok (.getfield 194, 3) := by decide +kernel
theorem dX11_readsClause_73 : decode cX11_readsClause 73 = .ok (.iastore, 1) := by decide +kernel
theorem dX11_readsClause_74 : decode cX11_readsClause 74 = .ok (.aload_n 0, 1) := by decide +kernel
theorem dX11_readsClause_75 : decode cX11_readsClause 75 = .ok (.iconst 0, 1) := by decide +kernel
theorem dX11_readsClause_76 : decode cX11_readsClause 76 = .ok (.putfield 198, 3) := by decide +kernel
theorem dX11_readsClause_79 : decode cX11_readsClause 79 = .ok (.aload_n 0, 1) := by decide +kernel
theorem dX11_readsClause_80 : decode cX11_readsClause 80 = .ok (.iconst 0, 1) := by decide +kernel
theorem dX11_readsClause_81 : decode cX11_readsClause 81 = .ok (.putfield 201, 3) := by decide +kernel
theorem dX11_readsClause_84 : decode cX11_readsClause 84 = .ok (.iload_n 1, 1) := by decide +kernel
theorem dX11_readsClause_85 : decode cX11_readsClause 85 = .ok (.bipush 110, 2) := by decide +kernel
theorem dX11_readsClause_87 : decode cX11_readsClause 87 = .ok (.if_icmp .eq 12, 3) := by decide +kernel
theorem dX11_readsClause_90 : decode cX11_readsClause 90 = .ok (.aload_n 0, 1) := by decide +kernel
theorem dX11_readsClause_91 : decode cX11_readsClause 91 = .ok (.invokevirtual 233, 3) := by decide +kernel
theorem dX11_readsClause_94 : decode cX11_readsClause 94 = .ok (.ifCond .ne 5, 3) := by decide +kernel
theorem dX11_readsClause_97 : decode cX11_readsClause 97 = .ok (.iconst 0, 1) := by decide +kernel
theorem dX11_readsClause_98 : decode cX11_readsClause 98 = .ok (.ireturn, 1) := by decide +kernel
theorem dX11_readsClause_99 : decode cX11_readsClause 99 = .ok (.aload_n 0, 1) := by decide +kernel
theorem dX11_readsClause_100 : decode cX11_readsClause 100 = .ok (.getfield 47, 3) := by decide +kernel
theorem dX11_readsClause_103 : decode cX11_readsClause 103 = .ok (.aload_n 0, 1) := by decide +kernel
theorem dX11_readsClause_104 : decode cX11_readsClause 104 = .ok (.getfield 297, 3) := by decide +kernel
theorem dX11_readsClause_107 : decode cX11_readsClause 107 = .ok (.aload_n 0, 1) := by decide +kernel
theorem dX11_readsClause_108 : decode cX11_readsClause 108 = .ok (.getfield 194, 3) := by decide +kernel
theorem dX11_readsClause_111 : decode cX11_readsClause 111 = .ok (.iastore, 1) := by decide +kernel
theorem dX11_readsClause_112 : decode cX11_readsClause 112 = .ok (.aload_n 0, 1) := by decide +kernel
theorem dX11_readsClause_113 : decode cX11_readsClause 113 = .ok (.invokevirtual 300, 3) := by decide +kernel
theorem dX11_readsClause_116 : decode cX11_readsClause 116 = .ok (.ifCond .ne 5, 3) := by decide +kernel
theorem dX11_readsClause_119 : decode cX11_readsClause 119 = .ok (.iconst 0, 1) := by decide +kernel
theorem dX11_readsClause_120 : decode cX11_readsClause 120 = .ok (.ireturn, 1) := by decide +kernel
theorem dX11_readsClause_121 : decode cX11_readsClause 121 = .ok (.aload_n 0, 1) := by decide +kernel
theorem dX11_readsClause_122 : decode cX11_readsClause 122 = .ok (.getfield 50, 3) := by decide +kernel
theorem dX11_readsClause_125 : decode cX11_readsClause 125 = .ok (.aload_n 0, 1) := by decide +kernel
theorem dX11_readsClause_126 : decode cX11_readsClause 126 = .ok (.getfield 297, 3) := by decide +kernel
theorem dX11_readsClause_129 : decode cX11_readsClause 129 = .ok (.aload_n 0, 1) := by decide +kernel
theorem dX11_readsClause_130 : decode cX11_readsClause 130 = .ok (.getfield 194, 3) := by decide +kernel
theorem dX11_readsClause_133 : decode cX11_readsClause 133 = .ok (.iastore, 1) := by decide +kernel
theorem dX11_readsClause_134 : decode cX11_readsClause 134 = .ok (.aload_n 0, 1) := by decide +kernel
theorem dX11_readsClause_135 : decode cX11_readsClause 135 = .ok (.aload_n 0, 1) := by decide +kernel
theorem dX11_readsClause_136 : decode cX11_readsClause 136 = .ok (.getfield 297, 3) := by decide +kernel
theorem dX11_readsClause_139 : decode cX11_readsClause 139 = .ok (.iconst 1, 1) := by decide +kernel
theorem dX11_readsClause_140 : decode cX11_readsClause 140 = .ok (.iadd, 1) := by decide +kernel
theorem dX11_readsClause_141 : decode cX11_readsClause 141 = .ok (.putfield 297, 3) := by decide +kernel
theorem dX11_readsClause_144 : decode cX11_readsClause 144 = .ok (.iconst 1, 1) := by decide +kernel
theorem dX11_readsClause_145 : decode cX11_readsClause 145 = .ok (.ireturn, 1) := by decide +kernel


