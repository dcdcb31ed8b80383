theorem st_X11_34 (h0 : Nat) (σ : xS) (k : Nat) (a : Int) : xobj h0 (xU σ k 34 a) k 11 = (xobj h0 σ k 11).set 34 (.int (xJ a)) := by simp [xobj, xU]
theorem ln_X11_34 (h0 : Nat) (σ : xS) (k : Nat) : 34 < (xobj h0 σ k 11).length := by simp [xobj]
theorem st_X11_35 (h0 : Nat) (σ : xS) (k : Nat) (a : Int) : xobj h0 (xU σ k 35 a) k 11 = (xobj h0 σ k 11).set 35 (.int (xJ a)) := by simp [xobj, xU]
theorem ln_X11_35 (h0 : Nat) (σ : xS) (k : Nat) : 35 < (xobj h0 σ k 11).length := by simp [xobj]
theorem st_X11_36 (h0 : Nat) (σ : xS) (k : Nat) (a : Int) : xobj h0 (xU σ k 36 a) k 11 = (xobj h0 σ k 11).set 36 (.int (xJ a)) := by simp [xobj, xU]
theorem ln_X11_36 (h0 : Nat) (σ : xS) (k : Nat) : 36 < (xobj h0 σ k 11).length := by simp [xobj]
theorem st_X11_37 (h0 : Nat) (σ : xS) (k : Nat) (a : Int) : xobj h0 (xU σ k 37 a) k 11 = (xobj h0 σ k 11).set 37 (.int (xJ a)) := by simp [xobj, xU]
theorem ln_X11_37 (h0 : Nat) (σ : xS) (k : Nat) : 37 < (xobj h0 σ k 11).length := by simp [xobj]
theorem cf_X11_readsStep : xCF yX11_readsStep cX11_readsStep 4 (some .boolean) 0 := ⟨xq 1447 (by decide +kernel) rfl, xq 179 (by decide +kernel) rfl, by decide +kernel⟩
theorem cf_X11_readsTimes : xCF yX11_readsTimes cX11_readsTimes 1 none 0 := ⟨xq 1451 (by decide +kernel) rfl, xq 179 (by decide +kernel) rfl, by decide +kernel⟩
theorem cf_X11_repeats : xCF yX11_repeats cX11_repeats 6 (some .boolean) 3 := ⟨xq 1458 (by decide +kernel) rfl, xq 179 (by decide +kernel) rfl, by decide +kernel⟩
theorem cf_X11_wayOf : xCF yX11_wayOf cX11_wayOf 1 (some .int) 1 := ⟨xq 1454 (by decide +kernel) rfl, xq 179 (by decide +kernel) rfl, by decide +kernel⟩
theorem wq112 : Cond.selects yX11_readsStep.cls yX11_readsStep yX11_readsStep ∈ xTB := xq 112 (by decide +kernel) rfl
theorem wq113 : Cond.selects yX11_readsTimes.cls yX11_readsTimes yX11_readsTimes ∈ xTB := xq 113 (by decide +kernel) rfl
theorem wq114 : Cond.selects yX11_repeats.cls yX11_repeats yX11_repeats ∈ xTB := xq 114 (by decide +kernel) rfl
theorem wq1215 : Cond.fieldLink "ShadowCourtModel" (71) "ShadowCourtModel" "newStep" "[B" ∈ xTB := xq 1215 (by decide +kernel) rfl
theorem wq1216 : Cond.fieldLink "ShadowCourtModel" (74) "ShadowCourtModel" "roundFrom" "[I" ∈ xTB := xq 1216 (by decide +kernel) rfl
theorem wq1217 : Cond.fieldLink "ShadowCourtModel" (77) "ShadowCourtModel" "roundAt" "[I" ∈ xTB := xq 1217 (by decide +kernel) rfl
theorem wq1218 : Cond.fieldLink "ShadowCourtModel" (80) "ShadowCourtModel" "roundTimes" "[I" ∈ xTB := xq 1218 (by decide +kernel) rfl
theorem wq1219 : Cond.fieldLink "ShadowCourtModel" (270) "ShadowCourtModel" "newMany" "I" ∈ xTB := xq 1219 (by decide +kernel) rfl
theorem wq1220 : Cond.fieldLink "ShadowCourtModel" (282) "ShadowCourtModel" "rounds" "I" ∈ xTB := xq 1220 (by decide +kernel) rfl
theorem wq1221 : Cond.fieldLink "ShadowCourtModel" (273) "ShadowCourtModel" "stepFrom" "I" ∈ xTB := xq 1221 (by decide +kernel) rfl
theorem wq1222 : Cond.fieldLink "ShadowCourtModel" (276) "ShadowCourtModel" "stepTimes" "I" ∈ xTB := xq 1222 (by decide +kernel) rfl
theorem wq1444 : Cond.methodLink "ShadowCourtModel" (291) yX11_readsStep ∈ xTB := xq 1444 (by decide +kernel) rfl
theorem wq1446 : Cond.instanceMethod yX11_readsStep ∈ xTB := xq 1446 (by decide +kernel) rfl
theorem wq1448 : Cond.methodLink "ShadowCourtModel" (279) yX11_readsTimes ∈ xTB := xq 1448 (by decide +kernel) rfl
theorem wq1450 : Cond.instanceMethod yX11_readsTimes ∈ xTB := xq 1450 (by decide +kernel) rfl
theorem wq1452 : Cond.methodLink "ShadowCourtModel" (285) yX11_wayOf ∈ xTB := xq 1452 (by decide +kernel) rfl
theorem wq1453 : Cond.static yX11_wayOf ∈ xTB := xq 1453 (by decide +kernel) rfl
theorem wq1455 : Cond.methodLink "ShadowCourtModel" (288) yX11_repeats ∈ xTB := xq 1455 (by decide +kernel) rfl
theorem wq1457 : Cond.instanceMethod yX11_repeats ∈ xTB := xq 1457 (by decide +kernel) rfl
theorem dX11_readsStep_0 : decode cX11_readsStep 0 = .ok (.aload_n 0, 1) := by decide +kernel
theorem dX11_readsStep_1 : decode cX11_readsStep 1 = .ok (.invokevirtual 279, 3) := by decide +kernel
theorem dX11_readsStep_4 : decode cX11_readsStep 4 = .ok (.aload_n 0, 1) := by decide +kernel
theorem dX11_readsStep_5 : decode cX11_readsStep 5 = .ok (.invokevirtual 177, 3) := by decide +kernel
theorem dX11_readsStep_8 : decode cX11_readsStep 8 = .ok (.bipush 40, 2) := by decide +kernel
theorem dX11_readsStep_10 : decode cX11_readsStep 10 = .ok (.if_icmp .ne 87, 3) := by decide +kernel
theorem dX11_readsStep_13 : decode cX11_readsStep 13 = .ok (.aload_n 0, 1) := by decide +kernel
theorem dX11_readsStep_14 : decode cX11_readsStep 14 = .ok (.getfield 282, 3) := by decide +kernel
theorem dX11_readsStep_17 : decode cX11_readsStep 17 = .ok (.iconst 2, 1) := by decide +kernel
theorem dX11_readsStep_18 : decode cX11_readsStep 18 = .ok (.if_icmp .ne 13, 3) := by decide +kernel
theorem dX11_readsStep_21 : decode cX11_readsStep 21 = .ok (.aload_n 0, 1) := by decide +kernel
theorem dX11_readsStep_22 : decode cX11_readsStep 22 = .ok (.iconst 5, 1) := by decide +kernel
theorem dX11_readsStep_23 : decode cX11_readsStep 23 = .ok (.aload_n 0, 1) := by decide +kernel
theorem dX11_readsStep_24 : decode cX11_readsStep 24 = .ok (.getfield 171, 3) := by decide +kernel
theorem dX11_readsStep_27 : decode cX11_readsStep 27 = .ok (.invokevirtual 184, 3) := by decide +kernel
theorem dX11_readsStep_30 : decode cX11_readsStep 30 = .ok (.ireturn, 1) := by decide +kernel
theorem dX11_readsStep_31 : decode cX11_readsStep 31 = .ok (.aload_n 0, 1) := by decide +kernel
theorem dX11_readsStep_32 : decode cX11_readsStep 32 = .ok (.getfield 74, 3) := by decide +kernel
theorem dX11_readsStep_35 : decode cX11_readsStep 35 = .ok (.aload_n 0, 1) := by decide +kernel
theorem dX11_readsStep_36 : decode cX11_readsStep 36 = .ok (.getfield 282, 3) := by decide +kernel
theorem dX11_readsStep_39 : decode cX11_readsStep 39 = .ok (.aload_n 0, 1) := by decide +kernel
theorem dX11_readsStep_40 : decode cX11_readsStep 40 = .ok (.getfield 273, 3) := by decide +kernel
theorem dX11_readsStep_43 : decode cX11_readsStep 43 = .ok (.iastore, 1) := by decide +kernel
theorem dX11_readsStep_44 : decode cX11_readsStep 44 = .ok (.aload_n 0, 1) := by decide +kernel
theorem dX11_readsStep_45 : decode cX11_readsStep 45 = .ok (.getfield 77, 3) := by decide +kernel
theorem dX11_readsStep_48 : decode cX11_readsStep 48 = .ok (.aload_n 0, 1) := by decide +kernel
theorem dX11_readsStep_49 : decode cX11_readsStep 49 = .ok (.getfield 282, 3) := by decide +kernel
theorem dX11_readsStep_52 : decode cX11_readsStep 52 = .ok (.aload_n 0, 1) := by decide +kernel
theorem dX11_readsStep_53 : decode cX11_readsStep 53 = .ok (.getfield 270, 3) := by decide +kernel
theorem dX11_readsStep_56 : decode cX11_readsStep 56 = .ok (.iastore, 1) := by decide +kernel
theorem dX11_readsStep_57 : decode cX11_readsStep 57 = .ok (.aload_n 0, 1) := by decide +kernel
theorem dX11_readsStep_58 : decode cX11_readsStep 58 = .ok (.getfield 80, 3) := by decide +kernel
theorem dX11_readsStep_61 : decode cX11_readsStep 61 = .ok (.aload_n 0, 1) := by decide +kernel
theorem dX11_readsStep_62 : decode cX11_readsStep 62 = .ok (.getfield 282, 3) := by decide +kernel
theorem dX11_readsStep_65 : decode cX11_readsStep 65 = .ok (.aload_n 0, 1) := by decide +kernel
theorem dX11_readsStep_66 : decode cX11_readsStep 66 = .ok (.getfield 276, 3) := by decide +kernel
theorem dX11_readsStep_69 : decode cX11_readsStep 69 = .ok (.iastore, 1) := by decide +kernel
theorem dX11_readsStep_70 : decode cX11_readsStep 70 = .ok (.aload_n 0, 1) := by decide +kernel
theorem dX11_readsStep_71 : decode cX11_readsStep 71 = .ok (.aload_n 0, 1) := by decide +kernel
theorem dX11_readsStep_72 : decode cX11_readsStep 72 = .ok (.getfield 282, 3) := by decide +kernel
theorem dX11_readsStep_75 : decode cX11_readsStep 75 = .ok (.iconst 1, 1) := by decide +kernel
theorem dX11_readsStep_76 : decode cX11_readsStep 76 = .ok (.iadd, 1) := by decide +kernel
theorem dX11_readsStep_77 : decode cX11_readsStep 77 = .ok (.putfield 282, 3) := by decide +kernel
theorem dX11_readsStep_80 : decode cX11_readsStep 80 = .ok (.aload_n 0, 1) := by decide +kernel
theorem dX11_readsStep_81 : decode cX11_readsStep 81 = .ok (.aload_n 0, 1) := by decide +kernel
theorem dX11_readsStep_82 : decode cX11_readsStep 82 = .ok (.getfield 171, 3) := by decide +kernel
theorem dX11_readsStep_85 : decode cX11_readsStep 85 = .ok (.iconst 1, 1) := by decide +kernel
theorem dX11_readsStep_86 : decode cX11_readsStep 86 = .ok (.iadd, 1) := by decide +kernel
theorem dX11_readsStep_87 : decode cX11_readsStep 87 = .ok (.putfield 171, 3) := by decide +kernel
theorem dX11_readsStep_90 : decode cX11_readsStep 90 = .ok (.aload_n 0, 1) := by decide +kernel
theorem dX11_readsStep_91 : decode cX11_readsStep 91 = .ok (.invokevirtual 279, 3) := by decide +kernel
theorem dX11_readsStep_94 : decode cX11_readsStep 94 = .ok (.goto (-90), 3) := by decide +kernel
theorem dX11_readsStep_97 : decode cX11_readsStep 97 = .ok (.aload_n 0, 1) := by decide +kernel
theorem dX11_readsStep_98 : decode cX11_readsStep 98 = .ok (.getfield 273, 3) := by decide +kernel
theorem dX11_readsStep_101 : decode cX11_readsStep 101 = .ok (.istore_n 1, 1) := by decide +kernel
theorem dX11_readsStep_102 : decode cX11_readsStep 102 = .ok (.aload_n 0, 1) := by decide +kernel
theorem dX11_readsStep_103 : decode cX11_readsStep 103 = .ok (.getfield 276, 3) := by decide +kernel
theorem dX11_readsStep_106 : decode cX11_readsStep 106 = .ok (.istore_n 2, 1) := by decide +kernel
theorem dX11_readsStep_107 : decode cX11_readsStep 107 = .ok (.aload_n 0, 1) := by decide +kernel
theorem dX11_readsStep_108 : decode cX11_readsStep 108 = .ok (.invokevirtual 177, 3) := by decide +kernel
theorem dX11_readsStep_111 : decode cX11_readsStep 111 = .ok (.invokestatic 285, 3) := by decide +kernel
theorem dX11_readsStep_114 : decode cX11_readsStep 114 = .ok (.istore_n 3, 1) := by decide +kernel
theorem dX11_readsStep_115 : decode cX11_readsStep 115 = .ok (.iload_n 3, 1) := by decide +kernel
theorem dX11_readsStep_116 : decode cX11_readsStep 116 = .ok (.iconst (-1), 1) := by decide +kernel
theorem dX11_readsStep_117 : decode cX11_readsStep 117 = .ok (.if_icmp .ne 13, 3) := by decide +kernel
theorem dX11_readsStep_120 : decode cX11_readsStep 120 = .ok (.aload_n 0, 1) := by decide +kernel
theorem dX11_readsStep_121 : decode cX11_readsStep 121 = .ok (.iconst 1, 1) := by decide +kernel
theorem dX11_readsStep_122 : decode cX11_readsStep 122 = .ok (.aload_n 0, 1) := by decide +kernel
theorem dX11_readsStep_123 : decode cX11_readsStep 123 = .ok (.getfield 171, 3) := by decide +kernel
theorem dX11_readsStep_126 : decode cX11_readsStep 126 = .ok (.invokevirtual 184, 3) := by decide +kernel
theorem dX11_readsStep_129 : decode cX11_readsStep 129 = .ok (.ireturn, 1) := by decide +kernel
theorem dX11_readsStep_130 : decode cX11_readsStep 130 = .ok (.aload_n 0, 1) := by decide +kernel
theorem dX11_readsStep_131 : decode cX11_readsStep 131 = .ok (.aload_n 0, 1) := by decide +kernel
theorem dX11_readsStep_132 : decode cX11_readsStep 132 = .ok (.getfield 171, 3) := by decide +kernel
theorem dX11_readsStep_135 : decode cX11_readsStep 135 = .ok (.iconst 1, 1) := by decide +kernel
theorem dX11_readsStep_136 : decode cX11_readsStep 136 = .ok (.iadd, 1) := by decide +kernel
theorem dX11_readsStep_137 : decode cX11_readsStep 137 = .ok (.putfield 171, 3) := by decide +kernel
theorem dX11_readsStep_140 : decode cX11_readsStep 140 = .ok (.aload_n 0, 1) := by decide +kernel
theorem dX11_readsStep_141 : decode cX11_readsStep 141 = .ok (.getfield 270, 3) := by decide +kernel
theorem dX11_readsStep_144 : decode cX11_readsStep 144 = .ok (.iload_n 2, 1) := by decide +kernel
theorem dX11_readsStep_145 : decode cX11_readsStep 145 = .ok (.iadd, 1) := by decide +kernel
theorem dX11_readsStep_146 : decode cX11_readsStep 146 = .ok (.bipush 60, 2) := by decide +kernel
theorem dX11_readsStep_148 : decode cX11_readsStep 148 = .ok (.if_icmp .le 11, 3) := by decide +kernel
theorem dX11_readsStep_151 : decode cX11_readsStep 151 = .ok (.aload_n 0, 1) := by decide +kernel
theorem dX11_readsStep_152 : decode cX11_readsStep 152 = .ok (.bipush 6, 2) := by decide +kernel
theorem dX11_readsStep_154 : decode cX11_readsStep 154 = .ok (.iload_n 1, 1) := by decide +kernel
theorem dX11_readsStep_155 : decode cX11_readsStep 155 = .ok (.invokevirtual 184, 3) := by decide +kernel
theorem dX11_readsStep_158 : decode cX11_readsStep 158 = .ok (.ireturn, 1) := by decide +kernel
theorem dX11_readsStep_159 : decode cX11_readsStep 159 = .ok (.aload_n 0, 1) := by decide +kernel
theorem dX11_readsStep_160 : decode cX11_readsStep 160 = .ok (.getfield 71, 3) := by decide +kernel
theorem dX11_readsStep_163 : decode cX11_readsStep 163 = .ok (.aload_n 0, 1) := by decide +kernel
theorem dX11_readsStep_164 : decode cX11_readsStep 164 = .ok (.getfield 270, 3) := by decide +kernel
theorem dX11_readsStep_167 : decode cX11_readsStep 167 = .ok (.iload_n 3, 1) := by decide +kernel
theorem dX11_readsStep_168 : decode cX11_readsStep 168 = .ok (.i2b, 1) := by decide +kernel
theorem dX11_readsStep_169 : decode cX11_readsStep 169 = .ok (.bastore, 1) := by decide +kernel
theorem dX11_readsStep_170 : decode cX11_readsStep 170 = .ok (.aload_n 0, 1) := by decide +kernel
theorem dX11_readsStep_171 : decode cX11_readsStep 171 = .ok (.aload_n 0, 1) := by decide +kernel
theorem dX11_readsStep_172 : decode cX11_readsStep 172 = .ok (.getfield 270, 3) := by decide +kernel
theorem dX11_readsStep_175 : decode cX11_readsStep 175 = .ok (.iconst 1, 1) := by decide +kernel
theorem dX11_readsStep_176 : decode cX11_readsStep 176 = .ok (.iadd, 1) := by decide +kernel
theorem dX11_readsStep_177 : decode cX11_readsStep 177 = .ok (.putfield 270, 3) := by decide +kernel
theorem dX11_readsStep_180 : decode cX11_readsStep 180 = .ok (.aload_n 0, 1) := by decide +kernel
theorem dX11_readsStep_181 : decode cX11_readsStep 181 = .ok (.aload_n 0, 1) := by decide +kernel
theorem dX11_readsStep_182 : decode cX11_readsStep 182 = .ok (.getfield 270, 3) := by decide +kernel
theorem dX11_readsStep_185 : decode cX11_readsStep 185 = .ok (.iconst 1, 1) := by decide +kernel
theorem dX11_readsStep_186 : decode cX11_readsStep 186 = .ok (.isub, 1) := by decide +kernel
theorem dX11_readsStep_187 : decode cX11_readsStep 187 = .ok (.iload_n 2, 1) := by decide +kernel
theorem dX11_readsStep_188 : decode cX11_readsStep 188 = .ok (.iload_n 1, 1) := by decide +kernel
theorem dX11_readsStep_189 : decode cX11_readsStep 189 = .ok (.invokevirtual 288, 3) := by decide +kernel
theorem dX11_readsStep_192 : decode cX11_readsStep 192 = .ok (.ifCond .ne 5, 3) := by decide +kernel
theorem dX11_readsStep_195 : decode cX11_readsStep 195 = .ok (.iconst 0, 1) := by decide +kernel
theorem dX11_readsStep_196 : decode cX11_readsStep 196 = .ok (.ireturn, 1) := by decide +kernel
theorem dX11_readsStep_197 : decode cX11_readsStep 197 = .ok (.aload_n 0, 1) := by decide +kernel
theorem dX11_readsStep_198 : decode cX11_readsStep 198 = .ok (.invokevirtual 177, 3) := by decide +kernel
theorem dX11_readsStep_201 : decode cX11_readsStep 201 = .ok (.bipush 41, 2) := by decide +kernel
theorem dX11_readsStep_203 : decode cX11_readsStep 203 = .ok (.if_icmp .ne 66, 3) := by decide +kernel
theorem dX11_readsStep_206 : decode cX11_readsStep 206 = .ok (.aload_n 0, 1) := by decide +kernel
theorem dX11_readsStep_207 : decode cX11_readsStep 207 = .ok (.getfield 282, 3) := by decide +kernel
theorem dX11_readsStep_210 : decode cX11_readsStep 210 = .ok (.ifCond .le 59, 3) := by decide +kernel
theorem dX11_readsStep_213 : decode cX11_readsStep 213 = .ok (.aload_n 0, 1) := by decide +kernel
theorem dX11_readsStep_214 : decode cX11_readsStep 214 = .ok (.aload_n 0, 1) := by decide +kernel
theorem dX11_readsStep_215 : decode cX11_readsStep 215 = .ok (.getfield 171, 3) := by decide +kernel
theorem dX11_readsStep_218 : decode cX11_readsStep 218 = .ok (.iconst 1, 1) := by decide +kernel
theorem dX11_readsStep_219 : decode cX11_readsStep 219 = .ok (.iadd, 1) := by decide +kernel
theorem dX11_readsStep_220 : decode cX11_readsStep 220 = .ok (.putfield 171, 3) := by decide +kernel
theorem dX11_readsStep_223 : decode cX11_readsStep 223 = .ok (.aload_n 0, 1) := by decide +kernel
theorem dX11_readsStep_224 : decode cX11_readsStep 224 = .ok (.aload_n 0, 1) := by decide +kernel
theorem dX11_readsStep_225 : decode cX11_readsStep 225 = .ok (.getfield 282, 3) := by decide +kernel
theorem dX11_readsStep_228 : decode cX11_readsStep 228 = .ok (.iconst 1, 1) := by decide +kernel
theorem dX11_readsStep_229 : decode cX11_readsStep 229 = .ok (.isub, 1) := by decide +kernel
theorem dX11_readsStep_230 : decode cX11_readsStep 230 = .ok (.putfield 282, 3) := by decide +kernel
theorem dX11_readsStep_233 : decode cX11_readsStep 233 = .ok (.aload_n 0, 1) := by decide +kernel
theorem dX11_readsStep_234 : decode cX11_readsStep 234 = .ok (.aload_n 0, 1) := by decide +kernel
theorem dX11_readsStep_235 : decode cX11_readsStep 235 = .ok (.getfield 77, 3) := by decide +kernel
theorem dX11_readsStep_238 : decode cX11_readsStep 238 = .ok (.aload_n 0, 1) := by decide +kernel
theorem dX11_readsStep_239 : decode cX11_readsStep 239 = .ok (.getfield 282, 3) := by decide +kernel
theorem dX11_readsStep_242 : decode cX11_readsStep 242 = .ok (.iaload, 1) := by decide +kernel
theorem dX11_readsStep_243 : decode cX11_readsStep 243 = .ok (.aload_n 0, 1) := by decide +kernel
theorem dX11_readsStep_244 : decode cX11_readsStep 244 = .ok (.getfield 80, 3) := by decide +kernel
theorem dX11_readsStep_247 : decode cX11_readsStep 247 = .ok (.aload_n 0, 1) := by decide +kernel
theorem dX11_readsStep_248 : decode cX11_readsStep 248 = .ok (.getfield 282, 3) := by decide +kernel
theorem dX11_readsStep_251 : decode cX11_readsStep 251 = .ok (.iaload, 1) := by decide +kernel
theorem dX11_readsStep_252 : decode cX11_readsStep 252 = .ok (.aload_n 0, 1) := by decide +kernel
theorem dX11_readsStep_253 : decode cX11_readsStep 253 = .ok (.getfield 74, 3) := by decide +kernel
theorem dX11_readsStep_256 : decode cX11_readsStep 256 = .ok (.aload_n 0, 1) := by decide +kernel
theorem dX11_readsStep_257 : decode cX11_readsStep 257 = .ok (.getfield 282, 3) := by decide +kernel
theorem dX11_readsStep_260 : decode cX11_readsStep 260 = .ok (.iaload, 1) := by decide +kernel
theorem dX11_readsStep_261 : decode cX11_readsStep 261 = .ok (.invokevirtual 288, 3) := by decide +kernel
theorem dX11_readsStep_264 : decode cX11_readsStep 264 = .ok (.ifCond .ne (-67), 3) := by decide +kernel
theorem dX11_readsStep_267 : decode cX11_readsStep 267 = .ok (.iconst 0, 1) := by decide +kernel
theorem dX11_readsStep_268 : decode cX11_readsStep 268 = .ok (.ireturn, 1) := by decide +kernel
theorem dX11_readsStep_269 : decode cX11_readsStep 269 = .ok (.iconst 1, 1) := by decide +kernel
theorem dX11_readsStep_270 : decode cX11_readsStep 270 = .ok (.ireturn, 1) := by decide +kernel
theorem dX11_readsTimes_0 : decode cX11_readsTimes 0 = .ok (.aload_n 0, 1) := by decide +kernel
theorem dX11_readsTimes_1 : decode cX11_readsTimes 1 = .ok (.aload_n 0, 1) := by decide +kernel
theorem dX11_readsTimes_2 : decode cX11_readsTimes 2 = .ok (.getfield 171, 3) := by decide +kernel
theorem dX11_readsTimes_5 : decode cX11_readsTimes 5 = .ok (.putfield 273, 3) := by decide +kernel
theorem dX11_readsTimes_8 : decode cX11_readsTimes 8 = .ok (.aload_n 0, 1) := by decide +kernel
theorem dX11_readsTimes_9 : decode cX11_readsTimes 9 = .ok (.iconst 1, 1) := by decide +kernel
theorem dX11_readsTimes_10 : decode cX11_readsTimes 10 = .ok (.putfield 276, 3) := by decide +kernel
theorem dX11_readsTimes_13 : decode cX11_readsTimes 13 = .ok (.aload_n 0, 1) := by decide +kernel
theorem dX11_readsTimes_14 : decode cX11_readsTimes 14 = .ok (.invokevirtual 177, 3) := by decide +kernel
theorem dX11_readsTimes_17 : decode cX11_readsTimes 17 = .ok (.bipush 50, 2) := by decide +kernel
theorem dX11_readsTimes_19 : decode cX11_readsTimes 19 = .ok (.bipush 57, 2) := by decide +kernel
theorem dX11_readsTimes_21 : decode cX11_readsTimes 21 = .ok (.invokestatic 150, 3) := by decide +kernel
theorem dX11_readsTimes_24 : decode cX11_readsTimes 24 = .ok (.ifCond .ne 4, 3) := by decide +kernel
theorem dX11_readsTimes_27 : decode cX11_readsTimes 27 = .ok (.return_, 1) := by decide +kernel
theorem dX11_readsTimes_28 : decode cX11_readsTimes 28 = .ok (.aload_n 0, 1) := by decide +kernel
theorem dX11_readsTimes_29 : decode cX11_readsTimes 29 = .ok (.aload_n 0, 1) := by decide +kernel
theorem dX11_readsTimes_30 : decode cX11_readsTimes 30 = .ok (.invokevirtual 177, 3) := by decide +kernel
theorem dX11_readsTimes_33 : decode cX11_readsTimes 33 = .ok (.bipush 48, 2) := by decide +kernel
theorem dX11_readsTimes_35 : decode cX11_readsTimes 35 = .ok (.isub, 1) := by decide +kernel
theorem dX11_readsTimes_36 : decode cX11_readsTimes 36 = .ok (.putfield 276, 3) := by decide +kernel
theorem dX11_readsTimes_39 : decode cX11_readsTimes 39 = .ok (.aload_n 0, 1) := by decide +kernel
theorem dX11_readsTimes_40 : decode cX11_readsTimes 40 = .ok (.aload_n 0, 1) := by decide +kernel
theorem dX11_readsTimes_41 : decode cX11_readsTimes 41 = .ok (.getfield 171, 3) := by decide +kernel
theorem dX11_readsTimes_44 : decode cX11_readsTimes 44 = .ok (.iconst 1, 1) := by decide +kernel
theorem dX11_readsTimes_45 : decode cX11_readsTimes 45 = .ok (.iadd, 1) := by decide +kernel
theorem dX11_readsTimes_46 : decode cX11_readsTimes 46 = .ok (.putfield 171, 3) := by decide +kernel
theorem dX11_readsTimes_49 : decode cX11_readsTimes 49 = .ok (.return_, 1) := by decide +kernel
theorem dX11_repeats_0 : decode cX11_repeats 0 = .ok (.aload_n 0, 1) := by decide +kernel
theorem dX11_repeats_1 : decode cX11_repeats 1 = .ok (.getfield 270, 3) := by decide +kernel
theorem dX11_repeats_4 : decode cX11_repeats 4 = .ok (.iload_n 1, 1) := by decide +kernel
theorem dX11_repeats_5 : decode cX11_repeats 5 = .ok (.isub, 1) := by decide +kernel
theorem dX11_repeats_6 : decode cX11_repeats 6 = .ok (.istore 4, 2) := by decide +kernel
theorem dX11_repeats_8 : decode cX11_repeats 8 = .ok (.iload_n 1, 1) := by decide +kernel
theorem dX11_repeats_9 : decode cX11_repeats 9 = .ok (.iload 4, 2) := by decide +kernel
theorem dX11_repeats_11 : decode cX11_repeats 11 = .ok (.iload_n 2, 1) := by decide +kernel
theorem dX11_repeats_12 : decode cX11_repeats 12 = .ok (.imul, 1) := by decide +kernel
theorem dX11_repeats_13 : decode cX11_repeats 13 = .ok (.iadd, 1) := by decide +kernel
theorem dX11_repeats_14 : decode cX11_repeats 14 = .ok (.bipush 60, 2) := by decide +kernel
theorem dX11_repeats_16 : decode cX11_repeats 16 = .ok (.if_icmp .le 11, 3) := by decide +kernel
theorem dX11_repeats_19 : decode cX11_repeats 19 = .ok (.aload_n 0, 1) := by decide +kernel
theorem dX11_repeats_20 : decode cX11_repeats 20 = .ok (.bipush 6, 2) := by decide +kernel
theorem dX11_repeats_22 : decode cX11_repeats 22 = .ok (.iload_n 3, 1) := by decide +kernel
theorem dX11_repeats_23 : decode cX11_repeats 23 = .ok (.invokevirtual 184, 3) := by decide +kernel
theorem dX11_repeats_26 : decode cX11_repeats 26 = .ok (.ireturn, 1) := by decide +kernel
theorem dX11_repeats_27 : decode cX11_repeats 27 = .ok (.iload 4, 2) := by decide +kernel
theorem dX11_repeats_29 : decode cX11_repeats 29 = .ok (.istore 5, 2) := by decide +kernel
theorem dX11_repeats_31 : decode cX11_repeats 31 = .ok (.iload 5, 2) := by decide +kernel
theorem dX11_repeats_33 : decode cX11_repeats 33 = .ok (.iload 4, 2) := by decide +kernel
theorem dX11_repeats_35 : decode cX11_repeats 35 = .ok (.iload_n 2, 1) := by decide +kernel
theorem dX11_repeats_36 : decode cX11_repeats 36 = .ok (.imul, 1) := by decide +kernel
theorem dX11_repeats_37 : decode cX11_repeats 37 = .ok (.if_icmp .ge 30, 3) := by decide +kernel
theorem dX11_repeats_40 : decode cX11_repeats 40 = .ok (.aload_n 0, 1) := by decide +kernel
theorem dX11_repeats_41 : decode cX11_repeats 41 = .ok (.getfield 71, 3) := by decide +kernel
theorem dX11_repeats_44 : decode cX11_repeats 44 = .ok (.iload_n 1, 1) := by decide +kernel
theorem dX11_repeats_45 : decode cX11_repeats 45 = .ok (.iload 5, 2) := by decide +kernel
theorem dX11_repeats_47 : decode cX11_repeats 47 = .ok (.iadd, 1) := by decide +kernel
theorem dX11_repeats_48 : decode cX11_repeats 48 = .ok (.aload_n 0, 1) := by decide +kernel
theorem dX11_repeats_49 : decode cX11_repeats 49 = .ok (.getfield 71, 3) := by decide +kernel
theorem dX11_repeats_52 : decode cX11_repeats 52 = .ok (.iload_n 1, 1) := by decide +kernel
theorem dX11_repeats_53 : decode cX11_repeats 53 = .ok (.iload 5, 2) := by decide +kernel
theorem dX11_repeats_55 : decode cX11_repeats 55 = .ok (.iadd, 1) := by decide +kernel
theorem dX11_repeats_56 : decode cX11_repeats 56 = .ok (.iload 4, 2) := by decide +kernel
theorem dX11_repeats_58 : decode cX11_repeats 58 = .ok (.isub, 1) := by decide +kernel
theorem dX11_repeats_59 : decode cX11_repeats 59 = .ok (.baload, 1) := by decide +kernel
theorem dX11_repeats_60 : decode cX11_repeats 60 = .ok (.bastore, 1) := by decide +kernel
theorem dX11_repeats_61 : decode cX11_repeats 61 = .ok (.iinc 5 1, 3) := by decide +kernel
theorem dX11_repeats_64 : decode cX11_repeats 64 = .ok (.goto (-33), 3) := by decide +kernel
theorem dX11_repeats_67 : decode cX11_repeats 67 = .ok (.aload_n 0, 1) := by decide +kernel
theorem dX11_repeats_68 : decode cX11_repeats 68 = .ok (.iload_n 1, 1) := by decide +kernel
theorem dX11_repeats_69 : decode cX11_repeats 69 = .ok (.iload 4, 2) := by decide +kernel
theorem dX11_repeats_71 : decode cX11_repeats 71 = .ok (.iload_n 2, 1) := by decide +kernel
theorem dX11_repeats_72 : decode cX11_repeats 72 = .ok (.imul, 1) := by decide +kernel
theorem dX11_repeats_73 : decode cX11_repeats 73 = .ok (.iadd, 1) := by decide +kernel
theorem dX11_repeats_74 : decode cX11_repeats 74 = .ok (.putfield 270, 3) := by decide +kernel
theorem dX11_repeats_77 : decode cX11_repeats 77 = .ok (.iconst 1, 1) := by decide +kernel
theorem dX11_repeats_78 : decode cX11_repeats 78 = .ok (.ireturn, 1) := by decide +kernel
theorem dX11_walk_0 : decode cX11_walk 0 = .ok (.iload_n 1, 1) := by decide +kernel
theorem dX11_walk_1 : decode cX11_walk 1 = .ok (.iconst 2, 1) := by decide +kernel
theorem dX11_walk_2 : decode cX11_walk 2 = .ok (.invokestatic 139, 3) := by decide +kernel
theorem dX11_walk_5 : decode cX11_walk 5 = .ok (.ifCond .eq 21, 3) := by decide +kernel
theorem dX11_walk_8 : decode cX11_walk 8 = .ok (.iload_n 2, 1) := by decide +kernel
theorem dX11_walk_9 : decode cX11_walk 9 = .ok (.iconst 1, 1) := by decide +kernel
theorem dX11_walk_10 : decode cX11_walk 10 = .ok (.bipush 80, 2) := by decide +kernel
theorem dX11_walk_12 : decode cX11_walk 12 = .ok (.invokestatic 150, 3) := by decide +kernel
theorem dX11_walk_15 : decode cX11_walk 15 = .ok (.ifCond .eq 11, 3) := by decide +kernel
theorem dX11_walk_18 : decode cX11_walk 18 = .ok (.iload_n 2, 1) := by decide +kernel
theorem dX11_walk_19 : decode cX11_walk 19 = .ok (.aload_n 0, 1) := by decide +kernel
theorem dX11_walk_20 : decode cX11_walk 20 = .ok (.getfield 164, 3) := by decide +kernel
theorem dX11_walk_23 : decode cX11_walk 23 = .ok (.if_icmp .le 5, 3) := by decide +kernel
theorem dX11_walk_26 : decode cX11_walk 26 = .ok (.iconst (-1), 1) := by decide +kernel
theorem dX11_walk_27 : decode cX11_walk 27 = .ok (.ireturn, 1) := by decide +kernel
theorem dX11_walk_28 : decode cX11_walk 28 = .ok (.aload_n 0, 1) := by decide +kernel
theorem dX11_walk_29 : decode cX11_walk 29 = .ok (.iconst 0, 1) := by decide +kernel
theorem dX11_walk_30 : decode cX11_walk 30 = .ok (.putfield 171, 3) := by decide +kernel
theorem dX11_walk_33 : decode cX11_walk 33 = .ok (.aload_n 0, 1) := by decide +kernel
theorem dX11_walk_34 : decode cX11_walk 34 = .ok (.iload_n 2, 1) := by decide +kernel
theorem dX11_walk_35 : decode cX11_walk 35 = .ok (.putfield 174, 3) := by decide +kernel
theorem dX11_walk_38 : decode cX11_walk 38 = .ok (.aload_n 0, 1) := by decide +kernel
theorem dX11_walk_39 : decode cX11_walk 39 = .ok (.iconst 0, 1) := by decide +kernel
theorem dX11_walk_40 : decode cX11_walk 40 = .ok (.putfield 270, 3) := by decide +kernel
theorem dX11_walk_43 : decode cX11_walk 43 = .ok (.aload_n 0, 1) := by decide +kernel
theorem dX11_walk_44 : decode cX11_walk 44 = .ok (.iconst 0, 1) := by decide +kernel
theorem dX11_walk_45 : decode cX11_walk 45 = .ok (.putfield 282, 3) := by decide +kernel
theorem dX11_walk_48 : decode cX11_walk 48 = .ok (.aload_n 0, 1) := by decide +kernel
theorem dX11_walk_49 : decode cX11_walk 49 = .ok (.invokevirtual 291, 3) := by decide +kernel
theorem dX11_walk_52 : decode cX11_walk 52 = .ok (.istore_n 3, 1) := by decide +kernel
theorem dX11_walk_53 : decode cX11_walk 53 = .ok (.iload_n 3, 1) := by decide +kernel
theorem dX11_walk_54 : decode cX11_walk 54 = .ok (.ifCond .eq 29, 3) := by decide +kernel
theorem dX11_walk_57 : decode cX11_walk 57 = .ok (.aload_n 0, 1) := by decide +kernel
theorem dX11_walk_58 : decode cX11_walk 58 = .ok (.getfield 171, 3) := by decide +kernel
theorem dX11_walk_61 : decode cX11_walk 61 = .ok (.aload_n 0, 1) := by decide +kernel
theorem dX11_walk_62 : decode cX11_walk 62 = .ok (.getfield 174, 3) := by decide +kernel
theorem dX11_walk_65 : decode cX11_walk 65 = .ok (.if_icmp .lt 10, 3) := by decide +kernel
theorem dX11_walk_68 : decode cX11_walk 68 = .ok (.aload_n 0, 1) := by decide +kernel
theorem dX11_walk_69 : decode cX11_walk 69 = .ok (.getfield 282, 3) := by decide +kernel
theorem dX11_walk_72 : decode cX11_walk 72 = .ok (.ifCond .le 11, 3) := by decide +kernel
theorem dX11_walk_75 : decode cX11_walk 75 = .ok (.aload_n 0, 1) := by decide +kernel
theorem dX11_walk_76 : decode cX11_walk 76 = .ok (.invokevirtual 291, 3) := by decide +kernel
theorem dX11_walk_79 : decode cX11_walk 79 = .ok (.istore_n 3, 1) := by decide +kernel
theorem dX11_walk_80 : decode cX11_walk 80 = .ok (.goto (-27), 3) := by decide +kernel
theorem dX11_walk_83 : decode cX11_walk 83 = .ok (.aload_n 0, 1) := by decide +kernel
theorem dX11_walk_84 : decode cX11_walk 84 = .ok (.iconst 0, 1) := by decide +kernel
theorem dX11_walk_85 : decode cX11_walk 85 = .ok (.putfield 164, 3) := by decide +kernel
theorem dX11_walk_88 : decode cX11_walk 88 = .ok (.iload_n 3, 1) := by decide +kernel
theorem dX11_walk_89 : decode cX11_walk 89 = .ok (.ifCond .ne 8, 3) := by decide +kernel
theorem dX11_walk_92 : decode cX11_walk 92 = .ok (.aload_n 0, 1) := by decide +kernel
theorem dX11_walk_93 : decode cX11_walk 93 = .ok (.getfield 181, 3) := by decide +kernel
theorem dX11_walk_96 : decode cX11_walk 96 = .ok (.ireturn, 1) := by decide +kernel
theorem dX11_walk_97 : decode cX11_walk 97 = .ok (.aload_n 0, 1) := by decide +kernel
theorem dX11_walk_98 : decode cX11_walk 98 = .ok (.getfield 25, 3) := by decide +kernel
theorem dX11_walk_101 : decode cX11_walk 101 = .ok (.iload_n 1, 1) := by decide +kernel
theorem dX11_walk_102 : decode cX11_walk 102 = .ok (.aload_n 0, 1) := by decide +kernel
theorem dX11_walk_103 : decode cX11_walk 103 = .ok (.getfield 270, 3) := by decide +kernel
theorem dX11_walk_106 : decode cX11_walk 106 = .ok (.iastore, 1) := by decide +kernel
theorem dX11_walk_107 : decode cX11_walk 107 = .ok (.aload_n 0, 1) := by decide +kernel
theorem dX11_walk_108 : decode cX11_walk 108 = .ok (.getfield 7, 3) := by decide +kernel
theorem dX11_walk_111 : decode cX11_walk 111 = .ok (.iconst 2, 1) := by decide +kernel
theorem dX11_walk_112 : decode cX11_walk 112 = .ok (.iload_n 1, 1) := by decide +kernel
theorem dX11_walk_113 : decode cX11_walk 113 = .ok (.iadd, 1) := by decide +kernel
theorem dX11_walk_114 : decode cX11_walk 114 = .ok (.iconst 0, 1) := by decide +kernel
theorem dX11_walk_115 : decode cX11_walk 115 = .ok (.iastore, 1) := by decide +kernel
theorem dX11_walk_116 : decode cX11_walk 116 = .ok (.iconst 0, 1) := by decide +kernel
theorem dX11_walk_117 : decode cX11_walk 117 = .ok (.istore 4, 2) := by decide +kernel
theorem dX11_walk_119 : decode cX11_walk 119 = .ok (.iload 4, 2) := by decide +kernel
theorem dX11_walk_121 : decode cX11_walk 121 = .ok (.aload_n 0, 1) := by decide +kernel
theorem dX11_walk_122 : decode cX11_walk 122 = .ok (.getfield 270, 3) := by decide +kernel
theorem dX11_walk_125 : decode cX11_walk 125 = .ok (.if_icmp .ge 28, 3) := by decide +kernel
theorem dX11_walk_128 : decode cX11_walk 128 = .ok (.aload_n 0, 1) := by decide +kernel
theorem dX11_walk_129 : decode cX11_walk 129 = .ok (.getfield 28, 3) := by decide +kernel
theorem dX11_walk_132 : decode cX11_walk 132 = .ok (.bipush 60, 2) := by decide +kernel
theorem dX11_walk_134 : decode cX11_walk 134 = .ok (.iload_n 1, 1) := by decide +kernel
theorem dX11_walk_135 : decode cX11_walk 135 = .ok (.imul, 1) := by decide +kernel
theorem dX11_walk_136 : decode cX11_walk 136 = .ok (.iload 4, 2) := by decide +kernel
theorem dX11_walk_138 : decode cX11_walk 138 = .ok (.iadd, 1) := by decide +kernel
theorem dX11_walk_139 : decode cX11_walk 139 = .ok (.aload_n 0, 1) := by decide +kernel
theorem dX11_walk_140 : decode cX11_walk 140 = .ok (.getfield 71, 3) := by decide +kernel
theorem dX11_walk_143 : decode cX11_walk 143 = .ok (.iload 4, 2) := by decide +kernel
theorem dX11_walk_145 : decode cX11_walk 145 = .ok (.baload, 1) := by decide +kernel
theorem dX11_walk_146 : decode cX11_walk 146 = .ok (.bastore, 1) := by decide +kernel
theorem dX11_walk_147 : decode cX11_walk 147 = .ok (.iinc 4 1, 3) := by decide +kernel
theorem dX11_walk_150 : decode cX11_walk 150 = .ok (.goto (-31), 3) := by decide +kernel
theorem dX11_walk_153 : decode cX11_walk 153 = .ok (.aload_n 0, 1) := by decide +kernel
theorem dX11_walk_154 : decode cX11_walk 154 = .ok (.getfield 270, 3) := by decide +kernel
theorem dX11_walk_157 : decode cX11_walk 157 = .ok (.ireturn, 1) := by decide +kernel
