theorem st_X11_10 (h0 : Nat) (σ : xS) (k : Nat) (a : Int) : xobj h0 (xU σ k 10 a) k 11 = (xobj h0 σ k 11).set 10 (.int (xJ a)) := by simp [xobj, xU]
theorem ln_X11_10 (h0 : Nat) (σ : xS) (k : Nat) : 10 < (xobj h0 σ k 11).length := by simp [xobj]
theorem cf_X11_isSpotSign : xCF yX11_isSpotSign cX11_isSpotSign 1 (some .boolean) 1 := ⟨xq 1395 (by decide +kernel) rfl, xq 179 (by decide +kernel) rfl, by decide +kernel⟩
theorem cf_X11_isTimes : xCF yX11_isTimes cX11_isTimes 1 (some .boolean) 1 := ⟨xq 1398 (by decide +kernel) rfl, xq 179 (by decide +kernel) rfl, by decide +kernel⟩
theorem cf_X11_readsRow : xCF yX11_readsRow cX11_readsRow 6 (some .boolean) 1 := ⟨xq 1388 (by decide +kernel) rfl, xq 179 (by decide +kernel) rfl, by decide +kernel⟩
theorem cf_X11_takes : xCF yX11_takes cX11_takes 2 (some .boolean) 1 := ⟨xq 1406 (by decide +kernel) rfl, xq 179 (by decide +kernel) rfl, by decide +kernel⟩
theorem wq105 : Cond.selects yX11_readsRow.cls yX11_readsRow yX11_readsRow ∈ xTB := xq 105 (by decide +kernel) rfl
theorem wq108 : Cond.selects yX11_takes.cls yX11_takes yX11_takes ∈ xTB := xq 108 (by decide +kernel) rfl
theorem wq1214 : Cond.fieldLink "ShadowCourtModel" (68) "ShadowCourtModel" "newKind" "[I" ∈ xTB := xq 1214 (by decide +kernel) rfl
theorem wq1385 : Cond.methodLink "ShadowCourtModel" (254) yX11_readsRow ∈ xTB := xq 1385 (by decide +kernel) rfl
theorem wq1387 : Cond.instanceMethod yX11_readsRow ∈ xTB := xq 1387 (by decide +kernel) rfl
theorem wq1393 : Cond.methodLink "ShadowCourtModel" (248) yX11_isSpotSign ∈ xTB := xq 1393 (by decide +kernel) rfl
theorem wq1394 : Cond.static yX11_isSpotSign ∈ xTB := xq 1394 (by decide +kernel) rfl
theorem wq1396 : Cond.methodLink "ShadowCourtModel" (251) yX11_isTimes ∈ xTB := xq 1396 (by decide +kernel) rfl
theorem wq1397 : Cond.static yX11_isTimes ∈ xTB := xq 1397 (by decide +kernel) rfl
theorem wq1403 : Cond.methodLink "ShadowCourtModel" (257) yX11_takes ∈ xTB := xq 1403 (by decide +kernel) rfl
theorem wq1405 : Cond.instanceMethod yX11_takes ∈ xTB := xq 1405 (by decide +kernel) rfl
theorem dX11_market_0 : decode cX11_market 0 = .ok (.iload_n 1, 1) := by decide +kernel
theorem dX11_market_1 : decode cX11_market 1 = .ok (.iconst 1, 1) := by decide +kernel
theorem dX11_market_2 : decode cX11_market 2 = .ok (.sipush 140, 3) := by decide +kernel
theorem dX11_market_5 : decode cX11_market 5 = .ok (.invokestatic 150, 3) := by decide +kernel
theorem dX11_market_8 : decode cX11_market 8 = .ok (.ifCond .eq 11, 3) := by decide +kernel
theorem dX11_market_11 : decode cX11_market 11 = .ok (.iload_n 1, 1) := by decide +kernel
theorem dX11_market_12 : decode cX11_market 12 = .ok (.aload_n 0, 1) := by decide +kernel
theorem dX11_market_13 : decode cX11_market 13 = .ok (.getfield 164, 3) := by decide +kernel
theorem dX11_market_16 : decode cX11_market 16 = .ok (.if_icmp .le 5, 3) := by decide +kernel
theorem dX11_market_19 : decode cX11_market 19 = .ok (.iconst (-1), 1) := by decide +kernel
theorem dX11_market_20 : decode cX11_market 20 = .ok (.ireturn, 1) := by decide +kernel
theorem dX11_market_21 : decode cX11_market 21 = .ok (.aload_n 0, 1) := by decide +kernel
theorem dX11_market_22 : decode cX11_market 22 = .ok (.iconst 0, 1) := by decide +kernel
theorem dX11_market_23 : decode cX11_market 23 = .ok (.putfield 171, 3) := by decide +kernel
theorem dX11_market_26 : decode cX11_market 26 = .ok (.aload_n 0, 1) := by decide +kernel
theorem dX11_market_27 : decode cX11_market 27 = .ok (.iload_n 1, 1) := by decide +kernel
theorem dX11_market_28 : decode cX11_market 28 = .ok (.putfield 174, 3) := by decide +kernel
theorem dX11_market_31 : decode cX11_market 31 = .ok (.aload_n 0, 1) := by decide +kernel
theorem dX11_market_32 : decode cX11_market 32 = .ok (.iconst 0, 1) := by decide +kernel
theorem dX11_market_33 : decode cX11_market 33 = .ok (.invokevirtual 254, 3) := by decide +kernel
theorem dX11_market_36 : decode cX11_market 36 = .ok (.istore_n 2, 1) := by decide +kernel
theorem dX11_market_37 : decode cX11_market 37 = .ok (.iconst 1, 1) := by decide +kernel
theorem dX11_market_38 : decode cX11_market 38 = .ok (.istore_n 3, 1) := by decide +kernel
theorem dX11_market_39 : decode cX11_market 39 = .ok (.iload_n 3, 1) := by decide +kernel
theorem dX11_market_40 : decode cX11_market 40 = .ok (.bipush 10, 2) := by decide +kernel
theorem dX11_market_42 : decode cX11_market 42 = .ok (.if_icmp .ge 36, 3) := by decide +kernel
theorem dX11_market_45 : decode cX11_market 45 = .ok (.iload_n 2, 1) := by decide +kernel
theorem dX11_market_46 : decode cX11_market 46 = .ok (.ifCond .eq 32, 3) := by decide +kernel
theorem dX11_market_49 : decode cX11_market 49 = .ok (.aload_n 0, 1) := by decide +kernel
theorem dX11_market_50 : decode cX11_market 50 = .ok (.bipush 47, 2) := by decide +kernel
theorem dX11_market_52 : decode cX11_market 52 = .ok (.invokevirtual 257, 3) := by decide +kernel
theorem dX11_market_55 : decode cX11_market 55 = .ok (.ifCond .eq 15, 3) := by decide +kernel
theorem dX11_market_58 : decode cX11_market 58 = .ok (.aload_n 0, 1) := by decide +kernel
theorem dX11_market_59 : decode cX11_market 59 = .ok (.iload_n 3, 1) := by decide +kernel
theorem dX11_market_60 : decode cX11_market 60 = .ok (.invokevirtual 254, 3) := by decide +kernel
theorem dX11_market_63 : decode cX11_market 63 = .ok (.ifCond .eq 7, 3) := by decide +kernel
theorem dX11_market_66 : decode cX11_market 66 = .ok (.iconst 1, 1) := by decide +kernel
theorem dX11_market_67 : decode cX11_market 67 = .ok (.goto 4, 3) := by decide +kernel
theorem dX11_market_70 : decode cX11_market 70 = .ok (.iconst 0, 1) := by decide +kernel
theorem dX11_market_71 : decode cX11_market 71 = .ok (.istore_n 2, 1) := by decide +kernel
theorem dX11_market_72 : decode cX11_market 72 = .ok (.iinc 3 1, 3) := by decide +kernel
theorem dX11_market_75 : decode cX11_market 75 = .ok (.goto (-36), 3) := by decide +kernel
theorem dX11_market_78 : decode cX11_market 78 = .ok (.iload_n 2, 1) := by decide +kernel
theorem dX11_market_79 : decode cX11_market 79 = .ok (.ifCond .eq 24, 3) := by decide +kernel
theorem dX11_market_82 : decode cX11_market 82 = .ok (.aload_n 0, 1) := by decide +kernel
theorem dX11_market_83 : decode cX11_market 83 = .ok (.getfield 171, 3) := by decide +kernel
theorem dX11_market_86 : decode cX11_market 86 = .ok (.aload_n 0, 1) := by decide +kernel
theorem dX11_market_87 : decode cX11_market 87 = .ok (.getfield 174, 3) := by decide +kernel
theorem dX11_market_90 : decode cX11_market 90 = .ok (.if_icmp .ge 13, 3) := by decide +kernel
theorem dX11_market_93 : decode cX11_market 93 = .ok (.aload_n 0, 1) := by decide +kernel
theorem dX11_market_94 : decode cX11_market 94 = .ok (.iconst 1, 1) := by decide +kernel
theorem dX11_market_95 : decode cX11_market 95 = .ok (.aload_n 0, 1) := by decide +kernel
theorem dX11_market_96 : decode cX11_market 96 = .ok (.getfield 171, 3) := by decide +kernel
theorem dX11_market_99 : decode cX11_market 99 = .ok (.invokevirtual 184, 3) := by decide +kernel
theorem dX11_market_102 : decode cX11_market 102 = .ok (.istore_n 2, 1) := by decide +kernel
theorem dX11_market_103 : decode cX11_market 103 = .ok (.aload_n 0, 1) := by decide +kernel
theorem dX11_market_104 : decode cX11_market 104 = .ok (.iconst 0, 1) := by decide +kernel
theorem dX11_market_105 : decode cX11_market 105 = .ok (.putfield 164, 3) := by decide +kernel
theorem dX11_market_108 : decode cX11_market 108 = .ok (.iload_n 2, 1) := by decide +kernel
theorem dX11_market_109 : decode cX11_market 109 = .ok (.ifCond .ne 8, 3) := by decide +kernel
theorem dX11_market_112 : decode cX11_market 112 = .ok (.aload_n 0, 1) := by decide +kernel
theorem dX11_market_113 : decode cX11_market 113 = .ok (.getfield 181, 3) := by decide +kernel
theorem dX11_market_116 : decode cX11_market 116 = .ok (.ireturn, 1) := by decide +kernel
theorem dX11_market_117 : decode cX11_market 117 = .ok (.iconst 0, 1) := by decide +kernel
theorem dX11_market_118 : decode cX11_market 118 = .ok (.istore_n 3, 1) := by decide +kernel
theorem dX11_market_119 : decode cX11_market 119 = .ok (.iconst 0, 1) := by decide +kernel
theorem dX11_market_120 : decode cX11_market 120 = .ok (.istore 4, 2) := by decide +kernel
theorem dX11_market_122 : decode cX11_market 122 = .ok (.iload 4, 2) := by decide +kernel
theorem dX11_market_124 : decode cX11_market 124 = .ok (.bipush 100, 2) := by decide +kernel
theorem dX11_market_126 : decode cX11_market 126 = .ok (.if_icmp .ge 41, 3) := by decide +kernel
theorem dX11_market_129 : decode cX11_market 129 = .ok (.aload_n 0, 1) := by decide +kernel
theorem dX11_market_130 : decode cX11_market 130 = .ok (.getfield 19, 3) := by decide +kernel
theorem dX11_market_133 : decode cX11_market 133 = .ok (.iload 4, 2) := by decide +kernel
theorem dX11_market_135 : decode cX11_market 135 = .ok (.aload_n 0, 1) := by decide +kernel
theorem dX11_market_136 : decode cX11_market 136 = .ok (.getfield 68, 3) := by decide +kernel
theorem dX11_market_139 : decode cX11_market 139 = .ok (.iload 4, 2) := by decide +kernel
theorem dX11_market_141 : decode cX11_market 141 = .ok (.iaload, 1) := by decide +kernel
theorem dX11_market_142 : decode cX11_market 142 = .ok (.iastore, 1) := by decide +kernel
theorem dX11_market_143 : decode cX11_market 143 = .ok (.iload_n 3, 1) := by decide +kernel
theorem dX11_market_144 : decode cX11_market 144 = .ok (.aload_n 0, 1) := by decide +kernel
theorem dX11_market_145 : decode cX11_market 145 = .ok (.getfield 19, 3) := by decide +kernel
theorem dX11_market_148 : decode cX11_market 148 = .ok (.iload 4, 2) := by decide +kernel
theorem dX11_market_150 : decode cX11_market 150 = .ok (.iaload, 1) := by decide +kernel
theorem dX11_market_151 : decode cX11_market 151 = .ok (.ifCond .ne 7, 3) := by decide +kernel
theorem dX11_market_154 : decode cX11_market 154 = .ok (.iconst 0, 1) := by decide +kernel
theorem dX11_market_155 : decode cX11_market 155 = .ok (.goto 4, 3) := by decide +kernel
theorem dX11_market_158 : decode cX11_market 158 = .ok (.iconst 1, 1) := by decide +kernel
theorem dX11_market_159 : decode cX11_market 159 = .ok (.iadd, 1) := by decide +kernel
theorem dX11_market_160 : decode cX11_market 160 = .ok (.istore_n 3, 1) := by decide +kernel
theorem dX11_market_161 : decode cX11_market 161 = .ok (.iinc 4 1, 3) := by decide +kernel
theorem dX11_market_164 : decode cX11_market 164 = .ok (.goto (-42), 3) := by decide +kernel
theorem dX11_market_167 : decode cX11_market 167 = .ok (.iconst 0, 1) := by decide +kernel
theorem dX11_market_168 : decode cX11_market 168 = .ok (.istore 4, 2) := by decide +kernel
theorem dX11_market_170 : decode cX11_market 170 = .ok (.iload 4, 2) := by decide +kernel
theorem dX11_market_172 : decode cX11_market 172 = .ok (.iconst 2, 1) := by decide +kernel
theorem dX11_market_173 : decode cX11_market 173 = .ok (.if_icmp .ge 55, 3) := by decide +kernel
theorem dX11_market_176 : decode cX11_market 176 = .ok (.aload_n 0, 1) := by decide +kernel
theorem dX11_market_177 : decode cX11_market 177 = .ok (.iload 4, 2) := by decide +kernel
theorem dX11_market_179 : decode cX11_market 179 = .ok (.invokevirtual 260, 3) := by decide +kernel
theorem dX11_market_182 : decode cX11_market 182 = .ok (.ifCond .eq 40, 3) := by decide +kernel
theorem dX11_market_185 : decode cX11_market 185 = .ok (.aload_n 0, 1) := by decide +kernel
theorem dX11_market_186 : decode cX11_market 186 = .ok (.aload_n 0, 1) := by decide +kernel
theorem dX11_market_187 : decode cX11_market 187 = .ok (.getfield 7, 3) := by decide +kernel
theorem dX11_market_190 : decode cX11_market 190 = .ok (.iconst 0, 1) := by decide +kernel
theorem dX11_market_191 : decode cX11_market 191 = .ok (.iload 4, 2) := by decide +kernel
theorem dX11_market_193 : decode cX11_market 193 = .ok (.iadd, 1) := by decide +kernel
theorem dX11_market_194 : decode cX11_market 194 = .ok (.iaload, 1) := by decide +kernel
theorem dX11_market_195 : decode cX11_market 195 = .ok (.invokevirtual 263, 3) := by decide +kernel
theorem dX11_market_198 : decode cX11_market 198 = .ok (.ifCond .ne 24, 3) := by decide +kernel
theorem dX11_market_201 : decode cX11_market 201 = .ok (.aload_n 0, 1) := by decide +kernel
theorem dX11_market_202 : decode cX11_market 202 = .ok (.getfield 7, 3) := by decide +kernel
theorem dX11_market_205 : decode cX11_market 205 = .ok (.bipush 34, 2) := by decide +kernel
theorem dX11_market_207 : decode cX11_market 207 = .ok (.aload_n 0, 1) := by decide +kernel
theorem dX11_market_208 : decode cX11_market 208 = .ok (.getfield 7, 3) := by decide +kernel
theorem dX11_market_211 : decode cX11_market 211 = .ok (.bipush 34, 2) := by decide +kernel
theorem dX11_market_213 : decode cX11_market 213 = .ok (.iaload, 1) := by decide +kernel
theorem dX11_market_214 : decode cX11_market 214 = .ok (.iconst 1, 1) := by decide +kernel
theorem dX11_market_215 : decode cX11_market 215 = .ok (.iload 4, 2) := by decide +kernel
theorem dX11_market_217 : decode cX11_market 217 = .ok (.ishl, 1) := by decide +kernel
theorem dX11_market_218 : decode cX11_market 218 = .ok (.iconst (-1), 1) := by decide +kernel
theorem dX11_market_219 : decode cX11_market 219 = .ok (.ixor, 1) := by decide +kernel
theorem dX11_market_220 : decode cX11_market 220 = .ok (.iand, 1) := by decide +kernel
theorem dX11_market_221 : decode cX11_market 221 = .ok (.iastore, 1) := by decide +kernel
theorem dX11_market_222 : decode cX11_market 222 = .ok (.iinc 4 1, 3) := by decide +kernel
theorem dX11_market_225 : decode cX11_market 225 = .ok (.goto (-55), 3) := by decide +kernel
theorem dX11_market_228 : decode cX11_market 228 = .ok (.iconst 0, 1) := by decide +kernel
theorem dX11_market_229 : decode cX11_market 229 = .ok (.istore 4, 2) := by decide +kernel
theorem dX11_market_231 : decode cX11_market 231 = .ok (.iload 4, 2) := by decide +kernel
theorem dX11_market_233 : decode cX11_market 233 = .ok (.bipush 10, 2) := by decide +kernel
theorem dX11_market_235 : decode cX11_market 235 = .ok (.if_icmp .ge 55, 3) := by decide +kernel
theorem dX11_market_238 : decode cX11_market 238 = .ok (.aload_n 0, 1) := by decide +kernel
theorem dX11_market_239 : decode cX11_market 239 = .ok (.iload 4, 2) := by decide +kernel
theorem dX11_market_241 : decode cX11_market 241 = .ok (.invokevirtual 146, 3) := by decide +kernel
theorem dX11_market_244 : decode cX11_market 244 = .ok (.ifCond .eq 40, 3) := by decide +kernel
theorem dX11_market_247 : decode cX11_market 247 = .ok (.aload_n 0, 1) := by decide +kernel
theorem dX11_market_248 : decode cX11_market 248 = .ok (.aload_n 0, 1) := by decide +kernel
theorem dX11_market_249 : decode cX11_market 249 = .ok (.getfield 7, 3) := by decide +kernel
theorem dX11_market_252 : decode cX11_market 252 = .ok (.iconst 4, 1) := by decide +kernel
theorem dX11_market_253 : decode cX11_market 253 = .ok (.iload 4, 2) := by decide +kernel
theorem dX11_market_255 : decode cX11_market 255 = .ok (.iadd, 1) := by decide +kernel
theorem dX11_market_256 : decode cX11_market 256 = .ok (.iaload, 1) := by decide +kernel
theorem dX11_market_257 : decode cX11_market 257 = .ok (.invokevirtual 263, 3) := by decide +kernel
theorem dX11_market_260 : decode cX11_market 260 = .ok (.ifCond .ne 24, 3) := by decide +kernel
theorem dX11_market_263 : decode cX11_market 263 = .ok (.aload_n 0, 1) := by decide +kernel
theorem dX11_market_264 : decode cX11_market 264 = .ok (.getfield 7, 3) := by decide +kernel
theorem dX11_market_267 : decode cX11_market 267 = .ok (.bipush 35, 2) := by decide +kernel
theorem dX11_market_269 : decode cX11_market 269 = .ok (.aload_n 0, 1) := by decide +kernel
theorem dX11_market_270 : decode cX11_market 270 = .ok (.getfield 7, 3) := by decide +kernel
theorem dX11_market_273 : decode cX11_market 273 = .ok (.bipush 35, 2) := by decide +kernel
theorem dX11_market_275 : decode cX11_market 275 = .ok (.iaload, 1) := by decide +kernel
theorem dX11_market_276 : decode cX11_market 276 = .ok (.iconst 1, 1) := by decide +kernel
theorem dX11_market_277 : decode cX11_market 277 = .ok (.iload 4, 2) := by decide +kernel
theorem dX11_market_279 : decode cX11_market 279 = .ok (.ishl, 1) := by decide +kernel
theorem dX11_market_280 : decode cX11_market 280 = .ok (.iconst (-1), 1) := by decide +kernel
theorem dX11_market_281 : decode cX11_market 281 = .ok (.ixor, 1) := by decide +kernel
theorem dX11_market_282 : decode cX11_market 282 = .ok (.iand, 1) := by decide +kernel
theorem dX11_market_283 : decode cX11_market 283 = .ok (.iastore, 1) := by decide +kernel
theorem dX11_market_284 : decode cX11_market 284 = .ok (.iinc 4 1, 3) := by decide +kernel
theorem dX11_market_287 : decode cX11_market 287 = .ok (.goto (-56), 3) := by decide +kernel
theorem dX11_market_290 : decode cX11_market 290 = .ok (.aload_n 0, 1) := by decide +kernel
theorem dX11_market_291 : decode cX11_market 291 = .ok (.iconst 0, 1) := by decide +kernel
theorem dX11_market_292 : decode cX11_market 292 = .ok (.putfield 266, 3) := by decide +kernel
theorem dX11_market_295 : decode cX11_market 295 = .ok (.iconst 0, 1) := by decide +kernel
theorem dX11_market_296 : decode cX11_market 296 = .ok (.istore 4, 2) := by decide +kernel
theorem dX11_market_298 : decode cX11_market 298 = .ok (.iload 4, 2) := by decide +kernel
theorem dX11_market_300 : decode cX11_market 300 = .ok (.iconst 4, 1) := by decide +kernel
theorem dX11_market_301 : decode cX11_market 301 = .ok (.if_icmp .ge 42, 3) := by decide +kernel
theorem dX11_market_304 : decode cX11_market 304 = .ok (.aload_n 0, 1) := by decide +kernel
theorem dX11_market_305 : decode cX11_market 305 = .ok (.getfield 22, 3) := by decide +kernel
theorem dX11_market_308 : decode cX11_market 308 = .ok (.iload 4, 2) := by decide +kernel
theorem dX11_market_310 : decode cX11_market 310 = .ok (.iaload, 1) := by decide +kernel
theorem dX11_market_311 : decode cX11_market 311 = .ok (.iconst (-1), 1) := by decide +kernel
theorem dX11_market_312 : decode cX11_market 312 = .ok (.if_icmp .eq 25, 3) := by decide +kernel
theorem dX11_market_315 : decode cX11_market 315 = .ok (.aload_n 0, 1) := by decide +kernel
theorem dX11_market_316 : decode cX11_market 316 = .ok (.aload_n 0, 1) := by decide +kernel
theorem dX11_market_317 : decode cX11_market 317 = .ok (.getfield 22, 3) := by decide +kernel
theorem dX11_market_320 : decode cX11_market 320 = .ok (.iload 4, 2) := by decide +kernel
theorem dX11_market_322 : decode cX11_market 322 = .ok (.iaload, 1) := by decide +kernel
theorem dX11_market_323 : decode cX11_market 323 = .ok (.invokevirtual 263, 3) := by decide +kernel
theorem dX11_market_326 : decode cX11_market 326 = .ok (.ifCond .ne 11, 3) := by decide +kernel
theorem dX11_market_329 : decode cX11_market 329 = .ok (.aload_n 0, 1) := by decide +kernel
theorem dX11_market_330 : decode cX11_market 330 = .ok (.getfield 22, 3) := by decide +kernel
theorem dX11_market_333 : decode cX11_market 333 = .ok (.iload 4, 2) := by decide +kernel
theorem dX11_market_335 : decode cX11_market 335 = .ok (.iconst (-1), 1) := by decide +kernel
theorem dX11_market_336 : decode cX11_market 336 = .ok (.iastore, 1) := by decide +kernel
theorem dX11_market_337 : decode cX11_market 337 = .ok (.iinc 4 1, 3) := by decide +kernel
theorem dX11_market_340 : decode cX11_market 340 = .ok (.goto (-42), 3) := by decide +kernel
theorem dX11_market_343 : decode cX11_market 343 = .ok (.iload_n 3, 1) := by decide +kernel
theorem dX11_market_344 : decode cX11_market 344 = .ok (.ireturn, 1) := by decide +kernel
theorem dX11_readsRow_0 : decode cX11_readsRow 0 = .ok (.iconst 0, 1) := by decide +kernel
theorem dX11_readsRow_1 : decode cX11_readsRow 1 = .ok (.istore_n 2, 1) := by decide +kernel
theorem dX11_readsRow_2 : decode cX11_readsRow 2 = .ok (.iload_n 2, 1) := by decide +kernel
theorem dX11_readsRow_3 : decode cX11_readsRow 3 = .ok (.bipush 10, 2) := by decide +kernel
theorem dX11_readsRow_5 : decode cX11_readsRow 5 = .ok (.if_icmp .ge 197, 3) := by decide +kernel
theorem dX11_readsRow_8 : decode cX11_readsRow 8 = .ok (.aload_n 0, 1) := by decide +kernel
theorem dX11_readsRow_9 : decode cX11_readsRow 9 = .ok (.invokevirtual 177, 3) := by decide +kernel
theorem dX11_readsRow_12 : decode cX11_readsRow 12 = .ok (.istore_n 3, 1) := by decide +kernel
theorem dX11_readsRow_13 : decode cX11_readsRow 13 = .ok (.iload_n 3, 1) := by decide +kernel
theorem dX11_readsRow_14 : decode cX11_readsRow 14 = .ok (.invokestatic 248, 3) := by decide +kernel
theorem dX11_readsRow_17 : decode cX11_readsRow 17 = .ok (.ifCond .ne 20, 3) := by decide +kernel
theorem dX11_readsRow_20 : decode cX11_readsRow 20 = .ok (.iload_n 3, 1) := by decide +kernel
theorem dX11_readsRow_21 : decode cX11_readsRow 21 = .ok (.invokestatic 251, 3) := by decide +kernel
theorem dX11_readsRow_24 : decode cX11_readsRow 24 = .ok (.ifCond .ne 13, 3) := by decide +kernel
theorem dX11_readsRow_27 : decode cX11_readsRow 27 = .ok (.aload_n 0, 1) := by decide +kernel
theorem dX11_readsRow_28 : decode cX11_readsRow 28 = .ok (.iconst 1, 1) := by decide +kernel
theorem dX11_readsRow_29 : decode cX11_readsRow 29 = .ok (.aload_n 0, 1) := by decide +kernel
theorem dX11_readsRow_30 : decode cX11_readsRow 30 = .ok (.getfield 171, 3) := by decide +kernel
theorem dX11_readsRow_33 : decode cX11_readsRow 33 = .ok (.invokevirtual 184, 3) := by decide +kernel
theorem dX11_readsRow_36 : decode cX11_readsRow 36 = .ok (.ireturn, 1) := by decide +kernel
theorem dX11_readsRow_37 : decode cX11_readsRow 37 = .ok (.iload_n 3, 1) := by decide +kernel
theorem dX11_readsRow_38 : decode cX11_readsRow 38 = .ok (.bipush 48, 2) := by decide +kernel
theorem dX11_readsRow_40 : decode cX11_readsRow 40 = .ok (.if_icmp .ne 8, 3) := by decide +kernel
theorem dX11_readsRow_43 : decode cX11_readsRow 43 = .ok (.bipush 10, 2) := by decide +kernel
theorem dX11_readsRow_45 : decode cX11_readsRow 45 = .ok (.goto 18, 3) := by decide +kernel
theorem dX11_readsRow_48 : decode cX11_readsRow 48 = .ok (.iload_n 3, 1) := by decide +kernel
theorem dX11_readsRow_49 : decode cX11_readsRow 49 = .ok (.invokestatic 251, 3) := by decide +kernel
theorem dX11_readsRow_52 : decode cX11_readsRow 52 = .ok (.ifCond .eq 10, 3) := by decide +kernel
theorem dX11_readsRow_55 : decode cX11_readsRow 55 = .ok (.iload_n 3, 1) := by decide +kernel
theorem dX11_readsRow_56 : decode cX11_readsRow 56 = .ok (.bipush 48, 2) := by decide +kernel
theorem dX11_readsRow_58 : decode cX11_readsRow 58 = .ok (.isub, 1) := by decide +kernel
theorem dX11_readsRow_59 : decode cX11_readsRow 59 = .ok (.goto 4, 3) := by decide +kernel
theorem dX11_readsRow_62 : decode cX11_readsRow 62 = .ok (.iconst 1, 1) := by decide +kernel
theorem dX11_readsRow_63 : decode cX11_readsRow 63 = .ok (.istore 4, 2) := by decide +kernel
theorem dX11_readsRow_65 : decode cX11_readsRow 65 = .ok (.iload_n 2, 1) := by decide +kernel
theorem dX11_readsRow_66 : decode cX11_readsRow 66 = .ok (.iload 4, 2) := by decide +kernel
theorem dX11_readsRow_68 : decode cX11_readsRow 68 = .ok (.iadd, 1) := by decide +kernel
theorem dX11_readsRow_69 : decode cX11_readsRow 69 = .ok (.bipush 10, 2) := by decide +kernel
theorem dX11_readsRow_71 : decode cX11_readsRow 71 = .ok (.if_icmp .le 14, 3) := by decide +kernel
theorem dX11_readsRow_74 : decode cX11_readsRow 74 = .ok (.aload_n 0, 1) := by decide +kernel
theorem dX11_readsRow_75 : decode cX11_readsRow 75 = .ok (.bipush 6, 2) := by decide +kernel
theorem dX11_readsRow_77 : decode cX11_readsRow 77 = .ok (.aload_n 0, 1) := by decide +kernel
theorem dX11_readsRow_78 : decode cX11_readsRow 78 = .ok (.getfield 171, 3) := by decide +kernel
theorem dX11_readsRow_81 : decode cX11_readsRow 81 = .ok (.invokevirtual 184, 3) := by decide +kernel
theorem dX11_readsRow_84 : decode cX11_readsRow 84 = .ok (.ireturn, 1) := by decide +kernel
theorem dX11_readsRow_85 : decode cX11_readsRow 85 = .ok (.iload 4, 2) := by decide +kernel
theorem dX11_readsRow_87 : decode cX11_readsRow 87 = .ok (.iconst 1, 1) := by decide +kernel
theorem dX11_readsRow_88 : decode cX11_readsRow 88 = .ok (.if_icmp .le 13, 3) := by decide +kernel
theorem dX11_readsRow_91 : decode cX11_readsRow 91 = .ok (.aload_n 0, 1) := by decide +kernel
theorem dX11_readsRow_92 : decode cX11_readsRow 92 = .ok (.aload_n 0, 1) := by decide +kernel
theorem dX11_readsRow_93 : decode cX11_readsRow 93 = .ok (.getfield 171, 3) := by decide +kernel
theorem dX11_readsRow_96 : decode cX11_readsRow 96 = .ok (.iconst 1, 1) := by decide +kernel
theorem dX11_readsRow_97 : decode cX11_readsRow 97 = .ok (.iadd, 1) := by decide +kernel
theorem dX11_readsRow_98 : decode cX11_readsRow 98 = .ok (.putfield 171, 3) := by decide +kernel
theorem dX11_readsRow_101 : decode cX11_readsRow 101 = .ok (.aload_n 0, 1) := by decide +kernel
theorem dX11_readsRow_102 : decode cX11_readsRow 102 = .ok (.invokevirtual 177, 3) := by decide +kernel
theorem dX11_readsRow_105 : decode cX11_readsRow 105 = .ok (.istore_n 3, 1) := by decide +kernel
theorem dX11_readsRow_106 : decode cX11_readsRow 106 = .ok (.iload_n 3, 1) := by decide +kernel
theorem dX11_readsRow_107 : decode cX11_readsRow 107 = .ok (.invokestatic 248, 3) := by decide +kernel
theorem dX11_readsRow_110 : decode cX11_readsRow 110 = .ok (.ifCond .ne 13, 3) := by decide +kernel
theorem dX11_readsRow_113 : decode cX11_readsRow 113 = .ok (.aload_n 0, 1) := by decide +kernel
theorem dX11_readsRow_114 : decode cX11_readsRow 114 = .ok (.iconst 1, 1) := by decide +kernel
theorem dX11_readsRow_115 : decode cX11_readsRow 115 = .ok (.aload_n 0, 1) := by decide +kernel
theorem dX11_readsRow_116 : decode cX11_readsRow 116 = .ok (.getfield 171, 3) := by decide +kernel
theorem dX11_readsRow_119 : decode cX11_readsRow 119 = .ok (.invokevirtual 184, 3) := by decide +kernel
theorem dX11_readsRow_122 : decode cX11_readsRow 122 = .ok (.ireturn, 1) := by decide +kernel
theorem dX11_readsRow_123 : decode cX11_readsRow 123 = .ok (.iconst 0, 1) := by decide +kernel
theorem dX11_readsRow_124 : decode cX11_readsRow 124 = .ok (.istore 5, 2) := by decide +kernel
theorem dX11_readsRow_126 : decode cX11_readsRow 126 = .ok (.iload 5, 2) := by decide +kernel
theorem dX11_readsRow_128 : decode cX11_readsRow 128 = .ok (.iload 4, 2) := by decide +kernel
theorem dX11_readsRow_130 : decode cX11_readsRow 130 = .ok (.if_icmp .ge 54, 3) := by decide +kernel
theorem dX11_readsRow_133 : decode cX11_readsRow 133 = .ok (.aload_n 0, 1) := by decide +kernel
theorem dX11_readsRow_134 : decode cX11_readsRow 134 = .ok (.getfield 68, 3) := by decide +kernel
theorem dX11_readsRow_137 : decode cX11_readsRow 137 = .ok (.bipush 10, 2) := by decide +kernel
theorem dX11_readsRow_139 : decode cX11_readsRow 139 = .ok (.iload_n 1, 1) := by decide +kernel
theorem dX11_readsRow_140 : decode cX11_readsRow 140 = .ok (.imul, 1) := by decide +kernel
theorem dX11_readsRow_141 : decode cX11_readsRow 141 = .ok (.iload_n 2, 1) := by decide +kernel
theorem dX11_readsRow_142 : decode cX11_readsRow 142 = .ok (.iadd, 1) := by decide +kernel
theorem dX11_readsRow_143 : decode cX11_readsRow 143 = .ok (.iload 5, 2) := by decide +kernel
theorem dX11_readsRow_145 : decode cX11_readsRow 145 = .ok (.iadd, 1) := by decide +kernel
theorem dX11_readsRow_146 : decode cX11_readsRow 146 = .ok (.iload_n 3, 1) := by decide +kernel
theorem dX11_readsRow_147 : decode cX11_readsRow 147 = .ok (.bipush 46, 2) := by decide +kernel
theorem dX11_readsRow_149 : decode cX11_readsRow 149 = .ok (.if_icmp .ne 7, 3) := by decide +kernel
theorem dX11_readsRow_152 : decode cX11_readsRow 152 = .ok (.iconst 0, 1) := by decide +kernel
theorem dX11_readsRow_153 : decode cX11_readsRow 153 = .ok (.goto 24, 3) := by decide +kernel
theorem dX11_readsRow_156 : decode cX11_readsRow 156 = .ok (.iload_n 3, 1) := by decide +kernel
theorem dX11_readsRow_157 : decode cX11_readsRow 157 = .ok (.bipush 35, 2) := by decide +kernel
theorem dX11_readsRow_159 : decode cX11_readsRow 159 = .ok (.if_icmp .ne 7, 3) := by decide +kernel
theorem dX11_readsRow_162 : decode cX11_readsRow 162 = .ok (.iconst 1, 1) := by decide +kernel
theorem dX11_readsRow_163 : decode cX11_readsRow 163 = .ok (.goto 14, 3) := by decide +kernel
theorem dX11_readsRow_166 : decode cX11_readsRow 166 = .ok (.iload_n 3, 1) := by decide +kernel
theorem dX11_readsRow_167 : decode cX11_readsRow 167 = .ok (.bipush 115, 2) := by decide +kernel
theorem dX11_readsRow_169 : decode cX11_readsRow 169 = .ok (.if_icmp .ne 7, 3) := by decide +kernel
theorem dX11_readsRow_172 : decode cX11_readsRow 172 = .ok (.iconst 2, 1) := by decide +kernel
theorem dX11_readsRow_173 : decode cX11_readsRow 173 = .ok (.goto 4, 3) := by decide +kernel
theorem dX11_readsRow_176 : decode cX11_readsRow 176 = .ok (.iconst 3, 1) := by decide +kernel
theorem dX11_readsRow_177 : decode cX11_readsRow 177 = .ok (.iastore, 1) := by decide +kernel
theorem dX11_readsRow_178 : decode cX11_readsRow 178 = .ok (.iinc 5 1, 3) := by decide +kernel
theorem dX11_readsRow_181 : decode cX11_readsRow 181 = .ok (.goto (-55), 3) := by decide +kernel
theorem dX11_readsRow_184 : decode cX11_readsRow 184 = .ok (.iload_n 2, 1) := by decide +kernel
theorem dX11_readsRow_185 : decode cX11_readsRow 185 = .ok (.iload 4, 2) := by decide +kernel
theorem dX11_readsRow_187 : decode cX11_readsRow 187 = .ok (.iadd, 1) := by decide +kernel
theorem dX11_readsRow_188 : decode cX11_readsRow 188 = .ok (.istore_n 2, 1) := by decide +kernel
theorem dX11_readsRow_189 : decode cX11_readsRow 189 = .ok (.aload_n 0, 1) := by decide +kernel
theorem dX11_readsRow_190 : decode cX11_readsRow 190 = .ok (.aload_n 0, 1) := by decide +kernel
theorem dX11_readsRow_191 : decode cX11_readsRow 191 = .ok (.getfield 171, 3) := by decide +kernel
theorem dX11_readsRow_194 : decode cX11_readsRow 194 = .ok (.iconst 1, 1) := by decide +kernel
theorem dX11_readsRow_195 : decode cX11_readsRow 195 = .ok (.iadd, 1) := by decide +kernel
theorem dX11_readsRow_196 : decode cX11_readsRow 196 = .ok (.putfield 171, 3) := by decide +kernel
theorem dX11_readsRow_199 : decode cX11_readsRow 199 = .ok (.goto (-197), 3) := by decide +kernel
theorem dX11_readsRow_202 : decode cX11_readsRow 202 = .ok (.aload_n 0, 1) := by decide +kernel
theorem dX11_readsRow_203 : decode cX11_readsRow 203 = .ok (.invokevirtual 177, 3) := by decide +kernel
theorem dX11_readsRow_206 : decode cX11_readsRow 206 = .ok (.invokestatic 248, 3) := by decide +kernel
theorem dX11_readsRow_209 : decode cX11_readsRow 209 = .ok (.ifCond .ne 13, 3) := by decide +kernel
theorem dX11_readsRow_212 : decode cX11_readsRow 212 = .ok (.aload_n 0, 1) := by decide +kernel
theorem dX11_readsRow_213 : decode cX11_readsRow 213 = .ok (.invokevirtual 177, 3) := by decide +kernel
theorem dX11_readsRow_216 : decode cX11_readsRow 216 = .ok (.invokestatic 251, 3) := by decide +kernel
theorem dX11_readsRow_219 : decode cX11_readsRow 219 = .ok (.ifCond .eq 16, 3) := by decide +kernel
theorem dX11_readsRow_222 : decode cX11_readsRow 222 = .ok (.aload_n 0, 1) := by decide +kernel
theorem dX11_readsRow_223 : decode cX11_readsRow 223 = .ok (.bipush 6, 2) := by decide +kernel
theorem dX11_readsRow_225 : decode cX11_readsRow 225 = .ok (.aload_n 0, 1) := by decide +kernel
theorem dX11_readsRow_226 : decode cX11_readsRow 226 = .ok (.getfield 171, 3) := by decide +kernel
theorem dX11_readsRow_229 : decode cX11_readsRow 229 = .ok (.invokevirtual 184, 3) := by decide +kernel
theorem dX11_readsRow_232 : decode cX11_readsRow 232 = .ok (.ifCond .eq 7, 3) := by decide +kernel
theorem dX11_readsRow_235 : decode cX11_readsRow 235 = .ok (.iconst 1, 1) := by decide +kernel
theorem dX11_readsRow_236 : decode cX11_readsRow 236 = .ok (.goto 4, 3) := by decide +kernel
theorem dX11_readsRow_239 : decode cX11_readsRow 239 = .ok (.iconst 0, 1) := by decide +kernel
theorem dX11_readsRow_240 : decode cX11_readsRow 240 = .ok (.ireturn, 1) := by decide +kernel
