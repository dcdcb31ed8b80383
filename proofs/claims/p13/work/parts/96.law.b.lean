theorem l_0 {p : Program} {e : Env} {s : State} {m : MethodId} {below : List Frame} {meth : Method} {c : Code} {l : Launch} {b h0 L : Nat} {xs : Nat → Int32} {D : va_G} {g : xG} {T : Nat × Nat × Nat} {H : Heap} {locs : List Loc} {ls : Array Slot} {cells slots : Nat} {Q : State → Prop} {σ : xS} {n : Nat} {i : Int} (hx : p.tables.exec = Jvm.exec) (hb : c.code = cL_law) (hml : c.maxLocals = 4) (hown : s.vm.findClass "ShadowCourtLaw" = some m.cls) (hT : ∀ w ∈ xTB, w.before #[Value.ref b] s = true) (hE : xE D g T h0 s) (hX : va_X b L xs s s.heap) (hbl : b < s.heap.size) (eh : h0 = s.heap.size) (hW : xW D g h0 s H locs σ) (hl : lv_has ls 4 [(3, .int (xJ i)), (2, .ref (h0 + 268)), (1, .ref (h0 + 0)), (0, .ref b)]) (hcs : cells ≤ 600000 ∧ slots ≤ 7302250) (hcs1 : cells + 1 ≤ 600000 ∧ slots + 60 ≤ 7302250) (hJ : lJ σ n) (hn : n ≤ 512) (hi : 0 ≤ i ∧ i + 5 < (L : Int) ∧ L ≤ 3072)
    (kk : ∀ (H : Heap) (locs : List Loc) (τ : xS), lJ τ (n + 1) → xW D g h0 s H locs τ → W p l e room_1 s m #[Value.ref b] below meth c H locs (cells + 1) (slots + 60) Q (F0 m 990 ls [])) : W p l e room_1 s m #[Value.ref b] below meth c H locs cells slots Q (F0 m 152 ls []) := by
  obtain ⟨jC, jn, jk, jo, j0, jz, jr⟩ := hJ
  obtain ⟨a1, e1, r1⟩ := xJ_ex (xs (i + 1).toNat)
  obtain ⟨a2, e2, r2⟩ := xJ_ex (xs (i + 2).toNat)
  obtain ⟨a3, e3, r3⟩ := xJ_ex (xs (i + 3).toNat)
  obtain ⟨a4, e4, r4⟩ := xJ_ex (xs (i + 4).toNat)
  obtain ⟨a5, e5, r5⟩ := xJ_ex (xs (i + 5).toNat)
  refine x_aload_n hx hb hl 2 rfl dL_law_152 rfl ?_
  refine x_aload_n hx hb hl 3 rfl dL_law_153 rfl ?_
  refine x_iload_n hx hb hl 0 rfl dL_law_154 rfl ?_
  refine x_iconst hx hb dL_law_155 ?_
  refine x_iadd hx hb dL_law_156 ?_
  refine l_sld hx hb hX hbl eh hW (by omega) (by omega) e1 dL_law_157 ?_
  refine x_aload_n hx hb hl 3 rfl dL_law_158 rfl ?_
  refine x_iload_n hx hb hl 0 rfl dL_law_159 rfl ?_
  refine x_iconst hx hb dL_law_160 ?_
  refine b_pc (pc1 := 161) rfl ?_
  refine x_iadd hx hb dL_law_161 ?_
  refine l_sld hx hb hX hbl eh hW (by omega) (by omega) e2 dL_law_162 ?_
  refine x_aload_n hx hb hl 3 rfl dL_law_163 rfl ?_
  refine x_iload_n hx hb hl 0 rfl dL_law_164 rfl ?_
  refine x_iconst hx hb dL_law_165 ?_
  refine x_iadd hx hb dL_law_166 ?_
  refine l_sld hx hb hX hbl eh hW (by omega) (by omega) e3 dL_law_167 ?_
  refine x_aload_n hx hb hl 3 rfl dL_law_168 rfl ?_
  refine x_iload_n hx hb hl 0 rfl dL_law_169 rfl ?_
  refine x_iconst hx hb dL_law_170 ?_
  refine b_pc (pc1 := 171) rfl ?_
  refine x_iadd hx hb dL_law_171 ?_
  refine l_sld hx hb hX hbl eh hW (by omega) (by omega) e4 dL_law_172 ?_
  refine x_aload_n hx hb hl 3 rfl dL_law_173 rfl ?_
  refine x_iload_n hx hb hl 0 rfl dL_law_174 rfl ?_
  refine x_iconst hx hb dL_law_175 ?_
  refine x_iadd hx hb dL_law_176 ?_
  refine l_sld hx hb hX hbl eh hW (by omega) (by omega) e5 dL_law_177 ?_
  refine x_goi (x_runV (As := [.int (xJ a1), .int (xJ a2), .int (xJ a3), .int (xJ a4), .int (xJ a5)]) hx hb hml hown hT hE hW hl.1 (Or.inl (by decide)) (so_0 h0 g _) rfl cf_X10_feed wq550 wq551 wq549 (c_X10_feed l D g T h0 σ hW.2.1 a1 r1 a2 r2 a3 r3 a4 r4 a5 r5 jC) ⟨rfl, rfl, ⟨by decide, by decide⟩, hcs⟩ rfl rfl (Nat.le_of_ble_eq_true rfl) dL_law_178) hW (fun q1 t1 H locs rq1 hp hW => ?_)
  obtain ⟨hF1, hI1, hp1⟩ := hp
  have jC1 := hI1.1
  have jn1 : IMn t1 := IMn_f (fun k hk => hF1 k (by unfold suIMn at hk; omega)) jn
  have jk1 : IMk t1 := IMk_f (fun k hk => hF1 k (by unfold suIMk at hk; omega)) jk
  have jo1 : IMo t1 := IMo_f (fun k hk => hF1 k (by unfold suIMo at hk; omega)) jo
  have j01 : t1 0 11 = 0 ∨ t1 0 11 = 1 := by rw [hF1 0 (by omega)]; exact j0
  have jz1 : t1 999996 0 = σ 999996 0 := by rw [hF1 999996 (by omega)]
  refine lv_pop hx hb dL_law_181 rfl ?_
  refine x_aload_n hx hb hl 1 rfl dL_law_182 rfl ?_
  refine b_pc (pc1 := 183) rfl ?_
  refine x_aload_n hx hb hl 3 rfl dL_law_183 rfl ?_
  refine x_iload_n hx hb hl 0 rfl dL_law_184 rfl ?_
  refine x_iconst hx hb dL_law_185 ?_
  refine x_iadd hx hb dL_law_186 ?_
  refine l_sld hx hb hX hbl eh hW (by omega) (by omega) e1 dL_law_187 ?_
  refine x_aload_n hx hb hl 3 rfl dL_law_188 rfl ?_
  refine x_iload_n hx hb hl 0 rfl dL_law_189 rfl ?_
  refine x_iconst hx hb dL_law_190 ?_
  refine x_iadd hx hb dL_law_191 ?_
  refine l_sld hx hb hX hbl eh hW (by omega) (by omega) e2 dL_law_192 ?_
  refine b_pc (pc1 := 193) rfl ?_
  refine x_aload_n hx hb hl 3 rfl dL_law_193 rfl ?_
  refine x_iload_n hx hb hl 0 rfl dL_law_194 rfl ?_
  refine x_iconst hx hb dL_law_195 ?_
  refine x_iadd hx hb dL_law_196 ?_
  refine l_sld hx hb hX hbl eh hW (by omega) (by omega) e3 dL_law_197 ?_
  refine x_aload_n hx hb hl 3 rfl dL_law_198 rfl ?_
  refine x_iload_n hx hb hl 0 rfl dL_law_199 rfl ?_
  refine x_iconst hx hb dL_law_200 ?_
  refine x_iadd hx hb dL_law_201 ?_
  refine l_sld hx hb hX hbl eh hW (by omega) (by omega) e4 dL_law_202 ?_
  refine b_pc (pc1 := 203) rfl ?_
  refine x_aload_n hx hb hl 3 rfl dL_law_203 rfl ?_
  refine x_iload_n hx hb hl 0 rfl dL_law_204 rfl ?_
  refine x_iconst hx hb dL_law_205 ?_
  refine x_iadd hx hb dL_law_206 ?_
  refine l_sld hx hb hX hbl eh hW (by omega) (by omega) e5 dL_law_207 ?_
  refine x_goi (x_runV (As := [.int (xJ a1), .int (xJ a2), .int (xJ a3), .int (xJ a4), .int (xJ a5)]) hx hb hml hown hT hE hW hl.1 (Or.inl (by decide)) (so_268 h0 g _) rfl cf_X11_feed wq1371 wq1372 wq1370 (c_X11_feedF l D g T h0 t1 hW.2.1 a1 r1 a2 r2 a3 r3 a4 r4 a5 r5 jn1 jk1 jo1) ⟨rfl, rfl, ⟨by decide, by decide⟩, hcs⟩ rfl rfl (Nat.le_of_ble_eq_true rfl) dL_law_208) hW (fun q2 t2 H locs rq2 hp hW => ?_)
  obtain ⟨hF2, hI2, hp2⟩ := hp
  have jC2 : IC t2 := IC_f (fun k hk => hF2 k (by unfold suIC at hk; omega)) jC1
  have j02 : t2 0 11 = 0 ∨ t2 0 11 = 1 := by rw [hF2 0 (by omega)]; exact j01
  have jz2 : t2 999996 0 = t1 999996 0 := by rw [hF2 999996 (by omega)]
  have u1 : t2 1 1 = t1 1 1 := by rw [hF2 1 (by omega)]
  have u2 : t1 268 8 = σ 268 8 := by rw [hF1 268 (by omega)]
  have u0 : σ 1 1 = σ 268 8 := jr.1.1
  have u6 : t2 1 1 = t2 268 8 := by omega
  have u7 : t2 2 = xm8 (t2 276) ∧ xb8 (t2 276) := by
    have e276 : t1 276 = σ 276 := hF1 276 (by omega)
    rw [hF2 2 (by omega)]
    rcases hp1 with ⟨g1, g2, g3, g4⟩ | ⟨g1, g2, g3, g4⟩
    · rcases hp2 with ⟨f1, f2, f3, f4, f5⟩ | ⟨f1, f2, f3, f4⟩
      · rw [g4, f4, e276, ← jr.1.2.1, u2, ← u0]
        exact ⟨rfl, f5 (by rw [e276]; exact jr.1.2.2)⟩
      · omega
    · rcases hp2 with ⟨f1, f2, f3, f4, f5⟩ | ⟨f1, f2, f3, f4⟩
      · omega
      · rw [g4, f4, e276]; exact jr.1.2
  have w11a : t1 0 11 = σ 0 11 := by rw [hF1 0 (by omega)]
  have w11b : t2 0 11 = t1 0 11 := by rw [hF2 0 (by omega)]
  have w58a : t1 268 58 = σ 268 58 := by rw [hF1 268 (by omega)]
  have w58b : t2 268 58 = t1 268 58 := hI2.2.2.2.1
  have w17a : t1 268 17 = σ 268 17 := by rw [hF1 268 (by omega)]
  have w17b : t2 268 17 = t1 268 17 := hI2.2.2.2.2.1
  have w48a : t1 268 48 = σ 268 48 := by rw [hF1 268 (by omega)]
  have w48b : t2 268 48 = t1 268 48 := hI2.2.2.2.2.2.1
  have w34a : t1 269 34 = σ 269 34 := by rw [hF1 269 (by omega)]
  have w34b : t2 269 34 = t1 269 34 := by rw [hF2 269 (by omega)]
  have j48 := lR_48 jr
  have jb58 := (lR_B jr).2.2
  have jD := lR_D jr
  have jBt : zBt (σ 269) := jD.1.2.2.2
  have q269 : t1 269 = σ 269 := hF1 269 (by omega)
  have zBB : (t2 5 = t2 288 ∧ zk3 (t2 5)) ∧ (∀ j : Int, 0 ≤ j → j < 100 → t2 4 j = t2 272 j ∧ 0 ≤ t2 4 j ∧ t2 4 j ≤ 3) ∧ t2 0 11 = t2 268 58 := ⟨by rw [hF2 5 (by omega), hF1 5 (by omega), hF2 288 (by omega), hF1 288 (by omega)]; exact (lR_B jr).1, by rw [hF2 4 (by omega), hF1 4 (by omega), hF2 272 (by omega), hF1 272 (by omega)]; exact (lR_B jr).2.1, by omega⟩
  have e4 : t2 4 = σ 4 := by rw [hF2 4 (by omega), hF1 4 (by omega)]
  have zL : zLx t2 := (lR_L jr).ff (fun k hk => by rw [hF2 k (by omega), hF1 k (by omega)]) (by omega)
  have zM : zLm t2 := (lR_M jr).ff (by rw [hF2 129 (by omega), hF1 129 (by omega)]) (by rw [hF2 273 (by omega), hF1 273 (by omega)])
  have zD : zDd t2 136 269 := jD.1.ff (fun o ho => by rw [hF2 (136 + o) (by omega), hF1 (136 + o) (by omega)]) e4 (fun q _ _ => by rw [hF2 269 (by omega), q269])
  have zDW : zDd t2 136 269 ∧ zWk t2 136 274 275 ∧ zB8 t2 275 := ⟨zD, jD.2.1.ff (by rw [hF2 138 (by omega), hF1 138 (by omega)]) (fun k hk => by rw [hF2 k (by omega), hF1 k (by omega)]) (by rw [hF2 274 (by omega), hF1 274 (by omega)]) (by rw [hF2 275 (by omega), hF1 275 (by omega)]), by unfold zB8; rw [hF2 275 (by omega), hF1 275 (by omega)]; exact jD.2.2⟩
  have zK : zKp t2 := fun h => by
    have y := (lR_K jr).2 (by omega)
    exact ⟨y.1.ff (fun o ho => by rw [hF2 (146 + o) (by omega), hF1 (146 + o) (by omega)]) e4 (fun q _ _ => by rw [hF2 271 (by omega), hF1 271 (by omega)]), y.2.ff (by rw [hF2 148 (by omega), hF1 148 (by omega)]) (fun k hk => by rw [hF2 k (by omega), hF1 k (by omega)]) (by rw [hF2 308 (by omega), hF1 308 (by omega)]) (by rw [hF2 309 (by omega), hF1 309 (by omega)])⟩
  have zKK : zB8 t2 309 ∧ zKp t2 := ⟨(by unfold zB8; rw [hF2 309 (by omega), hF1 309 (by omega)]; exact (lR_K jr).1), zK⟩
  have zIS : IS t2 := IS_f (fun k hk => hF2 k (by unfold suIS at hk; omega)) (IS_f (fun k hk => hF1 k (by unfold suIS at hk; omega)) (lR_S jr))
  have zIQ : IQ t2 := IQ_f (fun k hk => hF2 k (by unfold suIQ at hk; omega)) (IQ_f (fun k hk => hF1 k (by unfold suIQ at hk; omega)) (lR_I jr))
  have zG : zSg t2 := (lR_G jr).f (fun k hk => by rw [hF2 k (by omega), hF1 k (by omega)])
  have z48 : t2 268 48 = -1 := by omega
  have hJ : lJ t2 (n + 1) := ⟨jC2, hI2.1, hI2.2.1, hI2.2.2.1, j02, ⟨by omega, by omega⟩, ⟨⟨u6, u7⟩, zBB, zL, zM, zDW, zKK, zIS, zIQ, zG, z48⟩⟩
  refine lv_pop hx hb dL_law_211 rfl ?_
  refine lv_goto (tgt := 990) hx hb dL_law_212 (by decide) ?_
  refine W.widen (k := cells + 1) (n := slots + 60) (by omega) (by omega) ?_
  exact kk H locs t2 hJ hW
theorem l_1 {p : Program} {e : Env} {s : State} {m : MethodId} {below : List Frame} {meth : Method} {c : Code} {l : Launch} {b h0 L : Nat} {xs : Nat → Int32} {D : va_G} {g : xG} {T : Nat × Nat × Nat} {H : Heap} {locs : List Loc} {ls : Array Slot} {cells slots : Nat} {Q : State → Prop} {σ : xS} {n : Nat} {i : Int} (hx : p.tables.exec = Jvm.exec) (hb : c.code = cL_law) (hml : c.maxLocals = 4) (hown : s.vm.findClass "ShadowCourtLaw" = some m.cls) (hT : ∀ w ∈ xTB, w.before #[Value.ref b] s = true) (hE : xE D g T h0 s) (hX : va_X b L xs s s.heap) (hbl : b < s.heap.size) (eh : h0 = s.heap.size) (hW : xW D g h0 s H locs σ) (hl : lv_has ls 4 [(3, .int (xJ i)), (2, .ref (h0 + 268)), (1, .ref (h0 + 0)), (0, .ref b)]) (hcs : cells ≤ 600000 ∧ slots ≤ 7302250) (hcs1 : cells + 1 ≤ 600000 ∧ slots + 60 ≤ 7302250) (hJ : lJ σ n) (hn : n ≤ 512) (hi : 0 ≤ i ∧ i + 5 < (L : Int) ∧ L ≤ 3072)
    (kk : ∀ (H : Heap) (locs : List Loc) (τ : xS), lJ τ (n + 1) → xW D g h0 s H locs τ → W p l e room_1 s m #[Value.ref b] below meth c H locs (cells + 1) (slots + 60) Q (F0 m 990 ls [])) : W p l e room_1 s m #[Value.ref b] below meth c H locs cells slots Q (F0 m 215 ls []) := by
  obtain ⟨jC, jn, jk, jo, j0, jz, jr⟩ := hJ
  obtain ⟨a1, e1, r1⟩ := xJ_ex (xs (i + 1).toNat)
  refine x_aload_n hx hb hl 2 rfl dL_law_215 rfl ?_
  refine x_aload_n hx hb hl 3 rfl dL_law_216 rfl ?_
  refine x_iload_n hx hb hl 0 rfl dL_law_217 rfl ?_
  refine x_iconst hx hb dL_law_218 ?_
  refine x_iadd hx hb dL_law_219 ?_
  refine l_sld hx hb hX hbl eh hW (by omega) (by omega) e1 dL_law_220 ?_
  refine x_goi (x_runV (As := [.int (xJ a1)]) hx hb hml hown hT hE hW hl.1 (Or.inl (by decide)) (so_0 h0 g _) rfl cf_X10_market wq558 wq559 wq557 (c_X10_marketF l D g T h0 σ hW.2.1 a1 r1 jC (lR_S jr) (lR_I jr)) ⟨rfl, rfl, ⟨by decide, by decide⟩, hcs⟩ rfl rfl (Nat.le_of_ble_eq_true rfl) dL_law_221) hW (fun q1 t1 H locs rq1 hp hW => ?_)
  obtain ⟨hF1, hI1, hp1⟩ := hp
  have jC1 := hI1.1
  have jn1 : IMn t1 := IMn_f (fun k hk => hF1 k (by unfold suIMn at hk; omega)) jn
  have jk1 : IMk t1 := IMk_f (fun k hk => hF1 k (by unfold suIMk at hk; omega)) jk
  have jo1 : IMo t1 := IMo_f (fun k hk => hF1 k (by unfold suIMo at hk; omega)) jo
  have j01 : t1 0 11 = 0 ∨ t1 0 11 = 1 := by omega
  have jz1 : t1 999996 0 = σ 999996 0 := by rw [hF1 999996 (by omega)]
  refine lv_pop hx hb dL_law_224 rfl ?_
  refine x_aload_n hx hb hl 1 rfl dL_law_225 rfl ?_
  refine b_pc (pc1 := 226) rfl ?_
  refine x_aload_n hx hb hl 3 rfl dL_law_226 rfl ?_
  refine x_iload_n hx hb hl 0 rfl dL_law_227 rfl ?_
  refine x_iconst hx hb dL_law_228 ?_
  refine x_iadd hx hb dL_law_229 ?_
  refine l_sld hx hb hX hbl eh hW (by omega) (by omega) e1 dL_law_230 ?_
  refine x_goi (x_runV (As := [.int (xJ a1)]) hx hb hml hown hT hE hW hl.1 (Or.inl (by decide)) (so_268 h0 g _) rfl cf_X11_market wq1379 wq1380 wq1378 (c_X11_marketF l D g T h0 t1 hW.2.1 a1 r1 (by rw [hF1 269 (by omega)]; exact (lR_D jr).1.2.2.2.1) (by rw [hF1 269 (by omega)]; exact (lR_D jr).1.2.2.2.2.1) jn1 jk1 jo1) ⟨rfl, rfl, ⟨by decide, by decide⟩, hcs⟩ rfl rfl (Nat.le_of_ble_eq_true rfl) dL_law_231) hW (fun q2 t2 H locs rq2 hp hW => ?_)
  obtain ⟨hF2, hI2, hp2⟩ := hp
  have jC2 : IC t2 := IC_f (fun k hk => hF2 k (by unfold suIC at hk; omega)) jC1
  have j02 : t2 0 11 = 0 ∨ t2 0 11 = 1 := by rw [hF2 0 (by omega)]; exact j01
  have jz2 : t2 999996 0 = t1 999996 0 := by rw [hF2 999996 (by omega)]
  have u1 : t2 1 1 = t1 1 1 := by rw [hF2 1 (by omega)]
  have u2 : t1 268 8 = σ 268 8 := by rw [hF1 268 (by omega)]
  have u0 : σ 1 1 = σ 268 8 := jr.1.1
  have u6 : t2 1 1 = t2 268 8 := by omega
  have u7 : t2 2 = xm8 (t2 276) ∧ xb8 (t2 276) := by rw [hF2 2 (by omega), hF1 2 (by omega), hF2 276 (by omega), hF1 276 (by omega)]; exact jr.1.2
  have w11b : t2 0 11 = t1 0 11 := by rw [hF2 0 (by omega)]
  have w58a : t1 268 58 = σ 268 58 := by rw [hF1 268 (by omega)]
  have w17a : t1 268 17 = σ 268 17 := by rw [hF1 268 (by omega)]
  have w17b : t2 268 17 = t1 268 17 := hI2.2.2.2.2.1
  have w48a : t1 268 48 = σ 268 48 := by rw [hF1 268 (by omega)]
  have w48b : t2 268 48 = t1 268 48 := hI2.2.2.2.2.2.1
  have w34a : t1 269 34 = σ 269 34 := by rw [hF1 269 (by omega)]
  have j48 := lR_48 jr
  have jb58 := (lR_B jr).2.2
  have jD := lR_D jr
  have jBt : zBt (σ 269) := jD.1.2.2.2
  have q269 : t1 269 = σ 269 := hF1 269 (by omega)
  have f5 : t1 288 = σ 5 := by rw [hF1 288 (by omega)]; exact (lR_B jr).1.1.symm
  have f2 : xm8 (t1 276) = σ 2 := by rw [hF1 276 (by omega)]; exact jr.1.2.1.symm
  have f4 : t1 272 = σ 272 := hF1 272 (by omega)
  rw [f5, f2, f4] at hp2
  have kz : zk3 (zMk (σ 2) a1 (σ 5)).2.2 := zk3_Mk (lR_B jr).1.2
  have e5 : t2 5 = t1 5 := hF2 5 (by omega)
  have e4 : t2 4 = t1 4 := hF2 4 (by omega)
  have e129 : t2 129 = t1 129 := hF2 129 (by omega)
  have y136 : zYc t2 136 = zYc t1 136 := zYc_f (fun o ho => hF2 (136 + o) (by omega))
  have q273 : t1 273 = σ 273 := hF1 273 (by omega)
  have kk9 : ((t2 5 = t2 288 ∧ zk3 (t2 5)) ∧ (∀ j, 0 ≤ j → j < 100 → t2 4 j = t2 272 j ∧ 0 ≤ t2 4 j ∧ t2 4 j ≤ 3) ∧ t2 0 11 = t2 268 58) ∧ zDd t2 136 269 ∧ zLm t2 ∧ (t2 0 11 = 0 ∨ (t2 0 11 = σ 0 11 ∧ t2 4 = σ 4)) := by
    rcases hp1 with ⟨g1, g2, g3, g4, g5, g6, g7, g8⟩ | ⟨g1, g2, g4, g⟩
    · rcases hp2 with ⟨h1, h2, h3, h4, h5, h6, h7, h8⟩ | ⟨h1, h2, h4, h⟩
      · refine ⟨⟨?_, ?_, by omega⟩, ?_, ?_, Or.inr ⟨by omega, e4.trans g5⟩⟩
        · rw [e5, g4, h4]; exact ⟨rfl, (lR_B jr).1.2⟩
        · rw [e4, g5, h5]; exact (lR_B jr).2.1
        · exact zDd.up (y136.trans g7) (Z2 := zYN (σ 269) 0 0 0) (by rw [h7, q269]) jD.1.1 jD.1.2.1 (by rw [e4, g5]; exact jD.1.2.2.1) (by rw [h7, q269]; exact jBt)
        · exact (lR_M jr).ff (e129.trans g8) (h8.trans q273)
      · exact absurd g1 (by omega)
    · rcases hp2 with ⟨h1, h2, h3, h4, h5, h6, h7, h8⟩ | ⟨h1, h2, h4, h⟩
      · exact absurd h1 (by omega)
      · rcases g with ⟨c1, c2, c3, c4, c5, c6⟩ | ⟨c1, c2, c3, c4, c5, c6⟩
        · rcases h with ⟨b1, b2, b3, b4, b5, b6⟩ | ⟨b1, b2, b3, b4, b5, b6, b7⟩
          · refine ⟨⟨?_, ?_, by omega⟩, ?_, ?_, Or.inr ⟨by omega, e4.trans c3⟩⟩
            · rw [e5, g4, h4]; exact ⟨rfl, kz⟩
            · rw [e4, c3, b3]; exact (lR_B jr).2.1
            · exact zDd.up (y136.trans c5) (Z2 := zYN (σ 269) 0 0 0) (by rw [b5, q269]) jD.1.1 jD.1.2.1 (by rw [e4, c3]; exact jD.1.2.2.1) (by rw [b5, q269]; exact jBt)
            · exact (lR_M jr).ff (e129.trans c6) (b6.trans q273)
          · exact absurd b1 c1
        · rcases h with ⟨b1, b2, b3, b4, b5, b6⟩ | ⟨b1, b2, b3, b4, b5, b6, b7⟩
          · exact absurd c1 b1
          · rw [q269] at b5 b6
            rw [q273] at b7
            have kz2 : ∀ t : Int, 0 ≤ t → t < 100 → t2 4 t = (zMk (σ 2) a1 (σ 5)).2.2 t ∧ 0 ≤ (zMk (σ 2) a1 (σ 5)).2.2 t ∧ (zMk (σ 2) a1 (σ 5)).2.2 t ≤ 3 := fun t t1 t2 => ⟨by rw [e4]; exact c2 t t1 t2, kz t⟩
            refine ⟨⟨?_, ?_, by omega⟩, ?_, ?_, Or.inl (by omega)⟩
            · rw [e5, g4, h4]; exact ⟨rfl, kz⟩
            · exact fun j j1 j2 => by rw [e4, c2 j j1 j2, b2 j j1 j2]; exact ⟨rfl, kz j⟩
            · exact jD.1.market (Z := (zMk (σ 2) a1 (σ 5)).2.2) (by rw [y136, e4]; exact c5) b5 kz2 ⟨b6.1, b6.2.1, by rw [b6.2.2]; exact jBt.2.2⟩
            · exact (lR_M jr).market (Z := (zMk (σ 2) a1 (σ 5)).2.2) (fun i i1 i2 => by rw [e129, e4]; exact c6 i i1 i2) b7 kz2
  have zBB := kk9.1
  have zD := kk9.2.1
  have zM := kk9.2.2.1
  have zK : zKp t2 := fun h => by
    have z := kk9.2.2.2.resolve_left h
    have y := (lR_K jr).2 (by rw [← z.1]; exact h)
    exact ⟨y.1.ff (fun o ho => by rw [hF2 (146 + o) (by omega), hF1 (146 + o) (by omega)]) z.2 (fun q a b => by rw [hF2 271 (by omega), hF1 271 (by omega)]), y.2.ff (by rw [hF2 148 (by omega), hF1 148 (by omega)]) (fun k hk => by rw [hF2 k (by omega), hF1 k (by omega)]) (by rw [hF2 308 (by omega), hF1 308 (by omega)]) (by rw [hF2 309 (by omega), hF1 309 (by omega)])⟩
  have zL : zLx t2 := (lR_L jr).ff (fun k hk => by rw [hF2 k (by omega), hF1 k (by omega)]) (by omega)
  have zDW : zDd t2 136 269 ∧ zWk t2 136 274 275 ∧ zB8 t2 275 := ⟨zD, jD.2.1.ff (by rw [hF2 138 (by omega), hF1 138 (by omega)]) (fun k hk => by rw [hF2 k (by omega), hF1 k (by omega)]) (by rw [hF2 274 (by omega), hF1 274 (by omega)]) (by rw [hF2 275 (by omega), hF1 275 (by omega)]), by unfold zB8; rw [hF2 275 (by omega), hF1 275 (by omega)]; exact jD.2.2⟩
  have zKK : zB8 t2 309 ∧ zKp t2 := ⟨(by unfold zB8; rw [hF2 309 (by omega), hF1 309 (by omega)]; exact (lR_K jr).1), zK⟩
  have zIS : IS t2 := IS_f (fun k hk => hF2 k (by unfold suIS at hk; omega)) hI1.2.1
  have zIQ : IQ t2 := IQ_f (fun k hk => hF2 k (by unfold suIQ at hk; omega)) hI1.2.2.1
  have zG : zSg t2 := (lR_G jr).f (fun k hk => by rw [hF2 k (by omega), hF1 k (by omega)])
  have z48 : t2 268 48 = -1 := by omega
  have hJ : lJ t2 (n + 1) := ⟨jC2, hI2.1, hI2.2.1, hI2.2.2.1, j02, ⟨by omega, by omega⟩, ⟨⟨u6, u7⟩, zBB, zL, zM, zDW, zKK, zIS, zIQ, zG, z48⟩⟩
  refine lv_pop hx hb dL_law_234 rfl ?_
  refine lv_goto (tgt := 990) hx hb dL_law_235 (by decide) ?_
  refine W.widen (k := cells + 1) (n := slots + 60) (by omega) (by omega) ?_
  exact kk H locs t2 hJ hW
theorem l_2 {p : Program} {e : Env} {s : State} {m : MethodId} {below : List Frame} {meth : Method} {c : Code} {l : Launch} {b h0 L : Nat} {xs : Nat → Int32} {D : va_G} {g : xG} {T : Nat × Nat × Nat} {H : Heap} {locs : List Loc} {ls : Array Slot} {cells slots : Nat} {Q : State → Prop} {σ : xS} {n : Nat} {i : Int} (hx : p.tables.exec = Jvm.exec) (hb : c.code = cL_law) (hml : c.maxLocals = 4) (hown : s.vm.findClass "ShadowCourtLaw" = some m.cls) (hT : ∀ w ∈ xTB, w.before #[Value.ref b] s = true) (hE : xE D g T h0 s) (hX : va_X b L xs s s.heap) (hbl : b < s.heap.size) (eh : h0 = s.heap.size) (hW : xW D g h0 s H locs σ) (hl : lv_has ls 4 [(3, .int (xJ i)), (2, .ref (h0 + 268)), (1, .ref (h0 + 0)), (0, .ref b)]) (hcs : cells ≤ 600000 ∧ slots ≤ 7302250) (hcs1 : cells + 1 ≤ 600000 ∧ slots + 60 ≤ 7302250) (hJ : lJ σ n) (hn : n ≤ 512) (hi : 0 ≤ i ∧ i + 5 < (L : Int) ∧ L ≤ 3072)
    (kk : ∀ (H : Heap) (locs : List Loc) (τ : xS), lJ τ (n + 1) → xW D g h0 s H locs τ → W p l e room_1 s m #[Value.ref b] below meth c H locs (cells + 1) (slots + 60) Q (F0 m 990 ls [])) : W p l e room_1 s m #[Value.ref b] below meth c H locs cells slots Q (F0 m 238 ls []) := by
  obtain ⟨jC, jn, jk, jo, j0, jz, jr⟩ := hJ
  obtain ⟨a1, e1, r1⟩ := xJ_ex (xs (i + 1).toNat)
  refine x_aload_n hx hb hl 2 rfl dL_law_238 rfl ?_
  refine x_aload_n hx hb hl 3 rfl dL_law_239 rfl ?_
  refine x_iload_n hx hb hl 0 rfl dL_law_240 rfl ?_
  refine x_iconst hx hb dL_law_241 ?_
  refine x_iadd hx hb dL_law_242 ?_
  refine l_sld hx hb hX hbl eh hW (by omega) (by omega) e1 dL_law_243 ?_
  refine x_goi (x_runV (As := [.int (xJ a1)]) hx hb hml hown hT hE hW hl.1 (Or.inl (by decide)) (so_0 h0 g _) rfl cf_X10_law wq630 wq631 wq629 (c_X10_lawK l D g T h0 σ hW.2.1 a1 r1 (σ 277) (σ 279) (σ 280) (σ 281) (σ 282) jC) ⟨rfl, rfl, ⟨by decide, by decide⟩, hcs⟩ rfl rfl (Nat.le_of_ble_eq_true rfl) dL_law_244) hW (fun q1 t1 H locs rq1 hp hW => ?_)
  obtain ⟨hF1, hI1, hp1⟩ := hp
  have jC1 := hI1.1
  have jn1 : IMn t1 := IMn_f (fun k hk => hF1 k (by unfold suIMn at hk; omega)) jn
  have jk1 : IMk t1 := IMk_f (fun k hk => hF1 k (by unfold suIMk at hk; omega)) jk
  have jo1 : IMo t1 := IMo_f (fun k hk => hF1 k (by unfold suIMo at hk; omega)) jo
  have j01 : t1 0 11 = 0 ∨ t1 0 11 = 1 := by rw [hF1 0 (by omega)]; exact j0
  have jz1 : t1 999996 0 = σ 999996 0 := by rw [hF1 999996 (by omega)]
  refine lv_pop hx hb dL_law_247 rfl ?_
  refine x_aload_n hx hb hl 1 rfl dL_law_248 rfl ?_
  refine b_pc (pc1 := 249) rfl ?_
  refine x_aload_n hx hb hl 3 rfl dL_law_249 rfl ?_
  refine x_iload_n hx hb hl 0 rfl dL_law_250 rfl ?_
  refine x_iconst hx hb dL_law_251 ?_
  refine x_iadd hx hb dL_law_252 ?_
  refine l_sld hx hb hX hbl eh hW (by omega) (by omega) e1 dL_law_253 ?_
  refine x_goi (x_runV (As := [.int (xJ a1)]) hx hb hml hown hT hE hW hl.1 (Or.inl (by decide)) (so_268 h0 g _) rfl cf_X11_law wq1460 wq1461 wq1459 (c_X11_lawK l D g T h0 t1 hW.2.1 a1 r1 jn1 jk1 jo1) ⟨rfl, rfl, ⟨by decide, by decide⟩, hcs⟩ rfl rfl (Nat.le_of_ble_eq_true rfl) dL_law_254) hW (fun q2 t2 H locs rq2 hp hW => ?_)
  obtain ⟨hF2, hI2, hp2⟩ := hp
  have jC2 : IC t2 := IC_f (fun k hk => hF2 k (by unfold suIC at hk; omega)) jC1
  have j02 : t2 0 11 = 0 ∨ t2 0 11 = 1 := by rw [hF2 0 (by omega)]; exact j01
  have jz2 : t2 999996 0 = t1 999996 0 := by rw [hF2 999996 (by omega)]
  have k1 := hp1.imp (fun q => And.intro q.1 q.2.1) (fun q => And.intro q.1 q.2.1)
  have k2 := hp2.imp (fun q => And.intro q.1 q.2.1) (fun q => And.intro q.1 q.2.1)
  have g1 := fun (_ : Unit) => hp1
  have g2 := fun (_ : Unit) => hp2
  clear hp1 hp2
  have u1 : t2 1 1 = t1 1 1 := by rw [hF2 1 (by omega)]
  have u2 : t1 268 8 = σ 268 8 := by rw [hF1 268 (by omega)]
  have u0 : σ 1 1 = σ 268 8 := jr.1.1
  have u6 : t2 1 1 = t2 268 8 := by omega
  have u7 : t2 2 = xm8 (t2 276) ∧ xb8 (t2 276) := by rw [hF2 2 (by omega), hF1 2 (by omega), hF2 276 (by omega), hF1 276 (by omega)]; exact jr.1.2
  have w11a : t1 0 11 = σ 0 11 := by rw [hF1 0 (by omega)]
  have w11b : t2 0 11 = t1 0 11 := by rw [hF2 0 (by omega)]
  have w58a : t1 268 58 = σ 268 58 := by rw [hF1 268 (by omega)]
  have w58b : t2 268 58 = t1 268 58 := hI2.2.2.2.1
  have w17a : t1 268 17 = σ 268 17 := by rw [hF1 268 (by omega)]
  have w48a : t1 268 48 = σ 268 48 := by rw [hF1 268 (by omega)]
  have w48b : t2 268 48 = t1 268 48 := hI2.2.2.2.2.1
  have w34a : t1 269 34 = σ 269 34 := by rw [hF1 269 (by omega)]
  have w34b : t2 269 34 = t1 269 34 := by rw [hF2 269 (by omega)]
  have j48 := lR_48 jr
  have jb58 := (lR_B jr).2.2
  have jD := lR_D jr
  have jBt : zBt (σ 269) := jD.1.2.2.2
  have q269 : t1 269 = σ 269 := hF1 269 (by omega)
  have zBB : (t2 5 = t2 288 ∧ zk3 (t2 5)) ∧ (∀ j : Int, 0 ≤ j → j < 100 → t2 4 j = t2 272 j ∧ 0 ≤ t2 4 j ∧ t2 4 j ≤ 3) ∧ t2 0 11 = t2 268 58 := ⟨by rw [hF2 5 (by omega), hF1 5 (by omega), hF2 288 (by omega), hF1 288 (by omega)]; exact (lR_B jr).1, by rw [hF2 4 (by omega), hF1 4 (by omega), hF2 272 (by omega), hF1 272 (by omega)]; exact (lR_B jr).2.1, by omega⟩
  have e4 : t2 4 = σ 4 := by rw [hF2 4 (by omega), hF1 4 (by omega)]
  have e276 : t1 276 = σ 276 := hF1 276 (by omega)
  have zL : zLx t2 := by
    have e2 : σ 2 = xm8 (σ 276) := jr.1.2.1
    have fl : (t1 110 = σ 110 ∧ t1 111 = σ 111 ∧ t1 112 = σ 112 ∧ t1 113 = σ 113 ∧ t1 114 = σ 114) → t1 109 2 = σ 109 2 → t1 109 6 = σ 109 6 → (t2 283 = t1 283 ∧ t2 284 = t1 284 ∧ t2 285 = t1 285 ∧ t2 286 = t1 286 ∧ t2 287 = t1 287 ∧ t2 268 17 = t1 268 17) → zLx t2 := fun a a2 a6 b => by
      have q : zQs t2 = zQs σ := by
        unfold zQs
        rw [b.1, b.2.1, b.2.2.1, b.2.2.2.1, b.2.2.2.2.1, b.2.2.2.2.2, hF1 283 (by omega), hF1 284 (by omega), hF1 285 (by omega), hF1 286 (by omega), hF1 287 (by omega), hF1 268 (by omega)]
      have z := (lR_L jr).2
      unfold zLx
      rw [q]
      refine ⟨(lR_L jr).1, ?_⟩
      unfold zLD at z ⊢
      rw [hF2 109 (by omega), hF2 110 (by omega), hF2 111 (by omega), hF2 112 (by omega), hF2 113 (by omega), hF2 114 (by omega), a.1, a.2.1, a.2.2.1, a.2.2.2.1, a.2.2.2.2, a2, a6]
      exact z
    rcases g1 () with g | ⟨y0, _, g⟩
    · rcases g2 () with f | ⟨f0, _, f⟩
      · exact fl g.2.2.2.1 g.2.2.2.2.1 g.2.2.2.2.2 f.2.2.2
      · exact absurd g.1 (by clear f; omega)
    · rcases g2 () with f | ⟨f0, _, f⟩
      · exact absurd f.1 (by clear g; omega)
      · rw [e2] at g
        rw [e276, hF1 277 (by omega), hF1 279 (by omega), hF1 280 (by omega), hF1 281 (by omega), hF1 282 (by omega)] at f
        rcases g with g | ⟨M, c, C, L, A, B, T, eg, r, g6, g2, gk⟩
        · rcases f with f | ⟨M', c', C', L', A', B', T', ef, r', _⟩
          · exact fl g.2.2.1 g.2.2.2.1 g.2.2.2.2 f.2.2
          · exact absurd (congrArg Prod.fst ef) g.1
        · rcases f with f | ⟨M', c', C', L', A', B', T', ef, r', f17, fC, fq⟩
          · exact absurd (congrArg Prod.fst eg) f.1
          · have z := eg.symm.trans ef
            simp only [Prod.mk.injEq] at z
            obtain ⟨_, rfl, rfl, rfl, rfl, rfl, rfl, rfl⟩ := z
            have hn : 0 ≤ a1 ∧ a1 ≤ 240 := by clear ef eg; omega
            refine zLx.new hn eg (by rw [hF2 109 (by omega)]; exact g6) (by rw [hF2 109 (by omega)]; exact g2) ?_ f17 fC fq
            rw [hF2 110 (by omega), hF2 111 (by omega), hF2 112 (by omega), hF2 113 (by omega), hF2 114 (by omega)]
            exact gk
  have zM : zLm t2 := (lR_M jr).ff (by rw [hF2 129 (by omega), hF1 129 (by omega)]) (by rw [hF2 273 (by omega), hF1 273 (by omega)])
  have zD : zDd t2 136 269 := jD.1.ff (fun o ho => by rw [hF2 (136 + o) (by omega), hF1 (136 + o) (by omega)]) e4 (fun q _ _ => by rw [hF2 269 (by omega), q269])
  have zDW : zDd t2 136 269 ∧ zWk t2 136 274 275 ∧ zB8 t2 275 := ⟨zD, jD.2.1.ff (by rw [hF2 138 (by omega), hF1 138 (by omega)]) (fun k hk => by rw [hF2 k (by omega), hF1 k (by omega)]) (by rw [hF2 274 (by omega), hF1 274 (by omega)]) (by rw [hF2 275 (by omega), hF1 275 (by omega)]), by unfold zB8; rw [hF2 275 (by omega), hF1 275 (by omega)]; exact jD.2.2⟩
  have zK : zKp t2 := fun h => by
    have y := (lR_K jr).2 (by omega)
    exact ⟨y.1.ff (fun o ho => by rw [hF2 (146 + o) (by omega), hF1 (146 + o) (by omega)]) e4 (fun q _ _ => by rw [hF2 271 (by omega), hF1 271 (by omega)]), y.2.ff (by rw [hF2 148 (by omega), hF1 148 (by omega)]) (fun k hk => by rw [hF2 k (by omega), hF1 k (by omega)]) (by rw [hF2 308 (by omega), hF1 308 (by omega)]) (by rw [hF2 309 (by omega), hF1 309 (by omega)])⟩
  have zKK : zB8 t2 309 ∧ zKp t2 := ⟨(by unfold zB8; rw [hF2 309 (by omega), hF1 309 (by omega)]; exact (lR_K jr).1), zK⟩
  have zIS : IS t2 := IS_f (fun k hk => hF2 k (by unfold suIS at hk; omega)) (IS_f (fun k hk => hF1 k (by unfold suIS at hk; omega)) (lR_S jr))
  have zIQ : IQ t2 := IQ_f (fun k hk => hF2 k (by unfold suIQ at hk; omega)) (IQ_f (fun k hk => hF1 k (by unfold suIQ at hk; omega)) (lR_I jr))
  have zG : zSg t2 := (lR_G jr).f (fun k hk => by rw [hF2 k (by omega), hF1 k (by omega)])
  have z48 : t2 268 48 = -1 := by omega
  have hJ : lJ t2 (n + 1) := ⟨jC2, hI2.1, hI2.2.1, hI2.2.2.1, j02, ⟨by omega, by omega⟩, ⟨⟨u6, u7⟩, zBB, zL, zM, zDW, zKK, zIS, zIQ, zG, z48⟩⟩
  refine lv_pop hx hb dL_law_257 rfl ?_
  refine lv_goto (tgt := 990) hx hb dL_law_258 (by decide) ?_
  refine W.widen (k := cells + 1) (n := slots + 60) (by omega) (by omega) ?_
  exact kk H locs t2 hJ hW
theorem l_3 {p : Program} {e : Env} {s : State} {m : MethodId} {below : List Frame} {meth : Method} {c : Code} {l : Launch} {b h0 L : Nat} {xs : Nat → Int32} {D : va_G} {g : xG} {T : Nat × Nat × Nat} {H : Heap} {locs : List Loc} {ls : Array Slot} {cells slots : Nat} {Q : State → Prop} {σ : xS} {n : Nat} {i : Int} (hx : p.tables.exec = Jvm.exec) (hb : c.code = cL_law) (hml : c.maxLocals = 4) (hown : s.vm.findClass "ShadowCourtLaw" = some m.cls) (hT : ∀ w ∈ xTB, w.before #[Value.ref b] s = true) (hE : xE D g T h0 s) (hX : va_X b L xs s s.heap) (hbl : b < s.heap.size) (eh : h0 = s.heap.size) (hW : xW D g h0 s H locs σ) (hl : lv_has ls 4 [(3, .int (xJ i)), (2, .ref (h0 + 268)), (1, .ref (h0 + 0)), (0, .ref b)]) (hcs : cells ≤ 600000 ∧ slots ≤ 7302250) (hcs1 : cells + 1 ≤ 600000 ∧ slots + 60 ≤ 7302250) (hJ : lJ σ n) (hn : n ≤ 512) (hi : 0 ≤ i ∧ i + 5 < (L : Int) ∧ L ≤ 3072)
    (kk : ∀ (H : Heap) (locs : List Loc) (τ : xS), lJ τ (n + 1) → xW D g h0 s H locs τ → W p l e room_1 s m #[Value.ref b] below meth c H locs (cells + 1) (slots + 60) Q (F0 m 990 ls [])) : W p l e room_1 s m #[Value.ref b] below meth c H locs cells slots Q (F0 m 261 ls []) := by
  obtain ⟨jC, jn, jk, jo, j0, jz, jr⟩ := hJ
  obtain ⟨a1, e1, r1⟩ := xJ_ex (xs (i + 1).toNat)
  obtain ⟨a2, e2, r2⟩ := xJ_ex (xs (i + 2).toNat)
  obtain ⟨a3, e3, r3⟩ := xJ_ex (xs (i + 3).toNat)
  refine x_aload_n hx hb hl 2 rfl dL_law_261 rfl ?_
  refine x_aload_n hx hb hl 3 rfl dL_law_262 rfl ?_
  refine x_iload_n hx hb hl 0 rfl dL_law_263 rfl ?_
  refine x_iconst hx hb dL_law_264 ?_
  refine x_iadd hx hb dL_law_265 ?_
  refine l_sld hx hb hX hbl eh hW (by omega) (by omega) e1 dL_law_266 ?_
  refine x_aload_n hx hb hl 3 rfl dL_law_267 rfl ?_
  refine x_iload_n hx hb hl 0 rfl dL_law_268 rfl ?_
  refine x_iconst hx hb dL_law_269 ?_
  refine b_pc (pc1 := 270) rfl ?_
  refine x_iadd hx hb dL_law_270 ?_
  refine l_sld hx hb hX hbl eh hW (by omega) (by omega) e2 dL_law_271 ?_
  refine x_aload_n hx hb hl 3 rfl dL_law_272 rfl ?_
  refine x_iload_n hx hb hl 0 rfl dL_law_273 rfl ?_
  refine x_iconst hx hb dL_law_274 ?_
  refine x_iadd hx hb dL_law_275 ?_
  refine l_sld hx hb hX hbl eh hW (by omega) (by omega) e3 dL_law_276 ?_
  refine x_goi (x_runV (As := [.int (xJ a1), .int (xJ a2), .int (xJ a3)]) hx hb hml hown hT hE hW hl.1 (Or.inl (by decide)) (so_0 h0 g _) rfl cf_X10_judge wq700 wq701 wq699 (c_X10_judgeF l D g T h0 σ hW.2.1 a1 r1 a2 r2 a3 r3 jC) ⟨rfl, rfl, ⟨by decide, by decide⟩, hcs⟩ rfl rfl (Nat.le_of_ble_eq_true rfl) dL_law_277) hW (fun q1 t1 H locs rq1 hp hW => ?_)
  obtain ⟨hF1, hI1, hp1⟩ := hp
  have jC1 := hI1.1
  have jn1 : IMn t1 := IMn_f (fun k hk => hF1 k (by unfold suIMn at hk; omega)) jn
  have jk1 : IMk t1 := IMk_f (fun k hk => hF1 k (by unfold suIMk at hk; omega)) jk
  have jo1 : IMo t1 := IMo_f (fun k hk => hF1 k (by unfold suIMo at hk; omega)) jo
  have j01 : t1 0 11 = 0 ∨ t1 0 11 = 1 := by rw [hF1 0 (by omega)]; exact j0
  have jz1 : t1 999996 0 = σ 999996 0 := by rw [hF1 999996 (by omega)]
  refine lv_pop hx hb dL_law_280 rfl ?_
  refine x_aload_n hx hb hl 1 rfl dL_law_281 rfl ?_
  refine b_pc (pc1 := 282) rfl ?_
  refine x_aload_n hx hb hl 3 rfl dL_law_282 rfl ?_
  refine x_iload_n hx hb hl 0 rfl dL_law_283 rfl ?_
  refine x_iconst hx hb dL_law_284 ?_
  refine x_iadd hx hb dL_law_285 ?_
  refine l_sld hx hb hX hbl eh hW (by omega) (by omega) e1 dL_law_286 ?_
  refine x_aload_n hx hb hl 3 rfl dL_law_287 rfl ?_
  refine x_iload_n hx hb hl 0 rfl dL_law_288 rfl ?_
  refine x_iconst hx hb dL_law_289 ?_
  refine x_iadd hx hb dL_law_290 ?_
  refine l_sld hx hb hX hbl eh hW (by omega) (by omega) e2 dL_law_291 ?_
  refine b_pc (pc1 := 292) rfl ?_
  refine x_aload_n hx hb hl 3 rfl dL_law_292 rfl ?_
  refine x_iload_n hx hb hl 0 rfl dL_law_293 rfl ?_
  refine x_iconst hx hb dL_law_294 ?_
  refine x_iadd hx hb dL_law_295 ?_
  refine l_sld hx hb hX hbl eh hW (by omega) (by omega) e3 dL_law_296 ?_
  refine x_goi (x_runV (As := [.int (xJ a1), .int (xJ a2), .int (xJ a3)]) hx hb hml hown hT hE hW hl.1 (Or.inl (by decide)) (so_268 h0 g _) rfl cf_X11_judge wq1426 wq1427 wq1425 (c_X11_judgeJ l D g T h0 t1 hW.2.1 a1 r1 a2 r2 a3 r3 (by rw [hF1 269 (by omega)]; exact (lR_D jr).1.2.2.2.1) jn1 jk1 jo1) ⟨rfl, rfl, ⟨by decide, by decide⟩, hcs⟩ rfl rfl (Nat.le_of_ble_eq_true rfl) dL_law_297) hW (fun q2 t2 H locs rq2 hp hW => ?_)
  obtain ⟨hF2, hI2, hp2⟩ := hp
  have jC2 : IC t2 := IC_f (fun k hk => hF2 k (by unfold suIC at hk; omega)) jC1
  have j02 : t2 0 11 = 0 ∨ t2 0 11 = 1 := by rw [hF2 0 (by omega)]; exact j01
  have jz2 : t2 999996 0 = t1 999996 0 := by rw [hF2 999996 (by omega)]
  have u1 : t2 1 1 = t1 1 1 := by rw [hF2 1 (by omega)]
  have u2 : t1 268 8 = σ 268 8 := by rw [hF1 268 (by omega)]
  have u0 : σ 1 1 = σ 268 8 := jr.1.1
  have u3 : t1 1 1 = σ 1 1 := by rw [hF1 1 (by omega)]
  have u4 : t2 268 8 = t1 268 8 := by rw [hF2 268 (by omega)]
  have u6 : t2 1 1 = t2 268 8 := by omega
  have u7 : t2 2 = xm8 (t2 276) ∧ xb8 (t2 276) := by rw [hF2 2 (by omega), hF1 2 (by omega), hF2 276 (by omega), hF1 276 (by omega)]; exact jr.1.2
  have w11a : t1 0 11 = σ 0 11 := by rw [hF1 0 (by omega)]
  have w11b : t2 0 11 = t1 0 11 := by rw [hF2 0 (by omega)]
  have w58a : t1 268 58 = σ 268 58 := by rw [hF1 268 (by omega)]
  have w58b : t2 268 58 = t1 268 58 := by rw [hF2 268 (by omega)]
  have w17a : t1 268 17 = σ 268 17 := by rw [hF1 268 (by omega)]
  have w17b : t2 268 17 = t1 268 17 := by rw [hF2 268 (by omega)]
  have w48a : t1 268 48 = σ 268 48 := by rw [hF1 268 (by omega)]
  have w48b : t2 268 48 = t1 268 48 := by rw [hF2 268 (by omega)]
  have w34a : t1 269 34 = σ 269 34 := by rw [hF1 269 (by omega)]
  have j48 := lR_48 jr
  have jb58 := (lR_B jr).2.2
  have jD := lR_D jr
  have jBt : zBt (σ 269) := jD.1.2.2.2
  have q269 : t1 269 = σ 269 := hF1 269 (by omega)
  have zBB : (t2 5 = t2 288 ∧ zk3 (t2 5)) ∧ (∀ j : Int, 0 ≤ j → j < 100 → t2 4 j = t2 272 j ∧ 0 ≤ t2 4 j ∧ t2 4 j ≤ 3) ∧ t2 0 11 = t2 268 58 := ⟨by rw [hF2 5 (by omega), hF1 5 (by omega), hF2 288 (by omega), hF1 288 (by omega)]; exact (lR_B jr).1, by rw [hF2 4 (by omega), hF1 4 (by omega), hF2 272 (by omega), hF1 272 (by omega)]; exact (lR_B jr).2.1, by omega⟩
  have e4 : t2 4 = σ 4 := by rw [hF2 4 (by omega), hF1 4 (by omega)]
  have zL : zLx t2 := (lR_L jr).ff (fun k hk => by rw [hF2 k (by omega), hF1 k (by omega)]) (by omega)
  have zM : zLm t2 := (lR_M jr).ff (by rw [hF2 129 (by omega), hF1 129 (by omega)]) (by rw [hF2 273 (by omega), hF1 273 (by omega)])
  have y136 : zYc t2 136 = zYc t1 136 := (zYc_f (σ := t1) (τ := t2) (d := 136) (fun o ho => hF2 (136 + o) (by omega)))
  have w137 := (jD.1.jd jD.2.1 jD.2.2)
  rw [q269, hF1 272 (by omega)] at hp2
  have kd : 0 ≤ a2 → a2 < 10 → 0 ≤ a3 → a3 < 10 → σ 4 (10 * a3 + a2) = σ 272 (10 * a3 + a2) ∧ 0 ≤ σ 4 (10 * a3 + a2) ∧ σ 4 (10 * a3 + a2) ≤ 3 := fun z1 z2 z3 z4 => (lR_B jr).2.1 _ (by omega) (by omega)
  have w137o : 0 ≤ a1 ∧ a1 < 2 → σ 137 (1 - a1) = zrj (σ 269) (1 - a1) := fun h => (w137.at_ (j := 1 - a1) (by omega)).1
  have zDs : zDd t2 136 269 ∧ q1 = q2 := by
    rcases hp1 with ⟨g1, g2, g3⟩ | ⟨g1, g2, g3⟩
    · rcases hp2 with ⟨h1, h2, h3⟩ | ⟨h1, h2, h3⟩
      · exact ⟨jD.1.judge (x := 10 * a3 + a2) ⟨h2.1, h2.2.1⟩ ⟨g2.2.2.1.2.2.2.2.1, g2.2.2.1.2.2.2.2.2⟩ (by omega) h2.2.2.2 (y136.trans g3) h3 e4, by omega⟩
      · exfalso
        have z := w137o ⟨g2.1, g2.2.1⟩
        omega
    · rcases hp2 with ⟨h1, h2, h3⟩ | ⟨h1, h2, h3⟩
      · exfalso
        have z := w137o ⟨h2.1, h2.2.1⟩
        omega
      · exact ⟨zDd.up (y136.trans g3) (Z2 := zYN (σ 269) 0 0 0) (by rw [h3]) jD.1.1 jD.1.2.1 (by rw [e4]; exact jD.1.2.2.1) (by rw [h3]; exact jBt), by omega⟩
  have zD := zDs.1
  have zDW : zDd t2 136 269 ∧ zWk t2 136 274 275 ∧ zB8 t2 275 := ⟨zD, jD.2.1.ff (by rw [hF2 138 (by omega), hF1 138 (by omega)]) (fun k hk => by rw [hF2 k (by omega), hF1 k (by omega)]) (by rw [hF2 274 (by omega), hF1 274 (by omega)]) (by rw [hF2 275 (by omega), hF1 275 (by omega)]), by unfold zB8; rw [hF2 275 (by omega), hF1 275 (by omega)]; exact jD.2.2⟩
  have zK : zKp t2 := fun h => by
    have y := (lR_K jr).2 (by omega)
    exact ⟨y.1.ff (fun o ho => by rw [hF2 (146 + o) (by omega), hF1 (146 + o) (by omega)]) e4 (fun q _ _ => by rw [hF2 271 (by omega), hF1 271 (by omega)]), y.2.ff (by rw [hF2 148 (by omega), hF1 148 (by omega)]) (fun k hk => by rw [hF2 k (by omega), hF1 k (by omega)]) (by rw [hF2 308 (by omega), hF1 308 (by omega)]) (by rw [hF2 309 (by omega), hF1 309 (by omega)])⟩
  have zKK : zB8 t2 309 ∧ zKp t2 := ⟨(by unfold zB8; rw [hF2 309 (by omega), hF1 309 (by omega)]; exact (lR_K jr).1), zK⟩
  have zIS : IS t2 := IS_f (fun k hk => hF2 k (by unfold suIS at hk; omega)) (IS_f (fun k hk => hF1 k (by unfold suIS at hk; omega)) (lR_S jr))
  have zIQ : IQ t2 := IQ_f (fun k hk => hF2 k (by unfold suIQ at hk; omega)) (IQ_f (fun k hk => hF1 k (by unfold suIQ at hk; omega)) (lR_I jr))
  have zG : zSg t2 := (lR_G jr).f (fun k hk => by rw [hF2 k (by omega), hF1 k (by omega)])
  have z48 : t2 268 48 = -1 := by omega
  have hJ : lJ t2 (n + 1) := ⟨jC2, hI2.1, hI2.2.1, hI2.2.2.1, j02, ⟨by omega, by omega⟩, ⟨⟨u6, u7⟩, zBB, zL, zM, zDW, zKK, zIS, zIQ, zG, z48⟩⟩
  refine lv_pop hx hb dL_law_300 rfl ?_
  refine lv_goto (tgt := 990) hx hb dL_law_301 (by decide) ?_
  refine W.widen (k := cells + 1) (n := slots + 60) (by omega) (by omega) ?_
  exact kk H locs t2 hJ hW
theorem l_4 {p : Program} {e : Env} {s : State} {m : MethodId} {below : List Frame} {meth : Method} {c : Code} {l : Launch} {b h0 L : Nat} {xs : Nat → Int32} {D : va_G} {g : xG} {T : Nat × Nat × Nat} {H : Heap} {locs : List Loc} {ls : Array Slot} {cells slots : Nat} {Q : State → Prop} {σ : xS} {n : Nat} {i : Int} (hx : p.tables.exec = Jvm.exec) (hb : c.code = cL_law) (hml : c.maxLocals = 4) (hown : s.vm.findClass "ShadowCourtLaw" = some m.cls) (hT : ∀ w ∈ xTB, w.before #[Value.ref b] s = true) (hE : xE D g T h0 s) (hX : va_X b L xs s s.heap) (hbl : b < s.heap.size) (eh : h0 = s.heap.size) (hW : xW D g h0 s H locs σ) (hl : lv_has ls 4 [(3, .int (xJ i)), (2, .ref (h0 + 268)), (1, .ref (h0 + 0)), (0, .ref b)]) (hcs : cells ≤ 600000 ∧ slots ≤ 7302250) (hcs1 : cells + 1 ≤ 600000 ∧ slots + 60 ≤ 7302250) (hJ : lJ σ n) (hn : n ≤ 512) (hi : 0 ≤ i ∧ i + 5 < (L : Int) ∧ L ≤ 3072)
    (kk : ∀ (H : Heap) (locs : List Loc) (τ : xS), lJ τ (n + 1) → xW D g h0 s H locs τ → W p l e room_1 s m #[Value.ref b] below meth c H locs (cells + 1) (slots + 60) Q (F0 m 990 ls [])) : W p l e room_1 s m #[Value.ref b] below meth c H locs cells slots Q (F0 m 304 ls []) := by
  obtain ⟨jC, jn, jk, jo, j0, jz, jr⟩ := hJ
  obtain ⟨a1, e1, r1⟩ := xJ_ex (xs (i + 1).toNat)
  obtain ⟨a2, e2, r2⟩ := xJ_ex (xs (i + 2).toNat)
  refine x_aload_n hx hb hl 2 rfl dL_law_304 rfl ?_
  refine x_aload_n hx hb hl 3 rfl dL_law_305 rfl ?_
  refine x_iload_n hx hb hl 0 rfl dL_law_306 rfl ?_
  refine x_iconst hx hb dL_law_307 ?_
  refine x_iadd hx hb dL_law_308 ?_
  refine l_sld hx hb hX hbl eh hW (by omega) (by omega) e1 dL_law_309 ?_
  refine x_aload_n hx hb hl 3 rfl dL_law_310 rfl ?_
  refine x_iload_n hx hb hl 0 rfl dL_law_311 rfl ?_
  refine x_iconst hx hb dL_law_312 ?_
  refine b_pc (pc1 := 313) rfl ?_
  refine x_iadd hx hb dL_law_313 ?_
  refine l_sld hx hb hX hbl eh hW (by omega) (by omega) e2 dL_law_314 ?_
  refine x_goi (x_runV (As := [.int (xJ a1), .int (xJ a2)]) hx hb hml hown hT hE hW hl.1 (Or.inl (by decide)) (so_0 h0 g _) rfl cf_X10_walk wq712 wq713 wq711 (c_X10_walkJ l D g T h0 σ hW.2.1 a1 r1 a2 r2 ⟨by omega, by omega⟩ jC) ⟨rfl, rfl, ⟨by decide, by decide⟩, hcs1⟩ rfl rfl (Nat.le_of_ble_eq_true rfl) dL_law_315) hW (fun q1 t1 H locs rq1 hp hW => ?_)
  obtain ⟨hF1, hI1, hp1⟩ := hp
  have jC1 := hI1.1
  have jn1 : IMn t1 := IMn_f (fun k hk => hF1 k (by unfold suIMn at hk; omega)) jn
  have jk1 : IMk t1 := IMk_f (fun k hk => hF1 k (by unfold suIMk at hk; omega)) jk
  have jo1 : IMo t1 := IMo_f (fun k hk => hF1 k (by unfold suIMo at hk; omega)) jo
  have j01 : t1 0 11 = 0 ∨ t1 0 11 = 1 := by rw [hF1 0 (by omega)]; exact j0
  refine lv_pop hx hb dL_law_318 rfl ?_
  refine x_aload_n hx hb hl 1 rfl dL_law_319 rfl ?_
  refine x_aload_n hx hb hl 3 rfl dL_law_320 rfl ?_
  refine x_iload_n hx hb hl 0 rfl dL_law_321 rfl ?_
  refine x_iconst hx hb dL_law_322 ?_
  refine x_iadd hx hb dL_law_323 ?_
  refine l_sld hx hb hX hbl eh hW (by omega) (by omega) e1 dL_law_324 ?_
  refine b_pc (pc1 := 325) rfl ?_
  refine x_aload_n hx hb hl 3 rfl dL_law_325 rfl ?_
  refine x_iload_n hx hb hl 0 rfl dL_law_326 rfl ?_
  refine x_iconst hx hb dL_law_327 ?_
  refine x_iadd hx hb dL_law_328 ?_
  refine l_sld hx hb hX hbl eh hW (by omega) (by omega) e2 dL_law_329 ?_
  refine x_goi (x_runV (As := [.int (xJ a1), .int (xJ a2)]) hx hb hml hown hT hE hW hl.1 (Or.inl (by decide)) (so_268 h0 g _) rfl cf_X11_walk wq1441 wq1442 wq1440 (c_X11_walkJ l D g T h0 t1 hW.2.1 a1 r1 a2 r2 jn1 jk1 jo1) ⟨rfl, rfl, ⟨by decide, by decide⟩, hcs1⟩ rfl rfl (Nat.le_of_ble_eq_true rfl) dL_law_330) hW (fun q2 t2 H locs rq2 hp hW => ?_)
  obtain ⟨hF2, hI2, hp2⟩ := hp
  have jC2 : IC t2 := IC_f (fun k hk => hF2 k (by unfold suIC at hk; omega)) jC1
  have j02 : t2 0 11 = 0 ∨ t2 0 11 = 1 := by rw [hF2 0 (by omega)]; exact j01
  have jz2 : t2 999996 0 = t1 999996 0 := by rw [hF2 999996 (by omega)]
  have u1 : t2 1 1 = t1 1 1 := by rw [hF2 1 (by omega)]
  have u2 : t1 268 8 = σ 268 8 := by rw [hF1 268 (by omega)]
  have u0 : σ 1 1 = σ 268 8 := jr.1.1
  have u6 : t2 1 1 = t2 268 8 := by omega
  have u7 : t2 2 = xm8 (t2 276) ∧ xb8 (t2 276) := by rw [hF2 2 (by omega), hF1 2 (by omega), hF2 276 (by omega), hF1 276 (by omega)]; exact jr.1.2
  have w11a : t1 0 11 = σ 0 11 := by rw [hF1 0 (by omega)]
  have w11b : t2 0 11 = t1 0 11 := by rw [hF2 0 (by omega)]
  have w58a : t1 268 58 = σ 268 58 := by rw [hF1 268 (by omega)]
  have w58b : t2 268 58 = t1 268 58 := hI2.2.2.2.1
  have w17a : t1 268 17 = σ 268 17 := by rw [hF1 268 (by omega)]
  have w17b : t2 268 17 = t1 268 17 := hI2.2.2.2.2.1
  have w48a : t1 268 48 = σ 268 48 := by rw [hF1 268 (by omega)]
  have w48b : t2 268 48 = t1 268 48 := hI2.2.2.2.2.2.1
  have w34a : t1 269 34 = σ 269 34 := by rw [hF1 269 (by omega)]
  have j48 := lR_48 jr
  have jb58 := (lR_B jr).2.2
  have jD := lR_D jr
  have jBt : zBt (σ 269) := jD.1.2.2.2
  have q269 : t1 269 = σ 269 := hF1 269 (by omega)
  have zBB : (t2 5 = t2 288 ∧ zk3 (t2 5)) ∧ (∀ j : Int, 0 ≤ j → j < 100 → t2 4 j = t2 272 j ∧ 0 ≤ t2 4 j ∧ t2 4 j ≤ 3) ∧ t2 0 11 = t2 268 58 := ⟨by rw [hF2 5 (by omega), hF1 5 (by omega), hF2 288 (by omega), hF1 288 (by omega)]; exact (lR_B jr).1, by rw [hF2 4 (by omega), hF1 4 (by omega), hF2 272 (by omega), hF1 272 (by omega)]; exact (lR_B jr).2.1, by omega⟩
  have e4 : t2 4 = σ 4 := by rw [hF2 4 (by omega), hF1 4 (by omega)]
  have zL : zLx t2 := (lR_L jr).ff (fun k hk => by rw [hF2 k (by omega), hF1 k (by omega)]) (by omega)
  have zM : zLm t2 := (lR_M jr).ff (by rw [hF2 129 (by omega), hF1 129 (by omega)]) (by rw [hF2 273 (by omega), hF1 273 (by omega)])
  have hz0 : 0 ≤ σ 999996 0 ∧ σ 999996 0 ≤ 900000 := by omega
  have q274 : t1 274 = σ 274 := hF1 274 (by omega)
  have q275 : t1 275 = σ 275 := hF1 275 (by omega)
  have q276 : t1 276 = σ 276 := hF1 276 (by omega)
  have q2 : σ 2 = xm8 (σ 276) := jr.1.2.1
  rw [q2] at hp1
  rw [q269, q274, q275, q276] at hp2
  have zz := zws_e (f := xm8 (σ 276)) (n := a2) (u := 1) (u2 := 1) (2 * a2 + 1).toNat true 0 0 (fun _ => 0) (σ 127) []
  have zc := zws_c (f := xm8 (σ 276)) (n := a2) (u := 1) (2 * a2 + 1).toNat true 0 0 (fun _ => 0) (σ 127) [] (Int.le_refl _) (fun j j1 j2 => by omega) (fun q hq => by cases hq)
  have jd := jD.1.jd jD.2.1 jD.2.2
  have sm : (∀ k : Nat, k ≠ 1 → k ≠ 126 → k ≠ 127 → t1 k = σ k) → t2 269 = σ 269 ∧ t2 274 = σ 274 ∧ t2 275 = σ 275 → (zDd t2 136 269 ∧ zWk t2 136 274 275 ∧ zB8 t2 275) ∧ (zB8 t2 309 ∧ zKp t2) ∧ zSg t2 := fun a b => by
    have fr : ∀ k : Nat, k ≠ 1 → k ≠ 126 → k ≠ 127 → (k < 268 ∨ k = 271 ∨ k = 308 ∨ k = 309 ∨ 310 ≤ k) → t2 k = σ k := fun k k1 k2 k3 k4 => (hF2 k (by omega)).trans (a k k1 k2 k3)
    refine ⟨⟨jD.1.ff (fun o ho => fr _ (by omega) (by omega) (by omega) (by omega)) e4 (fun q _ _ => by rw [b.1]), jD.2.1.ff (fr 138 (by decide) (by decide) (by decide) (by decide)) (fun k hk => fr k (by omega) (by omega) (by omega) (by omega)) b.2.1 b.2.2, by unfold zB8; rw [b.2.2]; exact jD.2.2⟩, ⟨by unfold zB8; rw [hF2 309 (by omega), hF1 309 (by omega)]; exact (lR_K jr).1, fun h => ?_⟩, (lR_G jr).f (fun k hk => fr k (by omega) (by omega) (by omega) (by omega))⟩
    have y := (lR_K jr).2 (by omega)
    exact ⟨y.1.ff (fun o ho => fr _ (by omega) (by omega) (by omega) (by omega)) e4 (fun q _ _ => by rw [fr 271 (by decide) (by decide) (by decide) (by decide)]), y.2.ff (fr 148 (by decide) (by decide) (by decide) (by decide)) (fun k hk => fr k (by omega) (by omega) (by omega) (by omega)) (fr 308 (by decide) (by decide) (by decide) (by decide)) (fr 309 (by decide) (by decide) (by decide) (by decide))⟩
  have zde : (zDd t2 136 269 ∧ zWk t2 136 274 275 ∧ zB8 t2 275) ∧ (zB8 t2 309 ∧ zKp t2) ∧ zSg t2 := by
    rcases hp1.2 with ⟨c1, c2, c3, c4, c5⟩ | ⟨c1, c2, ⟨c3, c4, c5, c6⟩ | ⟨c3, c4, n1, n2, n3, n4, n5, n6⟩⟩
    · rcases hp2 with ⟨b1, b2, b3, b4⟩ | ⟨b1, b2, b3⟩
      · exact sm c5 b4
      · exact absurd c1 (by omega)
    · rcases hp2 with ⟨b1, b2, b3, b4⟩ | ⟨b1, b2, ⟨b3, b4, b5⟩ | ⟨b3, b4⟩⟩
      · exact absurd b1 (by omega)
      · exact sm c6 b5
      · exact absurd (zz.1.trans b3) c3
    · rcases hp2 with ⟨b1, b2, b3, b4⟩ | ⟨b1, b2, ⟨b3, b4, b5⟩ | ⟨b3, b4, m1, m2, m3, m4, m5⟩⟩
      · exact absurd b1 (by omega)
      · exact absurd (zz.1.symm.trans c3) b3
      · rw [zz.2] at n4 n5
        have l8 : xlen t2 = xlen t1 := funext fun r => by unfold xlen; rw [hF2 999998 (by omega)]
        have ho : ∀ k : Nat, k ≠ 1 → k ≠ 126 → k ≠ 127 → k ≠ 138 → k ≠ 141 → (k < 268 ∨ k = 271 ∨ k = 308 ∨ k = 309) → t2 k = σ k := fun k k1 k2 k3 k4 k5 k6 => (hF2 k (by omega)).trans (n6 k k1 k2 k3 k4 k5 (by omega) (by omega)).1
        have en : eNew σ t2 := ⟨by rw [hF2 999996 (by omega)]; exact n1, fun k hk => by
          have y := n6 k (by omega) (by omega) (by omega) (by omega) (by omega) (by omega) (by omega)
          rw [l8, hF2 k (by omega)]
          exact y⟩
        have hm := IMn.w jn
        have J := zJD.walk (τ := t2) (len := (zws (xm8 (σ 276)) a2 1 (2 * a2 + 1).toNat true 0 0 (fun _ => 0) []).2.1) (K1 := (zws (xm8 (σ 276)) a2 1 (2 * a2 + 1).toNat true 0 0 (σ 127) []).2.2) (K2 := (zws (xm8 (σ 276)) a2 1 (2 * a2 + 1).toNat true 0 0 (fun _ => 0) []).2.2) jd (by omega) hz0 (by
          have w := (IMn.w hI2.1) a1 (by omega) (by omega)
          rw [m1, xud_s] at w
          exact w.2) (ho 137 (by decide) (by decide) (by decide) (by decide) (by decide) (by decide)) en ((hF2 138 (by omega)).trans n2) ((hF2 141 (by omega)).trans n3) (by rw [l8]; exact n4) (fun i i1 i2 => by rw [hF2 _ (by omega)]; exact n5 i i1 i2) zc m1 m2 m3 m4 (m5 jD.2.2) hm
        refine ⟨⟨jD.1.walk (j := a1) (by omega) (fun o ho2 => ho _ (by omega) (by omega) (by omega) (by omega) (by omega) (by omega)) ((hF2 141 (by omega)).trans n3) m2 e4, J.2.2.1, J.2.2.2⟩, ⟨by unfold zB8; rw [hF2 309 (by omega), hF1 309 (by omega)]; exact (lR_K jr).1, fun h => ?_⟩, fun k hk => ?_⟩
        · have y := (lR_K jr).2 (by omega)
          refine ⟨y.1.ff (fun o ho2 => ho _ (by omega) (by omega) (by omega) (by omega) (by omega) (by omega)) e4 (fun q _ _ => by rw [hF2 271 (by omega), hF1 271 (by omega)]), ?_⟩
          unfold zWk zWf
          rw [hF2 308 (by omega), hF1 308 (by omega), hF2 309 (by omega), hF1 309 (by omega)]
          exact zWc.g y.2 hz0.1 (ho 148 (by decide) (by decide) (by decide) (by decide) (by decide) (by decide)) en
        · have z := lR_G jr k hk
          have y := n6 (219 + k) (by omega) (by omega) (by omega) (by omega) (by omega) (by omega) (by omega)
          rw [l8, hF2 (219 + k) (by omega), y.1, y.2]
          exact z
  have zDW := zde.1
  have zKK := zde.2.1
  have zG := zde.2.2
  have zIS : IS t2 := IS_f (fun k hk => hF2 k (by unfold suIS at hk; omega)) (IS_f (fun k hk => hF1 k (by unfold suIS at hk; omega)) (lR_S jr))
  have zIQ : IQ t2 := IQ_f (fun k hk => hF2 k (by unfold suIQ at hk; omega)) (IQ_f (fun k hk => hF1 k (by unfold suIQ at hk; omega)) (lR_I jr))
  have z48 : t2 268 48 = -1 := by omega
  have hJ : lJ t2 (n + 1) := ⟨jC2, hI2.1, hI2.2.1, hI2.2.2.1, j02, ⟨by omega, by omega⟩, ⟨⟨u6, u7⟩, zBB, zL, zM, zDW, zKK, zIS, zIQ, zG, z48⟩⟩
  refine lv_pop hx hb dL_law_333 rfl ?_
  refine lv_goto (tgt := 990) hx hb dL_law_334 (by decide) ?_
  refine W.widen (k := cells + 1) (n := slots + 60) (by omega) (by omega) ?_
  exact kk H locs t2 hJ hW
theorem l_5 {p : Program} {e : Env} {s : State} {m : MethodId} {below : List Frame} {meth : Method} {c : Code} {l : Launch} {b h0 L : Nat} {xs : Nat → Int32} {D : va_G} {g : xG} {T : Nat × Nat × Nat} {H : Heap} {locs : List Loc} {ls : Array Slot} {cells slots : Nat} {Q : State → Prop} {σ : xS} {n : Nat} {i : Int} (hx : p.tables.exec = Jvm.exec) (hb : c.code = cL_law) (hml : c.maxLocals = 4) (hown : s.vm.findClass "ShadowCourtLaw" = some m.cls) (hT : ∀ w ∈ xTB, w.before #[Value.ref b] s = true) (hE : xE D g T h0 s) (hX : va_X b L xs s s.heap) (hbl : b < s.heap.size) (eh : h0 = s.heap.size) (hW : xW D g h0 s H locs σ) (hl : lv_has ls 4 [(3, .int (xJ i)), (2, .ref (h0 + 268)), (1, .ref (h0 + 0)), (0, .ref b)]) (hcs : cells ≤ 600000 ∧ slots ≤ 7302250) (hcs1 : cells + 1 ≤ 600000 ∧ slots + 60 ≤ 7302250) (hJ : lJ σ n) (hn : n ≤ 512) (hi : 0 ≤ i ∧ i + 5 < (L : Int) ∧ L ≤ 3072)
    (kk : ∀ (H : Heap) (locs : List Loc) (τ : xS), lJ τ (n + 1) → xW D g h0 s H locs τ → W p l e room_1 s m #[Value.ref b] below meth c H locs (cells + 1) (slots + 60) Q (F0 m 990 ls [])) : W p l e room_1 s m #[Value.ref b] below meth c H locs cells slots Q (F0 m 337 ls []) := by
  obtain ⟨jC, jn, jk, jo, j0, jz, jr⟩ := hJ
  obtain ⟨a1, e1, r1⟩ := xJ_ex (xs (i + 1).toNat)
  obtain ⟨a2, e2, r2⟩ := xJ_ex (xs (i + 2).toNat)
  obtain ⟨a3, e3, r3⟩ := xJ_ex (xs (i + 3).toNat)
  obtain ⟨a4, e4, r4⟩ := xJ_ex (xs (i + 4).toNat)
  refine x_aload_n hx hb hl 2 rfl dL_law_337 rfl ?_
  refine x_aload_n hx hb hl 3 rfl dL_law_338 rfl ?_
  refine x_iload_n hx hb hl 0 rfl dL_law_339 rfl ?_
  refine x_iconst hx hb dL_law_340 ?_
  refine x_iadd hx hb dL_law_341 ?_
  refine l_sld hx hb hX hbl eh hW (by omega) (by omega) e1 dL_law_342 ?_
  refine x_aload_n hx hb hl 3 rfl dL_law_343 rfl ?_
  refine x_iload_n hx hb hl 0 rfl dL_law_344 rfl ?_
  refine x_iconst hx hb dL_law_345 ?_
  refine b_pc (pc1 := 346) rfl ?_
  refine x_iadd hx hb dL_law_346 ?_
  refine l_sld hx hb hX hbl eh hW (by omega) (by omega) e2 dL_law_347 ?_
  refine x_aload_n hx hb hl 3 rfl dL_law_348 rfl ?_
  refine x_iload_n hx hb hl 0 rfl dL_law_349 rfl ?_
  refine x_iconst hx hb dL_law_350 ?_
  refine x_iadd hx hb dL_law_351 ?_
  refine l_sld hx hb hX hbl eh hW (by omega) (by omega) e3 dL_law_352 ?_
  refine x_aload_n hx hb hl 3 rfl dL_law_353 rfl ?_
  refine x_iload_n hx hb hl 0 rfl dL_law_354 rfl ?_
  refine x_iconst hx hb dL_law_355 ?_
  refine b_pc (pc1 := 356) rfl ?_
  refine x_iadd hx hb dL_law_356 ?_
  refine l_sld hx hb hX hbl eh hW (by omega) (by omega) e4 dL_law_357 ?_
  refine x_goi (x_runV (As := [.int (xJ a1), .int (xJ a2), .int (xJ a3), .int (xJ a4)]) hx hb hml hown hT hE hW hl.1 (Or.inl (by decide)) (so_0 h0 g _) rfl cf_X10_felon wq748 wq749 wq747 (c_X10_felonF l D g T h0 σ hW.2.1 a1 r1 a2 r2 a3 r3 a4 r4 jC) ⟨rfl, rfl, ⟨by decide, by decide⟩, hcs⟩ rfl rfl (Nat.le_of_ble_eq_true rfl) dL_law_358) hW (fun q1 t1 H locs rq1 hp hW => ?_)
  obtain ⟨hF1, hI1, hp1⟩ := hp
  have jC1 := hI1.1
  have jn1 : IMn t1 := IMn_f (fun k hk => hF1 k (by unfold suIMn at hk; omega)) jn
  have jk1 : IMk t1 := IMk_f (fun k hk => hF1 k (by unfold suIMk at hk; omega)) jk
  have jo1 : IMo t1 := IMo_f (fun k hk => hF1 k (by unfold suIMo at hk; omega)) jo
  have j01 : t1 0 11 = 0 ∨ t1 0 11 = 1 := by rw [hF1 0 (by omega)]; exact j0
  have jz1 : t1 999996 0 = σ 999996 0 := by rw [hF1 999996 (by omega)]
  refine lv_pop hx hb dL_law_361 rfl ?_
  refine x_aload_n hx hb hl 1 rfl dL_law_362 rfl ?_
  refine x_aload_n hx hb hl 3 rfl dL_law_363 rfl ?_
  refine x_iload_n hx hb hl 0 rfl dL_law_364 rfl ?_
  refine x_iconst hx hb dL_law_365 ?_
  refine x_iadd hx hb dL_law_366 ?_
  refine l_sld hx hb hX hbl eh hW (by omega) (by omega) e1 dL_law_367 ?_
  refine b_pc (pc1 := 368) rfl ?_
  refine x_aload_n hx hb hl 3 rfl dL_law_368 rfl ?_
  refine x_iload_n hx hb hl 0 rfl dL_law_369 rfl ?_
  refine x_iconst hx hb dL_law_370 ?_
  refine x_iadd hx hb dL_law_371 ?_
  refine l_sld hx hb hX hbl eh hW (by omega) (by omega) e2 dL_law_372 ?_
  refine x_aload_n hx hb hl 3 rfl dL_law_373 rfl ?_
  refine x_iload_n hx hb hl 0 rfl dL_law_374 rfl ?_
  refine x_iconst hx hb dL_law_375 ?_
  refine x_iadd hx hb dL_law_376 ?_
  refine l_sld hx hb hX hbl eh hW (by omega) (by omega) e3 dL_law_377 ?_
  refine b_pc (pc1 := 378) rfl ?_
  refine x_aload_n hx hb hl 3 rfl dL_law_378 rfl ?_
  refine x_iload_n hx hb hl 0 rfl dL_law_379 rfl ?_
  refine x_iconst hx hb dL_law_380 ?_
  refine x_iadd hx hb dL_law_381 ?_
  refine l_sld hx hb hX hbl eh hW (by omega) (by omega) e4 dL_law_382 ?_
  refine x_goi (x_runV (As := [.int (xJ a1), .int (xJ a2), .int (xJ a3), .int (xJ a4)]) hx hb hml hown hT hE hW hl.1 (Or.inl (by decide)) (so_268 h0 g _) rfl cf_X11_felon wq1433 wq1434 wq1432 (c_X11_felonF l D g T h0 t1 hW.2.1 a1 r1 a2 r2 a3 r3 a4 r4 (by rw [hF1 269 (by omega)]; exact (lR_D jr).1.2.2.2.2.1) (by rw [hF1 269 (by omega)]; exact (lR_D jr).1.2.2.2.2.2) jn1 jk1 jo1) ⟨rfl, rfl, ⟨by decide, by decide⟩, hcs⟩ rfl rfl (Nat.le_of_ble_eq_true rfl) dL_law_383) hW (fun q2 t2 H locs rq2 hp hW => ?_)
  obtain ⟨hF2, hI2, hp2⟩ := hp
  have jC2 : IC t2 := IC_f (fun k hk => hF2 k (by unfold suIC at hk; omega)) jC1
  have j02 : t2 0 11 = 0 ∨ t2 0 11 = 1 := by rw [hF2 0 (by omega)]; exact j01
  have jz2 : t2 999996 0 = t1 999996 0 := by rw [hF2 999996 (by omega)]
  have u1 : t2 1 1 = t1 1 1 := by rw [hF2 1 (by omega)]
  have u2 : t1 268 8 = σ 268 8 := by rw [hF1 268 (by omega)]
  have u0 : σ 1 1 = σ 268 8 := jr.1.1
  have u3 : t1 1 1 = σ 1 1 := by rw [hF1 1 (by omega)]
  have u4 : t2 268 8 = t1 268 8 := by rw [hF2 268 (by omega)]
  have u6 : t2 1 1 = t2 268 8 := by omega
  have u7 : t2 2 = xm8 (t2 276) ∧ xb8 (t2 276) := by rw [hF2 2 (by omega), hF1 2 (by omega), hF2 276 (by omega), hF1 276 (by omega)]; exact jr.1.2
  have w11a : t1 0 11 = σ 0 11 := by rw [hF1 0 (by omega)]
  have w11b : t2 0 11 = t1 0 11 := by rw [hF2 0 (by omega)]
  have w58a : t1 268 58 = σ 268 58 := by rw [hF1 268 (by omega)]
  have w58b : t2 268 58 = t1 268 58 := by rw [hF2 268 (by omega)]
  have w17a : t1 268 17 = σ 268 17 := by rw [hF1 268 (by omega)]
  have w17b : t2 268 17 = t1 268 17 := by rw [hF2 268 (by omega)]
  have w48a : t1 268 48 = σ 268 48 := by rw [hF1 268 (by omega)]
  have w48b : t2 268 48 = t1 268 48 := by rw [hF2 268 (by omega)]
  have w34a : t1 269 34 = σ 269 34 := by rw [hF1 269 (by omega)]
  have j48 := lR_48 jr
  have jb58 := (lR_B jr).2.2
  have jD := lR_D jr
  have jBt : zBt (σ 269) := jD.1.2.2.2
  have q269 : t1 269 = σ 269 := hF1 269 (by omega)
  have zBB : (t2 5 = t2 288 ∧ zk3 (t2 5)) ∧ (∀ j : Int, 0 ≤ j → j < 100 → t2 4 j = t2 272 j ∧ 0 ≤ t2 4 j ∧ t2 4 j ≤ 3) ∧ t2 0 11 = t2 268 58 := ⟨by rw [hF2 5 (by omega), hF1 5 (by omega), hF2 288 (by omega), hF1 288 (by omega)]; exact (lR_B jr).1, by rw [hF2 4 (by omega), hF1 4 (by omega), hF2 272 (by omega), hF1 272 (by omega)]; exact (lR_B jr).2.1, by omega⟩
  have e4 : t2 4 = σ 4 := by rw [hF2 4 (by omega), hF1 4 (by omega)]
  have zL : zLx t2 := (lR_L jr).ff (fun k hk => by rw [hF2 k (by omega), hF1 k (by omega)]) (by omega)
  have zM : zLm t2 := (lR_M jr).ff (by rw [hF2 129 (by omega), hF1 129 (by omega)]) (by rw [hF2 273 (by omega), hF1 273 (by omega)])
  have y136 : zYc t2 136 = zYc t1 136 := (zYc_f (σ := t1) (τ := t2) (d := 136) (fun o ho => hF2 (136 + o) (by omega)))
  rw [q269, hF1 272 (by omega)] at hp2
  have kd : 0 ≤ a2 → a2 < 10 → 0 ≤ a3 → a3 < 10 → σ 4 (10 * a3 + a2) = σ 272 (10 * a3 + a2) ∧ 0 ≤ σ 4 (10 * a3 + a2) ∧ σ 4 (10 * a3 + a2) ≤ 3 := fun z1 z2 z3 z4 => (lR_B jr).2.1 _ (by omega) (by omega)
  have zDs : zDd t2 136 269 ∧ q1 = q2 := by
    rcases hp1 with ⟨g1, g2, g3⟩ | ⟨g1, g2, g3⟩
    · rcases hp2 with ⟨h1, h2, h3, h4⟩ | ⟨h1, h2, h3⟩
      · exact ⟨jD.1.felon (f := a1) (x := 10 * a3 + a2) (w := a4) (by omega) (by omega) (by omega) (y136.trans g3) h3 e4 ⟨by rw [h4.2.2]; exact jBt.1, h4.1, h4.2.1⟩, by omega⟩
      · exfalso
        omega
    · rcases hp2 with ⟨h1, h2, h3, h4⟩ | ⟨h1, h2, h3⟩
      · exfalso
        omega
      · exact ⟨zDd.up (y136.trans g3) (Z2 := zYN (σ 269) 0 0 0) (by rw [h3]) jD.1.1 jD.1.2.1 (by rw [e4]; exact jD.1.2.2.1) (by rw [h3]; exact jBt), by omega⟩
  have zD := zDs.1
  have zDW : zDd t2 136 269 ∧ zWk t2 136 274 275 ∧ zB8 t2 275 := ⟨zD, jD.2.1.ff (by rw [hF2 138 (by omega), hF1 138 (by omega)]) (fun k hk => by rw [hF2 k (by omega), hF1 k (by omega)]) (by rw [hF2 274 (by omega), hF1 274 (by omega)]) (by rw [hF2 275 (by omega), hF1 275 (by omega)]), by unfold zB8; rw [hF2 275 (by omega), hF1 275 (by omega)]; exact jD.2.2⟩
  have zK : zKp t2 := fun h => by
    have y := (lR_K jr).2 (by omega)
    exact ⟨y.1.ff (fun o ho => by rw [hF2 (146 + o) (by omega), hF1 (146 + o) (by omega)]) e4 (fun q _ _ => by rw [hF2 271 (by omega), hF1 271 (by omega)]), y.2.ff (by rw [hF2 148 (by omega), hF1 148 (by omega)]) (fun k hk => by rw [hF2 k (by omega), hF1 k (by omega)]) (by rw [hF2 308 (by omega), hF1 308 (by omega)]) (by rw [hF2 309 (by omega), hF1 309 (by omega)])⟩
  have zKK : zB8 t2 309 ∧ zKp t2 := ⟨(by unfold zB8; rw [hF2 309 (by omega), hF1 309 (by omega)]; exact (lR_K jr).1), zK⟩
  have zIS : IS t2 := IS_f (fun k hk => hF2 k (by unfold suIS at hk; omega)) (IS_f (fun k hk => hF1 k (by unfold suIS at hk; omega)) (lR_S jr))
  have zIQ : IQ t2 := IQ_f (fun k hk => hF2 k (by unfold suIQ at hk; omega)) (IQ_f (fun k hk => hF1 k (by unfold suIQ at hk; omega)) (lR_I jr))
  have zG : zSg t2 := (lR_G jr).f (fun k hk => by rw [hF2 k (by omega), hF1 k (by omega)])
  have z48 : t2 268 48 = -1 := by omega
  have hJ : lJ t2 (n + 1) := ⟨jC2, hI2.1, hI2.2.1, hI2.2.2.1, j02, ⟨by omega, by omega⟩, ⟨⟨u6, u7⟩, zBB, zL, zM, zDW, zKK, zIS, zIQ, zG, z48⟩⟩
  refine lv_pop hx hb dL_law_386 rfl ?_
  refine lv_goto (tgt := 990) hx hb dL_law_387 (by decide) ?_
  refine W.widen (k := cells + 1) (n := slots + 60) (by omega) (by omega) ?_
  exact kk H locs t2 hJ hW
theorem l_6 {p : Program} {e : Env} {s : State} {m : MethodId} {below : List Frame} {meth : Method} {c : Code} {l : Launch} {b h0 L : Nat} {xs : Nat → Int32} {D : va_G} {g : xG} {T : Nat × Nat × Nat} {H : Heap} {locs : List Loc} {ls : Array Slot} {cells slots : Nat} {Q : State → Prop} {σ : xS} {n : Nat} {i : Int} (hx : p.tables.exec = Jvm.exec) (hb : c.code = cL_law) (hml : c.maxLocals = 4) (hown : s.vm.findClass "ShadowCourtLaw" = some m.cls) (hT : ∀ w ∈ xTB, w.before #[Value.ref b] s = true) (hE : xE D g T h0 s) (hX : va_X b L xs s s.heap) (hbl : b < s.heap.size) (eh : h0 = s.heap.size) (hW : xW D g h0 s H locs σ) (hl : lv_has ls 4 [(3, .int (xJ i)), (2, .ref (h0 + 268)), (1, .ref (h0 + 0)), (0, .ref b)]) (hcs : cells ≤ 600000 ∧ slots ≤ 7302250) (hcs1 : cells + 1 ≤ 600000 ∧ slots + 60 ≤ 7302250) (hJ : lJ σ n) (hn : n ≤ 512) (hi : 0 ≤ i ∧ i + 5 < (L : Int) ∧ L ≤ 3072)
    (kk : ∀ (H : Heap) (locs : List Loc) (τ : xS), lJ τ (n + 1) → xW D g h0 s H locs τ → W p l e room_1 s m #[Value.ref b] below meth c H locs (cells + 1) (slots + 60) Q (F0 m 990 ls [])) : W p l e room_1 s m #[Value.ref b] below meth c H locs cells slots Q (F0 m 390 ls []) := by
  obtain ⟨jC, jn, jk, jo, j0, jz, jr⟩ := hJ
  obtain ⟨a1, e1, r1⟩ := xJ_ex (xs (i + 1).toNat)
  obtain ⟨a2, e2, r2⟩ := xJ_ex (xs (i + 2).toNat)
  obtain ⟨a3, e3, r3⟩ := xJ_ex (xs (i + 3).toNat)
  refine x_aload_n hx hb hl 2 rfl dL_law_390 rfl ?_
  refine x_aload_n hx hb hl 3 rfl dL_law_391 rfl ?_
  refine x_iload_n hx hb hl 0 rfl dL_law_392 rfl ?_
  refine x_iconst hx hb dL_law_393 ?_
  refine x_iadd hx hb dL_law_394 ?_
  refine l_sld hx hb hX hbl eh hW (by omega) (by omega) e1 dL_law_395 ?_
  refine x_aload_n hx hb hl 3 rfl dL_law_396 rfl ?_
  refine x_iload_n hx hb hl 0 rfl dL_law_397 rfl ?_
  refine x_iconst hx hb dL_law_398 ?_
  refine b_pc (pc1 := 399) rfl ?_
  refine x_iadd hx hb dL_law_399 ?_
  refine l_sld hx hb hX hbl eh hW (by omega) (by omega) e2 dL_law_400 ?_
  refine x_aload_n hx hb hl 3 rfl dL_law_401 rfl ?_
  refine x_iload_n hx hb hl 0 rfl dL_law_402 rfl ?_
  refine x_iconst hx hb dL_law_403 ?_
  refine x_iadd hx hb dL_law_404 ?_
  refine l_sld hx hb hX hbl eh hW (by omega) (by omega) e3 dL_law_405 ?_
  refine x_goi (x_runV (As := [.int (xJ a1), .int (xJ a2), .int (xJ a3)]) hx hb hml hown hT hE hW hl.1 (Or.inl (by decide)) (so_0 h0 g _) rfl cf_X10_lamp wq752 wq753 wq751 (c_X10_lampF l D g T h0 σ hW.2.1 a1 r1 a2 r2 a3 r3 jC) ⟨rfl, rfl, ⟨by decide, by decide⟩, hcs⟩ rfl rfl (Nat.le_of_ble_eq_true rfl) dL_law_406) hW (fun q1 t1 H locs rq1 hp hW => ?_)
  obtain ⟨hF1, hI1, hp1⟩ := hp
  have jC1 := hI1.1
  have jn1 : IMn t1 := IMn_f (fun k hk => hF1 k (by unfold suIMn at hk; omega)) jn
  have jk1 : IMk t1 := IMk_f (fun k hk => hF1 k (by unfold suIMk at hk; omega)) jk
  have jo1 : IMo t1 := IMo_f (fun k hk => hF1 k (by unfold suIMo at hk; omega)) jo
  have j01 : t1 0 11 = 0 ∨ t1 0 11 = 1 := by rw [hF1 0 (by omega)]; exact j0
  have jz1 : t1 999996 0 = σ 999996 0 := by rw [hF1 999996 (by omega)]
  refine lv_pop hx hb dL_law_409 rfl ?_
  refine x_aload_n hx hb hl 1 rfl dL_law_410 rfl ?_
  refine b_pc (pc1 := 411) rfl ?_
  refine x_aload_n hx hb hl 3 rfl dL_law_411 rfl ?_
  refine x_iload_n hx hb hl 0 rfl dL_law_412 rfl ?_
  refine x_iconst hx hb dL_law_413 ?_
  refine x_iadd hx hb dL_law_414 ?_
  refine l_sld hx hb hX hbl eh hW (by omega) (by omega) e1 dL_law_415 ?_
  refine x_aload_n hx hb hl 3 rfl dL_law_416 rfl ?_
  refine x_iload_n hx hb hl 0 rfl dL_law_417 rfl ?_
  refine x_iconst hx hb dL_law_418 ?_
  refine x_iadd hx hb dL_law_419 ?_
  refine l_sld hx hb hX hbl eh hW (by omega) (by omega) e2 dL_law_420 ?_
  refine b_pc (pc1 := 421) rfl ?_
  refine x_aload_n hx hb hl 3 rfl dL_law_421 rfl ?_
  refine x_iload_n hx hb hl 0 rfl dL_law_422 rfl ?_
  refine x_iconst hx hb dL_law_423 ?_
  refine x_iadd hx hb dL_law_424 ?_
  refine l_sld hx hb hX hbl eh hW (by omega) (by omega) e3 dL_law_425 ?_
  refine x_goi (x_runV (As := [.int (xJ a1), .int (xJ a2), .int (xJ a3)]) hx hb hml hown hT hE hW hl.1 (Or.inl (by decide)) (so_268 h0 g _) rfl cf_X11_lamp wq1437 wq1438 wq1436 (c_X11_lampF l D g T h0 t1 hW.2.1 a1 r1 a2 r2 a3 r3 jn1 jk1 jo1) ⟨rfl, rfl, ⟨by decide, by decide⟩, hcs⟩ rfl rfl (Nat.le_of_ble_eq_true rfl) dL_law_426) hW (fun q2 t2 H locs rq2 hp hW => ?_)
  obtain ⟨hF2, hI2, hp2⟩ := hp
  have jC2 : IC t2 := IC_f (fun k hk => hF2 k (by unfold suIC at hk; omega)) jC1
  have j02 : t2 0 11 = 0 ∨ t2 0 11 = 1 := by rw [hF2 0 (by omega)]; exact j01
  have jz2 : t2 999996 0 = t1 999996 0 := by rw [hF2 999996 (by omega)]
  have u1 : t2 1 1 = t1 1 1 := by rw [hF2 1 (by omega)]
  have u2 : t1 268 8 = σ 268 8 := by rw [hF1 268 (by omega)]
  have u0 : σ 1 1 = σ 268 8 := jr.1.1
  have u3 : t1 1 1 = σ 1 1 := by rw [hF1 1 (by omega)]
  have u4 : t2 268 8 = t1 268 8 := by rw [hF2 268 (by omega)]
  have u6 : t2 1 1 = t2 268 8 := by omega
  have u7 : t2 2 = xm8 (t2 276) ∧ xb8 (t2 276) := by rw [hF2 2 (by omega), hF1 2 (by omega), hF2 276 (by omega), hF1 276 (by omega)]; exact jr.1.2
  have w11a : t1 0 11 = σ 0 11 := by rw [hF1 0 (by omega)]
  have w11b : t2 0 11 = t1 0 11 := by rw [hF2 0 (by omega)]
  have w58a : t1 268 58 = σ 268 58 := by rw [hF1 268 (by omega)]
  have w58b : t2 268 58 = t1 268 58 := by rw [hF2 268 (by omega)]
  have w17a : t1 268 17 = σ 268 17 := by rw [hF1 268 (by omega)]
  have w17b : t2 268 17 = t1 268 17 := by rw [hF2 268 (by omega)]
  have w48a : t1 268 48 = σ 268 48 := by rw [hF1 268 (by omega)]
  have w48b : t2 268 48 = t1 268 48 := by rw [hF2 268 (by omega)]
  have w34a : t1 269 34 = σ 269 34 := by rw [hF1 269 (by omega)]
  have w34b : t2 269 34 = t1 269 34 := by rw [hF2 269 (by omega)]
  have j48 := lR_48 jr
  have jb58 := (lR_B jr).2.2
  have jD := lR_D jr
  have jBt : zBt (σ 269) := jD.1.2.2.2
  have q269 : t1 269 = σ 269 := hF1 269 (by omega)
  have zBB : (t2 5 = t2 288 ∧ zk3 (t2 5)) ∧ (∀ j : Int, 0 ≤ j → j < 100 → t2 4 j = t2 272 j ∧ 0 ≤ t2 4 j ∧ t2 4 j ≤ 3) ∧ t2 0 11 = t2 268 58 := ⟨by rw [hF2 5 (by omega), hF1 5 (by omega), hF2 288 (by omega), hF1 288 (by omega)]; exact (lR_B jr).1, by rw [hF2 4 (by omega), hF1 4 (by omega), hF2 272 (by omega), hF1 272 (by omega)]; exact (lR_B jr).2.1, by omega⟩
  have e4 : t2 4 = σ 4 := by rw [hF2 4 (by omega), hF1 4 (by omega)]
  have zL : zLx t2 := (lR_L jr).ff (fun k hk => by rw [hF2 k (by omega), hF1 k (by omega)]) (by omega)
  have kd : 0 ≤ a2 → a2 < 10 → 0 ≤ a3 → a3 < 10 → σ 4 (10 * a3 + a2) = σ 272 (10 * a3 + a2) ∧ 0 ≤ σ 4 (10 * a3 + a2) ∧ σ 4 (10 * a3 + a2) ≤ 3 := fun z1 z2 z3 z4 => (lR_B jr).2.1 _ (by omega) (by omega)
  rw [hF1 272 (by omega), hF1 273 (by omega)] at hp2
  have zM : zLm t2 := by
    rcases hp1 with ⟨g1, g2, g3⟩ | ⟨g1, g2, g3⟩
    · rcases hp2 with ⟨h1, h2, h3⟩ | ⟨h1, h2, h3⟩
      · refine (lR_M jr).lamp ((hF2 129 (by omega)).trans g3) h3 ?_
        split
        · exact Or.inl rfl
        · exact Or.inr (by omega)
      · exfalso
        omega
    · rcases hp2 with ⟨h1, h2, h3⟩ | ⟨h1, h2, h3⟩
      · exfalso
        omega
      · exact (lR_M jr).ff ((hF2 129 (by omega)).trans g3) h3
  have zD : zDd t2 136 269 := jD.1.ff (fun o ho => by rw [hF2 (136 + o) (by omega), hF1 (136 + o) (by omega)]) e4 (fun q _ _ => by rw [hF2 269 (by omega), q269])
  have zDW : zDd t2 136 269 ∧ zWk t2 136 274 275 ∧ zB8 t2 275 := ⟨zD, jD.2.1.ff (by rw [hF2 138 (by omega), hF1 138 (by omega)]) (fun k hk => by rw [hF2 k (by omega), hF1 k (by omega)]) (by rw [hF2 274 (by omega), hF1 274 (by omega)]) (by rw [hF2 275 (by omega), hF1 275 (by omega)]), by unfold zB8; rw [hF2 275 (by omega), hF1 275 (by omega)]; exact jD.2.2⟩
  have zK : zKp t2 := fun h => by
    have y := (lR_K jr).2 (by omega)
    exact ⟨y.1.ff (fun o ho => by rw [hF2 (146 + o) (by omega), hF1 (146 + o) (by omega)]) e4 (fun q _ _ => by rw [hF2 271 (by omega), hF1 271 (by omega)]), y.2.ff (by rw [hF2 148 (by omega), hF1 148 (by omega)]) (fun k hk => by rw [hF2 k (by omega), hF1 k (by omega)]) (by rw [hF2 308 (by omega), hF1 308 (by omega)]) (by rw [hF2 309 (by omega), hF1 309 (by omega)])⟩
  have zKK : zB8 t2 309 ∧ zKp t2 := ⟨(by unfold zB8; rw [hF2 309 (by omega), hF1 309 (by omega)]; exact (lR_K jr).1), zK⟩
  have zIS : IS t2 := IS_f (fun k hk => hF2 k (by unfold suIS at hk; omega)) (IS_f (fun k hk => hF1 k (by unfold suIS at hk; omega)) (lR_S jr))
  have zIQ : IQ t2 := IQ_f (fun k hk => hF2 k (by unfold suIQ at hk; omega)) (IQ_f (fun k hk => hF1 k (by unfold suIQ at hk; omega)) (lR_I jr))
  have zG : zSg t2 := (lR_G jr).f (fun k hk => by rw [hF2 k (by omega), hF1 k (by omega)])
  have z48 : t2 268 48 = -1 := by omega
  have hJ : lJ t2 (n + 1) := ⟨jC2, hI2.1, hI2.2.1, hI2.2.2.1, j02, ⟨by omega, by omega⟩, ⟨⟨u6, u7⟩, zBB, zL, zM, zDW, zKK, zIS, zIQ, zG, z48⟩⟩
  refine lv_pop hx hb dL_law_429 rfl ?_
  refine lv_goto (tgt := 990) hx hb dL_law_430 (by decide) ?_
  refine W.widen (k := cells + 1) (n := slots + 60) (by omega) (by omega) ?_
  exact kk H locs t2 hJ hW
theorem l_7 {p : Program} {e : Env} {s : State} {m : MethodId} {below : List Frame} {meth : Method} {c : Code} {l : Launch} {b h0 L : Nat} {xs : Nat → Int32} {D : va_G} {g : xG} {T : Nat × Nat × Nat} {H : Heap} {locs : List Loc} {ls : Array Slot} {cells slots : Nat} {Q : State → Prop} {σ : xS} {n : Nat} {i : Int} (hx : p.tables.exec = Jvm.exec) (hb : c.code = cL_law) (hml : c.maxLocals = 4) (hown : s.vm.findClass "ShadowCourtLaw" = some m.cls) (hT : ∀ w ∈ xTB, w.before #[Value.ref b] s = true) (hE : xE D g T h0 s) (hX : va_X b L xs s s.heap) (hbl : b < s.heap.size) (eh : h0 = s.heap.size) (hW : xW D g h0 s H locs σ) (hl : lv_has ls 4 [(3, .int (xJ i)), (2, .ref (h0 + 268)), (1, .ref (h0 + 0)), (0, .ref b)]) (hcs : cells ≤ 600000 ∧ slots ≤ 7302250) (hcs1 : cells + 1 ≤ 600000 ∧ slots + 60 ≤ 7302250) (hJ : lJ σ n) (hn : n ≤ 512) (hi : 0 ≤ i ∧ i + 5 < (L : Int) ∧ L ≤ 3072)
    (kk : ∀ (H : Heap) (locs : List Loc) (τ : xS), lJ τ (n + 1) → xW D g h0 s H locs τ → W p l e room_1 s m #[Value.ref b] below meth c H locs (cells + 1) (slots + 60) Q (F0 m 990 ls [])) : W p l e room_1 s m #[Value.ref b] below meth c H locs cells slots Q (F0 m 433 ls []) := by
  obtain ⟨jC, jn, jk, jo, j0, jz, jr⟩ := hJ
  obtain ⟨a1, e1, r1⟩ := xJ_ex (xs (i + 1).toNat)
  refine x_aload_n hx hb hl 2 rfl dL_law_433 rfl ?_
  refine x_aload_n hx hb hl 3 rfl dL_law_434 rfl ?_
  refine x_iload_n hx hb hl 0 rfl dL_law_435 rfl ?_
  refine x_iconst hx hb dL_law_436 ?_
  refine x_iadd hx hb dL_law_437 ?_
  refine l_sld hx hb hX hbl eh hW (by omega) (by omega) e1 dL_law_438 ?_
  refine x_goi (x_runV (As := [.int (xJ a1)]) hx hb hml hown hT hE hW hl.1 (Or.inl (by decide)) (so_0 h0 g _) rfl cf_X10_minutes wq756 wq757 wq755 (c_X10_minutesF l D g T h0 σ hW.2.1 a1 r1 (σ 4) (σ 274) (zWf σ 275) (zQs σ) (σ 273) (lR_L jr).1 (lR_L jr).2 (fun t _ _ => rfl) (lR_M jr) (lR_D jr).2.1 (lR_D jr).1.qq ((lR_D jr).1.ok4 (IMn.n1 jn)) jC (lR_S jr) (lR_I jr)) ⟨rfl, rfl, ⟨by decide, by decide⟩, hcs⟩ rfl rfl (Nat.le_of_ble_eq_true rfl) dL_law_439) hW (fun q1 t1 H locs rq1 hp hW => ?_)
  obtain ⟨hF1, hI1, hp1⟩ := hp
  have jC1 := hI1.1
  have jn1 : IMn t1 := IMn_f (fun k hk => hF1 k (by unfold suIMn at hk; omega)) jn
  have jk1 : IMk t1 := IMk_f (fun k hk => hF1 k (by unfold suIMk at hk; omega)) jk
  have jo1 : IMo t1 := IMo_f (fun k hk => hF1 k (by unfold suIMo at hk; omega)) jo
  have j01 : t1 0 11 = 0 ∨ t1 0 11 = 1 := by rw [hF1 0 (by omega)]; exact j0
  have jz1 : t1 999996 0 = σ 999996 0 := by rw [hF1 999996 (by omega)]
  refine lv_pop hx hb dL_law_442 rfl ?_
  refine x_aload_n hx hb hl 1 rfl dL_law_443 rfl ?_
  refine b_pc (pc1 := 444) rfl ?_
  refine x_aload_n hx hb hl 3 rfl dL_law_444 rfl ?_
  refine x_iload_n hx hb hl 0 rfl dL_law_445 rfl ?_
  refine x_iconst hx hb dL_law_446 ?_
  refine x_iadd hx hb dL_law_447 ?_
  refine l_sld hx hb hX hbl eh hW (by omega) (by omega) e1 dL_law_448 ?_
  refine x_goi (x_runV (As := [.int (xJ a1)]) hx hb hml hown hT hE hW hl.1 (Or.inl (by decide)) (so_268 h0 g _) rfl cf_X11_minutes wq1534 wq1535 wq1533 (c_X11_minutesF l D g T h0 t1 hW.2.1 a1 r1 (σ 4) (σ 274) (zWf σ 275) (zQs σ) (σ 273) (lR_L jr).1 (zLR_s (σ := σ) (fun k hk => hF1 k (by omega)) (by rw [hF1 268 (by omega)])) (fun t a b => by have y := (lR_B jr).2.1 t a b; rw [hF1 272 (by omega)]; exact ⟨y.1.symm, y.2⟩) (fun i _ _ => by rw [hF1 273 (by omega)]) (by rw [hF1 274 (by omega), hF1 275 (by omega)]; exact fun j _ _ => ⟨rfl, fun i _ _ => rfl⟩) (zYN_q (a := 0) (c := 0) (s := 0) (by rw [hF1 269 (by omega)]; exact (lR_D jr).1.2.1)) (by rw [hF1 269 (by omega)]; exact (lR_D jr).1.2.2.2.2.2) (by show zJt (σ 4) (zrt (t1 269)); rw [hF1 269 (by omega)]; exact (lR_D jr).1.2.2.1) jn1 jk1 jo1) ⟨rfl, rfl, ⟨by decide, by decide⟩, hcs⟩ rfl rfl (Nat.le_of_ble_eq_true rfl) dL_law_449) hW (fun q2 t2 H locs rq2 hp hW => ?_)
  obtain ⟨hF2, hI2, hp2⟩ := hp
  have jC2 : IC t2 := IC_f (fun k hk => hF2 k (by unfold suIC at hk; omega)) jC1
  have j02 : t2 0 11 = 0 ∨ t2 0 11 = 1 := by rw [hF2 0 (by omega)]; exact j01
  have jz2 : t2 999996 0 = t1 999996 0 := by rw [hF2 999996 (by omega)]
  have u1 : t2 1 1 = t1 1 1 := by rw [hF2 1 (by omega)]
  have u2 : t1 268 8 = σ 268 8 := by rw [hF1 268 (by omega)]
  have u0 : σ 1 1 = σ 268 8 := jr.1.1
  have u3 : t1 1 1 = σ 1 1 := by rw [hF1 1 (by omega)]
  have u4 : t2 268 8 = t1 268 8 := hI2.2.2.2.1
  have u6 : t2 1 1 = t2 268 8 := by omega
  have u7 : t2 2 = xm8 (t2 276) ∧ xb8 (t2 276) := by rw [hF2 2 (by omega), hF1 2 (by omega), hF2 276 (by omega), hF1 276 (by omega)]; exact jr.1.2
  have w11a : t1 0 11 = σ 0 11 := by rw [hF1 0 (by omega)]
  have w11b : t2 0 11 = t1 0 11 := by rw [hF2 0 (by omega)]
  have w58a : t1 268 58 = σ 268 58 := by rw [hF1 268 (by omega)]
  have w58b : t2 268 58 = t1 268 58 := hI2.2.2.2.2.1
  have w17a : t1 268 17 = σ 268 17 := by rw [hF1 268 (by omega)]
  have w17b : t2 268 17 = t1 268 17 := hI2.2.2.2.2.2.1
  have w48a : t1 268 48 = σ 268 48 := by rw [hF1 268 (by omega)]
  have w48b : t2 268 48 = t1 268 48 := hI2.2.2.2.2.2.2.2.1
  have w34a : t1 269 34 = σ 269 34 := by rw [hF1 269 (by omega)]
  have w34b : t2 269 34 = t1 269 34 := hI2.2.2.2.2.2.2.1
  have j48 := lR_48 jr
  have jb58 := (lR_B jr).2.2
  have jD := lR_D jr
  have jBt : zBt (σ 269) := jD.1.2.2.2
  have q269 : t1 269 = σ 269 := hF1 269 (by omega)
  have zBB : (t2 5 = t2 288 ∧ zk3 (t2 5)) ∧ (∀ j : Int, 0 ≤ j → j < 100 → t2 4 j = t2 272 j ∧ 0 ≤ t2 4 j ∧ t2 4 j ≤ 3) ∧ t2 0 11 = t2 268 58 := ⟨by rw [hF2 5 (by omega), hF1 5 (by omega), hF2 288 (by omega), hF1 288 (by omega)]; exact (lR_B jr).1, by rw [hF2 4 (by omega), hF1 4 (by omega), hF2 272 (by omega), hF1 272 (by omega)]; exact (lR_B jr).2.1, by omega⟩
  have e4 : t2 4 = σ 4 := by rw [hF2 4 (by omega), hF1 4 (by omega)]
  have zL : zLx t2 := (lR_L jr).ff (fun k hk => by rw [hF2 k (by omega), hF1 k (by omega)]) (by omega)
  have zM : zLm t2 := (lR_M jr).ff (by rw [hF2 129 (by omega), hF1 129 (by omega)]) (by rw [hF2 273 (by omega), hF1 273 (by omega)])
  have y136 : zYc t2 136 = zYc t1 136 := (zYc_f (σ := t1) (τ := t2) (d := 136) (fun o ho => hF2 (136 + o) (by omega)))
  have x48 : t1 268 48 = -1 := by rw [hF1 268 (by omega)]; exact j48
  rw [q269, x48] at hp2
  have zDs : zDd t2 136 269 ∧ q1 = q2 := by
    rcases hp1 with ⟨g1, g2, g3, g4, g5, g6⟩ | ⟨g1, g2, g3⟩
    · rcases hp2 with ⟨h1, h2, h3, h4, h5, h6, h7, h8⟩ | ⟨h1, h2, h3, h4⟩
      · have z := jD.1.mn (τ := t2) (y136.trans g3) h3 e4 (by omega) h7 h6
        have u1 : zSm (zYc σ 136) = zSm (zYr t1) := by
          have a := jD.1.1.sm
          rw [a]
          exact (zSm_rr (σ := t1) (N := σ 269) (a := 0) (c := 0) (s := 0) (fun q _ _ => congrFun q269 q)).symm
        have u2 : zSm (zYc t2 136) = zSm (zYr t2) := by
          have a := z.1.sm
          rw [a]
          exact (zSm_rr (σ := t2) (N := t2 269) (a := 0) (c := 0) (s := 0) (fun q _ _ => rfl)).symm
        rw [y136] at u2
        exact ⟨z, by omega⟩
      · exact absurd ⟨g1, g2⟩ h1
    · rcases hp2 with ⟨h1, h2, h3, h4, h5, h6, h7, h8⟩ | ⟨h1, h2, h3, h4⟩
      · exact absurd ⟨h1, h2⟩ g1
      · exact ⟨zDd.up (y136.trans g2) (Z2 := zYN (σ 269) 0 0 0) (by rw [h2]) jD.1.1 jD.1.2.1 (by rw [e4]; exact jD.1.2.2.1) (by rw [h2]; exact jBt), by omega⟩
  have zD := zDs.1
  have zDW : zDd t2 136 269 ∧ zWk t2 136 274 275 ∧ zB8 t2 275 := ⟨zD, jD.2.1.ff (by rw [hF2 138 (by omega), hF1 138 (by omega)]) (fun k hk => by rw [hF2 k (by omega), hF1 k (by omega)]) (by rw [hF2 274 (by omega), hF1 274 (by omega)]) (by rw [hF2 275 (by omega), hF1 275 (by omega)]), by unfold zB8; rw [hF2 275 (by omega), hF1 275 (by omega)]; exact jD.2.2⟩
  have zK : zKp t2 := fun h => by
    have y := (lR_K jr).2 (by omega)
    exact ⟨y.1.ff (fun o ho => by rw [hF2 (146 + o) (by omega), hF1 (146 + o) (by omega)]) e4 (fun q _ _ => by rw [hF2 271 (by omega), hF1 271 (by omega)]), y.2.ff (by rw [hF2 148 (by omega), hF1 148 (by omega)]) (fun k hk => by rw [hF2 k (by omega), hF1 k (by omega)]) (by rw [hF2 308 (by omega), hF1 308 (by omega)]) (by rw [hF2 309 (by omega), hF1 309 (by omega)])⟩
  have zKK : zB8 t2 309 ∧ zKp t2 := ⟨(by unfold zB8; rw [hF2 309 (by omega), hF1 309 (by omega)]; exact (lR_K jr).1), zK⟩
  have zIS : IS t2 := IS_f (fun k hk => hF2 k (by unfold suIS at hk; omega)) hI1.2.1
  have zIQ : IQ t2 := IQ_f (fun k hk => hF2 k (by unfold suIQ at hk; omega)) hI1.2.2.1
  have zG : zSg t2 := (lR_G jr).f (fun k hk => by rw [hF2 k (by omega), hF1 k (by omega)])
  have z48 : t2 268 48 = -1 := by omega
  have hJ : lJ t2 (n + 1) := ⟨jC2, hI2.1, hI2.2.1, hI2.2.2.1, j02, ⟨by omega, by omega⟩, ⟨⟨u6, u7⟩, zBB, zL, zM, zDW, zKK, zIS, zIQ, zG, z48⟩⟩
  refine lv_pop hx hb dL_law_452 rfl ?_
  refine lv_goto (tgt := 990) hx hb dL_law_453 (by decide) ?_
  refine W.widen (k := cells + 1) (n := slots + 60) (by omega) (by omega) ?_
  exact kk H locs t2 hJ hW
theorem l_8 {p : Program} {e : Env} {s : State} {m : MethodId} {below : List Frame} {meth : Method} {c : Code} {l : Launch} {b h0 L : Nat} {xs : Nat → Int32} {D : va_G} {g : xG} {T : Nat × Nat × Nat} {H : Heap} {locs : List Loc} {ls : Array Slot} {cells slots : Nat} {Q : State → Prop} {σ : xS} {n : Nat} {i : Int} (hx : p.tables.exec = Jvm.exec) (hb : c.code = cL_law) (hml : c.maxLocals = 4) (hown : s.vm.findClass "ShadowCourtLaw" = some m.cls) (hT : ∀ w ∈ xTB, w.before #[Value.ref b] s = true) (hE : xE D g T h0 s) (hX : va_X b L xs s s.heap) (hbl : b < s.heap.size) (eh : h0 = s.heap.size) (hW : xW D g h0 s H locs σ) (hl : lv_has ls 4 [(3, .int (xJ i)), (2, .ref (h0 + 268)), (1, .ref (h0 + 0)), (0, .ref b)]) (hcs : cells ≤ 600000 ∧ slots ≤ 7302250) (hcs1 : cells + 1 ≤ 600000 ∧ slots + 60 ≤ 7302250) (hJ : lJ σ n) (hn : n ≤ 512) (hi : 0 ≤ i ∧ i + 5 < (L : Int) ∧ L ≤ 3072)
    (kk : ∀ (H : Heap) (locs : List Loc) (τ : xS), lJ τ (n + 1) → xW D g h0 s H locs τ → W p l e room_1 s m #[Value.ref b] below meth c H locs (cells + 1) (slots + 60) Q (F0 m 990 ls [])) : W p l e room_1 s m #[Value.ref b] below meth c H locs cells slots Q (F0 m 456 ls []) := by
  obtain ⟨jC, jn, jk, jo, j0, jz, jr⟩ := hJ
  obtain ⟨a1, e1, r1⟩ := xJ_ex (xs (i + 1).toNat)
  obtain ⟨a2, e2, r2⟩ := xJ_ex (xs (i + 2).toNat)
  refine x_aload_n hx hb hl 2 rfl dL_law_456 rfl ?_
  refine x_aload_n hx hb hl 3 rfl dL_law_457 rfl ?_
  refine x_iload_n hx hb hl 0 rfl dL_law_458 rfl ?_
  refine x_iconst hx hb dL_law_459 ?_
  refine x_iadd hx hb dL_law_460 ?_
  refine l_sld hx hb hX hbl eh hW (by omega) (by omega) e1 dL_law_461 ?_
  refine x_aload_n hx hb hl 3 rfl dL_law_462 rfl ?_
  refine x_iload_n hx hb hl 0 rfl dL_law_463 rfl ?_
  refine x_iconst hx hb dL_law_464 ?_
  refine b_pc (pc1 := 465) rfl ?_
  refine x_iadd hx hb dL_law_465 ?_
  refine l_sld hx hb hX hbl eh hW (by omega) (by omega) e2 dL_law_466 ?_
  refine x_goi (x_runV (As := [.int (xJ a1), .int (xJ a2)]) hx hb hml hown hT hE hW hl.1 (Or.inl (by decide)) (so_0 h0 g _) rfl cf_X10_tried wq903 wq904 wq902 (c_X10_triedF l D g T h0 σ hW.2.1 a1 r1 a2 r2 (σ 4) (σ 274) (zWf σ 275) (zQs σ) (σ 273) (lR_L jr).1 (lR_L jr).2 (fun t _ _ => rfl) (lR_M jr) (lR_D jr).2.1 (lR_D jr).1.qq ((lR_D jr).1.ok4 (IMn.n1 jn)) jC (lR_S jr) (lR_I jr)) ⟨rfl, rfl, ⟨by decide, by decide⟩, hcs⟩ rfl rfl (Nat.le_of_ble_eq_true rfl) dL_law_467) hW (fun q1 t1 H locs rq1 hp hW => ?_)
  obtain ⟨hF1, hI1, hp1⟩ := hp
  have jC1 := hI1.1
  have jn1 : IMn t1 := IMn_f (fun k hk => hF1 k (by unfold suIMn at hk; omega)) jn
  have jk1 : IMk t1 := IMk_f (fun k hk => hF1 k (by unfold suIMk at hk; omega)) jk
  have jo1 : IMo t1 := IMo_f (fun k hk => hF1 k (by unfold suIMo at hk; omega)) jo
  have j01 : t1 0 11 = 0 ∨ t1 0 11 = 1 := by rw [hF1 0 (by omega)]; exact j0
  have jz1 : t1 999996 0 = σ 999996 0 := by rw [hF1 999996 (by omega)]
  refine lv_pop hx hb dL_law_470 rfl ?_
  refine x_aload_n hx hb hl 1 rfl dL_law_471 rfl ?_
  refine x_aload_n hx hb hl 3 rfl dL_law_472 rfl ?_
  refine x_iload_n hx hb hl 0 rfl dL_law_473 rfl ?_
  refine x_iconst hx hb dL_law_474 ?_
  refine x_iadd hx hb dL_law_475 ?_
  refine l_sld hx hb hX hbl eh hW (by omega) (by omega) e1 dL_law_476 ?_
  refine b_pc (pc1 := 477) rfl ?_
  refine x_aload_n hx hb hl 3 rfl dL_law_477 rfl ?_
  refine x_iload_n hx hb hl 0 rfl dL_law_478 rfl ?_
  refine x_iconst hx hb dL_law_479 ?_
  refine x_iadd hx hb dL_law_480 ?_
  refine l_sld hx hb hX hbl eh hW (by omega) (by omega) e2 dL_law_481 ?_
  refine x_goi (x_runV (As := [.int (xJ a1), .int (xJ a2)]) hx hb hml hown hT hE hW hl.1 (Or.inl (by decide)) (so_268 h0 g _) rfl cf_X11_tried wq1643 wq1644 wq1642 (c_X11_triedF l D g T h0 t1 hW.2.1 a1 r1 a2 r2 (σ 4) (σ 274) (zWf σ 275) (zQs σ) (σ 273) (lR_L jr).1 (zLR_s (σ := σ) (fun k hk => hF1 k (by omega)) (by rw [hF1 268 (by omega)])) (fun t a b => by have y := (lR_B jr).2.1 t a b; rw [hF1 272 (by omega)]; exact ⟨y.1.symm, y.2⟩) (fun i _ _ => by rw [hF1 273 (by omega)]) (by rw [hF1 274 (by omega), hF1 275 (by omega)]; exact fun j _ _ => ⟨rfl, fun i _ _ => rfl⟩) (zYN_q (a := 0) (c := 0) (s := 0) (by rw [hF1 269 (by omega)]; exact (lR_D jr).1.2.1)) (by rw [hF1 269 (by omega)]; exact (lR_D jr).1.2.2.2.2.2) (by show zJt (σ 4) (zrt (t1 269)); rw [hF1 269 (by omega)]; exact (lR_D jr).1.2.2.1) (by rw [hF1 269 (by omega)]; exact (lR_D jr).1.2.2.2.2.1) jn1 jk1 jo1) ⟨rfl, rfl, ⟨by decide, by decide⟩, hcs⟩ rfl rfl (Nat.le_of_ble_eq_true rfl) dL_law_482) hW (fun q2 t2 H locs rq2 hp hW => ?_)
  obtain ⟨hF2, hI2, hp2⟩ := hp
  have jC2 : IC t2 := IC_f (fun k hk => hF2 k (by unfold suIC at hk; omega)) jC1
  have j02 : t2 0 11 = 0 ∨ t2 0 11 = 1 := by rw [hF2 0 (by omega)]; exact j01
  have jz2 : t2 999996 0 = t1 999996 0 := by rw [hF2 999996 (by omega)]
  have u1 : t2 1 1 = t1 1 1 := by rw [hF2 1 (by omega)]
  have u2 : t1 268 8 = σ 268 8 := by rw [hF1 268 (by omega)]
  have u0 : σ 1 1 = σ 268 8 := jr.1.1
  have u3 : t1 1 1 = σ 1 1 := by rw [hF1 1 (by omega)]
  have u4 : t2 268 8 = t1 268 8 := hI2.2.2.2.1
  have u6 : t2 1 1 = t2 268 8 := by omega
  have u7 : t2 2 = xm8 (t2 276) ∧ xb8 (t2 276) := by rw [hF2 2 (by omega), hF1 2 (by omega), hF2 276 (by omega), hF1 276 (by omega)]; exact jr.1.2
  have w11a : t1 0 11 = σ 0 11 := by rw [hF1 0 (by omega)]
  have w11b : t2 0 11 = t1 0 11 := by rw [hF2 0 (by omega)]
  have w58a : t1 268 58 = σ 268 58 := by rw [hF1 268 (by omega)]
  have w58b : t2 268 58 = t1 268 58 := hI2.2.2.2.2.1
  have w17a : t1 268 17 = σ 268 17 := by rw [hF1 268 (by omega)]
  have w17b : t2 268 17 = t1 268 17 := hI2.2.2.2.2.2.1
  have w48a : t1 268 48 = σ 268 48 := by rw [hF1 268 (by omega)]
  have w48b : t2 268 48 = t1 268 48 := hI2.2.2.2.2.2.2.1
  have w34a : t1 269 34 = σ 269 34 := by rw [hF1 269 (by omega)]
  have j48 := lR_48 jr
  have jb58 := (lR_B jr).2.2
  have jD := lR_D jr
  have jBt : zBt (σ 269) := jD.1.2.2.2
  have q269 : t1 269 = σ 269 := hF1 269 (by omega)
  have zBB : (t2 5 = t2 288 ∧ zk3 (t2 5)) ∧ (∀ j : Int, 0 ≤ j → j < 100 → t2 4 j = t2 272 j ∧ 0 ≤ t2 4 j ∧ t2 4 j ≤ 3) ∧ t2 0 11 = t2 268 58 := ⟨by rw [hF2 5 (by omega), hF1 5 (by omega), hF2 288 (by omega), hF1 288 (by omega)]; exact (lR_B jr).1, by rw [hF2 4 (by omega), hF1 4 (by omega), hF2 272 (by omega), hF1 272 (by omega)]; exact (lR_B jr).2.1, by omega⟩
  have e4 : t2 4 = σ 4 := by rw [hF2 4 (by omega), hF1 4 (by omega)]
  have zL : zLx t2 := (lR_L jr).ff (fun k hk => by rw [hF2 k (by omega), hF1 k (by omega)]) (by omega)
  have zM : zLm t2 := (lR_M jr).ff (by rw [hF2 129 (by omega), hF1 129 (by omega)]) (by rw [hF2 273 (by omega), hF1 273 (by omega)])
  have zD : zDd t2 136 269 := jD.1.ff (fun o ho => by rw [hF2 (136 + o) (by omega), hF1 (136 + o) (by omega)]) e4 (fun q a b => (hp2.elim (fun z => z.2.2 q a b) (fun z => z.2.2 q a b)).trans (congrFun q269 q))
  have zDW : zDd t2 136 269 ∧ zWk t2 136 274 275 ∧ zB8 t2 275 := ⟨zD, jD.2.1.ff (by rw [hF2 138 (by omega), hF1 138 (by omega)]) (fun k hk => by rw [hF2 k (by omega), hF1 k (by omega)]) (by rw [hF2 274 (by omega), hF1 274 (by omega)]) (by rw [hF2 275 (by omega), hF1 275 (by omega)]), by unfold zB8; rw [hF2 275 (by omega), hF1 275 (by omega)]; exact jD.2.2⟩
  have zK : zKp t2 := fun h => by
    have y := (lR_K jr).2 (by omega)
    exact ⟨y.1.ff (fun o ho => by rw [hF2 (146 + o) (by omega), hF1 (146 + o) (by omega)]) e4 (fun q _ _ => by rw [hF2 271 (by omega), hF1 271 (by omega)]), y.2.ff (by rw [hF2 148 (by omega), hF1 148 (by omega)]) (fun k hk => by rw [hF2 k (by omega), hF1 k (by omega)]) (by rw [hF2 308 (by omega), hF1 308 (by omega)]) (by rw [hF2 309 (by omega), hF1 309 (by omega)])⟩
  have zKK : zB8 t2 309 ∧ zKp t2 := ⟨(by unfold zB8; rw [hF2 309 (by omega), hF1 309 (by omega)]; exact (lR_K jr).1), zK⟩
  have zIS : IS t2 := IS_f (fun k hk => hF2 k (by unfold suIS at hk; omega)) hI1.2.1
  have zIQ : IQ t2 := IQ_f (fun k hk => hF2 k (by unfold suIQ at hk; omega)) hI1.2.2.1
  have zG : zSg t2 := (lR_G jr).f (fun k hk => by rw [hF2 k (by omega), hF1 k (by omega)])
  have z48 : t2 268 48 = -1 := by omega
  have hJ : lJ t2 (n + 1) := ⟨jC2, hI2.1, hI2.2.1, hI2.2.2.1, j02, ⟨by omega, by omega⟩, ⟨⟨u6, u7⟩, zBB, zL, zM, zDW, zKK, zIS, zIQ, zG, z48⟩⟩
  refine lv_pop hx hb dL_law_485 rfl ?_
  refine lv_goto (tgt := 990) hx hb dL_law_486 (by decide) ?_
  refine W.widen (k := cells + 1) (n := slots + 60) (by omega) (by omega) ?_
  exact kk H locs t2 hJ hW
theorem l_9 {p : Program} {e : Env} {s : State} {m : MethodId} {below : List Frame} {meth : Method} {c : Code} {l : Launch} {b h0 L : Nat} {xs : Nat → Int32} {D : va_G} {g : xG} {T : Nat × Nat × Nat} {H : Heap} {locs : List Loc} {ls : Array Slot} {cells slots : Nat} {Q : State → Prop} {σ : xS} {n : Nat} {i : Int} (hx : p.tables.exec = Jvm.exec) (hb : c.code = cL_law) (hml : c.maxLocals = 4) (hown : s.vm.findClass "ShadowCourtLaw" = some m.cls) (hT : ∀ w ∈ xTB, w.before #[Value.ref b] s = true) (hE : xE D g T h0 s) (hX : va_X b L xs s s.heap) (hbl : b < s.heap.size) (eh : h0 = s.heap.size) (hW : xW D g h0 s H locs σ) (hl : lv_has ls 4 [(3, .int (xJ i)), (2, .ref (h0 + 268)), (1, .ref (h0 + 0)), (0, .ref b)]) (hcs : cells ≤ 600000 ∧ slots ≤ 7302250) (hcs1 : cells + 1 ≤ 600000 ∧ slots + 60 ≤ 7302250) (hJ : lJ σ n) (hn : n ≤ 512) (hi : 0 ≤ i ∧ i + 5 < (L : Int) ∧ L ≤ 3072)
    (kk : ∀ (H : Heap) (locs : List Loc) (τ : xS), lJ τ (n + 1) → xW D g h0 s H locs τ → W p l e room_1 s m #[Value.ref b] below meth c H locs (cells + 1) (slots + 60) Q (F0 m 990 ls [])) : W p l e room_1 s m #[Value.ref b] below meth c H locs cells slots Q (F0 m 489 ls []) := by
  obtain ⟨jC, jn, jk, jo, j0, jz, jr⟩ := hJ
  obtain ⟨a1, e1, r1⟩ := xJ_ex (xs (i + 1).toNat)
  obtain ⟨a2, e2, r2⟩ := xJ_ex (xs (i + 2).toNat)
  refine x_aload_n hx hb hl 2 rfl dL_law_489 rfl ?_
  refine x_aload_n hx hb hl 3 rfl dL_law_490 rfl ?_
  refine x_iload_n hx hb hl 0 rfl dL_law_491 rfl ?_
  refine x_iconst hx hb dL_law_492 ?_
  refine x_iadd hx hb dL_law_493 ?_
  refine l_sld hx hb hX hbl eh hW (by omega) (by omega) e1 dL_law_494 ?_
  refine x_aload_n hx hb hl 3 rfl dL_law_495 rfl ?_
  refine x_iload_n hx hb hl 0 rfl dL_law_496 rfl ?_
  refine x_iconst hx hb dL_law_497 ?_
  refine b_pc (pc1 := 498) rfl ?_
  refine x_iadd hx hb dL_law_498 ?_
  refine l_sld hx hb hX hbl eh hW (by omega) (by omega) e2 dL_law_499 ?_
  refine x_goi (x_runV (As := [.int (xJ a1), .int (xJ a2)]) hx hb hml hown hT hE hW hl.1 (Or.inl (by decide)) (so_0 h0 g _) rfl cf_X10_felonIs wq933 wq934 wq932 (c_X10_felonIsF l D g T h0 σ hW.2.1 a1 r1 a2 r2 (σ 4) (σ 274) (zWf σ 275) (zQs σ) (σ 273) (lR_L jr).1 (lR_L jr).2 (fun t _ _ => rfl) (lR_M jr) (lR_D jr).2.1 (lR_D jr).1.qq ((lR_D jr).1.ok4 (IMn.n1 jn)) jC (lR_S jr) (lR_I jr)) ⟨rfl, rfl, ⟨by decide, by decide⟩, hcs⟩ rfl rfl (Nat.le_of_ble_eq_true rfl) dL_law_500) hW (fun q1 t1 H locs rq1 hp hW => ?_)
  obtain ⟨hF1, hI1, hp1⟩ := hp
  have jC1 := hI1.1
  have jn1 : IMn t1 := IMn_f (fun k hk => hF1 k (by unfold suIMn at hk; omega)) jn
  have jk1 : IMk t1 := IMk_f (fun k hk => hF1 k (by unfold suIMk at hk; omega)) jk
  have jo1 : IMo t1 := IMo_f (fun k hk => hF1 k (by unfold suIMo at hk; omega)) jo
  have j01 : t1 0 11 = 0 ∨ t1 0 11 = 1 := by rw [hF1 0 (by omega)]; exact j0
  have jz1 : t1 999996 0 = σ 999996 0 := by rw [hF1 999996 (by omega)]
  refine lv_pop hx hb dL_law_503 rfl ?_
  refine x_aload_n hx hb hl 1 rfl dL_law_504 rfl ?_
  refine x_aload_n hx hb hl 3 rfl dL_law_505 rfl ?_
  refine x_iload_n hx hb hl 0 rfl dL_law_506 rfl ?_
  refine x_iconst hx hb dL_law_507 ?_
  refine x_iadd hx hb dL_law_508 ?_
  refine l_sld hx hb hX hbl eh hW (by omega) (by omega) e1 dL_law_509 ?_
  refine b_pc (pc1 := 510) rfl ?_
  refine x_aload_n hx hb hl 3 rfl dL_law_510 rfl ?_
  refine x_iload_n hx hb hl 0 rfl dL_law_511 rfl ?_
  refine x_iconst hx hb dL_law_512 ?_
  refine x_iadd hx hb dL_law_513 ?_
  refine l_sld hx hb hX hbl eh hW (by omega) (by omega) e2 dL_law_514 ?_
  refine x_goi (x_runV (As := [.int (xJ a1), .int (xJ a2)]) hx hb hml hown hT hE hW hl.1 (Or.inl (by decide)) (so_268 h0 g _) rfl cf_X11_felonIs wq1657 wq1658 wq1656 (c_X11_felonIsF l D g T h0 t1 hW.2.1 a1 r1 a2 r2 (σ 4) (σ 274) (zWf σ 275) (zQs σ) (σ 273) (lR_L jr).1 (zLR_s (σ := σ) (fun k hk => hF1 k (by omega)) (by rw [hF1 268 (by omega)])) (fun t a b => by have y := (lR_B jr).2.1 t a b; rw [hF1 272 (by omega)]; exact ⟨y.1.symm, y.2⟩) (fun i _ _ => by rw [hF1 273 (by omega)]) (by rw [hF1 274 (by omega), hF1 275 (by omega)]; exact fun j _ _ => ⟨rfl, fun i _ _ => rfl⟩) (zYN_q (a := 0) (c := 0) (s := 0) (by rw [hF1 269 (by omega)]; exact (lR_D jr).1.2.1)) (by rw [hF1 269 (by omega)]; exact (lR_D jr).1.2.2.2.2.2) (by show zJt (σ 4) (zrt (t1 269)); rw [hF1 269 (by omega)]; exact (lR_D jr).1.2.2.1) jn1 jk1 jo1) ⟨rfl, rfl, ⟨by decide, by decide⟩, hcs⟩ rfl rfl (Nat.le_of_ble_eq_true rfl) dL_law_515) hW (fun q2 t2 H locs rq2 hp hW => ?_)
  obtain ⟨hF2, hI2, hp2⟩ := hp
  have jC2 : IC t2 := IC_f (fun k hk => hF2 k (by unfold suIC at hk; omega)) jC1
  have j02 : t2 0 11 = 0 ∨ t2 0 11 = 1 := by rw [hF2 0 (by omega)]; exact j01
  have jz2 : t2 999996 0 = t1 999996 0 := by rw [hF2 999996 (by omega)]
  have u1 : t2 1 1 = t1 1 1 := by rw [hF2 1 (by omega)]
  have u2 : t1 268 8 = σ 268 8 := by rw [hF1 268 (by omega)]
  have u0 : σ 1 1 = σ 268 8 := jr.1.1
  have u3 : t1 1 1 = σ 1 1 := by rw [hF1 1 (by omega)]
  have u4 : t2 268 8 = t1 268 8 := by rw [hF2 268 (by omega)]
  have u6 : t2 1 1 = t2 268 8 := by omega
  have u7 : t2 2 = xm8 (t2 276) ∧ xb8 (t2 276) := by rw [hF2 2 (by omega), hF1 2 (by omega), hF2 276 (by omega), hF1 276 (by omega)]; exact jr.1.2
  have w11a : t1 0 11 = σ 0 11 := by rw [hF1 0 (by omega)]
  have w11b : t2 0 11 = t1 0 11 := by rw [hF2 0 (by omega)]
  have w58a : t1 268 58 = σ 268 58 := by rw [hF1 268 (by omega)]
  have w58b : t2 268 58 = t1 268 58 := by rw [hF2 268 (by omega)]
  have w17a : t1 268 17 = σ 268 17 := by rw [hF1 268 (by omega)]
  have w17b : t2 268 17 = t1 268 17 := by rw [hF2 268 (by omega)]
  have w48a : t1 268 48 = σ 268 48 := by rw [hF1 268 (by omega)]
  have w48b : t2 268 48 = t1 268 48 := by rw [hF2 268 (by omega)]
  have w34a : t1 269 34 = σ 269 34 := by rw [hF1 269 (by omega)]
  have w34b : t2 269 34 = t1 269 34 := by rw [hF2 269 (by omega)]
  have j48 := lR_48 jr
  have jb58 := (lR_B jr).2.2
  have jD := lR_D jr
  have jBt : zBt (σ 269) := jD.1.2.2.2
  have q269 : t1 269 = σ 269 := hF1 269 (by omega)
  have zBB : (t2 5 = t2 288 ∧ zk3 (t2 5)) ∧ (∀ j : Int, 0 ≤ j → j < 100 → t2 4 j = t2 272 j ∧ 0 ≤ t2 4 j ∧ t2 4 j ≤ 3) ∧ t2 0 11 = t2 268 58 := ⟨by rw [hF2 5 (by omega), hF1 5 (by omega), hF2 288 (by omega), hF1 288 (by omega)]; exact (lR_B jr).1, by rw [hF2 4 (by omega), hF1 4 (by omega), hF2 272 (by omega), hF1 272 (by omega)]; exact (lR_B jr).2.1, by omega⟩
  have e4 : t2 4 = σ 4 := by rw [hF2 4 (by omega), hF1 4 (by omega)]
  have zL : zLx t2 := (lR_L jr).ff (fun k hk => by rw [hF2 k (by omega), hF1 k (by omega)]) (by omega)
  have zM : zLm t2 := (lR_M jr).ff (by rw [hF2 129 (by omega), hF1 129 (by omega)]) (by rw [hF2 273 (by omega), hF1 273 (by omega)])
  have zD : zDd t2 136 269 := jD.1.ff (fun o ho => by rw [hF2 (136 + o) (by omega), hF1 (136 + o) (by omega)]) e4 (fun q _ _ => by rw [hF2 269 (by omega), q269])
  have zDW : zDd t2 136 269 ∧ zWk t2 136 274 275 ∧ zB8 t2 275 := ⟨zD, jD.2.1.ff (by rw [hF2 138 (by omega), hF1 138 (by omega)]) (fun k hk => by rw [hF2 k (by omega), hF1 k (by omega)]) (by rw [hF2 274 (by omega), hF1 274 (by omega)]) (by rw [hF2 275 (by omega), hF1 275 (by omega)]), by unfold zB8; rw [hF2 275 (by omega), hF1 275 (by omega)]; exact jD.2.2⟩
  have zK : zKp t2 := fun h => by
    have y := (lR_K jr).2 (by omega)
    exact ⟨y.1.ff (fun o ho => by rw [hF2 (146 + o) (by omega), hF1 (146 + o) (by omega)]) e4 (fun q _ _ => by rw [hF2 271 (by omega), hF1 271 (by omega)]), y.2.ff (by rw [hF2 148 (by omega), hF1 148 (by omega)]) (fun k hk => by rw [hF2 k (by omega), hF1 k (by omega)]) (by rw [hF2 308 (by omega), hF1 308 (by omega)]) (by rw [hF2 309 (by omega), hF1 309 (by omega)])⟩
  have zKK : zB8 t2 309 ∧ zKp t2 := ⟨(by unfold zB8; rw [hF2 309 (by omega), hF1 309 (by omega)]; exact (lR_K jr).1), zK⟩
  have zIS : IS t2 := IS_f (fun k hk => hF2 k (by unfold suIS at hk; omega)) hI1.2.1
  have zIQ : IQ t2 := IQ_f (fun k hk => hF2 k (by unfold suIQ at hk; omega)) hI1.2.2.1
  have zG : zSg t2 := (lR_G jr).f (fun k hk => by rw [hF2 k (by omega), hF1 k (by omega)])
  have z48 : t2 268 48 = -1 := by omega
  have hJ : lJ t2 (n + 1) := ⟨jC2, hI2.1, hI2.2.1, hI2.2.2.1, j02, ⟨by omega, by omega⟩, ⟨⟨u6, u7⟩, zBB, zL, zM, zDW, zKK, zIS, zIQ, zG, z48⟩⟩
  refine lv_pop hx hb dL_law_518 rfl ?_
  refine lv_goto (tgt := 990) hx hb dL_law_519 (by decide) ?_
  refine W.widen (k := cells + 1) (n := slots + 60) (by omega) (by omega) ?_
  exact kk H locs t2 hJ hW
theorem l_10 {p : Program} {e : Env} {s : State} {m : MethodId} {below : List Frame} {meth : Method} {c : Code} {l : Launch} {b h0 L : Nat} {xs : Nat → Int32} {D : va_G} {g : xG} {T : Nat × Nat × Nat} {H : Heap} {locs : List Loc} {ls : Array Slot} {cells slots : Nat} {Q : State → Prop} {σ : xS} {n : Nat} {i : Int} (hx : p.tables.exec = Jvm.exec) (hb : c.code = cL_law) (hml : c.maxLocals = 4) (hown : s.vm.findClass "ShadowCourtLaw" = some m.cls) (hT : ∀ w ∈ xTB, w.before #[Value.ref b] s = true) (hE : xE D g T h0 s) (hX : va_X b L xs s s.heap) (hbl : b < s.heap.size) (eh : h0 = s.heap.size) (hW : xW D g h0 s H locs σ) (hl : lv_has ls 4 [(3, .int (xJ i)), (2, .ref (h0 + 268)), (1, .ref (h0 + 0)), (0, .ref b)]) (hcs : cells ≤ 600000 ∧ slots ≤ 7302250) (hcs1 : cells + 1 ≤ 600000 ∧ slots + 60 ≤ 7302250) (hJ : lJ σ n) (hn : n ≤ 512) (hi : 0 ≤ i ∧ i + 5 < (L : Int) ∧ L ≤ 3072)
    (kk : ∀ (H : Heap) (locs : List Loc) (τ : xS), lJ τ (n + 1) → xW D g h0 s H locs τ → W p l e room_1 s m #[Value.ref b] below meth c H locs (cells + 1) (slots + 60) Q (F0 m 990 ls [])) : W p l e room_1 s m #[Value.ref b] below meth c H locs cells slots Q (F0 m 522 ls []) := by
  obtain ⟨jC, jn, jk, jo, j0, jz, jr⟩ := hJ
  obtain ⟨a1, e1, r1⟩ := xJ_ex (xs (i + 1).toNat)
  obtain ⟨a2, e2, r2⟩ := xJ_ex (xs (i + 2).toNat)
  refine x_aload_n hx hb hl 2 rfl dL_law_522 rfl ?_
  refine x_aload_n hx hb hl 3 rfl dL_law_523 rfl ?_
  refine x_iload_n hx hb hl 0 rfl dL_law_524 rfl ?_
  refine x_iconst hx hb dL_law_525 ?_
  refine x_iadd hx hb dL_law_526 ?_
  refine l_sld hx hb hX hbl eh hW (by omega) (by omega) e1 dL_law_527 ?_
  refine x_aload_n hx hb hl 3 rfl dL_law_528 rfl ?_
  refine x_iload_n hx hb hl 0 rfl dL_law_529 rfl ?_
  refine x_iconst hx hb dL_law_530 ?_
  refine b_pc (pc1 := 531) rfl ?_
  refine x_iadd hx hb dL_law_531 ?_
  refine l_sld hx hb hX hbl eh hW (by omega) (by omega) e2 dL_law_532 ?_
  refine x_goi (x_runV (As := [.int (xJ a1), .int (xJ a2)]) hx hb hml hown hT hE hW hl.1 (Or.inl (by decide)) (so_0 h0 g _) rfl cf_X10_shade wq946 wq947 wq945 (c_X10_shadeF l D g T h0 σ hW.2.1 a1 r1 a2 r2 (zQs σ) (σ 4) (σ 273) (lR_L jr).1 (lR_L jr).2 (fun t _ _ => rfl) (lR_M jr) (fun j j1 j2 => by have a := zok_j ((lR_D jr).1.ok4 (IMn.n1 jn)) j j1 j2; have b : zYc σ 136 j = σ 137 j := zYc_J ⟨j1, j2⟩; rw [← b]; exact a) jC (lR_S jr)) ⟨rfl, rfl, ⟨by decide, by decide⟩, hcs⟩ rfl rfl (Nat.le_of_ble_eq_true rfl) dL_law_533) hW (fun q1 t1 H locs rq1 hp hW => ?_)
  obtain ⟨hF1, hI1, hp1⟩ := hp
  have jC1 := hI1.1
  have jn1 : IMn t1 := IMn_f (fun k hk => hF1 k (by unfold suIMn at hk; omega)) jn
  have jk1 : IMk t1 := IMk_f (fun k hk => hF1 k (by unfold suIMk at hk; omega)) jk
  have jo1 : IMo t1 := IMo_f (fun k hk => hF1 k (by unfold suIMo at hk; omega)) jo
  have j01 : t1 0 11 = 0 ∨ t1 0 11 = 1 := by rw [hF1 0 (by omega)]; exact j0
  have jz1 : t1 999996 0 = σ 999996 0 := by rw [hF1 999996 (by omega)]
  refine lv_pop hx hb dL_law_536 rfl ?_
  refine x_aload_n hx hb hl 1 rfl dL_law_537 rfl ?_
  refine x_aload_n hx hb hl 3 rfl dL_law_538 rfl ?_
  refine x_iload_n hx hb hl 0 rfl dL_law_539 rfl ?_
  refine x_iconst hx hb dL_law_540 ?_
  refine x_iadd hx hb dL_law_541 ?_
  refine l_sld hx hb hX hbl eh hW (by omega) (by omega) e1 dL_law_542 ?_
  refine b_pc (pc1 := 543) rfl ?_
  refine x_aload_n hx hb hl 3 rfl dL_law_543 rfl ?_
  refine x_iload_n hx hb hl 0 rfl dL_law_544 rfl ?_
  refine x_iconst hx hb dL_law_545 ?_
  refine x_iadd hx hb dL_law_546 ?_
  refine l_sld hx hb hX hbl eh hW (by omega) (by omega) e2 dL_law_547 ?_
  refine x_goi (x_runV (As := [.int (xJ a1), .int (xJ a2)]) hx hb hml hown hT hE hW hl.1 (Or.inl (by decide)) (so_268 h0 g _) rfl cf_X11_shade wq1661 wq1662 wq1660 (c_X11_shadeF l D g T h0 t1 hW.2.1 a1 r1 a2 r2 (zQs σ) (σ 4) (σ 273) (lR_L jr).1 (zLR_s (σ := σ) (fun k hk => hF1 k (by omega)) (by rw [hF1 268 (by omega)])) (fun t a b => by have y := (lR_B jr).2.1 t a b; rw [hF1 272 (by omega)]; exact ⟨y.1.symm, y.2⟩) (fun i _ _ => by rw [hF1 273 (by omega)]) (by rw [hF1 269 (by omega)]; exact zJg_G (lR_D jr).1.2.2.1 (fun j j1 j2 => ((IMn.n1 jn).1 j j1 j2).1)) (by rw [hF1 269 (by omega)]; exact zJg_N (lR_D jr).1.2.2.1) jn1 jk1 jo1) ⟨rfl, rfl, ⟨by decide, by decide⟩, hcs⟩ rfl rfl (Nat.le_of_ble_eq_true rfl) dL_law_548) hW (fun q2 t2 H locs rq2 hp hW => ?_)
  obtain ⟨hF2, hI2, hp2⟩ := hp
  have jC2 : IC t2 := IC_f (fun k hk => hF2 k (by unfold suIC at hk; omega)) jC1
  have j02 : t2 0 11 = 0 ∨ t2 0 11 = 1 := by rw [hF2 0 (by omega)]; exact j01
  have jz2 : t2 999996 0 = t1 999996 0 := by rw [hF2 999996 (by omega)]
  have u1 : t2 1 1 = t1 1 1 := by rw [hF2 1 (by omega)]
  have u2 : t1 268 8 = σ 268 8 := by rw [hF1 268 (by omega)]
  have u0 : σ 1 1 = σ 268 8 := jr.1.1
  have u3 : t1 1 1 = σ 1 1 := by rw [hF1 1 (by omega)]
  have u4 : t2 268 8 = t1 268 8 := by rw [hF2 268 (by omega)]
  have u6 : t2 1 1 = t2 268 8 := by omega
  have u7 : t2 2 = xm8 (t2 276) ∧ xb8 (t2 276) := by rw [hF2 2 (by omega), hF1 2 (by omega), hF2 276 (by omega), hF1 276 (by omega)]; exact jr.1.2
  have w11a : t1 0 11 = σ 0 11 := by rw [hF1 0 (by omega)]
  have w11b : t2 0 11 = t1 0 11 := by rw [hF2 0 (by omega)]
  have w58a : t1 268 58 = σ 268 58 := by rw [hF1 268 (by omega)]
  have w58b : t2 268 58 = t1 268 58 := by rw [hF2 268 (by omega)]
  have w17a : t1 268 17 = σ 268 17 := by rw [hF1 268 (by omega)]
  have w17b : t2 268 17 = t1 268 17 := by rw [hF2 268 (by omega)]
  have w48a : t1 268 48 = σ 268 48 := by rw [hF1 268 (by omega)]
  have w48b : t2 268 48 = t1 268 48 := by rw [hF2 268 (by omega)]
  have w34a : t1 269 34 = σ 269 34 := by rw [hF1 269 (by omega)]
  have w34b : t2 269 34 = t1 269 34 := by rw [hF2 269 (by omega)]
  have j48 := lR_48 jr
  have jb58 := (lR_B jr).2.2
  have jD := lR_D jr
  have jBt : zBt (σ 269) := jD.1.2.2.2
  have q269 : t1 269 = σ 269 := hF1 269 (by omega)
  have zBB : (t2 5 = t2 288 ∧ zk3 (t2 5)) ∧ (∀ j : Int, 0 ≤ j → j < 100 → t2 4 j = t2 272 j ∧ 0 ≤ t2 4 j ∧ t2 4 j ≤ 3) ∧ t2 0 11 = t2 268 58 := ⟨by rw [hF2 5 (by omega), hF1 5 (by omega), hF2 288 (by omega), hF1 288 (by omega)]; exact (lR_B jr).1, by rw [hF2 4 (by omega), hF1 4 (by omega), hF2 272 (by omega), hF1 272 (by omega)]; exact (lR_B jr).2.1, by omega⟩
  have e4 : t2 4 = σ 4 := by rw [hF2 4 (by omega), hF1 4 (by omega)]
  have zL : zLx t2 := (lR_L jr).ff (fun k hk => by rw [hF2 k (by omega), hF1 k (by omega)]) (by omega)
  have zM : zLm t2 := (lR_M jr).ff (by rw [hF2 129 (by omega), hF1 129 (by omega)]) (by rw [hF2 273 (by omega), hF1 273 (by omega)])
  have zD : zDd t2 136 269 := jD.1.ff (fun o ho => by rw [hF2 (136 + o) (by omega), hF1 (136 + o) (by omega)]) e4 (fun q _ _ => by rw [hF2 269 (by omega), q269])
  have zDW : zDd t2 136 269 ∧ zWk t2 136 274 275 ∧ zB8 t2 275 := ⟨zD, jD.2.1.ff (by rw [hF2 138 (by omega), hF1 138 (by omega)]) (fun k hk => by rw [hF2 k (by omega), hF1 k (by omega)]) (by rw [hF2 274 (by omega), hF1 274 (by omega)]) (by rw [hF2 275 (by omega), hF1 275 (by omega)]), by unfold zB8; rw [hF2 275 (by omega), hF1 275 (by omega)]; exact jD.2.2⟩
  have zK : zKp t2 := fun h => by
    have y := (lR_K jr).2 (by omega)
    exact ⟨y.1.ff (fun o ho => by rw [hF2 (146 + o) (by omega), hF1 (146 + o) (by omega)]) e4 (fun q _ _ => by rw [hF2 271 (by omega), hF1 271 (by omega)]), y.2.ff (by rw [hF2 148 (by omega), hF1 148 (by omega)]) (fun k hk => by rw [hF2 k (by omega), hF1 k (by omega)]) (by rw [hF2 308 (by omega), hF1 308 (by omega)]) (by rw [hF2 309 (by omega), hF1 309 (by omega)])⟩
  have zKK : zB8 t2 309 ∧ zKp t2 := ⟨(by unfold zB8; rw [hF2 309 (by omega), hF1 309 (by omega)]; exact (lR_K jr).1), zK⟩
  have zIS : IS t2 := IS_f (fun k hk => hF2 k (by unfold suIS at hk; omega)) hI1.2.1
  have zIQ : IQ t2 := IQ_f (fun k hk => hF2 k (by unfold suIQ at hk; omega)) (IQ_f (fun k hk => hF1 k (by unfold suIQ at hk; omega)) (lR_I jr))
  have zG : zSg t2 := (lR_G jr).f (fun k hk => by rw [hF2 k (by omega), hF1 k (by omega)])
  have z48 : t2 268 48 = -1 := by omega
  have hJ : lJ t2 (n + 1) := ⟨jC2, hI2.1, hI2.2.1, hI2.2.2.1, j02, ⟨by omega, by omega⟩, ⟨⟨u6, u7⟩, zBB, zL, zM, zDW, zKK, zIS, zIQ, zG, z48⟩⟩
  refine lv_pop hx hb dL_law_551 rfl ?_
  refine lv_goto (tgt := 990) hx hb dL_law_552 (by decide) ?_
  refine W.widen (k := cells + 1) (n := slots + 60) (by omega) (by omega) ?_
  exact kk H locs t2 hJ hW
theorem l_11 {p : Program} {e : Env} {s : State} {m : MethodId} {below : List Frame} {meth : Method} {c : Code} {l : Launch} {b h0 L : Nat} {xs : Nat → Int32} {D : va_G} {g : xG} {T : Nat × Nat × Nat} {H : Heap} {locs : List Loc} {ls : Array Slot} {cells slots : Nat} {Q : State → Prop} {σ : xS} {n : Nat} {i : Int} (hx : p.tables.exec = Jvm.exec) (hb : c.code = cL_law) (hml : c.maxLocals = 4) (hown : s.vm.findClass "ShadowCourtLaw" = some m.cls) (hT : ∀ w ∈ xTB, w.before #[Value.ref b] s = true) (hE : xE D g T h0 s) (hX : va_X b L xs s s.heap) (hbl : b < s.heap.size) (eh : h0 = s.heap.size) (hW : xW D g h0 s H locs σ) (hl : lv_has ls 4 [(3, .int (xJ i)), (2, .ref (h0 + 268)), (1, .ref (h0 + 0)), (0, .ref b)]) (hcs : cells ≤ 600000 ∧ slots ≤ 7302250) (hcs1 : cells + 1 ≤ 600000 ∧ slots + 60 ≤ 7302250) (hJ : lJ σ n) (hn : n ≤ 512) (hi : 0 ≤ i ∧ i + 5 < (L : Int) ∧ L ≤ 3072)
    (kk : ∀ (H : Heap) (locs : List Loc) (τ : xS), lJ τ (n + 1) → xW D g h0 s H locs τ → W p l e room_1 s m #[Value.ref b] below meth c H locs (cells + 1) (slots + 60) Q (F0 m 990 ls [])) : W p l e room_1 s m #[Value.ref b] below meth c H locs cells slots Q (F0 m 555 ls []) := by
  obtain ⟨jC, jn, jk, jo, j0, jz, jr⟩ := hJ
  obtain ⟨a1, e1, r1⟩ := xJ_ex (xs (i + 1).toNat)
  refine x_aload_n hx hb hl 2 rfl dL_law_555 rfl ?_
  refine x_aload_n hx hb hl 3 rfl dL_law_556 rfl ?_
  refine x_iload_n hx hb hl 0 rfl dL_law_557 rfl ?_
  refine x_iconst hx hb dL_law_558 ?_
  refine x_iadd hx hb dL_law_559 ?_
  refine l_sld hx hb hX hbl eh hW (by omega) (by omega) e1 dL_law_560 ?_
  refine x_goi (x_runV (As := [.int (xJ a1)]) hx hb hml hown hT hE hW hl.1 (Or.inl (by decide)) (so_0 h0 g _) rfl cf_X10_atOnce wq951 wq952 wq950 (c_X10_atOnceP l D g T h0 σ hW.2.1 a1 r1 (σ 4) (σ 274) (zWf σ 275) (zQs σ) (σ 273) (lR_L jr).1 (lR_L jr).2 (fun t _ _ => rfl) (lR_M jr) (lR_D jr).2.1 (lR_D jr).1.qq ((lR_D jr).1.ok4 (IMn.n1 jn)) jC (lR_S jr) (lR_I jr)) ⟨rfl, rfl, ⟨by decide, by decide⟩, hcs⟩ rfl rfl (Nat.le_of_ble_eq_true rfl) dL_law_561) hW (fun q1 t1 H locs rq1 hp hW => ?_)
  obtain ⟨hF1, hI1, hp1⟩ := hp
  have jC1 := hI1.1
  have jn1 : IMn t1 := IMn_f (fun k hk => hF1 k (by unfold suIMn at hk; omega)) jn
  have jk1 : IMk t1 := IMk_f (fun k hk => hF1 k (by unfold suIMk at hk; omega)) jk
  have jo1 : IMo t1 := IMo_f (fun k hk => hF1 k (by unfold suIMo at hk; omega)) jo
  have j01 : t1 0 11 = 0 ∨ t1 0 11 = 1 := by rw [hF1 0 (by omega)]; exact j0
  have jz1 : t1 999996 0 = σ 999996 0 := by rw [hF1 999996 (by omega)]
  refine x_aload_n hx hb hl 1 rfl dL_law_564 rfl ?_
  refine x_aload_n hx hb hl 3 rfl dL_law_565 rfl ?_
  refine b_pc (pc1 := 566) rfl ?_
  refine x_iload_n hx hb hl 0 rfl dL_law_566 rfl ?_
  refine x_iconst hx hb dL_law_567 ?_
  refine x_iadd hx hb dL_law_568 ?_
  refine l_sld hx hb hX hbl eh hW (by omega) (by omega) e1 dL_law_569 ?_
  refine x_goi (x_runV (As := [.int (xJ a1)]) hx hb hml hown hT hE hW hl.1 (Or.inl (by decide)) (so_268 h0 g _) rfl cf_X11_atOnce wq1665 wq1666 wq1664 (c_X11_atOnceP l D g T h0 t1 hW.2.1 a1 r1 (σ 4) (σ 274) (zWf σ 275) (zQs σ) (σ 273) (lR_L jr).1 (zLR_s (σ := σ) (fun k hk => hF1 k (by omega)) (by rw [hF1 268 (by omega)])) (fun t a b => by have y := (lR_B jr).2.1 t a b; rw [hF1 272 (by omega)]; exact ⟨y.1.symm, y.2⟩) (fun i _ _ => by rw [hF1 273 (by omega)]) (by rw [hF1 274 (by omega), hF1 275 (by omega)]; exact fun j _ _ => ⟨rfl, fun i _ _ => rfl⟩) (zYN_q (a := 0) (c := 0) (s := 0) (by rw [hF1 269 (by omega)]; exact (lR_D jr).1.2.1)) (by rw [hF1 269 (by omega)]; exact (lR_D jr).1.2.2.2.2.2) (by show zJt (σ 4) (zrt (t1 269)); rw [hF1 269 (by omega)]; exact (lR_D jr).1.2.2.1) jn1 jk1 jo1) ⟨rfl, rfl, ⟨by decide, by decide⟩, hcs⟩ rfl rfl (Nat.le_of_ble_eq_true rfl) dL_law_570) hW (fun q2 t2 H locs rq2 hp hW => ?_)
  obtain ⟨hF2, hI2, hp2⟩ := hp
  have jC2 : IC t2 := IC_f (fun k hk => hF2 k (by unfold suIC at hk; omega)) jC1
  have j02 : t2 0 11 = 0 ∨ t2 0 11 = 1 := by rw [hF2 0 (by omega)]; exact j01
  have jz2 : t2 999996 0 = t1 999996 0 := by rw [hF2 999996 (by omega)]
  have u1 : t2 1 1 = t1 1 1 := by rw [hF2 1 (by omega)]
  have u2 : t1 268 8 = σ 268 8 := by rw [hF1 268 (by omega)]
  have u0 : σ 1 1 = σ 268 8 := jr.1.1
  have u3 : t1 1 1 = σ 1 1 := by rw [hF1 1 (by omega)]
  have u4 : t2 268 8 = t1 268 8 := by rw [hF2 268 (by omega)]
  have u6 : t2 1 1 = t2 268 8 := by omega
  have u7 : t2 2 = xm8 (t2 276) ∧ xb8 (t2 276) := by rw [hF2 2 (by omega), hF1 2 (by omega), hF2 276 (by omega), hF1 276 (by omega)]; exact jr.1.2
  have w11a : t1 0 11 = σ 0 11 := by rw [hF1 0 (by omega)]
  have w11b : t2 0 11 = t1 0 11 := by rw [hF2 0 (by omega)]
  have w58a : t1 268 58 = σ 268 58 := by rw [hF1 268 (by omega)]
  have w58b : t2 268 58 = t1 268 58 := by rw [hF2 268 (by omega)]
  have w17a : t1 268 17 = σ 268 17 := by rw [hF1 268 (by omega)]
  have w17b : t2 268 17 = t1 268 17 := by rw [hF2 268 (by omega)]
  have w48a : t1 268 48 = σ 268 48 := by rw [hF1 268 (by omega)]
  have w48b : t2 268 48 = t1 268 48 := by rw [hF2 268 (by omega)]
  have w34a : t1 269 34 = σ 269 34 := by rw [hF1 269 (by omega)]
  have w34b : t2 269 34 = t1 269 34 := by rw [hF2 269 (by omega)]
  have j48 := lR_48 jr
  have jb58 := (lR_B jr).2.2
  have jD := lR_D jr
  have jBt : zBt (σ 269) := jD.1.2.2.2
  have q269 : t1 269 = σ 269 := hF1 269 (by omega)
  have zBB : (t2 5 = t2 288 ∧ zk3 (t2 5)) ∧ (∀ j : Int, 0 ≤ j → j < 100 → t2 4 j = t2 272 j ∧ 0 ≤ t2 4 j ∧ t2 4 j ≤ 3) ∧ t2 0 11 = t2 268 58 := ⟨by rw [hF2 5 (by omega), hF1 5 (by omega), hF2 288 (by omega), hF1 288 (by omega)]; exact (lR_B jr).1, by rw [hF2 4 (by omega), hF1 4 (by omega), hF2 272 (by omega), hF1 272 (by omega)]; exact (lR_B jr).2.1, by omega⟩
  have e4 : t2 4 = σ 4 := by rw [hF2 4 (by omega), hF1 4 (by omega)]
  have zL : zLx t2 := (lR_L jr).ff (fun k hk => by rw [hF2 k (by omega), hF1 k (by omega)]) (by omega)
  have zM : zLm t2 := (lR_M jr).ff (by rw [hF2 129 (by omega), hF1 129 (by omega)]) (by rw [hF2 273 (by omega), hF1 273 (by omega)])
  have zD : zDd t2 136 269 := jD.1.ff (fun o ho => by rw [hF2 (136 + o) (by omega), hF1 (136 + o) (by omega)]) e4 (fun q _ _ => by rw [hF2 269 (by omega), q269])
  have zDW : zDd t2 136 269 ∧ zWk t2 136 274 275 ∧ zB8 t2 275 := ⟨zD, jD.2.1.ff (by rw [hF2 138 (by omega), hF1 138 (by omega)]) (fun k hk => by rw [hF2 k (by omega), hF1 k (by omega)]) (by rw [hF2 274 (by omega), hF1 274 (by omega)]) (by rw [hF2 275 (by omega), hF1 275 (by omega)]), by unfold zB8; rw [hF2 275 (by omega), hF1 275 (by omega)]; exact jD.2.2⟩
  have zK : zKp t2 := fun h => by
    have y := (lR_K jr).2 (by omega)
    exact ⟨y.1.ff (fun o ho => by rw [hF2 (146 + o) (by omega), hF1 (146 + o) (by omega)]) e4 (fun q _ _ => by rw [hF2 271 (by omega), hF1 271 (by omega)]), y.2.ff (by rw [hF2 148 (by omega), hF1 148 (by omega)]) (fun k hk => by rw [hF2 k (by omega), hF1 k (by omega)]) (by rw [hF2 308 (by omega), hF1 308 (by omega)]) (by rw [hF2 309 (by omega), hF1 309 (by omega)])⟩
  have zKK : zB8 t2 309 ∧ zKp t2 := ⟨(by unfold zB8; rw [hF2 309 (by omega), hF1 309 (by omega)]; exact (lR_K jr).1), zK⟩
  have zIS : IS t2 := IS_f (fun k hk => hF2 k (by unfold suIS at hk; omega)) hI1.2.1
  have zIQ : IQ t2 := IQ_f (fun k hk => hF2 k (by unfold suIQ at hk; omega)) hI1.2.2.1
  have zG : zSg t2 := (lR_G jr).f (fun k hk => by rw [hF2 k (by omega), hF1 k (by omega)])
  have z48 : t2 268 48 = -1 := by omega
  have hJ : lJ t2 (n + 1) := ⟨jC2, hI2.1, hI2.2.1, hI2.2.2.1, j02, ⟨by omega, by omega⟩, ⟨⟨u6, u7⟩, zBB, zL, zM, zDW, zKK, zIS, zIQ, zG, z48⟩⟩
  refine x_icmp_eq (tgt := 990) hx hb rq1 rq2 dL_law_573 (by decide) (fun _ => ?_) (fun h9 => absurd ?_ h9)
  · refine W.widen (k := cells + 1) (n := slots + 60) (by omega) (by omega) ?_
    exact kk H locs t2 hJ hW
  have ye : zYe (zYc σ 136) (zYr t1) := fun i h1 h2 h3 => by
    rw [jD.1.1 i h1 h2 h3]
    unfold zYr
    rw [q269]
    unfold zYN
    simp only [if_neg h1, if_neg h2, if_neg h3]
  have z4 : zYc σ 136 44 = zYN (σ 269) 0 0 0 44 := jD.1.1 44 (by decide) (by decide) (by decide)
  have zJ : ∀ ol t : Int, zLy (σ 4) (zQs σ) (σ 273) (zYN (σ 269) 0 0 0 44) (zYc σ 136) 1 ol t = zLy (σ 4) (zQs σ) (σ 273) (zYN (σ 269) 0 0 0 44) (zYN (σ 269) 0 0 0) 1 ol t := fun ol t => zLy_J (jD.1.1 0 (by decide) (by decide) (by decide)) (jD.1.1 1 (by decide) (by decide) (by decide))
  rw [q269] at hp2
  rw [z4] at hp1
  simp only [zJ] at hp1
  rcases hp1 with ⟨g1, g2, g3, g4⟩ | ⟨g1, g2⟩
  · rcases hp2 with ⟨h1, h2, h3, h4⟩ | ⟨h1, h2⟩
    · rcases (by omega : a1 = 0 ∨ a1 = 1 ∨ a1 = 2) with c | c | c
      · exact zIm_u (fun f k f1 f2 k1 k2 => by
          unfold zAt
          rw [ye.vF ⟨f1, f2⟩, ye (4 + f) (by omega) (by omega) (by omega)]
          exact and_congr (ye.ow ⟨f1, f2⟩) Iff.rfl) (g4 c) (h4 c)
      · exact (g2 c).trans (h2 c).symm
      · exact (g3 c).trans (h3 c).symm
    · exact absurd g1 h1
  · rcases hp2 with ⟨h1, h2, h3, h4⟩ | ⟨h1, h2⟩
    · exact absurd h1 g1
    · exact g2.trans h2.symm
theorem l_12 {p : Program} {e : Env} {s : State} {m : MethodId} {below : List Frame} {meth : Method} {c : Code} {l : Launch} {b h0 L : Nat} {xs : Nat → Int32} {D : va_G} {g : xG} {T : Nat × Nat × Nat} {H : Heap} {locs : List Loc} {ls : Array Slot} {cells slots : Nat} {Q : State → Prop} {σ : xS} {n : Nat} {i : Int} (hx : p.tables.exec = Jvm.exec) (hb : c.code = cL_law) (hml : c.maxLocals = 4) (hown : s.vm.findClass "ShadowCourtLaw" = some m.cls) (hT : ∀ w ∈ xTB, w.before #[Value.ref b] s = true) (hE : xE D g T h0 s) (hX : va_X b L xs s s.heap) (hbl : b < s.heap.size) (eh : h0 = s.heap.size) (hW : xW D g h0 s H locs σ) (hl : lv_has ls 4 [(3, .int (xJ i)), (2, .ref (h0 + 268)), (1, .ref (h0 + 0)), (0, .ref b)]) (hcs : cells ≤ 600000 ∧ slots ≤ 7302250) (hcs1 : cells + 1 ≤ 600000 ∧ slots + 60 ≤ 7302250) (hJ : lJ σ n) (hn : n ≤ 512) (hi : 0 ≤ i ∧ i + 5 < (L : Int) ∧ L ≤ 3072)
    (kk : ∀ (H : Heap) (locs : List Loc) (τ : xS), lJ τ (n + 1) → xW D g h0 s H locs τ → W p l e room_1 s m #[Value.ref b] below meth c H locs (cells + 1) (slots + 60) Q (F0 m 990 ls [])) : W p l e room_1 s m #[Value.ref b] below meth c H locs cells slots Q (F0 m 578 ls []) := by
  obtain ⟨jC, jn, jk, jo, j0, jz, jr⟩ := hJ
  obtain ⟨a1, e1, r1⟩ := xJ_ex (xs (i + 1).toNat)
  obtain ⟨a2, e2, r2⟩ := xJ_ex (xs (i + 2).toNat)
  obtain ⟨a3, e3, r3⟩ := xJ_ex (xs (i + 3).toNat)
  refine x_aload_n hx hb hl 2 rfl dL_law_578 rfl ?_
  refine x_aload_n hx hb hl 3 rfl dL_law_579 rfl ?_
  refine x_iload_n hx hb hl 0 rfl dL_law_580 rfl ?_
  refine x_iconst hx hb dL_law_581 ?_
  refine x_iadd hx hb dL_law_582 ?_
  refine l_sld hx hb hX hbl eh hW (by omega) (by omega) e1 dL_law_583 ?_
  refine x_aload_n hx hb hl 3 rfl dL_law_584 rfl ?_
  refine x_iload_n hx hb hl 0 rfl dL_law_585 rfl ?_
  refine x_iconst hx hb dL_law_586 ?_
  refine b_pc (pc1 := 587) rfl ?_
  refine x_iadd hx hb dL_law_587 ?_
  refine l_sld hx hb hX hbl eh hW (by omega) (by omega) e2 dL_law_588 ?_
  refine x_aload_n hx hb hl 3 rfl dL_law_589 rfl ?_
  refine x_iload_n hx hb hl 0 rfl dL_law_590 rfl ?_
  refine x_iconst hx hb dL_law_591 ?_
  refine x_iadd hx hb dL_law_592 ?_
  refine l_sld hx hb hX hbl eh hW (by omega) (by omega) e3 dL_law_593 ?_
  refine x_goi (x_runV (As := [.int (xJ a1), .int (xJ a2), .int (xJ a3)]) hx hb hml hown hT hE hW hl.1 (Or.inl (by decide)) (so_0 h0 g _) rfl cf_X10_fewest wq982 wq983 wq981 (c_X10_fewestF l D g T h0 σ hW.2.1 a1 r1 a2 r2 a3 r3 (σ 4) (σ 274) (zWf σ 275) (zQs σ) (σ 273) (lR_L jr).1 (lR_L jr).2 (fun t _ _ => rfl) (lR_M jr) (lR_D jr).2.1 (lR_D jr).1.qq ((lR_D jr).1.ok4 (IMn.n1 jn)) jC (lR_S jr) (lR_I jr)) ⟨rfl, rfl, ⟨by decide, by decide⟩, hcs⟩ rfl rfl (Nat.le_of_ble_eq_true rfl) dL_law_594) hW (fun q1 t1 H locs rq1 hp hW => ?_)
  obtain ⟨hF1, hI1, hp1⟩ := hp
  have jC1 := hI1.1
  have jn1 : IMn t1 := IMn_f (fun k hk => hF1 k (by unfold suIMn at hk; omega)) jn
  have jk1 : IMk t1 := IMk_f (fun k hk => hF1 k (by unfold suIMk at hk; omega)) jk
  have jo1 : IMo t1 := IMo_f (fun k hk => hF1 k (by unfold suIMo at hk; omega)) jo
  have j01 : t1 0 11 = 0 ∨ t1 0 11 = 1 := by rw [hF1 0 (by omega)]; exact j0
  have jz1 : t1 999996 0 = σ 999996 0 := by rw [hF1 999996 (by omega)]
  refine lv_pop hx hb dL_law_597 rfl ?_
  refine x_aload_n hx hb hl 1 rfl dL_law_598 rfl ?_
  refine b_pc (pc1 := 599) rfl ?_
  refine x_aload_n hx hb hl 3 rfl dL_law_599 rfl ?_
  refine x_iload_n hx hb hl 0 rfl dL_law_600 rfl ?_
  refine x_iconst hx hb dL_law_601 ?_
  refine x_iadd hx hb dL_law_602 ?_
  refine l_sld hx hb hX hbl eh hW (by omega) (by omega) e1 dL_law_603 ?_
  refine x_aload_n hx hb hl 3 rfl dL_law_604 rfl ?_
  refine x_iload_n hx hb hl 0 rfl dL_law_605 rfl ?_
  refine x_iconst hx hb dL_law_606 ?_
  refine x_iadd hx hb dL_law_607 ?_
  refine l_sld hx hb hX hbl eh hW (by omega) (by omega) e2 dL_law_608 ?_
  refine b_pc (pc1 := 609) rfl ?_
  refine x_aload_n hx hb hl 3 rfl dL_law_609 rfl ?_
  refine x_iload_n hx hb hl 0 rfl dL_law_610 rfl ?_
  refine x_iconst hx hb dL_law_611 ?_
  refine x_iadd hx hb dL_law_612 ?_
  refine l_sld hx hb hX hbl eh hW (by omega) (by omega) e3 dL_law_613 ?_
  refine x_goi (x_runV (As := [.int (xJ a1), .int (xJ a2), .int (xJ a3)]) hx hb hml hown hT hE hW hl.1 (Or.inl (by decide)) (so_268 h0 g _) rfl cf_X11_fewest wq1680 wq1681 wq1679 (c_X11_fewestF l D g T h0 t1 hW.2.1 a1 r1 a2 r2 a3 r3 jn1 jk1 jo1) ⟨rfl, rfl, ⟨by decide, by decide⟩, hcs⟩ rfl rfl (Nat.le_of_ble_eq_true rfl) dL_law_614) hW (fun q2 t2 H locs rq2 hp hW => ?_)
  obtain ⟨hF2, hI2, hp2⟩ := hp
  have jC2 : IC t2 := IC_f (fun k hk => hF2 k (by unfold suIC at hk; omega)) jC1
  have j02 : t2 0 11 = 0 ∨ t2 0 11 = 1 := by rw [hF2 0 (by omega)]; exact j01
  have jz2 : t2 999996 0 = t1 999996 0 := by rw [hF2 999996 (by omega)]
  have u1 : t2 1 1 = t1 1 1 := by rw [hF2 1 (by omega)]
  have u2 : t1 268 8 = σ 268 8 := by rw [hF1 268 (by omega)]
  have u0 : σ 1 1 = σ 268 8 := jr.1.1
  have u3 : t1 1 1 = σ 1 1 := by rw [hF1 1 (by omega)]
  have u4 : t2 268 8 = t1 268 8 := by rw [hF2 268 (by omega)]
  have u6 : t2 1 1 = t2 268 8 := by omega
  have u7 : t2 2 = xm8 (t2 276) ∧ xb8 (t2 276) := by rw [hF2 2 (by omega), hF1 2 (by omega), hF2 276 (by omega), hF1 276 (by omega)]; exact jr.1.2
  have w11a : t1 0 11 = σ 0 11 := by rw [hF1 0 (by omega)]
  have w11b : t2 0 11 = t1 0 11 := by rw [hF2 0 (by omega)]
  have w58a : t1 268 58 = σ 268 58 := by rw [hF1 268 (by omega)]
  have w58b : t2 268 58 = t1 268 58 := by rw [hF2 268 (by omega)]
  have w17a : t1 268 17 = σ 268 17 := by rw [hF1 268 (by omega)]
  have w17b : t2 268 17 = t1 268 17 := by rw [hF2 268 (by omega)]
  have w48a : t1 268 48 = σ 268 48 := by rw [hF1 268 (by omega)]
  have w48b : t2 268 48 = t1 268 48 := by rw [hF2 268 (by omega)]
  have w34a : t1 269 34 = σ 269 34 := by rw [hF1 269 (by omega)]
  have j48 := lR_48 jr
  have jb58 := (lR_B jr).2.2
  have jD := lR_D jr
  have jBt : zBt (σ 269) := jD.1.2.2.2
  have q269 : t1 269 = σ 269 := hF1 269 (by omega)
  have zBB : (t2 5 = t2 288 ∧ zk3 (t2 5)) ∧ (∀ j : Int, 0 ≤ j → j < 100 → t2 4 j = t2 272 j ∧ 0 ≤ t2 4 j ∧ t2 4 j ≤ 3) ∧ t2 0 11 = t2 268 58 := ⟨by rw [hF2 5 (by omega), hF1 5 (by omega), hF2 288 (by omega), hF1 288 (by omega)]; exact (lR_B jr).1, by rw [hF2 4 (by omega), hF1 4 (by omega), hF2 272 (by omega), hF1 272 (by omega)]; exact (lR_B jr).2.1, by omega⟩
  have e4 : t2 4 = σ 4 := by rw [hF2 4 (by omega), hF1 4 (by omega)]
  have zL : zLx t2 := (lR_L jr).ff (fun k hk => by rw [hF2 k (by omega), hF1 k (by omega)]) (by omega)
  have zM : zLm t2 := (lR_M jr).ff (by rw [hF2 129 (by omega), hF1 129 (by omega)]) (by rw [hF2 273 (by omega), hF1 273 (by omega)])
  have zD : zDd t2 136 269 := jD.1.ff (fun o ho => by rw [hF2 (136 + o) (by omega), hF1 (136 + o) (by omega)]) e4 (fun q a b => (hp2 q a b).trans (congrFun q269 q))
  have zDW : zDd t2 136 269 ∧ zWk t2 136 274 275 ∧ zB8 t2 275 := ⟨zD, jD.2.1.ff (by rw [hF2 138 (by omega), hF1 138 (by omega)]) (fun k hk => by rw [hF2 k (by omega), hF1 k (by omega)]) (by rw [hF2 274 (by omega), hF1 274 (by omega)]) (by rw [hF2 275 (by omega), hF1 275 (by omega)]), by unfold zB8; rw [hF2 275 (by omega), hF1 275 (by omega)]; exact jD.2.2⟩
  have zK : zKp t2 := fun h => by
    have y := (lR_K jr).2 (by omega)
    exact ⟨y.1.ff (fun o ho => by rw [hF2 (146 + o) (by omega), hF1 (146 + o) (by omega)]) e4 (fun q _ _ => by rw [hF2 271 (by omega), hF1 271 (by omega)]), y.2.ff (by rw [hF2 148 (by omega), hF1 148 (by omega)]) (fun k hk => by rw [hF2 k (by omega), hF1 k (by omega)]) (by rw [hF2 308 (by omega), hF1 308 (by omega)]) (by rw [hF2 309 (by omega), hF1 309 (by omega)])⟩
  have zKK : zB8 t2 309 ∧ zKp t2 := ⟨(by unfold zB8; rw [hF2 309 (by omega), hF1 309 (by omega)]; exact (lR_K jr).1), zK⟩
  have zIS : IS t2 := IS_f (fun k hk => hF2 k (by unfold suIS at hk; omega)) hI1.2.1
  have zIQ : IQ t2 := IQ_f (fun k hk => hF2 k (by unfold suIQ at hk; omega)) hI1.2.2.1
  have zG : zSg t2 := (lR_G jr).f (fun k hk => by rw [hF2 k (by omega), hF1 k (by omega)])
  have z48 : t2 268 48 = -1 := by omega
  have hJ : lJ t2 (n + 1) := ⟨jC2, hI2.1, hI2.2.1, hI2.2.2.1, j02, ⟨by omega, by omega⟩, ⟨⟨u6, u7⟩, zBB, zL, zM, zDW, zKK, zIS, zIQ, zG, z48⟩⟩
  refine lv_pop hx hb dL_law_617 rfl ?_
  refine lv_goto (tgt := 990) hx hb dL_law_618 (by decide) ?_
  refine W.widen (k := cells + 1) (n := slots + 60) (by omega) (by omega) ?_
  exact kk H locs t2 hJ hW
theorem l_13 {p : Program} {e : Env} {s : State} {m : MethodId} {below : List Frame} {meth : Method} {c : Code} {l : Launch} {b h0 L : Nat} {xs : Nat → Int32} {D : va_G} {g : xG} {T : Nat × Nat × Nat} {H : Heap} {locs : List Loc} {ls : Array Slot} {cells slots : Nat} {Q : State → Prop} {σ : xS} {n : Nat} {i : Int} (hx : p.tables.exec = Jvm.exec) (hb : c.code = cL_law) (hml : c.maxLocals = 4) (hown : s.vm.findClass "ShadowCourtLaw" = some m.cls) (hT : ∀ w ∈ xTB, w.before #[Value.ref b] s = true) (hE : xE D g T h0 s) (hX : va_X b L xs s s.heap) (hbl : b < s.heap.size) (eh : h0 = s.heap.size) (hW : xW D g h0 s H locs σ) (hl : lv_has ls 4 [(3, .int (xJ i)), (2, .ref (h0 + 268)), (1, .ref (h0 + 0)), (0, .ref b)]) (hcs : cells ≤ 600000 ∧ slots ≤ 7302250) (hcs1 : cells + 1 ≤ 600000 ∧ slots + 60 ≤ 7302250) (hJ : lJ σ n) (hn : n ≤ 512) (hi : 0 ≤ i ∧ i + 5 < (L : Int) ∧ L ≤ 3072)
    (kk : ∀ (H : Heap) (locs : List Loc) (τ : xS), lJ τ (n + 1) → xW D g h0 s H locs τ → W p l e room_1 s m #[Value.ref b] below meth c H locs (cells + 1) (slots + 60) Q (F0 m 990 ls [])) : W p l e room_1 s m #[Value.ref b] below meth c H locs cells slots Q (F0 m 621 ls []) := by
  obtain ⟨jC, jn, jk, jo, j0, jz, jr⟩ := hJ
  obtain ⟨a1, e1, r1⟩ := xJ_ex (xs (i + 1).toNat)
  obtain ⟨a2, e2, r2⟩ := xJ_ex (xs (i + 2).toNat)
  obtain ⟨a3, e3, r3⟩ := xJ_ex (xs (i + 3).toNat)
  refine x_aload_n hx hb hl 2 rfl dL_law_621 rfl ?_
  refine x_aload_n hx hb hl 3 rfl dL_law_622 rfl ?_
  refine x_iload_n hx hb hl 0 rfl dL_law_623 rfl ?_
  refine x_iconst hx hb dL_law_624 ?_
  refine x_iadd hx hb dL_law_625 ?_
  refine l_sld hx hb hX hbl eh hW (by omega) (by omega) e1 dL_law_626 ?_
  refine x_aload_n hx hb hl 3 rfl dL_law_627 rfl ?_
  refine x_iload_n hx hb hl 0 rfl dL_law_628 rfl ?_
  refine x_iconst hx hb dL_law_629 ?_
  refine b_pc (pc1 := 630) rfl ?_
  refine x_iadd hx hb dL_law_630 ?_
  refine l_sld hx hb hX hbl eh hW (by omega) (by omega) e2 dL_law_631 ?_
  refine x_aload_n hx hb hl 3 rfl dL_law_632 rfl ?_
  refine x_iload_n hx hb hl 0 rfl dL_law_633 rfl ?_
  refine x_iconst hx hb dL_law_634 ?_
  refine x_iadd hx hb dL_law_635 ?_
  refine l_sld hx hb hX hbl eh hW (by omega) (by omega) e3 dL_law_636 ?_
  refine x_goi (x_runV (As := [.int (xJ a1), .int (xJ a2), .int (xJ a3)]) hx hb hml hown hT hE hW hl.1 (Or.inl (by decide)) (so_0 h0 g _) rfl cf_X10_home wq1015 wq1016 wq1014 (c_X10_homeF l D g T h0 σ hW.2.1 a1 r1 a2 r2 a3 r3 (σ 4) (σ 274) (zWf σ 275) (zQs σ) (σ 273) (lR_L jr).1 (lR_L jr).2 (fun t _ _ => rfl) (lR_M jr) (lR_D jr).2.1 (lR_D jr).1.qq ((lR_D jr).1.ok4 (IMn.n1 jn)) (lR_G jr) jC (lR_S jr) (lR_I jr)) ⟨rfl, rfl, ⟨by decide, by decide⟩, hcs⟩ rfl rfl (Nat.le_of_ble_eq_true rfl) dL_law_637) hW (fun q1 t1 H locs rq1 hp hW => ?_)
  obtain ⟨hF1, hI1, hp1⟩ := hp
  have jC1 := hI1.1
  have jn1 : IMn t1 := IMn_f (fun k hk => hF1 k (by unfold suIMn at hk; omega)) jn
  have jk1 : IMk t1 := IMk_f (fun k hk => hF1 k (by unfold suIMk at hk; omega)) jk
  have jo1 : IMo t1 := IMo_f (fun k hk => hF1 k (by unfold suIMo at hk; omega)) jo
  have j01 : t1 0 11 = 0 ∨ t1 0 11 = 1 := by rw [hF1 0 (by omega)]; exact j0
  have jz1 : t1 999996 0 = σ 999996 0 := by rw [hF1 999996 (by omega)]
  refine lv_pop hx hb dL_law_640 rfl ?_
  refine x_aload_n hx hb hl 1 rfl dL_law_641 rfl ?_
  refine b_pc (pc1 := 642) rfl ?_
  refine x_aload_n hx hb hl 3 rfl dL_law_642 rfl ?_
  refine x_iload_n hx hb hl 0 rfl dL_law_643 rfl ?_
  refine x_iconst hx hb dL_law_644 ?_
  refine x_iadd hx hb dL_law_645 ?_
  refine l_sld hx hb hX hbl eh hW (by omega) (by omega) e1 dL_law_646 ?_
  refine x_aload_n hx hb hl 3 rfl dL_law_647 rfl ?_
  refine x_iload_n hx hb hl 0 rfl dL_law_648 rfl ?_
  refine x_iconst hx hb dL_law_649 ?_
  refine x_iadd hx hb dL_law_650 ?_
  refine l_sld hx hb hX hbl eh hW (by omega) (by omega) e2 dL_law_651 ?_
  refine b_pc (pc1 := 652) rfl ?_
  refine x_aload_n hx hb hl 3 rfl dL_law_652 rfl ?_
  refine x_iload_n hx hb hl 0 rfl dL_law_653 rfl ?_
  refine x_iconst hx hb dL_law_654 ?_
  refine x_iadd hx hb dL_law_655 ?_
  refine l_sld hx hb hX hbl eh hW (by omega) (by omega) e3 dL_law_656 ?_
  refine x_goi (x_runV (As := [.int (xJ a1), .int (xJ a2), .int (xJ a3)]) hx hb hml hown hT hE hW hl.1 (Or.inl (by decide)) (so_268 h0 g _) rfl cf_X11_home wq1692 wq1693 wq1691 (c_X11_homeF l D g T h0 t1 hW.2.1 a1 r1 a2 r2 a3 r3 (σ 4) (σ 274) (zWf σ 275) (zQs σ) (σ 273) (lR_L jr).1 (zLR_s (σ := σ) (fun k hk => hF1 k (by omega)) (by rw [hF1 268 (by omega)])) (fun t a b => by have y := (lR_B jr).2.1 t a b; rw [hF1 272 (by omega)]; exact ⟨y.1.symm, y.2⟩) (fun i _ _ => by rw [hF1 273 (by omega)]) (by rw [hF1 274 (by omega), hF1 275 (by omega)]; exact fun j _ _ => ⟨rfl, fun i _ _ => rfl⟩) (zYN_q (a := 0) (c := 0) (s := 0) (by rw [hF1 269 (by omega)]; exact (lR_D jr).1.2.1)) (by rw [hF1 269 (by omega)]; exact (lR_D jr).1.2.2.2.2.2) (by show zJt (σ 4) (zrt (t1 269)); rw [hF1 269 (by omega)]; exact (lR_D jr).1.2.2.1) jn1 jk1 jo1) ⟨rfl, rfl, ⟨by decide, by decide⟩, hcs⟩ rfl rfl (Nat.le_of_ble_eq_true rfl) dL_law_657) hW (fun q2 t2 H locs rq2 hp hW => ?_)
  obtain ⟨hF2, hI2, hp2⟩ := hp
  have jC2 : IC t2 := IC_f (fun k hk => hF2 k (by unfold suIC at hk; omega)) jC1
  have j02 : t2 0 11 = 0 ∨ t2 0 11 = 1 := by rw [hF2 0 (by omega)]; exact j01
  have jz2 : t2 999996 0 = t1 999996 0 := by rw [hF2 999996 (by omega)]
  have u1 : t2 1 1 = t1 1 1 := by rw [hF2 1 (by omega)]
  have u2 : t1 268 8 = σ 268 8 := by rw [hF1 268 (by omega)]
  have u0 : σ 1 1 = σ 268 8 := jr.1.1
  have u3 : t1 1 1 = σ 1 1 := by rw [hF1 1 (by omega)]
  have u4 : t2 268 8 = t1 268 8 := hI2.2.2.2.1
  have u6 : t2 1 1 = t2 268 8 := by omega
  have u7 : t2 2 = xm8 (t2 276) ∧ xb8 (t2 276) := by rw [hF2 2 (by omega), hF1 2 (by omega), hF2 276 (by omega), hF1 276 (by omega)]; exact jr.1.2
  have w11a : t1 0 11 = σ 0 11 := by rw [hF1 0 (by omega)]
  have w11b : t2 0 11 = t1 0 11 := by rw [hF2 0 (by omega)]
  have w58a : t1 268 58 = σ 268 58 := by rw [hF1 268 (by omega)]
  have w58b : t2 268 58 = t1 268 58 := hI2.2.2.2.2.1
  have w17a : t1 268 17 = σ 268 17 := by rw [hF1 268 (by omega)]
  have w17b : t2 268 17 = t1 268 17 := hI2.2.2.2.2.2.1
  have w48a : t1 268 48 = σ 268 48 := by rw [hF1 268 (by omega)]
  have w48b : t2 268 48 = t1 268 48 := hI2.2.2.2.2.2.2.1
  have w34a : t1 269 34 = σ 269 34 := by rw [hF1 269 (by omega)]
  have j48 := lR_48 jr
  have jb58 := (lR_B jr).2.2
  have jD := lR_D jr
  have jBt : zBt (σ 269) := jD.1.2.2.2
  have q269 : t1 269 = σ 269 := hF1 269 (by omega)
  have zBB : (t2 5 = t2 288 ∧ zk3 (t2 5)) ∧ (∀ j : Int, 0 ≤ j → j < 100 → t2 4 j = t2 272 j ∧ 0 ≤ t2 4 j ∧ t2 4 j ≤ 3) ∧ t2 0 11 = t2 268 58 := ⟨by rw [hF2 5 (by omega), hF1 5 (by omega), hF2 288 (by omega), hF1 288 (by omega)]; exact (lR_B jr).1, by rw [hF2 4 (by omega), hF1 4 (by omega), hF2 272 (by omega), hF1 272 (by omega)]; exact (lR_B jr).2.1, by omega⟩
  have e4 : t2 4 = σ 4 := by rw [hF2 4 (by omega), hF1 4 (by omega)]
  have zL : zLx t2 := (lR_L jr).ff (fun k hk => by rw [hF2 k (by omega), hF1 k (by omega)]) (by omega)
  have zM : zLm t2 := (lR_M jr).ff (by rw [hF2 129 (by omega), hF1 129 (by omega)]) (by rw [hF2 273 (by omega), hF1 273 (by omega)])
  have zD : zDd t2 136 269 := jD.1.ff (fun o ho => by rw [hF2 (136 + o) (by omega), hF1 (136 + o) (by omega)]) e4 (fun q a b => (hp2.elim (fun z => z.2.2.2 q a b) (fun z => z.2.2 q a b)).trans (congrFun q269 q))
  have zDW : zDd t2 136 269 ∧ zWk t2 136 274 275 ∧ zB8 t2 275 := ⟨zD, jD.2.1.ff (by rw [hF2 138 (by omega), hF1 138 (by omega)]) (fun k hk => by rw [hF2 k (by omega), hF1 k (by omega)]) (by rw [hF2 274 (by omega), hF1 274 (by omega)]) (by rw [hF2 275 (by omega), hF1 275 (by omega)]), by unfold zB8; rw [hF2 275 (by omega), hF1 275 (by omega)]; exact jD.2.2⟩
  have zK : zKp t2 := fun h => by
    have y := (lR_K jr).2 (by omega)
    exact ⟨y.1.ff (fun o ho => by rw [hF2 (146 + o) (by omega), hF1 (146 + o) (by omega)]) e4 (fun q _ _ => by rw [hF2 271 (by omega), hF1 271 (by omega)]), y.2.ff (by rw [hF2 148 (by omega), hF1 148 (by omega)]) (fun k hk => by rw [hF2 k (by omega), hF1 k (by omega)]) (by rw [hF2 308 (by omega), hF1 308 (by omega)]) (by rw [hF2 309 (by omega), hF1 309 (by omega)])⟩
  have zKK : zB8 t2 309 ∧ zKp t2 := ⟨(by unfold zB8; rw [hF2 309 (by omega), hF1 309 (by omega)]; exact (lR_K jr).1), zK⟩
  have zIS : IS t2 := IS_f (fun k hk => hF2 k (by unfold suIS at hk; omega)) hI1.2.1
  have zIQ : IQ t2 := IQ_f (fun k hk => hF2 k (by unfold suIQ at hk; omega)) hI1.2.2.1
  have zG : zSg t2 := (lR_G jr).f (fun k hk => by rw [hF2 k (by omega), hF1 k (by omega)])
  have z48 : t2 268 48 = -1 := by omega
  have hJ : lJ t2 (n + 1) := ⟨jC2, hI2.1, hI2.2.1, hI2.2.2.1, j02, ⟨by omega, by omega⟩, ⟨⟨u6, u7⟩, zBB, zL, zM, zDW, zKK, zIS, zIQ, zG, z48⟩⟩
  refine lv_pop hx hb dL_law_660 rfl ?_
  refine lv_goto (tgt := 990) hx hb dL_law_661 (by decide) ?_
  refine W.widen (k := cells + 1) (n := slots + 60) (by omega) (by omega) ?_
  exact kk H locs t2 hJ hW
theorem l_14 {p : Program} {e : Env} {s : State} {m : MethodId} {below : List Frame} {meth : Method} {c : Code} {l : Launch} {b h0 L : Nat} {xs : Nat → Int32} {D : va_G} {g : xG} {T : Nat × Nat × Nat} {H : Heap} {locs : List Loc} {ls : Array Slot} {cells slots : Nat} {Q : State → Prop} {σ : xS} {n : Nat} {i : Int} (hx : p.tables.exec = Jvm.exec) (hb : c.code = cL_law) (hml : c.maxLocals = 4) (hown : s.vm.findClass "ShadowCourtLaw" = some m.cls) (hT : ∀ w ∈ xTB, w.before #[Value.ref b] s = true) (hE : xE D g T h0 s) (hX : va_X b L xs s s.heap) (hbl : b < s.heap.size) (eh : h0 = s.heap.size) (hW : xW D g h0 s H locs σ) (hl : lv_has ls 4 [(3, .int (xJ i)), (2, .ref (h0 + 268)), (1, .ref (h0 + 0)), (0, .ref b)]) (hcs : cells ≤ 600000 ∧ slots ≤ 7302250) (hcs1 : cells + 1 ≤ 600000 ∧ slots + 60 ≤ 7302250) (hJ : lJ σ n) (hn : n ≤ 512) (hi : 0 ≤ i ∧ i + 5 < (L : Int) ∧ L ≤ 3072)
    (kk : ∀ (H : Heap) (locs : List Loc) (τ : xS), lJ τ (n + 1) → xW D g h0 s H locs τ → W p l e room_1 s m #[Value.ref b] below meth c H locs (cells + 1) (slots + 60) Q (F0 m 990 ls [])) : W p l e room_1 s m #[Value.ref b] below meth c H locs cells slots Q (F0 m 664 ls []) := by
  obtain ⟨jC, jn, jk, jo, j0, jz, jr⟩ := hJ
  obtain ⟨a1, e1, r1⟩ := xJ_ex (xs (i + 1).toNat)
  obtain ⟨a2, e2, r2⟩ := xJ_ex (xs (i + 2).toNat)
  refine x_aload_n hx hb hl 2 rfl dL_law_664 rfl ?_
  refine x_aload_n hx hb hl 3 rfl dL_law_665 rfl ?_
  refine x_iload_n hx hb hl 0 rfl dL_law_666 rfl ?_
  refine x_iconst hx hb dL_law_667 ?_
  refine x_iadd hx hb dL_law_668 ?_
  refine l_sld hx hb hX hbl eh hW (by omega) (by omega) e1 dL_law_669 ?_
  refine x_aload_n hx hb hl 3 rfl dL_law_670 rfl ?_
  refine x_iload_n hx hb hl 0 rfl dL_law_671 rfl ?_
  refine x_iconst hx hb dL_law_672 ?_
  refine b_pc (pc1 := 673) rfl ?_
  refine x_iadd hx hb dL_law_673 ?_
  refine l_sld hx hb hX hbl eh hW (by omega) (by omega) e2 dL_law_674 ?_
  refine x_goi (x_runV (As := [.int (xJ a1), .int (xJ a2)]) hx hb hml hown hT hE hW hl.1 (Or.inl (by decide)) (so_0 h0 g _) rfl cf_X10_first wq1034 wq1035 wq1033 (c_X10_firstF l D g T h0 σ hW.2.1 a1 r1 a2 r2 (σ 4) (σ 274) (zWf σ 275) (zQs σ) (σ 273) (lR_L jr).1 (lR_L jr).2 (fun t _ _ => rfl) (lR_M jr) (lR_D jr).2.1 (lR_D jr).1.qq ((lR_D jr).1.ok4 (IMn.n1 jn)) jC (lR_S jr) (lR_I jr)) ⟨rfl, rfl, ⟨by decide, by decide⟩, hcs⟩ rfl rfl (Nat.le_of_ble_eq_true rfl) dL_law_675) hW (fun q1 t1 H locs rq1 hp hW => ?_)
  obtain ⟨hF1, hI1, hp1⟩ := hp
  have jC1 := hI1.1
  have jn1 : IMn t1 := IMn_f (fun k hk => hF1 k (by unfold suIMn at hk; omega)) jn
  have jk1 : IMk t1 := IMk_f (fun k hk => hF1 k (by unfold suIMk at hk; omega)) jk
  have jo1 : IMo t1 := IMo_f (fun k hk => hF1 k (by unfold suIMo at hk; omega)) jo
  have j01 : t1 0 11 = 0 ∨ t1 0 11 = 1 := by rw [hF1 0 (by omega)]; exact j0
  have jz1 : t1 999996 0 = σ 999996 0 := by rw [hF1 999996 (by omega)]
  refine lv_pop hx hb dL_law_678 rfl ?_
  refine x_aload_n hx hb hl 1 rfl dL_law_679 rfl ?_
  refine x_aload_n hx hb hl 3 rfl dL_law_680 rfl ?_
  refine x_iload_n hx hb hl 0 rfl dL_law_681 rfl ?_
  refine x_iconst hx hb dL_law_682 ?_
  refine x_iadd hx hb dL_law_683 ?_
  refine l_sld hx hb hX hbl eh hW (by omega) (by omega) e1 dL_law_684 ?_
  refine b_pc (pc1 := 685) rfl ?_
  refine x_aload_n hx hb hl 3 rfl dL_law_685 rfl ?_
  refine x_iload_n hx hb hl 0 rfl dL_law_686 rfl ?_
  refine x_iconst hx hb dL_law_687 ?_
  refine x_iadd hx hb dL_law_688 ?_
  refine l_sld hx hb hX hbl eh hW (by omega) (by omega) e2 dL_law_689 ?_
  refine x_goi (x_runV (As := [.int (xJ a1), .int (xJ a2)]) hx hb hml hown hT hE hW hl.1 (Or.inl (by decide)) (so_268 h0 g _) rfl cf_X11_first wq1711 wq1712 wq1710 (c_X11_firstF l D g T h0 t1 hW.2.1 a1 r1 a2 r2 (σ 4) (σ 274) (zWf σ 275) (zQs σ) (σ 273) (lR_L jr).1 (zLR_s (σ := σ) (fun k hk => hF1 k (by omega)) (by rw [hF1 268 (by omega)])) (fun t a b => by have y := (lR_B jr).2.1 t a b; rw [hF1 272 (by omega)]; exact ⟨y.1.symm, y.2⟩) (fun i _ _ => by rw [hF1 273 (by omega)]) (by rw [hF1 274 (by omega), hF1 275 (by omega)]; exact fun j _ _ => ⟨rfl, fun i _ _ => rfl⟩) (zYN_q (a := 0) (c := 0) (s := 0) (by rw [hF1 269 (by omega)]; exact (lR_D jr).1.2.1)) (by rw [hF1 269 (by omega)]; exact (lR_D jr).1.2.2.2.2.2) (by show zJt (σ 4) (zrt (t1 269)); rw [hF1 269 (by omega)]; exact (lR_D jr).1.2.2.1) jn1 jk1 jo1) ⟨rfl, rfl, ⟨by decide, by decide⟩, hcs⟩ rfl rfl (Nat.le_of_ble_eq_true rfl) dL_law_690) hW (fun q2 t2 H locs rq2 hp hW => ?_)
  obtain ⟨hF2, hI2, hp2⟩ := hp
  have jC2 : IC t2 := IC_f (fun k hk => hF2 k (by unfold suIC at hk; omega)) jC1
  have j02 : t2 0 11 = 0 ∨ t2 0 11 = 1 := by rw [hF2 0 (by omega)]; exact j01
  have jz2 : t2 999996 0 = t1 999996 0 := by rw [hF2 999996 (by omega)]
  have u1 : t2 1 1 = t1 1 1 := by rw [hF2 1 (by omega)]
  have u2 : t1 268 8 = σ 268 8 := by rw [hF1 268 (by omega)]
  have u0 : σ 1 1 = σ 268 8 := jr.1.1
  have u3 : t1 1 1 = σ 1 1 := by rw [hF1 1 (by omega)]
  have u4 : t2 268 8 = t1 268 8 := hI2.2.2.2.1
  have u6 : t2 1 1 = t2 268 8 := by omega
  have u7 : t2 2 = xm8 (t2 276) ∧ xb8 (t2 276) := by rw [hF2 2 (by omega), hF1 2 (by omega), hF2 276 (by omega), hF1 276 (by omega)]; exact jr.1.2
  have w11a : t1 0 11 = σ 0 11 := by rw [hF1 0 (by omega)]
  have w11b : t2 0 11 = t1 0 11 := by rw [hF2 0 (by omega)]
  have w58a : t1 268 58 = σ 268 58 := by rw [hF1 268 (by omega)]
  have w58b : t2 268 58 = t1 268 58 := hI2.2.2.2.2.1
  have w17a : t1 268 17 = σ 268 17 := by rw [hF1 268 (by omega)]
  have w17b : t2 268 17 = t1 268 17 := hI2.2.2.2.2.2.1
  have w48a : t1 268 48 = σ 268 48 := by rw [hF1 268 (by omega)]
  have w34a : t1 269 34 = σ 269 34 := by rw [hF1 269 (by omega)]
  have j48 := lR_48 jr
  have jb58 := (lR_B jr).2.2
  have jD := lR_D jr
  have jBt : zBt (σ 269) := jD.1.2.2.2
  have q269 : t1 269 = σ 269 := hF1 269 (by omega)
  have zBB : (t2 5 = t2 288 ∧ zk3 (t2 5)) ∧ (∀ j : Int, 0 ≤ j → j < 100 → t2 4 j = t2 272 j ∧ 0 ≤ t2 4 j ∧ t2 4 j ≤ 3) ∧ t2 0 11 = t2 268 58 := ⟨by rw [hF2 5 (by omega), hF1 5 (by omega), hF2 288 (by omega), hF1 288 (by omega)]; exact (lR_B jr).1, by rw [hF2 4 (by omega), hF1 4 (by omega), hF2 272 (by omega), hF1 272 (by omega)]; exact (lR_B jr).2.1, by omega⟩
  have e4 : t2 4 = σ 4 := by rw [hF2 4 (by omega), hF1 4 (by omega)]
  have zL : zLx t2 := (lR_L jr).ff (fun k hk => by rw [hF2 k (by omega), hF1 k (by omega)]) (by omega)
  have zM : zLm t2 := (lR_M jr).ff (by rw [hF2 129 (by omega), hF1 129 (by omega)]) (by rw [hF2 273 (by omega), hF1 273 (by omega)])
  have zD : zDd t2 136 269 := jD.1.ff (fun o ho => by rw [hF2 (136 + o) (by omega), hF1 (136 + o) (by omega)]) e4 (fun q a b => (hp2.elim (fun z => z.2.2.2.2.1 q a b) (fun z => z.2.2.1 q a b)).trans (congrFun q269 q))
  have zDW : zDd t2 136 269 ∧ zWk t2 136 274 275 ∧ zB8 t2 275 := ⟨zD, jD.2.1.ff (by rw [hF2 138 (by omega), hF1 138 (by omega)]) (fun k hk => by rw [hF2 k (by omega), hF1 k (by omega)]) (by rw [hF2 274 (by omega), hF1 274 (by omega)]) (by rw [hF2 275 (by omega), hF1 275 (by omega)]), by unfold zB8; rw [hF2 275 (by omega), hF1 275 (by omega)]; exact jD.2.2⟩
  have zK : zKp t2 := fun h => by
    have y := (lR_K jr).2 (by omega)
    exact ⟨y.1.ff (fun o ho => by rw [hF2 (146 + o) (by omega), hF1 (146 + o) (by omega)]) e4 (fun q _ _ => by rw [hF2 271 (by omega), hF1 271 (by omega)]), y.2.ff (by rw [hF2 148 (by omega), hF1 148 (by omega)]) (fun k hk => by rw [hF2 k (by omega), hF1 k (by omega)]) (by rw [hF2 308 (by omega), hF1 308 (by omega)]) (by rw [hF2 309 (by omega), hF1 309 (by omega)])⟩
  have zKK : zB8 t2 309 ∧ zKp t2 := ⟨(by unfold zB8; rw [hF2 309 (by omega), hF1 309 (by omega)]; exact (lR_K jr).1), zK⟩
  have zIS : IS t2 := IS_f (fun k hk => hF2 k (by unfold suIS at hk; omega)) hI1.2.1
  have zIQ : IQ t2 := IQ_f (fun k hk => hF2 k (by unfold suIQ at hk; omega)) hI1.2.2.1
  have zG : zSg t2 := (lR_G jr).f (fun k hk => by rw [hF2 k (by omega), hF1 k (by omega)])
  have z48 : t2 268 48 = -1 := hp2.elim (fun z => by have y := z.2.2.2.2.2; have x := hF1 268 (by omega); have x2 := congrFun x 48; omega) (fun z => by have y := z.2.2.2; have x := hF1 268 (by omega); have x2 := congrFun x 48; omega)
  have hJ : lJ t2 (n + 1) := ⟨jC2, hI2.1, hI2.2.1, hI2.2.2.1, j02, ⟨by omega, by omega⟩, ⟨⟨u6, u7⟩, zBB, zL, zM, zDW, zKK, zIS, zIQ, zG, z48⟩⟩
  refine lv_pop hx hb dL_law_693 rfl ?_
  refine lv_goto (tgt := 990) hx hb dL_law_694 (by decide) ?_
  refine W.widen (k := cells + 1) (n := slots + 60) (by omega) (by omega) ?_
  exact kk H locs t2 hJ hW
theorem l_15 {p : Program} {e : Env} {s : State} {m : MethodId} {below : List Frame} {meth : Method} {c : Code} {l : Launch} {b h0 L : Nat} {xs : Nat → Int32} {D : va_G} {g : xG} {T : Nat × Nat × Nat} {H : Heap} {locs : List Loc} {ls : Array Slot} {cells slots : Nat} {Q : State → Prop} {σ : xS} {n : Nat} {i : Int} (hx : p.tables.exec = Jvm.exec) (hb : c.code = cL_law) (hml : c.maxLocals = 4) (hown : s.vm.findClass "ShadowCourtLaw" = some m.cls) (hT : ∀ w ∈ xTB, w.before #[Value.ref b] s = true) (hE : xE D g T h0 s) (hX : va_X b L xs s s.heap) (hbl : b < s.heap.size) (eh : h0 = s.heap.size) (hW : xW D g h0 s H locs σ) (hl : lv_has ls 4 [(3, .int (xJ i)), (2, .ref (h0 + 268)), (1, .ref (h0 + 0)), (0, .ref b)]) (hcs : cells ≤ 600000 ∧ slots ≤ 7302250) (hcs1 : cells + 1 ≤ 600000 ∧ slots + 60 ≤ 7302250) (hJ : lJ σ n) (hn : n ≤ 512) (hi : 0 ≤ i ∧ i + 5 < (L : Int) ∧ L ≤ 3072)
    (kk : ∀ (H : Heap) (locs : List Loc) (τ : xS), lJ τ (n + 1) → xW D g h0 s H locs τ → W p l e room_1 s m #[Value.ref b] below meth c H locs (cells + 1) (slots + 60) Q (F0 m 990 ls [])) : W p l e room_1 s m #[Value.ref b] below meth c H locs cells slots Q (F0 m 697 ls []) := by
  obtain ⟨jC, jn, jk, jo, j0, jz, jr⟩ := hJ
  obtain ⟨a1, e1, r1⟩ := xJ_ex (xs (i + 1).toNat)
  obtain ⟨a2, e2, r2⟩ := xJ_ex (xs (i + 2).toNat)
  refine x_aload_n hx hb hl 2 rfl dL_law_697 rfl ?_
  refine x_aload_n hx hb hl 3 rfl dL_law_698 rfl ?_
  refine x_iload_n hx hb hl 0 rfl dL_law_699 rfl ?_
  refine x_iconst hx hb dL_law_700 ?_
  refine x_iadd hx hb dL_law_701 ?_
  refine l_sld hx hb hX hbl eh hW (by omega) (by omega) e1 dL_law_702 ?_
  refine x_aload_n hx hb hl 3 rfl dL_law_703 rfl ?_
  refine x_iload_n hx hb hl 0 rfl dL_law_704 rfl ?_
  refine x_iconst hx hb dL_law_705 ?_
  refine b_pc (pc1 := 706) rfl ?_
  refine x_iadd hx hb dL_law_706 ?_
  refine l_sld hx hb hX hbl eh hW (by omega) (by omega) e2 dL_law_707 ?_
  refine x_goi (x_runV (As := [.int (xJ a1), .int (xJ a2)]) hx hb hml hown hT hE hW hl.1 (Or.inl (by decide)) (so_0 h0 g _) rfl cf_X10_dark wq1043 wq1044 wq1042 (c_X10_darkF l D g T h0 σ hW.2.1 a1 r1 a2 r2 (σ 4) (σ 274) (zWf σ 275) (zQs σ) (σ 273) (lR_L jr).1 (lR_L jr).2 (fun t _ _ => rfl) (lR_M jr) (lR_D jr).2.1 (lR_D jr).1.qq ((lR_D jr).1.ok4 (IMn.n1 jn)) jC (lR_S jr) (lR_I jr)) ⟨rfl, rfl, ⟨by decide, by decide⟩, hcs⟩ rfl rfl (Nat.le_of_ble_eq_true rfl) dL_law_708) hW (fun q1 t1 H locs rq1 hp hW => ?_)
  obtain ⟨hF1, hI1, hp1⟩ := hp
  have jC1 := hI1.1
  have jn1 : IMn t1 := IMn_f (fun k hk => hF1 k (by unfold suIMn at hk; omega)) jn
  have jk1 : IMk t1 := IMk_f (fun k hk => hF1 k (by unfold suIMk at hk; omega)) jk
  have jo1 : IMo t1 := IMo_f (fun k hk => hF1 k (by unfold suIMo at hk; omega)) jo
  have j01 : t1 0 11 = 0 ∨ t1 0 11 = 1 := by rw [hF1 0 (by omega)]; exact j0
  have jz1 : t1 999996 0 = σ 999996 0 := by rw [hF1 999996 (by omega)]
  refine lv_pop hx hb dL_law_711 rfl ?_
  refine x_aload_n hx hb hl 1 rfl dL_law_712 rfl ?_
  refine x_aload_n hx hb hl 3 rfl dL_law_713 rfl ?_
  refine x_iload_n hx hb hl 0 rfl dL_law_714 rfl ?_
  refine x_iconst hx hb dL_law_715 ?_
  refine x_iadd hx hb dL_law_716 ?_
  refine l_sld hx hb hX hbl eh hW (by omega) (by omega) e1 dL_law_717 ?_
  refine b_pc (pc1 := 718) rfl ?_
  refine x_aload_n hx hb hl 3 rfl dL_law_718 rfl ?_
  refine x_iload_n hx hb hl 0 rfl dL_law_719 rfl ?_
  refine x_iconst hx hb dL_law_720 ?_
  refine x_iadd hx hb dL_law_721 ?_
  refine l_sld hx hb hX hbl eh hW (by omega) (by omega) e2 dL_law_722 ?_
  refine x_goi (x_runV (As := [.int (xJ a1), .int (xJ a2)]) hx hb hml hown hT hE hW hl.1 (Or.inl (by decide)) (so_268 h0 g _) rfl cf_X11_dark wq1719 wq1720 wq1718 (c_X11_darkF l D g T h0 t1 hW.2.1 a1 r1 a2 r2 jn1 jk1 jo1) ⟨rfl, rfl, ⟨by decide, by decide⟩, hcs⟩ rfl rfl (Nat.le_of_ble_eq_true rfl) dL_law_723) hW (fun q2 t2 H locs rq2 hp hW => ?_)
  obtain ⟨hF2, hI2, hp2⟩ := hp
  have jC2 : IC t2 := IC_f (fun k hk => hF2 k (by unfold suIC at hk; omega)) jC1
  have j02 : t2 0 11 = 0 ∨ t2 0 11 = 1 := by rw [hF2 0 (by omega)]; exact j01
  have jz2 : t2 999996 0 = t1 999996 0 := by rw [hF2 999996 (by omega)]
  have u1 : t2 1 1 = t1 1 1 := by rw [hF2 1 (by omega)]
  have u2 : t1 268 8 = σ 268 8 := by rw [hF1 268 (by omega)]
  have u0 : σ 1 1 = σ 268 8 := jr.1.1
  have u3 : t1 1 1 = σ 1 1 := by rw [hF1 1 (by omega)]
  have u4 : t2 268 8 = t1 268 8 := by rw [hF2 268 (by omega)]
  have u6 : t2 1 1 = t2 268 8 := by omega
  have u7 : t2 2 = xm8 (t2 276) ∧ xb8 (t2 276) := by rw [hF2 2 (by omega), hF1 2 (by omega), hF2 276 (by omega), hF1 276 (by omega)]; exact jr.1.2
  have w11a : t1 0 11 = σ 0 11 := by rw [hF1 0 (by omega)]
  have w11b : t2 0 11 = t1 0 11 := by rw [hF2 0 (by omega)]
  have w58a : t1 268 58 = σ 268 58 := by rw [hF1 268 (by omega)]
  have w58b : t2 268 58 = t1 268 58 := by rw [hF2 268 (by omega)]
  have w17a : t1 268 17 = σ 268 17 := by rw [hF1 268 (by omega)]
  have w17b : t2 268 17 = t1 268 17 := by rw [hF2 268 (by omega)]
  have w48a : t1 268 48 = σ 268 48 := by rw [hF1 268 (by omega)]
  have w48b : t2 268 48 = t1 268 48 := by rw [hF2 268 (by omega)]
  have w34a : t1 269 34 = σ 269 34 := by rw [hF1 269 (by omega)]
  have j48 := lR_48 jr
  have jb58 := (lR_B jr).2.2
  have jD := lR_D jr
  have jBt : zBt (σ 269) := jD.1.2.2.2
  have q269 : t1 269 = σ 269 := hF1 269 (by omega)
  have zBB : (t2 5 = t2 288 ∧ zk3 (t2 5)) ∧ (∀ j : Int, 0 ≤ j → j < 100 → t2 4 j = t2 272 j ∧ 0 ≤ t2 4 j ∧ t2 4 j ≤ 3) ∧ t2 0 11 = t2 268 58 := ⟨by rw [hF2 5 (by omega), hF1 5 (by omega), hF2 288 (by omega), hF1 288 (by omega)]; exact (lR_B jr).1, by rw [hF2 4 (by omega), hF1 4 (by omega), hF2 272 (by omega), hF1 272 (by omega)]; exact (lR_B jr).2.1, by omega⟩
  have e4 : t2 4 = σ 4 := by rw [hF2 4 (by omega), hF1 4 (by omega)]
  have zL : zLx t2 := (lR_L jr).ff (fun k hk => by rw [hF2 k (by omega), hF1 k (by omega)]) (by omega)
  have zM : zLm t2 := (lR_M jr).ff (by rw [hF2 129 (by omega), hF1 129 (by omega)]) (by rw [hF2 273 (by omega), hF1 273 (by omega)])
  have zD : zDd t2 136 269 := jD.1.ff (fun o ho => by rw [hF2 (136 + o) (by omega), hF1 (136 + o) (by omega)]) e4 (fun q a b => (hp2 q a b).trans (congrFun q269 q))
  have zDW : zDd t2 136 269 ∧ zWk t2 136 274 275 ∧ zB8 t2 275 := ⟨zD, jD.2.1.ff (by rw [hF2 138 (by omega), hF1 138 (by omega)]) (fun k hk => by rw [hF2 k (by omega), hF1 k (by omega)]) (by rw [hF2 274 (by omega), hF1 274 (by omega)]) (by rw [hF2 275 (by omega), hF1 275 (by omega)]), by unfold zB8; rw [hF2 275 (by omega), hF1 275 (by omega)]; exact jD.2.2⟩
  have zK : zKp t2 := fun h => by
    have y := (lR_K jr).2 (by omega)
    exact ⟨y.1.ff (fun o ho => by rw [hF2 (146 + o) (by omega), hF1 (146 + o) (by omega)]) e4 (fun q _ _ => by rw [hF2 271 (by omega), hF1 271 (by omega)]), y.2.ff (by rw [hF2 148 (by omega), hF1 148 (by omega)]) (fun k hk => by rw [hF2 k (by omega), hF1 k (by omega)]) (by rw [hF2 308 (by omega), hF1 308 (by omega)]) (by rw [hF2 309 (by omega), hF1 309 (by omega)])⟩
  have zKK : zB8 t2 309 ∧ zKp t2 := ⟨(by unfold zB8; rw [hF2 309 (by omega), hF1 309 (by omega)]; exact (lR_K jr).1), zK⟩
  have zIS : IS t2 := IS_f (fun k hk => hF2 k (by unfold suIS at hk; omega)) hI1.2.1
  have zIQ : IQ t2 := IQ_f (fun k hk => hF2 k (by unfold suIQ at hk; omega)) hI1.2.2.1
  have zG : zSg t2 := (lR_G jr).f (fun k hk => by rw [hF2 k (by omega), hF1 k (by omega)])
  have z48 : t2 268 48 = -1 := by omega
  have hJ : lJ t2 (n + 1) := ⟨jC2, hI2.1, hI2.2.1, hI2.2.2.1, j02, ⟨by omega, by omega⟩, ⟨⟨u6, u7⟩, zBB, zL, zM, zDW, zKK, zIS, zIQ, zG, z48⟩⟩
  refine lv_pop hx hb dL_law_726 rfl ?_
  refine lv_goto (tgt := 990) hx hb dL_law_727 (by decide) ?_
  refine W.widen (k := cells + 1) (n := slots + 60) (by omega) (by omega) ?_
  exact kk H locs t2 hJ hW
theorem l_16 {p : Program} {e : Env} {s : State} {m : MethodId} {below : List Frame} {meth : Method} {c : Code} {l : Launch} {b h0 L : Nat} {xs : Nat → Int32} {D : va_G} {g : xG} {T : Nat × Nat × Nat} {H : Heap} {locs : List Loc} {ls : Array Slot} {cells slots : Nat} {Q : State → Prop} {σ : xS} {n : Nat} {i : Int} (hx : p.tables.exec = Jvm.exec) (hb : c.code = cL_law) (hml : c.maxLocals = 4) (hown : s.vm.findClass "ShadowCourtLaw" = some m.cls) (hT : ∀ w ∈ xTB, w.before #[Value.ref b] s = true) (hE : xE D g T h0 s) (hX : va_X b L xs s s.heap) (hbl : b < s.heap.size) (eh : h0 = s.heap.size) (hW : xW D g h0 s H locs σ) (hl : lv_has ls 4 [(3, .int (xJ i)), (2, .ref (h0 + 268)), (1, .ref (h0 + 0)), (0, .ref b)]) (hcs : cells ≤ 600000 ∧ slots ≤ 7302250) (hcs1 : cells + 1 ≤ 600000 ∧ slots + 60 ≤ 7302250) (hJ : lJ σ n) (hn : n ≤ 512) (hi : 0 ≤ i ∧ i + 5 < (L : Int) ∧ L ≤ 3072)
    (kk : ∀ (H : Heap) (locs : List Loc) (τ : xS), lJ τ (n + 1) → xW D g h0 s H locs τ → W p l e room_1 s m #[Value.ref b] below meth c H locs (cells + 1) (slots + 60) Q (F0 m 990 ls [])) : W p l e room_1 s m #[Value.ref b] below meth c H locs cells slots Q (F0 m 730 ls []) := by
  obtain ⟨jC, jn, jk, jo, j0, jz, jr⟩ := hJ
  obtain ⟨a1, e1, r1⟩ := xJ_ex (xs (i + 1).toNat)
  refine x_aload_n hx hb hl 2 rfl dL_law_730 rfl ?_
  refine x_aload_n hx hb hl 3 rfl dL_law_731 rfl ?_
  refine x_iload_n hx hb hl 0 rfl dL_law_732 rfl ?_
  refine x_iconst hx hb dL_law_733 ?_
  refine x_iadd hx hb dL_law_734 ?_
  refine l_sld hx hb hX hbl eh hW (by omega) (by omega) e1 dL_law_735 ?_
  refine x_goi (x_runV (As := [.int (xJ a1)]) hx hb hml hown hT hE hW hl.1 (Or.inl (by decide)) (so_0 h0 g _) rfl cf_X10_hung wq1060 wq1061 wq1059 (c_X10_hungF l D g T h0 σ hW.2.1 a1 r1 (σ 4) (σ 274) (zWf σ 275) (zQs σ) (σ 273) (lR_L jr).1 (lR_L jr).2 (fun t _ _ => rfl) (lR_M jr) (lR_D jr).2.1 (lR_D jr).1.qq ((lR_D jr).1.ok4 (IMn.n1 jn)) jC (lR_S jr) (lR_I jr)) ⟨rfl, rfl, ⟨by decide, by decide⟩, hcs⟩ rfl rfl (Nat.le_of_ble_eq_true rfl) dL_law_736) hW (fun q1 t1 H locs rq1 hp hW => ?_)
  obtain ⟨hF1, hI1, hp1⟩ := hp
  have jC1 := hI1.1
  have jn1 : IMn t1 := IMn_f (fun k hk => hF1 k (by unfold suIMn at hk; omega)) jn
  have jk1 : IMk t1 := IMk_f (fun k hk => hF1 k (by unfold suIMk at hk; omega)) jk
  have jo1 : IMo t1 := IMo_f (fun k hk => hF1 k (by unfold suIMo at hk; omega)) jo
  have j01 : t1 0 11 = 0 ∨ t1 0 11 = 1 := by rw [hF1 0 (by omega)]; exact j0
  have jz1 : t1 999996 0 = σ 999996 0 := by rw [hF1 999996 (by omega)]
  refine lv_pop hx hb dL_law_739 rfl ?_
  refine x_aload_n hx hb hl 1 rfl dL_law_740 rfl ?_
  refine b_pc (pc1 := 741) rfl ?_
  refine x_aload_n hx hb hl 3 rfl dL_law_741 rfl ?_
  refine x_iload_n hx hb hl 0 rfl dL_law_742 rfl ?_
  refine x_iconst hx hb dL_law_743 ?_
  refine x_iadd hx hb dL_law_744 ?_
  refine l_sld hx hb hX hbl eh hW (by omega) (by omega) e1 dL_law_745 ?_
  refine x_goi (x_runV (As := [.int (xJ a1)]) hx hb hml hown hT hE hW hl.1 (Or.inl (by decide)) (so_268 h0 g _) rfl cf_X11_hung wq1703 wq1704 wq1702 (c_X11_hung l D g T h0 t1 hW.2.1 a1 r1 jn1 jk1 jo1) ⟨rfl, rfl, ⟨by decide, by decide⟩, hcs⟩ rfl rfl (Nat.le_of_ble_eq_true rfl) dL_law_746) hW (fun q2 t2 H locs rq2 hp hW => ?_)
  obtain ⟨hF2, hI2, hp2⟩ := hp
  have jC2 : IC t2 := IC_f (fun k hk => hF2 k (by unfold suIC at hk; omega)) jC1
  have j02 : t2 0 11 = 0 ∨ t2 0 11 = 1 := by rw [hF2 0 (by omega)]; exact j01
  have jz2 : t2 999996 0 = t1 999996 0 := by rw [hF2 999996 (by omega)]
  have u1 : t2 1 1 = t1 1 1 := by rw [hF2 1 (by omega)]
  have u2 : t1 268 8 = σ 268 8 := by rw [hF1 268 (by omega)]
  have u0 : σ 1 1 = σ 268 8 := jr.1.1
  have u3 : t1 1 1 = σ 1 1 := by rw [hF1 1 (by omega)]
  have u4 : t2 268 8 = t1 268 8 := by rw [hF2 268 (by omega)]
  have u6 : t2 1 1 = t2 268 8 := by omega
  have u7 : t2 2 = xm8 (t2 276) ∧ xb8 (t2 276) := by rw [hF2 2 (by omega), hF1 2 (by omega), hF2 276 (by omega), hF1 276 (by omega)]; exact jr.1.2
  have w11a : t1 0 11 = σ 0 11 := by rw [hF1 0 (by omega)]
  have w11b : t2 0 11 = t1 0 11 := by rw [hF2 0 (by omega)]
  have w58a : t1 268 58 = σ 268 58 := by rw [hF1 268 (by omega)]
  have w58b : t2 268 58 = t1 268 58 := by rw [hF2 268 (by omega)]
  have w17a : t1 268 17 = σ 268 17 := by rw [hF1 268 (by omega)]
  have w17b : t2 268 17 = t1 268 17 := by rw [hF2 268 (by omega)]
  have w48a : t1 268 48 = σ 268 48 := by rw [hF1 268 (by omega)]
  have w48b : t2 268 48 = t1 268 48 := by rw [hF2 268 (by omega)]
  have w34a : t1 269 34 = σ 269 34 := by rw [hF1 269 (by omega)]
  have w34b : t2 269 34 = t1 269 34 := by rw [hF2 269 (by omega)]
  have j48 := lR_48 jr
  have jb58 := (lR_B jr).2.2
  have jD := lR_D jr
  have jBt : zBt (σ 269) := jD.1.2.2.2
  have q269 : t1 269 = σ 269 := hF1 269 (by omega)
  have zBB : (t2 5 = t2 288 ∧ zk3 (t2 5)) ∧ (∀ j : Int, 0 ≤ j → j < 100 → t2 4 j = t2 272 j ∧ 0 ≤ t2 4 j ∧ t2 4 j ≤ 3) ∧ t2 0 11 = t2 268 58 := ⟨by rw [hF2 5 (by omega), hF1 5 (by omega), hF2 288 (by omega), hF1 288 (by omega)]; exact (lR_B jr).1, by rw [hF2 4 (by omega), hF1 4 (by omega), hF2 272 (by omega), hF1 272 (by omega)]; exact (lR_B jr).2.1, by omega⟩
  have e4 : t2 4 = σ 4 := by rw [hF2 4 (by omega), hF1 4 (by omega)]
  have zL : zLx t2 := (lR_L jr).ff (fun k hk => by rw [hF2 k (by omega), hF1 k (by omega)]) (by omega)
  have zM : zLm t2 := (lR_M jr).ff (by rw [hF2 129 (by omega), hF1 129 (by omega)]) (by rw [hF2 273 (by omega), hF1 273 (by omega)])
  have zD : zDd t2 136 269 := jD.1.ff (fun o ho => by rw [hF2 (136 + o) (by omega), hF1 (136 + o) (by omega)]) e4 (fun q _ _ => by rw [hF2 269 (by omega), q269])
  have zDW : zDd t2 136 269 ∧ zWk t2 136 274 275 ∧ zB8 t2 275 := ⟨zD, jD.2.1.ff (by rw [hF2 138 (by omega), hF1 138 (by omega)]) (fun k hk => by rw [hF2 k (by omega), hF1 k (by omega)]) (by rw [hF2 274 (by omega), hF1 274 (by omega)]) (by rw [hF2 275 (by omega), hF1 275 (by omega)]), by unfold zB8; rw [hF2 275 (by omega), hF1 275 (by omega)]; exact jD.2.2⟩
  have zK : zKp t2 := fun h => by
    have y := (lR_K jr).2 (by omega)
    exact ⟨y.1.ff (fun o ho => by rw [hF2 (146 + o) (by omega), hF1 (146 + o) (by omega)]) e4 (fun q _ _ => by rw [hF2 271 (by omega), hF1 271 (by omega)]), y.2.ff (by rw [hF2 148 (by omega), hF1 148 (by omega)]) (fun k hk => by rw [hF2 k (by omega), hF1 k (by omega)]) (by rw [hF2 308 (by omega), hF1 308 (by omega)]) (by rw [hF2 309 (by omega), hF1 309 (by omega)])⟩
  have zKK : zB8 t2 309 ∧ zKp t2 := ⟨(by unfold zB8; rw [hF2 309 (by omega), hF1 309 (by omega)]; exact (lR_K jr).1), zK⟩
  have zIS : IS t2 := IS_f (fun k hk => hF2 k (by unfold suIS at hk; omega)) hI1.2.1
  have zIQ : IQ t2 := IQ_f (fun k hk => hF2 k (by unfold suIQ at hk; omega)) hI1.2.2.1
  have zG : zSg t2 := (lR_G jr).f (fun k hk => by rw [hF2 k (by omega), hF1 k (by omega)])
  have z48 : t2 268 48 = -1 := by omega
  have hJ : lJ t2 (n + 1) := ⟨jC2, hI2.1, hI2.2.1, hI2.2.2.1, j02, ⟨by omega, by omega⟩, ⟨⟨u6, u7⟩, zBB, zL, zM, zDW, zKK, zIS, zIQ, zG, z48⟩⟩
  refine lv_pop hx hb dL_law_749 rfl ?_
  refine lv_goto (tgt := 990) hx hb dL_law_750 (by decide) ?_
  refine W.widen (k := cells + 1) (n := slots + 60) (by omega) (by omega) ?_
  exact kk H locs t2 hJ hW
theorem l_17 {p : Program} {e : Env} {s : State} {m : MethodId} {below : List Frame} {meth : Method} {c : Code} {l : Launch} {b h0 L : Nat} {xs : Nat → Int32} {D : va_G} {g : xG} {T : Nat × Nat × Nat} {H : Heap} {locs : List Loc} {ls : Array Slot} {cells slots : Nat} {Q : State → Prop} {σ : xS} {n : Nat} {i : Int} (hx : p.tables.exec = Jvm.exec) (hb : c.code = cL_law) (hml : c.maxLocals = 4) (hown : s.vm.findClass "ShadowCourtLaw" = some m.cls) (hT : ∀ w ∈ xTB, w.before #[Value.ref b] s = true) (hE : xE D g T h0 s) (hX : va_X b L xs s s.heap) (hbl : b < s.heap.size) (eh : h0 = s.heap.size) (hW : xW D g h0 s H locs σ) (hl : lv_has ls 4 [(3, .int (xJ i)), (2, .ref (h0 + 268)), (1, .ref (h0 + 0)), (0, .ref b)]) (hcs : cells ≤ 600000 ∧ slots ≤ 7302250) (hcs1 : cells + 1 ≤ 600000 ∧ slots + 60 ≤ 7302250) (hJ : lJ σ n) (hn : n ≤ 512) (hi : 0 ≤ i ∧ i + 5 < (L : Int) ∧ L ≤ 3072)
    (kk : ∀ (H : Heap) (locs : List Loc) (τ : xS), lJ τ (n + 1) → xW D g h0 s H locs τ → W p l e room_1 s m #[Value.ref b] below meth c H locs (cells + 1) (slots + 60) Q (F0 m 990 ls [])) : W p l e room_1 s m #[Value.ref b] below meth c H locs cells slots Q (F0 m 753 ls []) := by
  obtain ⟨jC, jn, jk, jo, j0, jz, jr⟩ := hJ
  obtain ⟨a1, e1, r1⟩ := xJ_ex (xs (i + 1).toNat)
  obtain ⟨a2, e2, r2⟩ := xJ_ex (xs (i + 2).toNat)
  refine x_aload_n hx hb hl 2 rfl dL_law_753 rfl ?_
  refine x_aload_n hx hb hl 3 rfl dL_law_754 rfl ?_
  refine x_iload_n hx hb hl 0 rfl dL_law_755 rfl ?_
  refine x_iconst hx hb dL_law_756 ?_
  refine x_iadd hx hb dL_law_757 ?_
  refine l_sld hx hb hX hbl eh hW (by omega) (by omega) e1 dL_law_758 ?_
  refine x_aload_n hx hb hl 3 rfl dL_law_759 rfl ?_
  refine x_iload_n hx hb hl 0 rfl dL_law_760 rfl ?_
  refine x_iconst hx hb dL_law_761 ?_
  refine b_pc (pc1 := 762) rfl ?_
  refine x_iadd hx hb dL_law_762 ?_
  refine l_sld hx hb hX hbl eh hW (by omega) (by omega) e2 dL_law_763 ?_
  refine x_goi (x_runV (As := [.int (xJ a1), .int (xJ a2)]) hx hb hml hown hT hE hW hl.1 (Or.inl (by decide)) (so_0 h0 g _) rfl cf_X10_prints wq1075 wq1076 wq1074 (c_X10_prints l D g T h0 σ hW.2.1 a1 r1 a2 r2 jC) ⟨rfl, rfl, ⟨by decide, by decide⟩, hcs⟩ rfl rfl (Nat.le_of_ble_eq_true rfl) dL_law_764) hW (fun q1 t1 H locs rq1 hp hW => ?_)
  obtain ⟨hF1, hI1, hp1⟩ := hp
  have jC1 := hI1.1
  have jn1 : IMn t1 := IMn_f (fun k hk => hF1 k (by unfold suIMn at hk; omega)) jn
  have jk1 : IMk t1 := IMk_f (fun k hk => hF1 k (by unfold suIMk at hk; omega)) jk
  have jo1 : IMo t1 := IMo_f (fun k hk => hF1 k (by unfold suIMo at hk; omega)) jo
  have j01 : t1 0 11 = 0 ∨ t1 0 11 = 1 := by rw [hF1 0 (by omega)]; exact j0
  have jz1 : t1 999996 0 = σ 999996 0 := by rw [hF1 999996 (by omega)]
  refine lv_pop hx hb dL_law_767 rfl ?_
  refine x_aload_n hx hb hl 1 rfl dL_law_768 rfl ?_
  refine x_aload_n hx hb hl 3 rfl dL_law_769 rfl ?_
  refine x_iload_n hx hb hl 0 rfl dL_law_770 rfl ?_
  refine x_iconst hx hb dL_law_771 ?_
  refine x_iadd hx hb dL_law_772 ?_
  refine l_sld hx hb hX hbl eh hW (by omega) (by omega) e1 dL_law_773 ?_
  refine b_pc (pc1 := 774) rfl ?_
  refine x_aload_n hx hb hl 3 rfl dL_law_774 rfl ?_
  refine x_iload_n hx hb hl 0 rfl dL_law_775 rfl ?_
  refine x_iconst hx hb dL_law_776 ?_
  refine x_iadd hx hb dL_law_777 ?_
  refine l_sld hx hb hX hbl eh hW (by omega) (by omega) e2 dL_law_778 ?_
  refine x_goi (x_runV (As := [.int (xJ a1), .int (xJ a2)]) hx hb hml hown hT hE hW hl.1 (Or.inl (by decide)) (so_268 h0 g _) rfl cf_X11_prints wq1727 wq1728 wq1726 (c_X11_printsF l D g T h0 t1 hW.2.1 a1 r1 a2 r2 jn1 jk1 jo1) ⟨rfl, rfl, ⟨by decide, by decide⟩, hcs⟩ rfl rfl (Nat.le_of_ble_eq_true rfl) dL_law_779) hW (fun q2 t2 H locs rq2 hp hW => ?_)
  obtain ⟨hF2, hI2, hp2⟩ := hp
  have jC2 : IC t2 := IC_f (fun k hk => hF2 k (by unfold suIC at hk; omega)) jC1
  have j02 : t2 0 11 = 0 ∨ t2 0 11 = 1 := by rw [hF2 0 (by omega)]; exact j01
  have jz2 : t2 999996 0 = t1 999996 0 := by rw [hF2 999996 (by omega)]
  have u1 : t2 1 1 = t1 1 1 := by rw [hF2 1 (by omega)]
  have u2 : t1 268 8 = σ 268 8 := by rw [hF1 268 (by omega)]
  have u0 : σ 1 1 = σ 268 8 := jr.1.1
  have u6 : t2 1 1 = t2 268 8 := by omega
  have u7 : t2 2 = xm8 (t2 276) ∧ xb8 (t2 276) := by rw [hF2 2 (by omega), hF1 2 (by omega), hF2 276 (by omega), hF1 276 (by omega)]; exact jr.1.2
  have w11a : t1 0 11 = σ 0 11 := by rw [hF1 0 (by omega)]
  have w11b : t2 0 11 = t1 0 11 := by rw [hF2 0 (by omega)]
  have w58a : t1 268 58 = σ 268 58 := by rw [hF1 268 (by omega)]
  have w58b : t2 268 58 = t1 268 58 := hI2.2.2.2.1
  have w17a : t1 268 17 = σ 268 17 := by rw [hF1 268 (by omega)]
  have w17b : t2 268 17 = t1 268 17 := hI2.2.2.2.2.1
  have w48a : t1 268 48 = σ 268 48 := by rw [hF1 268 (by omega)]
  have w48b : t2 268 48 = t1 268 48 := hI2.2.2.2.2.2.1
  have w34a : t1 269 34 = σ 269 34 := by rw [hF1 269 (by omega)]
  have w34b : t2 269 34 = t1 269 34 := by rw [hF2 269 (by omega)]
  have j48 := lR_48 jr
  have jb58 := (lR_B jr).2.2
  have jD := lR_D jr
  have jBt : zBt (σ 269) := jD.1.2.2.2
  have q269 : t1 269 = σ 269 := hF1 269 (by omega)
  have zBB : (t2 5 = t2 288 ∧ zk3 (t2 5)) ∧ (∀ j : Int, 0 ≤ j → j < 100 → t2 4 j = t2 272 j ∧ 0 ≤ t2 4 j ∧ t2 4 j ≤ 3) ∧ t2 0 11 = t2 268 58 := ⟨by rw [hF2 5 (by omega), hF1 5 (by omega), hF2 288 (by omega), hF1 288 (by omega)]; exact (lR_B jr).1, by rw [hF2 4 (by omega), hF1 4 (by omega), hF2 272 (by omega), hF1 272 (by omega)]; exact (lR_B jr).2.1, by omega⟩
  have e4 : t2 4 = σ 4 := by rw [hF2 4 (by omega), hF1 4 (by omega)]
  have zL : zLx t2 := (lR_L jr).ff (fun k hk => by rw [hF2 k (by omega), hF1 k (by omega)]) (by omega)
  have zM : zLm t2 := (lR_M jr).ff (by rw [hF2 129 (by omega), hF1 129 (by omega)]) (by rw [hF2 273 (by omega), hF1 273 (by omega)])
  have zD : zDd t2 136 269 := jD.1.ff (fun o ho => by rw [hF2 (136 + o) (by omega), hF1 (136 + o) (by omega)]) e4 (fun q _ _ => by rw [hF2 269 (by omega), q269])
  have zDW : zDd t2 136 269 ∧ zWk t2 136 274 275 ∧ zB8 t2 275 := ⟨zD, jD.2.1.ff (by rw [hF2 138 (by omega), hF1 138 (by omega)]) (fun k hk => by rw [hF2 k (by omega), hF1 k (by omega)]) (by rw [hF2 274 (by omega), hF1 274 (by omega)]) (by rw [hF2 275 (by omega), hF1 275 (by omega)]), by unfold zB8; rw [hF2 275 (by omega), hF1 275 (by omega)]; exact jD.2.2⟩
  have zK : zKp t2 := fun h => by
    have y := (lR_K jr).2 (by omega)
    exact ⟨y.1.ff (fun o ho => by rw [hF2 (146 + o) (by omega), hF1 (146 + o) (by omega)]) e4 (fun q _ _ => by rw [hF2 271 (by omega), hF1 271 (by omega)]), y.2.ff (by rw [hF2 148 (by omega), hF1 148 (by omega)]) (fun k hk => by rw [hF2 k (by omega), hF1 k (by omega)]) (by rw [hF2 308 (by omega), hF1 308 (by omega)]) (by rw [hF2 309 (by omega), hF1 309 (by omega)])⟩
  have zKK : zB8 t2 309 ∧ zKp t2 := ⟨(by unfold zB8; rw [hF2 309 (by omega), hF1 309 (by omega)]; exact (lR_K jr).1), zK⟩
  have zIS : IS t2 := IS_f (fun k hk => hF2 k (by unfold suIS at hk; omega)) (IS_f (fun k hk => hF1 k (by unfold suIS at hk; omega)) (lR_S jr))
  have zIQ : IQ t2 := IQ_f (fun k hk => hF2 k (by unfold suIQ at hk; omega)) (IQ_f (fun k hk => hF1 k (by unfold suIQ at hk; omega)) (lR_I jr))
  have zG : zSg t2 := (lR_G jr).f (fun k hk => by rw [hF2 k (by omega), hF1 k (by omega)])
  have z48 : t2 268 48 = -1 := by omega
  have hJ : lJ t2 (n + 1) := ⟨jC2, hI2.1, hI2.2.1, hI2.2.2.1, j02, ⟨by omega, by omega⟩, ⟨⟨u6, u7⟩, zBB, zL, zM, zDW, zKK, zIS, zIQ, zG, z48⟩⟩
  refine lv_pop hx hb dL_law_782 rfl ?_
  refine lv_goto (tgt := 990) hx hb dL_law_783 (by decide) ?_
  refine W.widen (k := cells + 1) (n := slots + 60) (by omega) (by omega) ?_
  exact kk H locs t2 hJ hW
theorem l_18 {p : Program} {e : Env} {s : State} {m : MethodId} {below : List Frame} {meth : Method} {c : Code} {l : Launch} {b h0 L : Nat} {xs : Nat → Int32} {D : va_G} {g : xG} {T : Nat × Nat × Nat} {H : Heap} {locs : List Loc} {ls : Array Slot} {cells slots : Nat} {Q : State → Prop} {σ : xS} {n : Nat} {i : Int} (hx : p.tables.exec = Jvm.exec) (hb : c.code = cL_law) (hml : c.maxLocals = 4) (hown : s.vm.findClass "ShadowCourtLaw" = some m.cls) (hT : ∀ w ∈ xTB, w.before #[Value.ref b] s = true) (hE : xE D g T h0 s) (hX : va_X b L xs s s.heap) (hbl : b < s.heap.size) (eh : h0 = s.heap.size) (hW : xW D g h0 s H locs σ) (hl : lv_has ls 4 [(3, .int (xJ i)), (2, .ref (h0 + 268)), (1, .ref (h0 + 0)), (0, .ref b)]) (hcs : cells ≤ 600000 ∧ slots ≤ 7302250) (hcs1 : cells + 1 ≤ 600000 ∧ slots + 60 ≤ 7302250) (hJ : lJ σ n) (hn : n ≤ 512) (hi : 0 ≤ i ∧ i + 5 < (L : Int) ∧ L ≤ 3072)
    (kk : ∀ (H : Heap) (locs : List Loc) (τ : xS), lJ τ (n + 1) → xW D g h0 s H locs τ → W p l e room_1 s m #[Value.ref b] below meth c H locs (cells + 1) (slots + 60) Q (F0 m 990 ls [])) : W p l e room_1 s m #[Value.ref b] below meth c H locs cells slots Q (F0 m 786 ls []) := by
  obtain ⟨jC, jn, jk, jo, j0, jz, jr⟩ := hJ
  obtain ⟨a1, e1, r1⟩ := xJ_ex (xs (i + 1).toNat)
  obtain ⟨a2, e2, r2⟩ := xJ_ex (xs (i + 2).toNat)
  obtain ⟨a3, e3, r3⟩ := xJ_ex (xs (i + 3).toNat)
  refine x_aload_n hx hb hl 2 rfl dL_law_786 rfl ?_
  refine x_aload_n hx hb hl 3 rfl dL_law_787 rfl ?_
  refine x_iload_n hx hb hl 0 rfl dL_law_788 rfl ?_
  refine x_iconst hx hb dL_law_789 ?_
  refine x_iadd hx hb dL_law_790 ?_
  refine l_sld hx hb hX hbl eh hW (by omega) (by omega) e1 dL_law_791 ?_
  refine x_aload_n hx hb hl 3 rfl dL_law_792 rfl ?_
  refine x_iload_n hx hb hl 0 rfl dL_law_793 rfl ?_
  refine x_iconst hx hb dL_law_794 ?_
  refine b_pc (pc1 := 795) rfl ?_
  refine x_iadd hx hb dL_law_795 ?_
  refine l_sld hx hb hX hbl eh hW (by omega) (by omega) e2 dL_law_796 ?_
  refine x_aload_n hx hb hl 3 rfl dL_law_797 rfl ?_
  refine x_iload_n hx hb hl 0 rfl dL_law_798 rfl ?_
  refine x_iconst hx hb dL_law_799 ?_
  refine x_iadd hx hb dL_law_800 ?_
  refine l_sld hx hb hX hbl eh hW (by omega) (by omega) e3 dL_law_801 ?_
  refine x_goi (x_runV (As := [.int (xJ a1), .int (xJ a2), .int (xJ a3)]) hx hb hml hown hT hE hW hl.1 (Or.inl (by decide)) (so_0 h0 g _) rfl cf_X10_cloudy wq1110 wq1111 wq1109 (c_X10_cloudy l D g T h0 σ hW.2.1 a1 r1 a2 r2 a3 r3 jC) ⟨rfl, rfl, ⟨by decide, by decide⟩, hcs⟩ rfl rfl (Nat.le_of_ble_eq_true rfl) dL_law_802) hW (fun q1 t1 H locs rq1 hp hW => ?_)
  obtain ⟨hF1, hI1, hp1⟩ := hp
  have jC1 := hI1.1
  have jn1 : IMn t1 := IMn_f (fun k hk => hF1 k (by unfold suIMn at hk; omega)) jn
  have jk1 : IMk t1 := IMk_f (fun k hk => hF1 k (by unfold suIMk at hk; omega)) jk
  have jo1 : IMo t1 := IMo_f (fun k hk => hF1 k (by unfold suIMo at hk; omega)) jo
  have j01 : t1 0 11 = 0 ∨ t1 0 11 = 1 := by rw [hF1 0 (by omega)]; exact j0
  have jz1 : t1 999996 0 = σ 999996 0 := by rw [hF1 999996 (by omega)]
  refine lv_pop hx hb dL_law_805 rfl ?_
  refine x_aload_n hx hb hl 1 rfl dL_law_806 rfl ?_
  refine b_pc (pc1 := 807) rfl ?_
  refine x_aload_n hx hb hl 3 rfl dL_law_807 rfl ?_
  refine x_iload_n hx hb hl 0 rfl dL_law_808 rfl ?_
  refine x_iconst hx hb dL_law_809 ?_
  refine x_iadd hx hb dL_law_810 ?_
  refine l_sld hx hb hX hbl eh hW (by omega) (by omega) e1 dL_law_811 ?_
  refine x_aload_n hx hb hl 3 rfl dL_law_812 rfl ?_
  refine x_iload_n hx hb hl 0 rfl dL_law_813 rfl ?_
  refine x_iconst hx hb dL_law_814 ?_
  refine x_iadd hx hb dL_law_815 ?_
  refine l_sld hx hb hX hbl eh hW (by omega) (by omega) e2 dL_law_816 ?_
  refine b_pc (pc1 := 817) rfl ?_
  refine x_aload_n hx hb hl 3 rfl dL_law_817 rfl ?_
  refine x_iload_n hx hb hl 0 rfl dL_law_818 rfl ?_
  refine x_iconst hx hb dL_law_819 ?_
  refine x_iadd hx hb dL_law_820 ?_
  refine l_sld hx hb hX hbl eh hW (by omega) (by omega) e3 dL_law_821 ?_
  refine x_goi (x_runV (As := [.int (xJ a1), .int (xJ a2), .int (xJ a3)]) hx hb hml hown hT hE hW hl.1 (Or.inl (by decide)) (so_268 h0 g _) rfl cf_X11_cloudy wq1739 wq1740 wq1738 (c_X11_cloudyF l D g T h0 t1 hW.2.1 a1 r1 a2 r2 a3 r3 jn1 jk1 jo1) ⟨rfl, rfl, ⟨by decide, by decide⟩, hcs⟩ rfl rfl (Nat.le_of_ble_eq_true rfl) dL_law_822) hW (fun q2 t2 H locs rq2 hp hW => ?_)
  obtain ⟨hF2, hI2, hp2⟩ := hp
  have jC2 : IC t2 := IC_f (fun k hk => hF2 k (by unfold suIC at hk; omega)) jC1
  have j02 : t2 0 11 = 0 ∨ t2 0 11 = 1 := by rw [hF2 0 (by omega)]; exact j01
  have jz2 : t2 999996 0 = t1 999996 0 := by rw [hF2 999996 (by omega)]
  have u1 : t2 1 1 = t1 1 1 := by rw [hF2 1 (by omega)]
  have u2 : t1 268 8 = σ 268 8 := by rw [hF1 268 (by omega)]
  have u0 : σ 1 1 = σ 268 8 := jr.1.1
  have u6 : t2 1 1 = t2 268 8 := by omega
  have u7 : t2 2 = xm8 (t2 276) ∧ xb8 (t2 276) := by rw [hF2 2 (by omega), hF1 2 (by omega), hF2 276 (by omega), hF1 276 (by omega)]; exact jr.1.2
  have w11a : t1 0 11 = σ 0 11 := by rw [hF1 0 (by omega)]
  have w11b : t2 0 11 = t1 0 11 := by rw [hF2 0 (by omega)]
  have w58a : t1 268 58 = σ 268 58 := by rw [hF1 268 (by omega)]
  have w58b : t2 268 58 = t1 268 58 := hI2.2.2.2.1
  have w17a : t1 268 17 = σ 268 17 := by rw [hF1 268 (by omega)]
  have w17b : t2 268 17 = t1 268 17 := hI2.2.2.2.2.1
  have w48a : t1 268 48 = σ 268 48 := by rw [hF1 268 (by omega)]
  have w48b : t2 268 48 = t1 268 48 := hI2.2.2.2.2.2.1
  have w34a : t1 269 34 = σ 269 34 := by rw [hF1 269 (by omega)]
  have w34b : t2 269 34 = t1 269 34 := by rw [hF2 269 (by omega)]
  have j48 := lR_48 jr
  have jb58 := (lR_B jr).2.2
  have jD := lR_D jr
  have jBt : zBt (σ 269) := jD.1.2.2.2
  have q269 : t1 269 = σ 269 := hF1 269 (by omega)
  have zBB : (t2 5 = t2 288 ∧ zk3 (t2 5)) ∧ (∀ j : Int, 0 ≤ j → j < 100 → t2 4 j = t2 272 j ∧ 0 ≤ t2 4 j ∧ t2 4 j ≤ 3) ∧ t2 0 11 = t2 268 58 := ⟨by rw [hF2 5 (by omega), hF1 5 (by omega), hF2 288 (by omega), hF1 288 (by omega)]; exact (lR_B jr).1, by rw [hF2 4 (by omega), hF1 4 (by omega), hF2 272 (by omega), hF1 272 (by omega)]; exact (lR_B jr).2.1, by omega⟩
  have e4 : t2 4 = σ 4 := by rw [hF2 4 (by omega), hF1 4 (by omega)]
  have zL : zLx t2 := (lR_L jr).ff (fun k hk => by rw [hF2 k (by omega), hF1 k (by omega)]) (by omega)
  have zM : zLm t2 := (lR_M jr).ff (by rw [hF2 129 (by omega), hF1 129 (by omega)]) (by rw [hF2 273 (by omega), hF1 273 (by omega)])
  have zD : zDd t2 136 269 := jD.1.ff (fun o ho => by rw [hF2 (136 + o) (by omega), hF1 (136 + o) (by omega)]) e4 (fun q _ _ => by rw [hF2 269 (by omega), q269])
  have zDW : zDd t2 136 269 ∧ zWk t2 136 274 275 ∧ zB8 t2 275 := ⟨zD, jD.2.1.ff (by rw [hF2 138 (by omega), hF1 138 (by omega)]) (fun k hk => by rw [hF2 k (by omega), hF1 k (by omega)]) (by rw [hF2 274 (by omega), hF1 274 (by omega)]) (by rw [hF2 275 (by omega), hF1 275 (by omega)]), by unfold zB8; rw [hF2 275 (by omega), hF1 275 (by omega)]; exact jD.2.2⟩
  have zK : zKp t2 := fun h => by
    have y := (lR_K jr).2 (by omega)
    exact ⟨y.1.ff (fun o ho => by rw [hF2 (146 + o) (by omega), hF1 (146 + o) (by omega)]) e4 (fun q _ _ => by rw [hF2 271 (by omega), hF1 271 (by omega)]), y.2.ff (by rw [hF2 148 (by omega), hF1 148 (by omega)]) (fun k hk => by rw [hF2 k (by omega), hF1 k (by omega)]) (by rw [hF2 308 (by omega), hF1 308 (by omega)]) (by rw [hF2 309 (by omega), hF1 309 (by omega)])⟩
  have zKK : zB8 t2 309 ∧ zKp t2 := ⟨(by unfold zB8; rw [hF2 309 (by omega), hF1 309 (by omega)]; exact (lR_K jr).1), zK⟩
  have zIS : IS t2 := IS_f (fun k hk => hF2 k (by unfold suIS at hk; omega)) (IS_f (fun k hk => hF1 k (by unfold suIS at hk; omega)) (lR_S jr))
  have zIQ : IQ t2 := IQ_f (fun k hk => hF2 k (by unfold suIQ at hk; omega)) (IQ_f (fun k hk => hF1 k (by unfold suIQ at hk; omega)) (lR_I jr))
  have zG : zSg t2 := (lR_G jr).f (fun k hk => by rw [hF2 k (by omega), hF1 k (by omega)])
  have z48 : t2 268 48 = -1 := by omega
  have hJ : lJ t2 (n + 1) := ⟨jC2, hI2.1, hI2.2.1, hI2.2.2.1, j02, ⟨by omega, by omega⟩, ⟨⟨u6, u7⟩, zBB, zL, zM, zDW, zKK, zIS, zIQ, zG, z48⟩⟩
  refine lv_pop hx hb dL_law_825 rfl ?_
  refine lv_goto (tgt := 990) hx hb dL_law_826 (by decide) ?_
  refine W.widen (k := cells + 1) (n := slots + 60) (by omega) (by omega) ?_
  exact kk H locs t2 hJ hW
theorem l_19 {p : Program} {e : Env} {s : State} {m : MethodId} {below : List Frame} {meth : Method} {c : Code} {l : Launch} {b h0 L : Nat} {xs : Nat → Int32} {D : va_G} {g : xG} {T : Nat × Nat × Nat} {H : Heap} {locs : List Loc} {ls : Array Slot} {cells slots : Nat} {Q : State → Prop} {σ : xS} {n : Nat} {i : Int} (hx : p.tables.exec = Jvm.exec) (hb : c.code = cL_law) (hml : c.maxLocals = 4) (hown : s.vm.findClass "ShadowCourtLaw" = some m.cls) (hT : ∀ w ∈ xTB, w.before #[Value.ref b] s = true) (hE : xE D g T h0 s) (hX : va_X b L xs s s.heap) (hbl : b < s.heap.size) (eh : h0 = s.heap.size) (hW : xW D g h0 s H locs σ) (hl : lv_has ls 4 [(3, .int (xJ i)), (2, .ref (h0 + 268)), (1, .ref (h0 + 0)), (0, .ref b)]) (hcs : cells ≤ 600000 ∧ slots ≤ 7302250) (hcs1 : cells + 1 ≤ 600000 ∧ slots + 60 ≤ 7302250) (hJ : lJ σ n) (hn : n ≤ 512) (hi : 0 ≤ i ∧ i + 5 < (L : Int) ∧ L ≤ 3072)
    (kk : ∀ (H : Heap) (locs : List Loc) (τ : xS), lJ τ (n + 1) → xW D g h0 s H locs τ → W p l e room_1 s m #[Value.ref b] below meth c H locs (cells + 1) (slots + 60) Q (F0 m 990 ls [])) : W p l e room_1 s m #[Value.ref b] below meth c H locs cells slots Q (F0 m 829 ls []) := by
  obtain ⟨jC, jn, jk, jo, j0, jz, jr⟩ := hJ
  obtain ⟨a1, e1, r1⟩ := xJ_ex (xs (i + 1).toNat)
  obtain ⟨a2, e2, r2⟩ := xJ_ex (xs (i + 2).toNat)
  refine x_aload_n hx hb hl 2 rfl dL_law_829 rfl ?_
  refine x_aload_n hx hb hl 3 rfl dL_law_830 rfl ?_
  refine x_iload_n hx hb hl 0 rfl dL_law_831 rfl ?_
  refine x_iconst hx hb dL_law_832 ?_
  refine x_iadd hx hb dL_law_833 ?_
  refine l_sld hx hb hX hbl eh hW (by omega) (by omega) e1 dL_law_834 ?_
  refine x_aload_n hx hb hl 3 rfl dL_law_835 rfl ?_
  refine x_iload_n hx hb hl 0 rfl dL_law_836 rfl ?_
  refine x_iconst hx hb dL_law_837 ?_
  refine b_pc (pc1 := 838) rfl ?_
  refine x_iadd hx hb dL_law_838 ?_
  refine l_sld hx hb hX hbl eh hW (by omega) (by omega) e2 dL_law_839 ?_
  refine x_goi (x_runV (As := [.int (xJ a1), .int (xJ a2)]) hx hb hml hown hT hE hW hl.1 (Or.inl (by decide)) (so_0 h0 g _) rfl cf_X10_together wq1122 wq1123 wq1121 (c_X10_together l D g T h0 σ hW.2.1 a1 r1 a2 r2 jC) ⟨rfl, rfl, ⟨by decide, by decide⟩, hcs⟩ rfl rfl (Nat.le_of_ble_eq_true rfl) dL_law_840) hW (fun q1 t1 H locs rq1 hp hW => ?_)
  obtain ⟨hF1, hI1, hp1⟩ := hp
  have jC1 := hI1.1
  have jn1 : IMn t1 := IMn_f (fun k hk => hF1 k (by unfold suIMn at hk; omega)) jn
  have jk1 : IMk t1 := IMk_f (fun k hk => hF1 k (by unfold suIMk at hk; omega)) jk
  have jo1 : IMo t1 := IMo_f (fun k hk => hF1 k (by unfold suIMo at hk; omega)) jo
  have j01 : t1 0 11 = 0 ∨ t1 0 11 = 1 := by rw [hF1 0 (by omega)]; exact j0
  have jz1 : t1 999996 0 = σ 999996 0 := by rw [hF1 999996 (by omega)]
  refine lv_pop hx hb dL_law_843 rfl ?_
  refine x_aload_n hx hb hl 1 rfl dL_law_844 rfl ?_
  refine x_aload_n hx hb hl 3 rfl dL_law_845 rfl ?_
  refine x_iload_n hx hb hl 0 rfl dL_law_846 rfl ?_
  refine x_iconst hx hb dL_law_847 ?_
  refine x_iadd hx hb dL_law_848 ?_
  refine l_sld hx hb hX hbl eh hW (by omega) (by omega) e1 dL_law_849 ?_
  refine b_pc (pc1 := 850) rfl ?_
  refine x_aload_n hx hb hl 3 rfl dL_law_850 rfl ?_
  refine x_iload_n hx hb hl 0 rfl dL_law_851 rfl ?_
  refine x_iconst hx hb dL_law_852 ?_
  refine x_iadd hx hb dL_law_853 ?_
  refine l_sld hx hb hX hbl eh hW (by omega) (by omega) e2 dL_law_854 ?_
  refine x_goi (x_runV (As := [.int (xJ a1), .int (xJ a2)]) hx hb hml hown hT hE hW hl.1 (Or.inl (by decide)) (so_268 h0 g _) rfl cf_X11_together wq1743 wq1744 wq1742 (c_X11_togetherF l D g T h0 t1 hW.2.1 a1 r1 a2 r2 jn1 jk1 jo1) ⟨rfl, rfl, ⟨by decide, by decide⟩, hcs⟩ rfl rfl (Nat.le_of_ble_eq_true rfl) dL_law_855) hW (fun q2 t2 H locs rq2 hp hW => ?_)
  obtain ⟨hF2, hI2, hp2⟩ := hp
  have jC2 : IC t2 := IC_f (fun k hk => hF2 k (by unfold suIC at hk; omega)) jC1
  have j02 : t2 0 11 = 0 ∨ t2 0 11 = 1 := by rw [hF2 0 (by omega)]; exact j01
  have jz2 : t2 999996 0 = t1 999996 0 := by rw [hF2 999996 (by omega)]
  have u1 : t2 1 1 = t1 1 1 := by rw [hF2 1 (by omega)]
  have u2 : t1 268 8 = σ 268 8 := by rw [hF1 268 (by omega)]
  have u0 : σ 1 1 = σ 268 8 := jr.1.1
  have u5 : σ 2 (2 * a1) = t1 276 (2 * a1) % 256 := by rw [hF1 276 (by omega), jr.1.2.1]; rfl
  have u6 : t2 1 1 = t2 268 8 := by omega
  have u7 : t2 2 = xm8 (t2 276) ∧ xb8 (t2 276) := by rw [hF2 2 (by omega), hF1 2 (by omega), hF2 276 (by omega), hF1 276 (by omega)]; exact jr.1.2
  have w11a : t1 0 11 = σ 0 11 := by rw [hF1 0 (by omega)]
  have w11b : t2 0 11 = t1 0 11 := by rw [hF2 0 (by omega)]
  have w58a : t1 268 58 = σ 268 58 := by rw [hF1 268 (by omega)]
  have w58b : t2 268 58 = t1 268 58 := hI2.2.2.2.1
  have w17a : t1 268 17 = σ 268 17 := by rw [hF1 268 (by omega)]
  have w17b : t2 268 17 = t1 268 17 := hI2.2.2.2.2.1
  have w48a : t1 268 48 = σ 268 48 := by rw [hF1 268 (by omega)]
  have w48b : t2 268 48 = t1 268 48 := hI2.2.2.2.2.2.1
  have w34a : t1 269 34 = σ 269 34 := by rw [hF1 269 (by omega)]
  have w34b : t2 269 34 = t1 269 34 := by rw [hF2 269 (by omega)]
  have j48 := lR_48 jr
  have jb58 := (lR_B jr).2.2
  have jD := lR_D jr
  have jBt : zBt (σ 269) := jD.1.2.2.2
  have q269 : t1 269 = σ 269 := hF1 269 (by omega)
  have zBB : (t2 5 = t2 288 ∧ zk3 (t2 5)) ∧ (∀ j : Int, 0 ≤ j → j < 100 → t2 4 j = t2 272 j ∧ 0 ≤ t2 4 j ∧ t2 4 j ≤ 3) ∧ t2 0 11 = t2 268 58 := ⟨by rw [hF2 5 (by omega), hF1 5 (by omega), hF2 288 (by omega), hF1 288 (by omega)]; exact (lR_B jr).1, by rw [hF2 4 (by omega), hF1 4 (by omega), hF2 272 (by omega), hF1 272 (by omega)]; exact (lR_B jr).2.1, by omega⟩
  have e4 : t2 4 = σ 4 := by rw [hF2 4 (by omega), hF1 4 (by omega)]
  have zL : zLx t2 := (lR_L jr).ff (fun k hk => by rw [hF2 k (by omega), hF1 k (by omega)]) (by omega)
  have zM : zLm t2 := (lR_M jr).ff (by rw [hF2 129 (by omega), hF1 129 (by omega)]) (by rw [hF2 273 (by omega), hF1 273 (by omega)])
  have zD : zDd t2 136 269 := jD.1.ff (fun o ho => by rw [hF2 (136 + o) (by omega), hF1 (136 + o) (by omega)]) e4 (fun q _ _ => by rw [hF2 269 (by omega), q269])
  have zDW : zDd t2 136 269 ∧ zWk t2 136 274 275 ∧ zB8 t2 275 := ⟨zD, jD.2.1.ff (by rw [hF2 138 (by omega), hF1 138 (by omega)]) (fun k hk => by rw [hF2 k (by omega), hF1 k (by omega)]) (by rw [hF2 274 (by omega), hF1 274 (by omega)]) (by rw [hF2 275 (by omega), hF1 275 (by omega)]), by unfold zB8; rw [hF2 275 (by omega), hF1 275 (by omega)]; exact jD.2.2⟩
  have zK : zKp t2 := fun h => by
    have y := (lR_K jr).2 (by omega)
    exact ⟨y.1.ff (fun o ho => by rw [hF2 (146 + o) (by omega), hF1 (146 + o) (by omega)]) e4 (fun q _ _ => by rw [hF2 271 (by omega), hF1 271 (by omega)]), y.2.ff (by rw [hF2 148 (by omega), hF1 148 (by omega)]) (fun k hk => by rw [hF2 k (by omega), hF1 k (by omega)]) (by rw [hF2 308 (by omega), hF1 308 (by omega)]) (by rw [hF2 309 (by omega), hF1 309 (by omega)])⟩
  have zKK : zB8 t2 309 ∧ zKp t2 := ⟨(by unfold zB8; rw [hF2 309 (by omega), hF1 309 (by omega)]; exact (lR_K jr).1), zK⟩
  have zIS : IS t2 := IS_f (fun k hk => hF2 k (by unfold suIS at hk; omega)) (IS_f (fun k hk => hF1 k (by unfold suIS at hk; omega)) (lR_S jr))
  have zIQ : IQ t2 := IQ_f (fun k hk => hF2 k (by unfold suIQ at hk; omega)) (IQ_f (fun k hk => hF1 k (by unfold suIQ at hk; omega)) (lR_I jr))
  have zG : zSg t2 := (lR_G jr).f (fun k hk => by rw [hF2 k (by omega), hF1 k (by omega)])
  have z48 : t2 268 48 = -1 := by omega
  have hJ : lJ t2 (n + 1) := ⟨jC2, hI2.1, hI2.2.1, hI2.2.2.1, j02, ⟨by omega, by omega⟩, ⟨⟨u6, u7⟩, zBB, zL, zM, zDW, zKK, zIS, zIQ, zG, z48⟩⟩
  refine lv_pop hx hb dL_law_858 rfl ?_
  refine lv_goto (tgt := 990) hx hb dL_law_859 (by decide) ?_
  refine W.widen (k := cells + 1) (n := slots + 60) (by omega) (by omega) ?_
  exact kk H locs t2 hJ hW
theorem l_20 {p : Program} {e : Env} {s : State} {m : MethodId} {below : List Frame} {meth : Method} {c : Code} {l : Launch} {b h0 L : Nat} {xs : Nat → Int32} {D : va_G} {g : xG} {T : Nat × Nat × Nat} {H : Heap} {locs : List Loc} {ls : Array Slot} {cells slots : Nat} {Q : State → Prop} {σ : xS} {n : Nat} {i : Int} (hx : p.tables.exec = Jvm.exec) (hb : c.code = cL_law) (hml : c.maxLocals = 4) (hown : s.vm.findClass "ShadowCourtLaw" = some m.cls) (hT : ∀ w ∈ xTB, w.before #[Value.ref b] s = true) (hE : xE D g T h0 s) (hX : va_X b L xs s s.heap) (hbl : b < s.heap.size) (eh : h0 = s.heap.size) (hW : xW D g h0 s H locs σ) (hl : lv_has ls 4 [(3, .int (xJ i)), (2, .ref (h0 + 268)), (1, .ref (h0 + 0)), (0, .ref b)]) (hcs : cells ≤ 600000 ∧ slots ≤ 7302250) (hcs1 : cells + 1 ≤ 600000 ∧ slots + 60 ≤ 7302250) (hJ : lJ σ n) (hn : n ≤ 512) (hi : 0 ≤ i ∧ i + 5 < (L : Int) ∧ L ≤ 3072)
    (kk : ∀ (H : Heap) (locs : List Loc) (τ : xS), lJ τ (n + 1) → xW D g h0 s H locs τ → W p l e room_1 s m #[Value.ref b] below meth c H locs (cells + 1) (slots + 60) Q (F0 m 990 ls [])) : W p l e room_1 s m #[Value.ref b] below meth c H locs cells slots Q (F0 m 862 ls []) := by
  obtain ⟨jC, jn, jk, jo, j0, jz, jr⟩ := hJ
  obtain ⟨a1, e1, r1⟩ := xJ_ex (xs (i + 1).toNat)
  obtain ⟨a2, e2, r2⟩ := xJ_ex (xs (i + 2).toNat)
  refine x_aload_n hx hb hl 2 rfl dL_law_862 rfl ?_
  refine x_aload_n hx hb hl 3 rfl dL_law_863 rfl ?_
  refine x_iload_n hx hb hl 0 rfl dL_law_864 rfl ?_
  refine x_iconst hx hb dL_law_865 ?_
  refine x_iadd hx hb dL_law_866 ?_
  refine l_sld hx hb hX hbl eh hW (by omega) (by omega) e1 dL_law_867 ?_
  refine x_aload_n hx hb hl 3 rfl dL_law_868 rfl ?_
  refine x_iload_n hx hb hl 0 rfl dL_law_869 rfl ?_
  refine x_iconst hx hb dL_law_870 ?_
  refine b_pc (pc1 := 871) rfl ?_
  refine x_iadd hx hb dL_law_871 ?_
  refine l_sld hx hb hX hbl eh hW (by omega) (by omega) e2 dL_law_872 ?_
  refine x_goi (x_runV (As := [.int (xJ a1), .int (xJ a2)]) hx hb hml hown hT hE hW hl.1 (Or.inl (by decide)) (so_0 h0 g _) rfl cf_X10_servedBy wq1146 wq1147 wq1145 (c_X10_servedByF l D g T h0 σ hW.2.1 a1 r1 a2 r2 (σ 4) (σ 274) (zWf σ 275) (zQs σ) (σ 273) (lR_L jr).1 (lR_L jr).2 (fun t _ _ => rfl) (lR_M jr) (lR_D jr).2.1 (lR_D jr).1.qq ((lR_D jr).1.ok4 (IMn.n1 jn)) jC (lR_S jr) (lR_I jr)) ⟨rfl, rfl, ⟨by decide, by decide⟩, hcs⟩ rfl rfl (Nat.le_of_ble_eq_true rfl) dL_law_873) hW (fun q1 t1 H locs rq1 hp hW => ?_)
  obtain ⟨hF1, hI1, hp1⟩ := hp
  have jC1 := hI1.1
  have jn1 : IMn t1 := IMn_f (fun k hk => hF1 k (by unfold suIMn at hk; omega)) jn
  have jk1 : IMk t1 := IMk_f (fun k hk => hF1 k (by unfold suIMk at hk; omega)) jk
  have jo1 : IMo t1 := IMo_f (fun k hk => hF1 k (by unfold suIMo at hk; omega)) jo
  have j01 : t1 0 11 = 0 ∨ t1 0 11 = 1 := by rw [hF1 0 (by omega)]; exact j0
  have jz1 : t1 999996 0 = σ 999996 0 := by rw [hF1 999996 (by omega)]
  refine lv_pop hx hb dL_law_876 rfl ?_
  refine x_aload_n hx hb hl 1 rfl dL_law_877 rfl ?_
  refine x_aload_n hx hb hl 3 rfl dL_law_878 rfl ?_
  refine x_iload_n hx hb hl 0 rfl dL_law_879 rfl ?_
  refine x_iconst hx hb dL_law_880 ?_
  refine x_iadd hx hb dL_law_881 ?_
  refine l_sld hx hb hX hbl eh hW (by omega) (by omega) e1 dL_law_882 ?_
  refine b_pc (pc1 := 883) rfl ?_
  refine x_aload_n hx hb hl 3 rfl dL_law_883 rfl ?_
  refine x_iload_n hx hb hl 0 rfl dL_law_884 rfl ?_
  refine x_iconst hx hb dL_law_885 ?_
  refine x_iadd hx hb dL_law_886 ?_
  refine l_sld hx hb hX hbl eh hW (by omega) (by omega) e2 dL_law_887 ?_
  refine x_goi (x_runV (As := [.int (xJ a1), .int (xJ a2)]) hx hb hml hown hT hE hW hl.1 (Or.inl (by decide)) (so_268 h0 g _) rfl cf_X11_servedBy wq1751 wq1752 wq1750 (c_X11_servedByF l D g T h0 t1 hW.2.1 a1 r1 a2 r2 (σ 4) (σ 274) (zWf σ 275) (zQs σ) (σ 273) (lR_L jr).1 (zLR_s (σ := σ) (fun k hk => hF1 k (by omega)) (by rw [hF1 268 (by omega)])) (fun t a b => by have y := (lR_B jr).2.1 t a b; rw [hF1 272 (by omega)]; exact ⟨y.1.symm, y.2⟩) (fun i _ _ => by rw [hF1 273 (by omega)]) (by rw [hF1 274 (by omega), hF1 275 (by omega)]; exact fun j _ _ => ⟨rfl, fun i _ _ => rfl⟩) (zYN_q (a := 0) (c := 0) (s := 0) (by rw [hF1 269 (by omega)]; exact (lR_D jr).1.2.1)) (by rw [hF1 269 (by omega)]; exact (lR_D jr).1.2.2.2.2.2) (by show zJt (σ 4) (zrt (t1 269)); rw [hF1 269 (by omega)]; exact (lR_D jr).1.2.2.1) (by rw [hF1 269 (by omega)]; exact (lR_D jr).1.2.2.2.1) jn1 jk1 jo1) ⟨rfl, rfl, ⟨by decide, by decide⟩, hcs⟩ rfl rfl (Nat.le_of_ble_eq_true rfl) dL_law_888) hW (fun q2 t2 H locs rq2 hp hW => ?_)
  obtain ⟨hF2, hI2, hp2⟩ := hp
  have jC2 : IC t2 := IC_f (fun k hk => hF2 k (by unfold suIC at hk; omega)) jC1
  have j02 : t2 0 11 = 0 ∨ t2 0 11 = 1 := by rw [hF2 0 (by omega)]; exact j01
  have jz2 : t2 999996 0 = t1 999996 0 := by rw [hF2 999996 (by omega)]
  have u1 : t2 1 1 = t1 1 1 := by rw [hF2 1 (by omega)]
  have u2 : t1 268 8 = σ 268 8 := by rw [hF1 268 (by omega)]
  have u0 : σ 1 1 = σ 268 8 := jr.1.1
  have u3 : t1 1 1 = σ 1 1 := by rw [hF1 1 (by omega)]
  have u4 : t2 268 8 = t1 268 8 := hI2.2.2.2.1
  have u6 : t2 1 1 = t2 268 8 := by omega
  have u7 : t2 2 = xm8 (t2 276) ∧ xb8 (t2 276) := by rw [hF2 2 (by omega), hF1 2 (by omega), hF2 276 (by omega), hF1 276 (by omega)]; exact jr.1.2
  have w11a : t1 0 11 = σ 0 11 := by rw [hF1 0 (by omega)]
  have w11b : t2 0 11 = t1 0 11 := by rw [hF2 0 (by omega)]
  have w58a : t1 268 58 = σ 268 58 := by rw [hF1 268 (by omega)]
  have w58b : t2 268 58 = t1 268 58 := hI2.2.2.2.2.1
  have w17a : t1 268 17 = σ 268 17 := by rw [hF1 268 (by omega)]
  have w17b : t2 268 17 = t1 268 17 := hI2.2.2.2.2.2.1
  have w48a : t1 268 48 = σ 268 48 := by rw [hF1 268 (by omega)]
  have w48b : t2 268 48 = t1 268 48 := hI2.2.2.2.2.2.2.1
  have w34a : t1 269 34 = σ 269 34 := by rw [hF1 269 (by omega)]
  have j48 := lR_48 jr
  have jb58 := (lR_B jr).2.2
  have jD := lR_D jr
  have jBt : zBt (σ 269) := jD.1.2.2.2
  have q269 : t1 269 = σ 269 := hF1 269 (by omega)
  have zBB : (t2 5 = t2 288 ∧ zk3 (t2 5)) ∧ (∀ j : Int, 0 ≤ j → j < 100 → t2 4 j = t2 272 j ∧ 0 ≤ t2 4 j ∧ t2 4 j ≤ 3) ∧ t2 0 11 = t2 268 58 := ⟨by rw [hF2 5 (by omega), hF1 5 (by omega), hF2 288 (by omega), hF1 288 (by omega)]; exact (lR_B jr).1, by rw [hF2 4 (by omega), hF1 4 (by omega), hF2 272 (by omega), hF1 272 (by omega)]; exact (lR_B jr).2.1, by omega⟩
  have e4 : t2 4 = σ 4 := by rw [hF2 4 (by omega), hF1 4 (by omega)]
  have zL : zLx t2 := (lR_L jr).ff (fun k hk => by rw [hF2 k (by omega), hF1 k (by omega)]) (by omega)
  have zM : zLm t2 := (lR_M jr).ff (by rw [hF2 129 (by omega), hF1 129 (by omega)]) (by rw [hF2 273 (by omega), hF1 273 (by omega)])
  have zD : zDd t2 136 269 := jD.1.ff (fun o ho => by rw [hF2 (136 + o) (by omega), hF1 (136 + o) (by omega)]) e4 (fun q a b => (hp2.elim (fun z => z.2.2 q a b) (fun z => z.2.2 q a b)).trans (congrFun q269 q))
  have zDW : zDd t2 136 269 ∧ zWk t2 136 274 275 ∧ zB8 t2 275 := ⟨zD, jD.2.1.ff (by rw [hF2 138 (by omega), hF1 138 (by omega)]) (fun k hk => by rw [hF2 k (by omega), hF1 k (by omega)]) (by rw [hF2 274 (by omega), hF1 274 (by omega)]) (by rw [hF2 275 (by omega), hF1 275 (by omega)]), by unfold zB8; rw [hF2 275 (by omega), hF1 275 (by omega)]; exact jD.2.2⟩
  have zK : zKp t2 := fun h => by
    have y := (lR_K jr).2 (by omega)
    exact ⟨y.1.ff (fun o ho => by rw [hF2 (146 + o) (by omega), hF1 (146 + o) (by omega)]) e4 (fun q _ _ => by rw [hF2 271 (by omega), hF1 271 (by omega)]), y.2.ff (by rw [hF2 148 (by omega), hF1 148 (by omega)]) (fun k hk => by rw [hF2 k (by omega), hF1 k (by omega)]) (by rw [hF2 308 (by omega), hF1 308 (by omega)]) (by rw [hF2 309 (by omega), hF1 309 (by omega)])⟩
  have zKK : zB8 t2 309 ∧ zKp t2 := ⟨(by unfold zB8; rw [hF2 309 (by omega), hF1 309 (by omega)]; exact (lR_K jr).1), zK⟩
  have zIS : IS t2 := IS_f (fun k hk => hF2 k (by unfold suIS at hk; omega)) hI1.2.1
  have zIQ : IQ t2 := IQ_f (fun k hk => hF2 k (by unfold suIQ at hk; omega)) hI1.2.2.1
  have zG : zSg t2 := (lR_G jr).f (fun k hk => by rw [hF2 k (by omega), hF1 k (by omega)])
  have z48 : t2 268 48 = -1 := by omega
  have hJ : lJ t2 (n + 1) := ⟨jC2, hI2.1, hI2.2.1, hI2.2.2.1, j02, ⟨by omega, by omega⟩, ⟨⟨u6, u7⟩, zBB, zL, zM, zDW, zKK, zIS, zIQ, zG, z48⟩⟩
  refine lv_pop hx hb dL_law_891 rfl ?_
  refine lv_goto (tgt := 990) hx hb dL_law_892 (by decide) ?_
  refine W.widen (k := cells + 1) (n := slots + 60) (by omega) (by omega) ?_
  exact kk H locs t2 hJ hW
theorem l_21 {p : Program} {e : Env} {s : State} {m : MethodId} {below : List Frame} {meth : Method} {c : Code} {l : Launch} {b h0 L : Nat} {xs : Nat → Int32} {D : va_G} {g : xG} {T : Nat × Nat × Nat} {H : Heap} {locs : List Loc} {ls : Array Slot} {cells slots : Nat} {Q : State → Prop} {σ : xS} {n : Nat} {i : Int} (hx : p.tables.exec = Jvm.exec) (hb : c.code = cL_law) (hml : c.maxLocals = 4) (hown : s.vm.findClass "ShadowCourtLaw" = some m.cls) (hT : ∀ w ∈ xTB, w.before #[Value.ref b] s = true) (hE : xE D g T h0 s) (hX : va_X b L xs s s.heap) (hbl : b < s.heap.size) (eh : h0 = s.heap.size) (hW : xW D g h0 s H locs σ) (hl : lv_has ls 4 [(3, .int (xJ i)), (2, .ref (h0 + 268)), (1, .ref (h0 + 0)), (0, .ref b)]) (hcs : cells ≤ 600000 ∧ slots ≤ 7302250) (hcs1 : cells + 1 ≤ 600000 ∧ slots + 60 ≤ 7302250) (hJ : lJ σ n) (hn : n ≤ 512) (hi : 0 ≤ i ∧ i + 5 < (L : Int) ∧ L ≤ 3072)
    (kk : ∀ (H : Heap) (locs : List Loc) (τ : xS), lJ τ (n + 1) → xW D g h0 s H locs τ → W p l e room_1 s m #[Value.ref b] below meth c H locs (cells + 1) (slots + 60) Q (F0 m 990 ls [])) : W p l e room_1 s m #[Value.ref b] below meth c H locs cells slots Q (F0 m 895 ls []) := by
  obtain ⟨jC, jn, jk, jo, j0, jz, jr⟩ := hJ
  obtain ⟨a1, e1, r1⟩ := xJ_ex (xs (i + 1).toNat)
  refine x_aload_n hx hb hl 2 rfl dL_law_895 rfl ?_
  refine x_aload_n hx hb hl 3 rfl dL_law_896 rfl ?_
  refine x_iload_n hx hb hl 0 rfl dL_law_897 rfl ?_
  refine x_iconst hx hb dL_law_898 ?_
  refine x_iadd hx hb dL_law_899 ?_
  refine l_sld hx hb hX hbl eh hW (by omega) (by omega) e1 dL_law_900 ?_
  refine x_goi (x_runV (As := [.int (xJ a1)]) hx hb hml hown hT hE hW hl.1 (Or.inl (by decide)) (so_0 h0 g _) rfl cf_X10_seed wq1150 wq1151 wq1149 (c_X10_seedF l D g T h0 σ hW.2.1 a1 r1 jC) ⟨rfl, rfl, ⟨by decide, by decide⟩, hcs⟩ rfl rfl (Nat.le_of_ble_eq_true rfl) dL_law_901) hW (fun q1 t1 H locs rq1 hp hW => ?_)
  obtain ⟨hF1, hI1, hp1⟩ := hp
  have jC1 := hI1.1
  have jn1 : IMn t1 := IMn_f (fun k hk => hF1 k (by unfold suIMn at hk; omega)) jn
  have jk1 : IMk t1 := IMk_f (fun k hk => hF1 k (by unfold suIMk at hk; omega)) jk
  have jo1 : IMo t1 := IMo_f (fun k hk => hF1 k (by unfold suIMo at hk; omega)) jo
  have j01 : t1 0 11 = 0 ∨ t1 0 11 = 1 := by rw [hF1 0 (by omega)]; exact j0
  have jz1 : t1 999996 0 = σ 999996 0 := by rw [hF1 999996 (by omega)]
  refine lv_pop hx hb dL_law_904 rfl ?_
  refine x_aload_n hx hb hl 1 rfl dL_law_905 rfl ?_
  refine b_pc (pc1 := 906) rfl ?_
  refine x_aload_n hx hb hl 3 rfl dL_law_906 rfl ?_
  refine x_iload_n hx hb hl 0 rfl dL_law_907 rfl ?_
  refine x_iconst hx hb dL_law_908 ?_
  refine x_iadd hx hb dL_law_909 ?_
  refine l_sld hx hb hX hbl eh hW (by omega) (by omega) e1 dL_law_910 ?_
  refine x_goi (x_runV (As := [.int (xJ a1)]) hx hb hml hown hT hE hW hl.1 (Or.inl (by decide)) (so_268 h0 g _) rfl cf_X11_seed wq1755 wq1756 wq1754 (c_X11_seedF l D g T h0 t1 hW.2.1 a1 r1 jn1 jk1 jo1) ⟨rfl, rfl, ⟨by decide, by decide⟩, hcs⟩ rfl rfl (Nat.le_of_ble_eq_true rfl) dL_law_911) hW (fun q2 t2 H locs rq2 hp hW => ?_)
  obtain ⟨hF2, hI2, hp2⟩ := hp
  have jC2 : IC t2 := IC_f (fun k hk => hF2 k (by unfold suIC at hk; omega)) jC1
  have j02 : t2 0 11 = 0 ∨ t2 0 11 = 1 := by rw [hF2 0 (by omega)]; exact j01
  have jz2 : t2 999996 0 = t1 999996 0 := by rw [hF2 999996 (by omega)]
  have u1 : t2 1 1 = t1 1 1 := by rw [hF2 1 (by omega)]
  have u2 : t1 268 8 = σ 268 8 := by rw [hF1 268 (by omega)]
  have u0 : σ 1 1 = σ 268 8 := jr.1.1
  have u3 : t1 1 1 = σ 1 1 := by rw [hF1 1 (by omega)]
  have u4 : t2 268 8 = t1 268 8 := by rw [hF2 268 (by omega)]
  have u6 : t2 1 1 = t2 268 8 := by omega
  have u7 : t2 2 = xm8 (t2 276) ∧ xb8 (t2 276) := by rw [hF2 2 (by omega), hF1 2 (by omega), hF2 276 (by omega), hF1 276 (by omega)]; exact jr.1.2
  have w11a : t1 0 11 = σ 0 11 := by rw [hF1 0 (by omega)]
  have w11b : t2 0 11 = t1 0 11 := by rw [hF2 0 (by omega)]
  have w58a : t1 268 58 = σ 268 58 := by rw [hF1 268 (by omega)]
  have w58b : t2 268 58 = t1 268 58 := by rw [hF2 268 (by omega)]
  have w17a : t1 268 17 = σ 268 17 := by rw [hF1 268 (by omega)]
  have w17b : t2 268 17 = t1 268 17 := by rw [hF2 268 (by omega)]
  have w48a : t1 268 48 = σ 268 48 := by rw [hF1 268 (by omega)]
  have w48b : t2 268 48 = t1 268 48 := by rw [hF2 268 (by omega)]
  have w34a : t1 269 34 = σ 269 34 := by rw [hF1 269 (by omega)]
  have j48 := lR_48 jr
  have jb58 := (lR_B jr).2.2
  have jD := lR_D jr
  have jBt : zBt (σ 269) := jD.1.2.2.2
  have q269 : t1 269 = σ 269 := hF1 269 (by omega)
  have zBB : (t2 5 = t2 288 ∧ zk3 (t2 5)) ∧ (∀ j : Int, 0 ≤ j → j < 100 → t2 4 j = t2 272 j ∧ 0 ≤ t2 4 j ∧ t2 4 j ≤ 3) ∧ t2 0 11 = t2 268 58 := ⟨by rw [hF2 5 (by omega), hF1 5 (by omega), hF2 288 (by omega), hF1 288 (by omega)]; exact (lR_B jr).1, by rw [hF2 4 (by omega), hF1 4 (by omega), hF2 272 (by omega), hF1 272 (by omega)]; exact (lR_B jr).2.1, by omega⟩
  have e4 : t2 4 = σ 4 := by rw [hF2 4 (by omega), hF1 4 (by omega)]
  have zL : zLx t2 := (lR_L jr).ff (fun k hk => by rw [hF2 k (by omega), hF1 k (by omega)]) (by omega)
  have zM : zLm t2 := (lR_M jr).ff (by rw [hF2 129 (by omega), hF1 129 (by omega)]) (by rw [hF2 273 (by omega), hF1 273 (by omega)])
  have y136 : zYc t2 136 = zYc t1 136 := (zYc_f (σ := t1) (τ := t2) (d := 136) (fun o ho => hF2 (136 + o) (by omega)))
  rw [q269] at hp2
  have zD : zDd t2 136 269 := by
    rcases hp1 with ⟨g1, g2, g3⟩ | ⟨g1, g2, g3⟩
    · rcases hp2 with ⟨h1, h2, h3⟩ | ⟨h1, h2, h3⟩
      · exact jD.1.seed (y136.trans g3) h3 e4
      · exact absurd g2 h2
    · rcases hp2 with ⟨h1, h2, h3⟩ | ⟨h1, h2, h3⟩
      · exact absurd h2 g2
      · exact zDd.up (y136.trans g3) (Z2 := zYN (σ 269) 0 0 0) (by rw [h3]) jD.1.1 jD.1.2.1 (by rw [e4]; exact jD.1.2.2.1) (by rw [h3]; exact jBt)
  have zDW : zDd t2 136 269 ∧ zWk t2 136 274 275 ∧ zB8 t2 275 := ⟨zD, jD.2.1.ff (by rw [hF2 138 (by omega), hF1 138 (by omega)]) (fun k hk => by rw [hF2 k (by omega), hF1 k (by omega)]) (by rw [hF2 274 (by omega), hF1 274 (by omega)]) (by rw [hF2 275 (by omega), hF1 275 (by omega)]), by unfold zB8; rw [hF2 275 (by omega), hF1 275 (by omega)]; exact jD.2.2⟩
  have zK : zKp t2 := fun h => by
    have y := (lR_K jr).2 (by omega)
    exact ⟨y.1.ff (fun o ho => by rw [hF2 (146 + o) (by omega), hF1 (146 + o) (by omega)]) e4 (fun q _ _ => by rw [hF2 271 (by omega), hF1 271 (by omega)]), y.2.ff (by rw [hF2 148 (by omega), hF1 148 (by omega)]) (fun k hk => by rw [hF2 k (by omega), hF1 k (by omega)]) (by rw [hF2 308 (by omega), hF1 308 (by omega)]) (by rw [hF2 309 (by omega), hF1 309 (by omega)])⟩
  have zKK : zB8 t2 309 ∧ zKp t2 := ⟨(by unfold zB8; rw [hF2 309 (by omega), hF1 309 (by omega)]; exact (lR_K jr).1), zK⟩
  have zIS : IS t2 := IS_f (fun k hk => hF2 k (by unfold suIS at hk; omega)) (IS_f (fun k hk => hF1 k (by unfold suIS at hk; omega)) (lR_S jr))
  have zIQ : IQ t2 := IQ_f (fun k hk => hF2 k (by unfold suIQ at hk; omega)) (IQ_f (fun k hk => hF1 k (by unfold suIQ at hk; omega)) (lR_I jr))
  have zG : zSg t2 := (lR_G jr).f (fun k hk => by rw [hF2 k (by omega), hF1 k (by omega)])
  have z48 : t2 268 48 = -1 := by omega
  have hJ : lJ t2 (n + 1) := ⟨jC2, hI2.1, hI2.2.1, hI2.2.2.1, j02, ⟨by omega, by omega⟩, ⟨⟨u6, u7⟩, zBB, zL, zM, zDW, zKK, zIS, zIQ, zG, z48⟩⟩
  refine lv_pop hx hb dL_law_914 rfl ?_
  refine lv_goto (tgt := 990) hx hb dL_law_915 (by decide) ?_
  refine W.widen (k := cells + 1) (n := slots + 60) (by omega) (by omega) ?_
  exact kk H locs t2 hJ hW
theorem l_22 {p : Program} {e : Env} {s : State} {m : MethodId} {below : List Frame} {meth : Method} {c : Code} {l : Launch} {b h0 L : Nat} {xs : Nat → Int32} {D : va_G} {g : xG} {T : Nat × Nat × Nat} {H : Heap} {locs : List Loc} {ls : Array Slot} {cells slots : Nat} {Q : State → Prop} {σ : xS} {n : Nat} {i : Int} (hx : p.tables.exec = Jvm.exec) (hb : c.code = cL_law) (hml : c.maxLocals = 4) (hown : s.vm.findClass "ShadowCourtLaw" = some m.cls) (hT : ∀ w ∈ xTB, w.before #[Value.ref b] s = true) (hE : xE D g T h0 s) (hX : va_X b L xs s s.heap) (hbl : b < s.heap.size) (eh : h0 = s.heap.size) (hW : xW D g h0 s H locs σ) (hl : lv_has ls 4 [(3, .int (xJ i)), (2, .ref (h0 + 268)), (1, .ref (h0 + 0)), (0, .ref b)]) (hcs : cells ≤ 600000 ∧ slots ≤ 7302250) (hcs1 : cells + 1 ≤ 600000 ∧ slots + 60 ≤ 7302250) (hJ : lJ σ n) (hn : n ≤ 512) (hi : 0 ≤ i ∧ i + 5 < (L : Int) ∧ L ≤ 3072)
    (kk : ∀ (H : Heap) (locs : List Loc) (τ : xS), lJ τ (n + 1) → xW D g h0 s H locs τ → W p l e room_1 s m #[Value.ref b] below meth c H locs (cells + 1) (slots + 60) Q (F0 m 990 ls [])) : W p l e room_1 s m #[Value.ref b] below meth c H locs cells slots Q (F0 m 918 ls []) := by
  obtain ⟨jC, jn, jk, jo, j0, jz, jr⟩ := hJ
  refine x_aload_n hx hb hl 2 rfl dL_law_918 rfl ?_
  refine x_goi (x_runV (As := []) hx hb hml hown hT hE hW hl.1 (Or.inl (by decide)) (so_0 h0 g _) rfl cf_X10_keep wq1155 wq1156 wq1154 (c_X10_keepF l D g T h0 σ hW.2.1 jC) ⟨rfl, rfl, ⟨by decide, by decide⟩, hcs⟩ rfl rfl (Nat.le_of_ble_eq_true rfl) dL_law_919) hW (fun q1 t1 H locs rq1 hp hW => ?_)
  obtain ⟨hF1, hI1, hp1⟩ := hp
  have jC1 := hI1.1
  have jn1 : IMn t1 := IMn_f (fun k hk => hF1 k (by unfold suIMn at hk; omega)) jn
  have jk1 : IMk t1 := IMk_f (fun k hk => hF1 k (by unfold suIMk at hk; omega)) jk
  have jo1 : IMo t1 := IMo_f (fun k hk => hF1 k (by unfold suIMo at hk; omega)) jo
  have j01 : t1 0 11 = 0 ∨ t1 0 11 = 1 := by omega
  have jz1 : t1 999996 0 = σ 999996 0 := by rw [hF1 999996 (by omega)]
  refine lv_pop hx hb dL_law_922 rfl ?_
  refine x_aload_n hx hb hl 1 rfl dL_law_923 rfl ?_
  refine x_goi (x_runV (As := []) hx hb hml hown hT hE hW hl.1 (Or.inl (by decide)) (so_268 h0 g _) rfl cf_X11_keep wq1760 wq1761 wq1759 (c_X11_keepJ l D g T h0 t1 hW.2.1 (by rw [hF1 275 (by omega)]; exact (lR_D jr).2.2) jn1 jk1 jo1) ⟨rfl, rfl, ⟨by decide, by decide⟩, hcs⟩ rfl rfl (Nat.le_of_ble_eq_true rfl) dL_law_924) hW (fun q2 t2 H locs rq2 hp hW => ?_)
  obtain ⟨hF2, hI2, hp2⟩ := hp
  have jC2 : IC t2 := IC_f (fun k hk => hF2 k (by unfold suIC at hk; omega)) jC1
  have j02 : t2 0 11 = 0 ∨ t2 0 11 = 1 := by rw [hF2 0 (by omega)]; exact j01
  have jz2 : t2 999996 0 = t1 999996 0 := by rw [hF2 999996 (by omega)]
  have u1 : t2 1 1 = t1 1 1 := by rw [hF2 1 (by omega)]
  have u2 : t1 268 8 = σ 268 8 := by rw [hF1 268 (by omega)]
  have u0 : σ 1 1 = σ 268 8 := jr.1.1
  have u3 : t1 1 1 = σ 1 1 := by rw [hF1 1 (by omega)]
  have u4 : t2 268 8 = t1 268 8 := hI2.2.2.2.1
  have u6 : t2 1 1 = t2 268 8 := by omega
  have u7 : t2 2 = xm8 (t2 276) ∧ xb8 (t2 276) := by rw [hF2 2 (by omega), hF1 2 (by omega), hF2 276 (by omega), hF1 276 (by omega)]; exact jr.1.2
  have w11b : t2 0 11 = t1 0 11 := by rw [hF2 0 (by omega)]
  have w58a : t1 268 58 = σ 268 58 := by rw [hF1 268 (by omega)]
  have w17a : t1 268 17 = σ 268 17 := by rw [hF1 268 (by omega)]
  have w17b : t2 268 17 = t1 268 17 := hI2.2.2.2.2.1
  have w48a : t1 268 48 = σ 268 48 := by rw [hF1 268 (by omega)]
  have w48b : t2 268 48 = t1 268 48 := hI2.2.2.2.2.2.1
  have w34a : t1 269 34 = σ 269 34 := by rw [hF1 269 (by omega)]
  have w34b : t2 269 34 = t1 269 34 := by rw [hF2 269 (by omega)]
  have j48 := lR_48 jr
  have jb58 := (lR_B jr).2.2
  have jD := lR_D jr
  have jBt : zBt (σ 269) := jD.1.2.2.2
  have q269 : t1 269 = σ 269 := hF1 269 (by omega)
  have zBB : (t2 5 = t2 288 ∧ zk3 (t2 5)) ∧ (∀ j : Int, 0 ≤ j → j < 100 → t2 4 j = t2 272 j ∧ 0 ≤ t2 4 j ∧ t2 4 j ≤ 3) ∧ t2 0 11 = t2 268 58 := ⟨by rw [hF2 5 (by omega), hF1 5 (by omega), hF2 288 (by omega), hF1 288 (by omega)]; exact (lR_B jr).1, by rw [hF2 4 (by omega), hF1 4 (by omega), hF2 272 (by omega), hF1 272 (by omega)]; exact (lR_B jr).2.1, by omega⟩
  have e4 : t2 4 = σ 4 := by rw [hF2 4 (by omega), hF1 4 (by omega)]
  have zL : zLx t2 := (lR_L jr).ff (fun k hk => by rw [hF2 k (by omega), hF1 k (by omega)]) (by omega)
  have zM : zLm t2 := (lR_M jr).ff (by rw [hF2 129 (by omega), hF1 129 (by omega)]) (by rw [hF2 273 (by omega), hF1 273 (by omega)])
  have zD : zDd t2 136 269 := jD.1.ff (fun o ho => by rw [hF2 (136 + o) (by omega), hF1 (136 + o) (by omega)]) e4 (fun q _ _ => by rw [hF2 269 (by omega), q269])
  have zDW : zDd t2 136 269 ∧ zWk t2 136 274 275 ∧ zB8 t2 275 := ⟨zD, jD.2.1.ff (by rw [hF2 138 (by omega), hF1 138 (by omega)]) (fun k hk => by rw [hF2 k (by omega), hF1 k (by omega)]) (by rw [hF2 274 (by omega), hF1 274 (by omega)]) (by rw [hF2 275 (by omega), hF1 275 (by omega)]), by unfold zB8; rw [hF2 275 (by omega), hF1 275 (by omega)]; exact jD.2.2⟩
  have zKK : zB8 t2 309 ∧ zKp t2 := by
    have y146 : zYc t2 146 = zYc t1 146 := zYc_f (fun o ho => hF2 (146 + o) (by omega))
    have b := hp2.2.2.2
    rw [q269, hF1 274 (by omega), hF1 275 (by omega)] at b
    have a := hp1.2.2
    have z5 : ∀ q : Int, 0 ≤ q → q < 2 → t1 151 q = σ 141 q ∧ t1 147 q = σ 137 q := fun q q1 q2 => by
      have x := congrFun a.1 (2 + q)
      have x2 := congrFun a.1 q
      rw [zYc_S (d := 136) ⟨q1, q2⟩, zYc_S (d := 146) ⟨q1, q2⟩] at x
      rw [zYc_J (d := 136) ⟨q1, q2⟩, zYc_J (d := 146) ⟨q1, q2⟩] at x2
      exact ⟨x, x2⟩
    have J := (jD.1.jd jD.2.1 jD.2.2).cp (τ := t2) (d2 := 146) (N2 := 271) (M2 := 308) (S2 := 309) (fun j j1 j2 => by rw [hF2 _ (by omega), hF2 _ (by omega), hF2 _ (by omega)]; exact ⟨(z5 j j1 j2).2, a.2 j j1 j2, (z5 j j1 j2).1⟩) (fun k hk => by rw [hF2 k (by omega), hF1 k (by omega)]) b.1 b.2.1 b.2.2 (IMn.w jn)
    refine ⟨J.2.2.2, fun _ => ⟨?_, J.2.2.1⟩⟩
    refine zDd.up (y146.trans a.1) (Z2 := zYN (σ 269) 0 0 0) (zYN_cg b.1) jD.1.1 jD.1.2.1 (by rw [e4]; exact jD.1.2.2.1) ?_
    unfold zBt
    rw [b.1 34 (by decide) (by decide), b.1 35 (by decide) (by decide), b.1 36 (by decide) (by decide)]
    exact jBt
  have zIS : IS t2 := IS_f (fun k hk => hF2 k (by unfold suIS at hk; omega)) (IS_f (fun k hk => hF1 k (by unfold suIS at hk; omega)) (lR_S jr))
  have zIQ : IQ t2 := IQ_f (fun k hk => hF2 k (by unfold suIQ at hk; omega)) (IQ_f (fun k hk => hF1 k (by unfold suIQ at hk; omega)) (lR_I jr))
  have zG : zSg t2 := (lR_G jr).f (fun k hk => by rw [hF2 k (by omega), hF1 k (by omega)])
  have z48 : t2 268 48 = -1 := by omega
  have hJ : lJ t2 (n + 1) := ⟨jC2, hI2.1, hI2.2.1, hI2.2.2.1, j02, ⟨by omega, by omega⟩, ⟨⟨u6, u7⟩, zBB, zL, zM, zDW, zKK, zIS, zIQ, zG, z48⟩⟩
  refine lv_pop hx hb dL_law_927 rfl ?_
  refine lv_goto (tgt := 990) hx hb dL_law_928 (by decide) ?_
  refine W.widen (k := cells + 1) (n := slots + 60) (by omega) (by omega) ?_
  exact kk H locs t2 hJ hW
theorem l_23 {p : Program} {e : Env} {s : State} {m : MethodId} {below : List Frame} {meth : Method} {c : Code} {l : Launch} {b h0 L : Nat} {xs : Nat → Int32} {D : va_G} {g : xG} {T : Nat × Nat × Nat} {H : Heap} {locs : List Loc} {ls : Array Slot} {cells slots : Nat} {Q : State → Prop} {σ : xS} {n : Nat} {i : Int} (hx : p.tables.exec = Jvm.exec) (hb : c.code = cL_law) (hml : c.maxLocals = 4) (hown : s.vm.findClass "ShadowCourtLaw" = some m.cls) (hT : ∀ w ∈ xTB, w.before #[Value.ref b] s = true) (hE : xE D g T h0 s) (hX : va_X b L xs s s.heap) (hbl : b < s.heap.size) (eh : h0 = s.heap.size) (hW : xW D g h0 s H locs σ) (hl : lv_has ls 4 [(3, .int (xJ i)), (2, .ref (h0 + 268)), (1, .ref (h0 + 0)), (0, .ref b)]) (hcs : cells ≤ 600000 ∧ slots ≤ 7302250) (hcs1 : cells + 1 ≤ 600000 ∧ slots + 60 ≤ 7302250) (hJ : lJ σ n) (hn : n ≤ 512) (hi : 0 ≤ i ∧ i + 5 < (L : Int) ∧ L ≤ 3072)
    (kk : ∀ (H : Heap) (locs : List Loc) (τ : xS), lJ τ (n + 1) → xW D g h0 s H locs τ → W p l e room_1 s m #[Value.ref b] below meth c H locs (cells + 1) (slots + 60) Q (F0 m 990 ls [])) : W p l e room_1 s m #[Value.ref b] below meth c H locs cells slots Q (F0 m 931 ls []) := by
  obtain ⟨jC, jn, jk, jo, j0, jz, jr⟩ := hJ
  refine x_aload_n hx hb hl 2 rfl dL_law_931 rfl ?_
  refine x_goi (x_runV (As := []) hx hb hml hown hT hE hW hl.1 (Or.inl (by decide)) (so_0 h0 g _) rfl cf_X10_undo wq1160 wq1161 wq1159 (c_X10_undoF l D g T h0 σ hW.2.1 j0 jC) ⟨rfl, rfl, ⟨by decide, by decide⟩, hcs⟩ rfl rfl (Nat.le_of_ble_eq_true rfl) dL_law_932) hW (fun q1 t1 H locs rq1 hp hW => ?_)
  obtain ⟨hF1, hI1, hp1⟩ := hp
  have jC1 := hI1.1
  have jn1 : IMn t1 := IMn_f (fun k hk => hF1 k (by unfold suIMn at hk; omega)) jn
  have jk1 : IMk t1 := IMk_f (fun k hk => hF1 k (by unfold suIMk at hk; omega)) jk
  have jo1 : IMo t1 := IMo_f (fun k hk => hF1 k (by unfold suIMo at hk; omega)) jo
  have j01 : t1 0 11 = 0 ∨ t1 0 11 = 1 := by rw [hF1 0 (by omega)]; exact j0
  have jz1 : t1 999996 0 = σ 999996 0 := by rw [hF1 999996 (by omega)]
  refine lv_pop hx hb dL_law_935 rfl ?_
  refine x_aload_n hx hb hl 1 rfl dL_law_936 rfl ?_
  refine x_goi (x_runV (As := []) hx hb hml hown hT hE hW hl.1 (Or.inl (by decide)) (so_268 h0 g _) rfl cf_X11_undo wq1767 wq1768 wq1766 (c_X11_undoJ l D g T h0 t1 hW.2.1 (by rw [hF1 309 (by omega)]; exact (lR_K jr).1) jn1 jk1 jo1) ⟨rfl, rfl, ⟨by decide, by decide⟩, hcs⟩ rfl rfl (Nat.le_of_ble_eq_true rfl) dL_law_937) hW (fun q2 t2 H locs rq2 hp hW => ?_)
  obtain ⟨hF2, hI2, hp2⟩ := hp
  have jC2 : IC t2 := IC_f (fun k hk => hF2 k (by unfold suIC at hk; omega)) jC1
  have j02 : t2 0 11 = 0 ∨ t2 0 11 = 1 := by rw [hF2 0 (by omega)]; exact j01
  have jz2 : t2 999996 0 = t1 999996 0 := by rw [hF2 999996 (by omega)]
  have u1 : t2 1 1 = t1 1 1 := by rw [hF2 1 (by omega)]
  have u2 : t1 268 8 = σ 268 8 := by rw [hF1 268 (by omega)]
  have u0 : σ 1 1 = σ 268 8 := jr.1.1
  have u3 : t1 1 1 = σ 1 1 := by rw [hF1 1 (by omega)]
  have u4 : t2 268 8 = t1 268 8 := by rw [hF2 268 (by omega)]
  have u6 : t2 1 1 = t2 268 8 := by omega
  have u7 : t2 2 = xm8 (t2 276) ∧ xb8 (t2 276) := by rw [hF2 2 (by omega), hF1 2 (by omega), hF2 276 (by omega), hF1 276 (by omega)]; exact jr.1.2
  have w11a : t1 0 11 = σ 0 11 := by rw [hF1 0 (by omega)]
  have w11b : t2 0 11 = t1 0 11 := by rw [hF2 0 (by omega)]
  have w58a : t1 268 58 = σ 268 58 := by rw [hF1 268 (by omega)]
  have w58b : t2 268 58 = t1 268 58 := by rw [hF2 268 (by omega)]
  have w17a : t1 268 17 = σ 268 17 := by rw [hF1 268 (by omega)]
  have w17b : t2 268 17 = t1 268 17 := by rw [hF2 268 (by omega)]
  have w48a : t1 268 48 = σ 268 48 := by rw [hF1 268 (by omega)]
  have w48b : t2 268 48 = t1 268 48 := by rw [hF2 268 (by omega)]
  have w34a : t1 269 34 = σ 269 34 := by rw [hF1 269 (by omega)]
  have j48 := lR_48 jr
  have jb58 := (lR_B jr).2.2
  have jD := lR_D jr
  have jBt : zBt (σ 269) := jD.1.2.2.2
  have q269 : t1 269 = σ 269 := hF1 269 (by omega)
  have zBB : (t2 5 = t2 288 ∧ zk3 (t2 5)) ∧ (∀ j : Int, 0 ≤ j → j < 100 → t2 4 j = t2 272 j ∧ 0 ≤ t2 4 j ∧ t2 4 j ≤ 3) ∧ t2 0 11 = t2 268 58 := ⟨by rw [hF2 5 (by omega), hF1 5 (by omega), hF2 288 (by omega), hF1 288 (by omega)]; exact (lR_B jr).1, by rw [hF2 4 (by omega), hF1 4 (by omega), hF2 272 (by omega), hF1 272 (by omega)]; exact (lR_B jr).2.1, by omega⟩
  have e4 : t2 4 = σ 4 := by rw [hF2 4 (by omega), hF1 4 (by omega)]
  have zL : zLx t2 := (lR_L jr).ff (fun k hk => by rw [hF2 k (by omega), hF1 k (by omega)]) (by omega)
  have zM : zLm t2 := (lR_M jr).ff (by rw [hF2 129 (by omega), hF1 129 (by omega)]) (by rw [hF2 273 (by omega), hF1 273 (by omega)])
  have zDW : zDd t2 136 269 ∧ zWk t2 136 274 275 ∧ zB8 t2 275 := by
    have y136 : zYc t2 136 = zYc t1 136 := (zYc_f (σ := t1) (τ := t2) (d := 136) (fun o ho => hF2 (136 + o) (by omega)))
    rcases hp1.2 with ⟨a1, a2, a3⟩ | ⟨a1, a2, a3⟩
    · rcases hp2 with ⟨b1, b2, b3, b4, b5, b6⟩ | ⟨b1, b2, b3, b4, b5⟩
      · refine ⟨zDd.up (y136.trans a2) (Z2 := zYN (σ 269) 0 0 0) (by rw [b4, q269]) jD.1.1 jD.1.2.1 (by rw [e4]; exact jD.1.2.2.1) (by rw [b4, q269]; exact jBt), jD.2.1.ff ((hF2 138 (by omega)).trans a3) (fun k hk => by rw [hF2 k (by omega), hF1 k (by omega)]) (b5.trans (hF1 274 (by omega))) (b6.trans (hF1 275 (by omega))), ?_⟩
        unfold zB8
        rw [b6, hF1 275 (by omega)]
        exact jD.2.2
      · omega
    · rcases hp2 with ⟨b1, b2, b3, b4, b5, b6⟩ | ⟨b1, b2, b3, b4, b5⟩
      · omega
      · rw [hF1 271 (by omega)] at b4
        rw [hF1 308 (by omega), hF1 309 (by omega)] at b5
        have k := (lR_K jr).2 a1
        have z5 : ∀ q : Int, 0 ≤ q → q < 2 → t1 141 q = σ 151 q ∧ t1 137 q = σ 147 q := fun q q1 q2 => by
          have x := congrFun a2 (2 + q)
          have x2 := congrFun a2 q
          rw [zYc_S (d := 136) ⟨q1, q2⟩, zYc_S (d := 146) ⟨q1, q2⟩] at x
          rw [zYc_J (d := 136) ⟨q1, q2⟩, zYc_J (d := 146) ⟨q1, q2⟩] at x2
          exact ⟨x, x2⟩
        have J := (k.1.jd k.2 (lR_K jr).1).cp (τ := t2) (d2 := 136) (N2 := 269) (M2 := 274) (S2 := 275) (fun j j1 j2 => by rw [hF2 _ (by omega), hF2 _ (by omega), hF2 _ (by omega)]; exact ⟨(z5 j j1 j2).2, a3 j j1 j2, (z5 j j1 j2).1⟩) (fun k hk => by rw [hF2 k (by omega), hF1 k (by omega)]) b4 b5.1 b5.2 (IMn.v jn)
        refine ⟨?_, J.2.2.1, J.2.2.2⟩
        refine zDd.up (y136.trans a2) (Z2 := zYN (σ 271) 0 0 0) (zYN_cg b4) k.1.1 k.1.2.1 (by rw [e4]; exact k.1.2.2.1) ?_
        unfold zBt
        rw [b4 34 (by decide) (by decide), b4 35 (by decide) (by decide), b4 36 (by decide) (by decide)]
        exact k.1.2.2.2
  have zD := zDW.1
  have zK : zKp t2 := fun h => by
    have y := (lR_K jr).2 (by omega)
    exact ⟨y.1.ff (fun o ho => by rw [hF2 (146 + o) (by omega), hF1 (146 + o) (by omega)]) e4 (fun q _ _ => by rw [hF2 271 (by omega), hF1 271 (by omega)]), y.2.ff (by rw [hF2 148 (by omega), hF1 148 (by omega)]) (fun k hk => by rw [hF2 k (by omega), hF1 k (by omega)]) (by rw [hF2 308 (by omega), hF1 308 (by omega)]) (by rw [hF2 309 (by omega), hF1 309 (by omega)])⟩
  have zKK : zB8 t2 309 ∧ zKp t2 := ⟨(by unfold zB8; rw [hF2 309 (by omega), hF1 309 (by omega)]; exact (lR_K jr).1), zK⟩
  have zIS : IS t2 := IS_f (fun k hk => hF2 k (by unfold suIS at hk; omega)) (IS_f (fun k hk => hF1 k (by unfold suIS at hk; omega)) (lR_S jr))
  have zIQ : IQ t2 := IQ_f (fun k hk => hF2 k (by unfold suIQ at hk; omega)) (IQ_f (fun k hk => hF1 k (by unfold suIQ at hk; omega)) (lR_I jr))
  have zG : zSg t2 := (lR_G jr).f (fun k hk => by rw [hF2 k (by omega), hF1 k (by omega)])
  have z48 : t2 268 48 = -1 := by omega
  have hJ : lJ t2 (n + 1) := ⟨jC2, hI2.1, hI2.2.1, hI2.2.2.1, j02, ⟨by omega, by omega⟩, ⟨⟨u6, u7⟩, zBB, zL, zM, zDW, zKK, zIS, zIQ, zG, z48⟩⟩
  refine lv_pop hx hb dL_law_940 rfl ?_
  refine lv_goto (tgt := 990) hx hb dL_law_941 (by decide) ?_
  refine W.widen (k := cells + 1) (n := slots + 60) (by omega) (by omega) ?_
  exact kk H locs t2 hJ hW
theorem l_24 {p : Program} {e : Env} {s : State} {m : MethodId} {below : List Frame} {meth : Method} {c : Code} {l : Launch} {b h0 L : Nat} {xs : Nat → Int32} {D : va_G} {g : xG} {T : Nat × Nat × Nat} {H : Heap} {locs : List Loc} {ls : Array Slot} {cells slots : Nat} {Q : State → Prop} {σ : xS} {n : Nat} {i : Int} (hx : p.tables.exec = Jvm.exec) (hb : c.code = cL_law) (hml : c.maxLocals = 4) (hown : s.vm.findClass "ShadowCourtLaw" = some m.cls) (hT : ∀ w ∈ xTB, w.before #[Value.ref b] s = true) (hE : xE D g T h0 s) (hX : va_X b L xs s s.heap) (hbl : b < s.heap.size) (eh : h0 = s.heap.size) (hW : xW D g h0 s H locs σ) (hl : lv_has ls 4 [(3, .int (xJ i)), (2, .ref (h0 + 268)), (1, .ref (h0 + 0)), (0, .ref b)]) (hcs : cells ≤ 600000 ∧ slots ≤ 7302250) (hcs1 : cells + 1 ≤ 600000 ∧ slots + 60 ≤ 7302250) (hJ : lJ σ n) (hn : n ≤ 512) (hi : 0 ≤ i ∧ i + 5 < (L : Int) ∧ L ≤ 3072)
    (kk : ∀ (H : Heap) (locs : List Loc) (τ : xS), lJ τ (n + 1) → xW D g h0 s H locs τ → W p l e room_1 s m #[Value.ref b] below meth c H locs (cells + 1) (slots + 60) Q (F0 m 990 ls [])) : W p l e room_1 s m #[Value.ref b] below meth c H locs cells slots Q (F0 m 944 ls []) := by
  obtain ⟨jC, jn, jk, jo, j0, jz, jr⟩ := hJ
  obtain ⟨a1, e1, r1⟩ := xJ_ex (xs (i + 1).toNat)
  refine x_aload_n hx hb hl 2 rfl dL_law_944 rfl ?_
  refine x_aload_n hx hb hl 3 rfl dL_law_945 rfl ?_
  refine x_iload_n hx hb hl 0 rfl dL_law_946 rfl ?_
  refine x_iconst hx hb dL_law_947 ?_
  refine x_iadd hx hb dL_law_948 ?_
  refine l_sld hx hb hX hbl eh hW (by omega) (by omega) e1 dL_law_949 ?_
  refine x_goi (x_runV (As := [.int (xJ a1)]) hx hb hml hown hT hE hW hl.1 (Or.inl (by decide)) (so_0 h0 g _) rfl cf_X10_check wq1164 wq1165 wq1163 (c_X10_checkF l D g T h0 σ hW.2.1 a1 r1 jC) ⟨rfl, rfl, ⟨by decide, by decide⟩, hcs⟩ rfl rfl (Nat.le_of_ble_eq_true rfl) dL_law_950) hW (fun q1 t1 H locs rq1 hp hW => ?_)
  obtain ⟨hF1, hI1, hp1⟩ := hp
  have jC1 := hI1.1
  have jn1 : IMn t1 := IMn_f (fun k hk => hF1 k (by unfold suIMn at hk; omega)) jn
  have jk1 : IMk t1 := IMk_f (fun k hk => hF1 k (by unfold suIMk at hk; omega)) jk
  have jo1 : IMo t1 := IMo_f (fun k hk => hF1 k (by unfold suIMo at hk; omega)) jo
  have j01 : t1 0 11 = 0 ∨ t1 0 11 = 1 := by rw [hF1 0 (by omega)]; exact j0
  have jz1 : t1 999996 0 = σ 999996 0 := by rw [hF1 999996 (by omega)]
  refine lv_pop hx hb dL_law_953 rfl ?_
  refine x_aload_n hx hb hl 1 rfl dL_law_954 rfl ?_
  refine b_pc (pc1 := 955) rfl ?_
  refine x_aload_n hx hb hl 3 rfl dL_law_955 rfl ?_
  refine x_iload_n hx hb hl 0 rfl dL_law_956 rfl ?_
  refine x_iconst hx hb dL_law_957 ?_
  refine x_iadd hx hb dL_law_958 ?_
  refine l_sld hx hb hX hbl eh hW (by omega) (by omega) e1 dL_law_959 ?_
  refine x_goi (x_runV (As := [.int (xJ a1)]) hx hb hml hown hT hE hW hl.1 (Or.inl (by decide)) (so_268 h0 g _) rfl cf_X11_check wq1771 wq1772 wq1770 (c_X11_checkF l D g T h0 t1 hW.2.1 a1 r1 jn1 jk1 jo1) ⟨rfl, rfl, ⟨by decide, by decide⟩, hcs⟩ rfl rfl (Nat.le_of_ble_eq_true rfl) dL_law_960) hW (fun q2 t2 H locs rq2 hp hW => ?_)
  obtain ⟨hF2, hI2, hp2⟩ := hp
  have jC2 : IC t2 := IC_f (fun k hk => hF2 k (by unfold suIC at hk; omega)) jC1
  have j02 : t2 0 11 = 0 ∨ t2 0 11 = 1 := by rw [hF2 0 (by omega)]; exact j01
  have jz2 : t2 999996 0 = t1 999996 0 := by rw [hF2 999996 (by omega)]
  have u1 : t2 1 1 = t1 1 1 := by rw [hF2 1 (by omega)]
  have u2 : t1 268 8 = σ 268 8 := by rw [hF1 268 (by omega)]
  have u0 : σ 1 1 = σ 268 8 := jr.1.1
  have u6 : t2 1 1 = t2 268 8 := by omega
  have u7 : t2 2 = xm8 (t2 276) ∧ xb8 (t2 276) := by rw [hF2 2 (by omega), hF1 2 (by omega), hF2 276 (by omega), hF1 276 (by omega)]; exact jr.1.2
  have w11a : t1 0 11 = σ 0 11 := by rw [hF1 0 (by omega)]
  have w11b : t2 0 11 = t1 0 11 := by rw [hF2 0 (by omega)]
  have w58a : t1 268 58 = σ 268 58 := by rw [hF1 268 (by omega)]
  have w58b : t2 268 58 = t1 268 58 := hI2.2.2.2.1
  have w17a : t1 268 17 = σ 268 17 := by rw [hF1 268 (by omega)]
  have w17b : t2 268 17 = t1 268 17 := hI2.2.2.2.2.1
  have w48a : t1 268 48 = σ 268 48 := by rw [hF1 268 (by omega)]
  have w48b : t2 268 48 = t1 268 48 := hI2.2.2.2.2.2.1
  have w34a : t1 269 34 = σ 269 34 := by rw [hF1 269 (by omega)]
  have w34b : t2 269 34 = t1 269 34 := by rw [hF2 269 (by omega)]
  have j48 := lR_48 jr
  have jb58 := (lR_B jr).2.2
  have jD := lR_D jr
  have jBt : zBt (σ 269) := jD.1.2.2.2
  have q269 : t1 269 = σ 269 := hF1 269 (by omega)
  have zBB : (t2 5 = t2 288 ∧ zk3 (t2 5)) ∧ (∀ j : Int, 0 ≤ j → j < 100 → t2 4 j = t2 272 j ∧ 0 ≤ t2 4 j ∧ t2 4 j ≤ 3) ∧ t2 0 11 = t2 268 58 := ⟨by rw [hF2 5 (by omega), hF1 5 (by omega), hF2 288 (by omega), hF1 288 (by omega)]; exact (lR_B jr).1, by rw [hF2 4 (by omega), hF1 4 (by omega), hF2 272 (by omega), hF1 272 (by omega)]; exact (lR_B jr).2.1, by omega⟩
  have e4 : t2 4 = σ 4 := by rw [hF2 4 (by omega), hF1 4 (by omega)]
  have zL : zLx t2 := (lR_L jr).ff (fun k hk => by rw [hF2 k (by omega), hF1 k (by omega)]) (by omega)
  have zM : zLm t2 := (lR_M jr).ff (by rw [hF2 129 (by omega), hF1 129 (by omega)]) (by rw [hF2 273 (by omega), hF1 273 (by omega)])
  have zD : zDd t2 136 269 := jD.1.ff (fun o ho => by rw [hF2 (136 + o) (by omega), hF1 (136 + o) (by omega)]) e4 (fun q _ _ => by rw [hF2 269 (by omega), q269])
  have zDW : zDd t2 136 269 ∧ zWk t2 136 274 275 ∧ zB8 t2 275 := ⟨zD, jD.2.1.ff (by rw [hF2 138 (by omega), hF1 138 (by omega)]) (fun k hk => by rw [hF2 k (by omega), hF1 k (by omega)]) (by rw [hF2 274 (by omega), hF1 274 (by omega)]) (by rw [hF2 275 (by omega), hF1 275 (by omega)]), by unfold zB8; rw [hF2 275 (by omega), hF1 275 (by omega)]; exact jD.2.2⟩
  have zK : zKp t2 := fun h => by
    have y := (lR_K jr).2 (by omega)
    exact ⟨y.1.ff (fun o ho => by rw [hF2 (146 + o) (by omega), hF1 (146 + o) (by omega)]) e4 (fun q _ _ => by rw [hF2 271 (by omega), hF1 271 (by omega)]), y.2.ff (by rw [hF2 148 (by omega), hF1 148 (by omega)]) (fun k hk => by rw [hF2 k (by omega), hF1 k (by omega)]) (by rw [hF2 308 (by omega), hF1 308 (by omega)]) (by rw [hF2 309 (by omega), hF1 309 (by omega)])⟩
  have zKK : zB8 t2 309 ∧ zKp t2 := ⟨(by unfold zB8; rw [hF2 309 (by omega), hF1 309 (by omega)]; exact (lR_K jr).1), zK⟩
  have zIS : IS t2 := IS_f (fun k hk => hF2 k (by unfold suIS at hk; omega)) (IS_f (fun k hk => hF1 k (by unfold suIS at hk; omega)) (lR_S jr))
  have zIQ : IQ t2 := IQ_f (fun k hk => hF2 k (by unfold suIQ at hk; omega)) (IQ_f (fun k hk => hF1 k (by unfold suIQ at hk; omega)) (lR_I jr))
  have zG : zSg t2 := (lR_G jr).f (fun k hk => by rw [hF2 k (by omega), hF1 k (by omega)])
  have z48 : t2 268 48 = -1 := by omega
  have hJ : lJ t2 (n + 1) := ⟨jC2, hI2.1, hI2.2.1, hI2.2.2.1, j02, ⟨by omega, by omega⟩, ⟨⟨u6, u7⟩, zBB, zL, zM, zDW, zKK, zIS, zIQ, zG, z48⟩⟩
  refine lv_pop hx hb dL_law_963 rfl ?_
  refine lv_goto (tgt := 990) hx hb dL_law_964 (by decide) ?_
  refine W.widen (k := cells + 1) (n := slots + 60) (by omega) (by omega) ?_
  exact kk H locs t2 hJ hW
theorem l_25 {p : Program} {e : Env} {s : State} {m : MethodId} {below : List Frame} {meth : Method} {c : Code} {l : Launch} {b h0 L : Nat} {xs : Nat → Int32} {D : va_G} {g : xG} {T : Nat × Nat × Nat} {H : Heap} {locs : List Loc} {ls : Array Slot} {cells slots : Nat} {Q : State → Prop} {σ : xS} {n : Nat} {i : Int} (hx : p.tables.exec = Jvm.exec) (hb : c.code = cL_law) (hml : c.maxLocals = 4) (hown : s.vm.findClass "ShadowCourtLaw" = some m.cls) (hT : ∀ w ∈ xTB, w.before #[Value.ref b] s = true) (hE : xE D g T h0 s) (hX : va_X b L xs s s.heap) (hbl : b < s.heap.size) (eh : h0 = s.heap.size) (hW : xW D g h0 s H locs σ) (hl : lv_has ls 4 [(3, .int (xJ i)), (2, .ref (h0 + 268)), (1, .ref (h0 + 0)), (0, .ref b)]) (hcs : cells ≤ 600000 ∧ slots ≤ 7302250) (hcs1 : cells + 1 ≤ 600000 ∧ slots + 60 ≤ 7302250) (hJ : lJ σ n) (hn : n ≤ 512) (hi : 0 ≤ i ∧ i + 5 < (L : Int) ∧ L ≤ 3072)
    (kk : ∀ (H : Heap) (locs : List Loc) (τ : xS), lJ τ (n + 1) → xW D g h0 s H locs τ → W p l e room_1 s m #[Value.ref b] below meth c H locs (cells + 1) (slots + 60) Q (F0 m 990 ls [])) : W p l e room_1 s m #[Value.ref b] below meth c H locs cells slots Q (F0 m 967 ls []) := by
  obtain ⟨jC, jn, jk, jo, j0, jz, jr⟩ := hJ
  obtain ⟨a1, e1, r1⟩ := xJ_ex (xs (i + 1).toNat)
  refine x_aload_n hx hb hl 2 rfl dL_law_967 rfl ?_
  refine x_aload_n hx hb hl 3 rfl dL_law_968 rfl ?_
  refine x_iload_n hx hb hl 0 rfl dL_law_969 rfl ?_
  refine x_iconst hx hb dL_law_970 ?_
  refine x_iadd hx hb dL_law_971 ?_
  refine l_sld hx hb hX hbl eh hW (by omega) (by omega) e1 dL_law_972 ?_
  refine x_goi (x_runV (As := [.int (xJ a1)]) hx hb hml hown hT hE hW hl.1 (Or.inl (by decide)) (so_0 h0 g _) rfl cf_X10_count wq1173 wq1174 wq1172 (c_X10_countF l D g T h0 σ hW.2.1 a1 r1 (σ 4) (σ 274) (zWf σ 275) (zQs σ) (σ 273) (lR_L jr).1 (lR_L jr).2 (fun t _ _ => rfl) (lR_M jr) (lR_D jr).2.1 (lR_D jr).1.qq ((lR_D jr).1.ok4 (IMn.n1 jn)) jC (lR_S jr) (lR_I jr)) ⟨rfl, rfl, ⟨by decide, by decide⟩, hcs⟩ rfl rfl (Nat.le_of_ble_eq_true rfl) dL_law_973) hW (fun q1 t1 H locs rq1 hp hW => ?_)
  obtain ⟨hF1, hI1, hp1⟩ := hp
  have jC1 := hI1.1
  have jn1 : IMn t1 := IMn_f (fun k hk => hF1 k (by unfold suIMn at hk; omega)) jn
  have jk1 : IMk t1 := IMk_f (fun k hk => hF1 k (by unfold suIMk at hk; omega)) jk
  have jo1 : IMo t1 := IMo_f (fun k hk => hF1 k (by unfold suIMo at hk; omega)) jo
  have j01 : t1 0 11 = 0 ∨ t1 0 11 = 1 := by rw [hF1 0 (by omega)]; exact j0
  have jz1 : t1 999996 0 = σ 999996 0 := by rw [hF1 999996 (by omega)]
  refine lv_pop hx hb dL_law_976 rfl ?_
  refine x_aload_n hx hb hl 1 rfl dL_law_977 rfl ?_
  refine b_pc (pc1 := 978) rfl ?_
  refine x_aload_n hx hb hl 3 rfl dL_law_978 rfl ?_
  refine x_iload_n hx hb hl 0 rfl dL_law_979 rfl ?_
  refine x_iconst hx hb dL_law_980 ?_
  refine x_iadd hx hb dL_law_981 ?_
  refine l_sld hx hb hX hbl eh hW (by omega) (by omega) e1 dL_law_982 ?_
  refine x_goi (x_runV (As := [.int (xJ a1)]) hx hb hml hown hT hE hW hl.1 (Or.inl (by decide)) (so_268 h0 g _) rfl cf_X11_count wq1779 wq1780 wq1778 (c_X11_countF l D g T h0 t1 hW.2.1 a1 r1 (σ 4) (σ 274) (zWf σ 275) (zQs σ) (σ 273) (lR_L jr).1 (zLR_s (σ := σ) (fun k hk => hF1 k (by omega)) (by rw [hF1 268 (by omega)])) (fun t a b => by have y := (lR_B jr).2.1 t a b; rw [hF1 272 (by omega)]; exact ⟨y.1.symm, y.2⟩) (fun i _ _ => by rw [hF1 273 (by omega)]) (by rw [hF1 274 (by omega), hF1 275 (by omega)]; exact fun j _ _ => ⟨rfl, fun i _ _ => rfl⟩) (zYN_q (a := 0) (c := 0) (s := 0) (by rw [hF1 269 (by omega)]; exact (lR_D jr).1.2.1)) (by rw [hF1 269 (by omega)]; exact (lR_D jr).1.2.2.2.2.2) (by show zJt (σ 4) (zrt (t1 269)); rw [hF1 269 (by omega)]; exact (lR_D jr).1.2.2.1) (by rw [hF1 269 (by omega)]; exact (lR_D jr).1.2.2.2.1) (by rw [hF1 269 (by omega)]; exact (lR_D jr).1.2.2.2.2.1) jn1 jk1 jo1) ⟨rfl, rfl, ⟨by decide, by decide⟩, hcs⟩ rfl rfl (Nat.le_of_ble_eq_true rfl) dL_law_983) hW (fun q2 t2 H locs rq2 hp hW => ?_)
  obtain ⟨hF2, hI2, hp2⟩ := hp
  have jC2 : IC t2 := IC_f (fun k hk => hF2 k (by unfold suIC at hk; omega)) jC1
  have j02 : t2 0 11 = 0 ∨ t2 0 11 = 1 := by rw [hF2 0 (by omega)]; exact j01
  have jz2 : t2 999996 0 = t1 999996 0 := by rw [hF2 999996 (by omega)]
  have u1 : t2 1 1 = t1 1 1 := by rw [hF2 1 (by omega)]
  have u2 : t1 268 8 = σ 268 8 := by rw [hF1 268 (by omega)]
  have u0 : σ 1 1 = σ 268 8 := jr.1.1
  have u3 : t1 1 1 = σ 1 1 := by rw [hF1 1 (by omega)]
  have u4 : t2 268 8 = t1 268 8 := by rw [hF2 268 (by omega)]
  have u6 : t2 1 1 = t2 268 8 := by omega
  have u7 : t2 2 = xm8 (t2 276) ∧ xb8 (t2 276) := by rw [hF2 2 (by omega), hF1 2 (by omega), hF2 276 (by omega), hF1 276 (by omega)]; exact jr.1.2
  have w11a : t1 0 11 = σ 0 11 := by rw [hF1 0 (by omega)]
  have w11b : t2 0 11 = t1 0 11 := by rw [hF2 0 (by omega)]
  have w58a : t1 268 58 = σ 268 58 := by rw [hF1 268 (by omega)]
  have w58b : t2 268 58 = t1 268 58 := by rw [hF2 268 (by omega)]
  have w17a : t1 268 17 = σ 268 17 := by rw [hF1 268 (by omega)]
  have w17b : t2 268 17 = t1 268 17 := by rw [hF2 268 (by omega)]
  have w48a : t1 268 48 = σ 268 48 := by rw [hF1 268 (by omega)]
  have w48b : t2 268 48 = t1 268 48 := by rw [hF2 268 (by omega)]
  have w34a : t1 269 34 = σ 269 34 := by rw [hF1 269 (by omega)]
  have w34b : t2 269 34 = t1 269 34 := by rw [hF2 269 (by omega)]
  have j48 := lR_48 jr
  have jb58 := (lR_B jr).2.2
  have jD := lR_D jr
  have jBt : zBt (σ 269) := jD.1.2.2.2
  have q269 : t1 269 = σ 269 := hF1 269 (by omega)
  have zBB : (t2 5 = t2 288 ∧ zk3 (t2 5)) ∧ (∀ j : Int, 0 ≤ j → j < 100 → t2 4 j = t2 272 j ∧ 0 ≤ t2 4 j ∧ t2 4 j ≤ 3) ∧ t2 0 11 = t2 268 58 := ⟨by rw [hF2 5 (by omega), hF1 5 (by omega), hF2 288 (by omega), hF1 288 (by omega)]; exact (lR_B jr).1, by rw [hF2 4 (by omega), hF1 4 (by omega), hF2 272 (by omega), hF1 272 (by omega)]; exact (lR_B jr).2.1, by omega⟩
  have e4 : t2 4 = σ 4 := by rw [hF2 4 (by omega), hF1 4 (by omega)]
  have zL : zLx t2 := (lR_L jr).ff (fun k hk => by rw [hF2 k (by omega), hF1 k (by omega)]) (by omega)
  have zM : zLm t2 := (lR_M jr).ff (by rw [hF2 129 (by omega), hF1 129 (by omega)]) (by rw [hF2 273 (by omega), hF1 273 (by omega)])
  have zD : zDd t2 136 269 := jD.1.ff (fun o ho => by rw [hF2 (136 + o) (by omega), hF1 (136 + o) (by omega)]) e4 (fun q _ _ => by rw [hF2 269 (by omega), q269])
  have zDW : zDd t2 136 269 ∧ zWk t2 136 274 275 ∧ zB8 t2 275 := ⟨zD, jD.2.1.ff (by rw [hF2 138 (by omega), hF1 138 (by omega)]) (fun k hk => by rw [hF2 k (by omega), hF1 k (by omega)]) (by rw [hF2 274 (by omega), hF1 274 (by omega)]) (by rw [hF2 275 (by omega), hF1 275 (by omega)]), by unfold zB8; rw [hF2 275 (by omega), hF1 275 (by omega)]; exact jD.2.2⟩
  have zK : zKp t2 := fun h => by
    have y := (lR_K jr).2 (by omega)
    exact ⟨y.1.ff (fun o ho => by rw [hF2 (146 + o) (by omega), hF1 (146 + o) (by omega)]) e4 (fun q _ _ => by rw [hF2 271 (by omega), hF1 271 (by omega)]), y.2.ff (by rw [hF2 148 (by omega), hF1 148 (by omega)]) (fun k hk => by rw [hF2 k (by omega), hF1 k (by omega)]) (by rw [hF2 308 (by omega), hF1 308 (by omega)]) (by rw [hF2 309 (by omega), hF1 309 (by omega)])⟩
  have zKK : zB8 t2 309 ∧ zKp t2 := ⟨(by unfold zB8; rw [hF2 309 (by omega), hF1 309 (by omega)]; exact (lR_K jr).1), zK⟩
  have zIS : IS t2 := IS_f (fun k hk => hF2 k (by unfold suIS at hk; omega)) hI1.2.1
  have zIQ : IQ t2 := IQ_f (fun k hk => hF2 k (by unfold suIQ at hk; omega)) hI1.2.2.1
  have zG : zSg t2 := (lR_G jr).f (fun k hk => by rw [hF2 k (by omega), hF1 k (by omega)])
  have z48 : t2 268 48 = -1 := by omega
  have hJ : lJ t2 (n + 1) := ⟨jC2, hI2.1, hI2.2.1, hI2.2.2.1, j02, ⟨by omega, by omega⟩, ⟨⟨u6, u7⟩, zBB, zL, zM, zDW, zKK, zIS, zIQ, zG, z48⟩⟩
  refine lv_pop hx hb dL_law_986 rfl ?_
  refine lv_goto (tgt := 990) hx hb dL_law_987 (by decide) ?_
  refine W.widen (k := cells + 1) (n := slots + 60) (by omega) (by omega) ?_
  exact kk H locs t2 hJ hW
