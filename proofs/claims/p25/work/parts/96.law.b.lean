theorem l_0 {p : Program} {e : Env} {s : State} {m : MethodId} {below : List Frame} {meth : Method} {c : Code} {l : Launch} {b h0 L : Nat} {xs : Nat → Int32} {D : va_G} {g : xG} {T : Nat × Nat × Nat} {H : Heap} {locs : List Loc} {ls : Array Slot} {cells slots : Nat} {Q : State → Prop} {σ : xS} {n : Nat} {i : Int} (hx : p.tables.exec = Jvm.exec) (hb : c.code = cL_law) (hml : c.maxLocals = 4) (hown : s.vm.findClass "ShadowCourtLaw" = some m.cls) (hT : ∀ w ∈ xTB, w.before #[Value.ref b] s = true) (hE : xE D g T h0 s) (hX : va_X b L xs s s.heap) (hbl : b < s.heap.size) (eh : h0 = s.heap.size) (hW : xW D g h0 s H locs σ) (hl : lv_has ls 4 [(3, .int (xJ i)), (2, .ref (h0 + 268)), (1, .ref (h0 + 0)), (0, .ref b)]) (hcs : cells ≤ 600000 ∧ slots ≤ 7302250) (hcs1 : cells + 1 ≤ 600000 ∧ slots + 60 ≤ 7302250) (hJ : lJ σ n) (hn : n ≤ 512) (hi : 0 ≤ i ∧ i + 5 < (L : Int) ∧ L ≤ 3072)
    (kk : ∀ (H : Heap) (locs : List Loc) (τ : xS), lJ τ (n + 1) → xW D g h0 s H locs τ → W p l e room_1 s m #[Value.ref b] below meth c H locs (cells + 1) (slots + 60) Q (F0 m 990 ls [])) : W p l e room_1 s m #[Value.ref b] below meth c H locs cells slots Q (F0 m 152 ls []) := by
  obtain ⟨jC, jn, jk, jo, j0, jz, jr⟩ := hJ
  obtain ⟨a1, e1, r1⟩ := xJ_ex (xs (i + 1).toNat)
  obtain ⟨a2, e2, r2⟩ := xJ_ex (xs (i + 2).toNat)
  obtain ⟨a3, e3, r3⟩ := xJ_ex (xs (i + 3).toNat)
  obtain ⟨a4, e4, r4⟩ := xJ_ex (xs (i + 4).toNat)
  obtain ⟨a5, e5, r5⟩ := xJ_ex (xs (i + 5).toNat)
  refine x_aload_n hx hb hl 2 rfl dL_law_152 rfl ?_
  refine x_aload_n hx hb hl 3 rfl dL_law_153 rfl ?_
  refine x_iload_n hx hb hl 0 rfl dL_law_154 rfl ?_
  refine x_iconst hx hb dL_law_155 ?_
  refine x_iadd hx hb dL_law_156 ?_
  refine l_sld hx hb hX hbl eh hW (by omega) (by omega) e1 dL_law_157 ?_
  refine x_aload_n hx hb hl 3 rfl dL_law_158 rfl ?_
  refine x_iload_n hx hb hl 0 rfl dL_law_159 rfl ?_
  refine x_iconst hx hb dL_law_160 ?_
  refine b_pc (pc1 := 161) rfl ?_
  refine x_iadd hx hb dL_law_161 ?_
  refine l_sld hx hb hX hbl eh hW (by omega) (by omega) e2 dL_law_162 ?_
  refine x_aload_n hx hb hl 3 rfl dL_law_163 rfl ?_
  refine x_iload_n hx hb hl 0 rfl dL_law_164 rfl ?_
  refine x_iconst hx hb dL_law_165 ?_
  refine x_iadd hx hb dL_law_166 ?_
  refine l_sld hx hb hX hbl eh hW (by omega) (by omega) e3 dL_law_167 ?_
  refine x_aload_n hx hb hl 3 rfl dL_law_168 rfl ?_
  refine x_iload_n hx hb hl 0 rfl dL_law_169 rfl ?_
  refine x_iconst hx hb dL_law_170 ?_
  refine b_pc (pc1 := 171) rfl ?_
  refine x_iadd hx hb dL_law_171 ?_
  refine l_sld hx hb hX hbl eh hW (by omega) (by omega) e4 dL_law_172 ?_
  refine x_aload_n hx hb hl 3 rfl dL_law_173 rfl ?_
  refine x_iload_n hx hb hl 0 rfl dL_law_174 rfl ?_
  refine x_iconst hx hb dL_law_175 ?_
  refine x_iadd hx hb dL_law_176 ?_
  refine l_sld hx hb hX hbl eh hW (by omega) (by omega) e5 dL_law_177 ?_
  refine x_goi (x_runV (As := [.int (xJ a1), .int (xJ a2), .int (xJ a3), .int (xJ a4), .int (xJ a5)]) hx hb hml hown hT hE hW hl.1 (Or.inl (by decide)) (so_0 h0 g _) rfl cf_X10_feed wq550 wq551 wq549 (c_X10_feed l D g T h0 σ hW.2.1 a1 r1 a2 r2 a3 r3 a4 r4 a5 r5 jC) ⟨rfl, rfl, ⟨by decide, by decide⟩, hcs⟩ rfl rfl (Nat.le_of_ble_eq_true rfl) dL_law_178) hW (fun q1 t1 H locs rq1 hp hW => ?_)
  obtain ⟨hF1, hI1, hp1⟩ := hp
  have jC1 := hI1.1
  have jn1 : IMn t1 := IMn_f (fun k hk => hF1 k (by unfold suIMn at hk; omega)) jn
  have jk1 : IMk t1 := IMk_f (fun k hk => hF1 k (by unfold suIMk at hk; omega)) jk
  have jo1 : IMo t1 := IMo_f (fun k hk => hF1 k (by unfold suIMo at hk; omega)) jo
  have j01 : t1 0 11 = 0 ∨ t1 0 11 = 1 := by rw [hF1 0 (by omega)]; exact j0
  have jz1 : t1 999996 0 = σ 999996 0 := by rw [hF1 999996 (by omega)]
  refine lv_pop hx hb dL_law_181 rfl ?_
  refine x_aload_n hx hb hl 1 rfl dL_law_182 rfl ?_
  refine b_pc (pc1 := 183) rfl ?_
  refine x_aload_n hx hb hl 3 rfl dL_law_183 rfl ?_
  refine x_iload_n hx hb hl 0 rfl dL_law_184 rfl ?_
  refine x_iconst hx hb dL_law_185 ?_
  refine x_iadd hx hb dL_law_186 ?_
  refine l_sld hx hb hX hbl eh hW (by omega) (by omega) e1 dL_law_187 ?_
  refine x_aload_n hx hb hl 3 rfl dL_law_188 rfl ?_
  refine x_iload_n hx hb hl 0 rfl dL_law_189 rfl ?_
  refine x_iconst hx hb dL_law_190 ?_
  refine x_iadd hx hb dL_law_191 ?_
  refine l_sld hx hb hX hbl eh hW (by omega) (by omega) e2 dL_law_192 ?_
  refine b_pc (pc1 := 193) rfl ?_
  refine x_aload_n hx hb hl 3 rfl dL_law_193 rfl ?_
  refine x_iload_n hx hb hl 0 rfl dL_law_194 rfl ?_
  refine x_iconst hx hb dL_law_195 ?_
  refine x_iadd hx hb dL_law_196 ?_
  refine l_sld hx hb hX hbl eh hW (by omega) (by omega) e3 dL_law_197 ?_
  refine x_aload_n hx hb hl 3 rfl dL_law_198 rfl ?_
  refine x_iload_n hx hb hl 0 rfl dL_law_199 rfl ?_
  refine x_iconst hx hb dL_law_200 ?_
  refine x_iadd hx hb dL_law_201 ?_
  refine l_sld hx hb hX hbl eh hW (by omega) (by omega) e4 dL_law_202 ?_
  refine b_pc (pc1 := 203) rfl ?_
  refine x_aload_n hx hb hl 3 rfl dL_law_203 rfl ?_
  refine x_iload_n hx hb hl 0 rfl dL_law_204 rfl ?_
  refine x_iconst hx hb dL_law_205 ?_
  refine x_iadd hx hb dL_law_206 ?_
  refine l_sld hx hb hX hbl eh hW (by omega) (by omega) e5 dL_law_207 ?_
  refine x_goi (x_runV (As := [.int (xJ a1), .int (xJ a2), .int (xJ a3), .int (xJ a4), .int (xJ a5)]) hx hb hml hown hT hE hW hl.1 (Or.inl (by decide)) (so_268 h0 g _) rfl cf_X11_feed wq1371 wq1372 wq1370 (c_X11_feed l D g T h0 t1 hW.2.1 a1 r1 a2 r2 a3 r3 a4 r4 a5 r5 jn1 jk1 jo1) ⟨rfl, rfl, ⟨by decide, by decide⟩, hcs⟩ rfl rfl (Nat.le_of_ble_eq_true rfl) dL_law_208) hW (fun q2 t2 H locs rq2 hp hW => ?_)
  obtain ⟨hF2, hI2, hp2⟩ := hp
  have jC2 : IC t2 := IC_f (fun k hk => hF2 k (by unfold suIC at hk; omega)) jC1
  have j02 : t2 0 11 = 0 ∨ t2 0 11 = 1 := by rw [hF2 0 (by omega)]; exact j01
  have jz2 : t2 999996 0 = t1 999996 0 := by rw [hF2 999996 (by omega)]
  have u1 : t2 1 1 = t1 1 1 := by rw [hF2 1 (by omega)]
  have u2 : t1 268 8 = σ 268 8 := by rw [hF1 268 (by omega)]
  have u0 : σ 1 1 = σ 268 8 := jr.1
  have u6 : t2 1 1 = t2 268 8 := by omega
  have u7 : t2 2 = xm8 (t2 276) ∧ xb8 (t2 276) := by
    have e276 : t1 276 = σ 276 := hF1 276 (by omega)
    rw [hF2 2 (by omega)]
    rcases hp1 with ⟨g1, g2, g3, g4⟩ | ⟨g1, g2, g3, g4⟩
    · rcases hp2 with ⟨f1, f2, f3, f4, f5⟩ | ⟨f1, f2, f3, f4⟩
      · rw [g4, f4, e276, ← jr.2.1, u2, ← u0]
        exact ⟨rfl, f5 (by rw [e276]; exact jr.2.2.1)⟩
      · omega
    · rcases hp2 with ⟨f1, f2, f3, f4, f5⟩ | ⟨f1, f2, f3, f4⟩
      · omega
      · rw [g4, f4, e276]; exact ⟨jr.2.1, jr.2.2.1⟩
  have w0a : t1 0 11 = σ 0 11 := by rw [hF1 0 (by omega)]
  have w0b : t2 0 11 = t1 0 11 := by rw [hF2 0 (by omega)]
  have w1a : t1 268 58 = σ 268 58 := by rw [hF1 268 (by omega)]
  have w1b : t2 268 58 = t1 268 58 := hI2.2.2.2.1
  have w2a : t1 136 7 = σ 136 7 := by rw [hF1 136 (by omega)]
  have w2b : t2 136 7 = t1 136 7 := by rw [hF2 136 (by omega)]
  have w3a : t1 146 7 = σ 146 7 := by rw [hF1 146 (by omega)]
  have w3b : t2 146 7 = t1 146 7 := by rw [hF2 146 (by omega)]
  have w4a : t1 269 37 = σ 269 37 := by rw [hF1 269 (by omega)]
  have w4b : t2 269 37 = t1 269 37 := by rw [hF2 269 (by omega)]
  have w5a : t1 271 37 = σ 271 37 := by rw [hF1 271 (by omega)]
  have w5b : t2 271 37 = t1 271 37 := by rw [hF2 271 (by omega)]
  have jk0 := jr.2.2.2.2.2.1
  have jm0 := jr.2.2.2.2.2.2.1
  have jm1 := jr.2.2.2.2.2.2.2
  have g1 := IC.m jC2 xd_136
  have g2 := (IMn.n1 hI2.1).2.2.2.1
  have e5 : (t2 5 = t2 288 ∧ zk3 (t2 5)) := by rw [hF2 5 (by omega), hF1 5 (by omega), hF2 288 (by omega), hF1 288 (by omega)]; exact jr.2.2.2.1
  have e4 : (∀ j, 0 ≤ j → j < 100 → t2 4 j = t2 272 j ∧ 0 ≤ t2 4 j ∧ t2 4 j ≤ 3) := by rw [hF2 4 (by omega), hF1 4 (by omega), hF2 272 (by omega), hF1 272 (by omega)]; exact jr.2.2.2.2.1
  have hJ : lJ t2 (n + 1) := ⟨jC2, hI2.1, hI2.2.1, hI2.2.2.1, j02, ⟨by omega, by omega⟩, ⟨u6, u7.1, u7.2, e5, e4, by omega, by omega, by omega⟩⟩
  refine lv_pop hx hb dL_law_211 rfl ?_
  refine lv_goto (tgt := 990) hx hb dL_law_212 (by decide) ?_
  refine W.widen (k := cells + 1) (n := slots + 60) (by omega) (by omega) ?_
  exact kk H locs t2 hJ hW
theorem l_1 {p : Program} {e : Env} {s : State} {m : MethodId} {below : List Frame} {meth : Method} {c : Code} {l : Launch} {b h0 L : Nat} {xs : Nat → Int32} {D : va_G} {g : xG} {T : Nat × Nat × Nat} {H : Heap} {locs : List Loc} {ls : Array Slot} {cells slots : Nat} {Q : State → Prop} {σ : xS} {n : Nat} {i : Int} (hx : p.tables.exec = Jvm.exec) (hb : c.code = cL_law) (hml : c.maxLocals = 4) (hown : s.vm.findClass "ShadowCourtLaw" = some m.cls) (hT : ∀ w ∈ xTB, w.before #[Value.ref b] s = true) (hE : xE D g T h0 s) (hX : va_X b L xs s s.heap) (hbl : b < s.heap.size) (eh : h0 = s.heap.size) (hW : xW D g h0 s H locs σ) (hl : lv_has ls 4 [(3, .int (xJ i)), (2, .ref (h0 + 268)), (1, .ref (h0 + 0)), (0, .ref b)]) (hcs : cells ≤ 600000 ∧ slots ≤ 7302250) (hcs1 : cells + 1 ≤ 600000 ∧ slots + 60 ≤ 7302250) (hJ : lJ σ n) (hn : n ≤ 512) (hi : 0 ≤ i ∧ i + 5 < (L : Int) ∧ L ≤ 3072)
    (kk : ∀ (H : Heap) (locs : List Loc) (τ : xS), lJ τ (n + 1) → xW D g h0 s H locs τ → W p l e room_1 s m #[Value.ref b] below meth c H locs (cells + 1) (slots + 60) Q (F0 m 990 ls [])) : W p l e room_1 s m #[Value.ref b] below meth c H locs cells slots Q (F0 m 215 ls []) := by
  obtain ⟨jC, jn, jk, jo, j0, jz, jr⟩ := hJ
  obtain ⟨a1, e1, r1⟩ := xJ_ex (xs (i + 1).toNat)
  refine x_aload_n hx hb hl 2 rfl dL_law_215 rfl ?_
  refine x_aload_n hx hb hl 3 rfl dL_law_216 rfl ?_
  refine x_iload_n hx hb hl 0 rfl dL_law_217 rfl ?_
  refine x_iconst hx hb dL_law_218 ?_
  refine x_iadd hx hb dL_law_219 ?_
  refine l_sld hx hb hX hbl eh hW (by omega) (by omega) e1 dL_law_220 ?_
  refine x_goi (x_runV (As := [.int (xJ a1)]) hx hb hml hown hT hE hW hl.1 (Or.inl (by decide)) (so_0 h0 g _) rfl cf_X10_market wq558 wq559 wq557 (c_X10_marketM l D g T h0 σ hW.2.1 a1 r1 jC) ⟨rfl, rfl, ⟨by decide, by decide⟩, hcs⟩ rfl rfl (Nat.le_of_ble_eq_true rfl) dL_law_221) hW (fun q1 t1 H locs rq1 hp hW => ?_)
  obtain ⟨hF1, hI1, hp1⟩ := hp
  have jC1 := hI1.1
  have jn1 : IMn t1 := IMn_f (fun k hk => hF1 k (by unfold suIMn at hk; omega)) jn
  have jk1 : IMk t1 := IMk_f (fun k hk => hF1 k (by unfold suIMk at hk; omega)) jk
  have jo1 : IMo t1 := IMo_f (fun k hk => hF1 k (by unfold suIMo at hk; omega)) jo
  have j01 : t1 0 11 = 0 ∨ t1 0 11 = 1 := by omega
  have jz1 : t1 999996 0 = σ 999996 0 := by rw [hF1 999996 (by omega)]
  refine lv_pop hx hb dL_law_224 rfl ?_
  refine x_aload_n hx hb hl 1 rfl dL_law_225 rfl ?_
  refine b_pc (pc1 := 226) rfl ?_
  refine x_aload_n hx hb hl 3 rfl dL_law_226 rfl ?_
  refine x_iload_n hx hb hl 0 rfl dL_law_227 rfl ?_
  refine x_iconst hx hb dL_law_228 ?_
  refine x_iadd hx hb dL_law_229 ?_
  refine l_sld hx hb hX hbl eh hW (by omega) (by omega) e1 dL_law_230 ?_
  refine x_goi (x_runV (As := [.int (xJ a1)]) hx hb hml hown hT hE hW hl.1 (Or.inl (by decide)) (so_268 h0 g _) rfl cf_X11_market wq1379 wq1380 wq1378 (c_X11_marketM l D g T h0 t1 hW.2.1 a1 r1 jn1 jk1 jo1) ⟨rfl, rfl, ⟨by decide, by decide⟩, hcs⟩ rfl rfl (Nat.le_of_ble_eq_true rfl) dL_law_231) hW (fun q2 t2 H locs rq2 hp hW => ?_)
  obtain ⟨hF2, hI2, hp2⟩ := hp
  have jC2 : IC t2 := IC_f (fun k hk => hF2 k (by unfold suIC at hk; omega)) jC1
  have j02 : t2 0 11 = 0 ∨ t2 0 11 = 1 := by rw [hF2 0 (by omega)]; exact j01
  have jz2 : t2 999996 0 = t1 999996 0 := by rw [hF2 999996 (by omega)]
  have u1 : t2 1 1 = t1 1 1 := by rw [hF2 1 (by omega)]
  have u2 : t1 268 8 = σ 268 8 := by rw [hF1 268 (by omega)]
  have u0 : σ 1 1 = σ 268 8 := jr.1
  have u6 : t2 1 1 = t2 268 8 := by omega
  have u7 : t2 2 = xm8 (t2 276) ∧ xb8 (t2 276) := by rw [hF2 2 (by omega), hF1 2 (by omega), hF2 276 (by omega), hF1 276 (by omega)]; exact ⟨jr.2.1, jr.2.2.1⟩
  have w0b : t2 0 11 = t1 0 11 := by rw [hF2 0 (by omega)]
  have w1a : t1 268 58 = σ 268 58 := by rw [hF1 268 (by omega)]
  have w2a : t1 136 7 = σ 136 7 := by rw [hF1 136 (by omega)]
  have w2b : t2 136 7 = t1 136 7 := by rw [hF2 136 (by omega)]
  have w3a : t1 146 7 = σ 146 7 := by rw [hF1 146 (by omega)]
  have w3b : t2 146 7 = t1 146 7 := by rw [hF2 146 (by omega)]
  have w4a : t1 269 37 = σ 269 37 := by rw [hF1 269 (by omega)]
  have w4b : t2 269 37 = t1 269 37 := hI2.2.2.2.1
  have w5a : t1 271 37 = σ 271 37 := by rw [hF1 271 (by omega)]
  have w5b : t2 271 37 = t1 271 37 := by rw [hF2 271 (by omega)]
  have jk0 := jr.2.2.2.2.2.1
  have jm0 := jr.2.2.2.2.2.2.1
  have jm1 := jr.2.2.2.2.2.2.2
  have g1 := IC.m jC2 xd_136
  have g2 := (IMn.n1 hI2.1).2.2.2.1
  have f5 : t1 288 = σ 5 := by rw [hF1 288 (by omega)]; exact jr.2.2.2.1.1.symm
  have f2 : xm8 (t1 276) = σ 2 := by rw [hF1 276 (by omega)]; exact jr.2.1.symm
  have f4 : t1 272 = σ 272 := hF1 272 (by omega)
  rw [f5, f2, f4] at hp2
  have e5 : t2 5 = t1 5 := hF2 5 (by omega)
  have e4 : t2 4 = t1 4 := hF2 4 (by omega)
  have kz : zk3 (zMk (σ 2) a1 (σ 5)).2.2 := zk3_Mk jr.2.2.2.1.2
  have kk9 : (t2 5 = t2 288 ∧ zk3 (t2 5)) ∧ (∀ j, 0 ≤ j → j < 100 → t2 4 j = t2 272 j ∧ 0 ≤ t2 4 j ∧ t2 4 j ≤ 3) ∧ t2 0 11 = t2 268 58 := by
    rw [e5, e4]
    rcases hp1 with ⟨g1, g2, g3, g4, g5, g6⟩ | ⟨g1, g2, g4, g⟩
    · rcases hp2 with ⟨h1, h2, h3, h4, h5, h6⟩ | ⟨h1, h2, h4, h⟩
      · rw [g4, h4, g5, h5]
        exact ⟨⟨rfl, jr.2.2.2.1.2⟩, jr.2.2.2.2.1, by omega⟩
      · omega
    · rcases hp2 with ⟨h1, h2, h3, h4, h5, h6⟩ | ⟨h1, h2, h4, h⟩
      · omega
      · rw [g4, h4]
        rcases g with ⟨a1, a2, a3, a4⟩ | ⟨a1, a2, a3, a4⟩
        · rcases h with ⟨b1, b2, b3, b4⟩ | ⟨b1, b2, b3, b4⟩
          · rw [a3, b3]
            exact ⟨⟨rfl, kz⟩, jr.2.2.2.2.1, by omega⟩
          · exact absurd b1 a1
        · rcases h with ⟨b1, b2, b3, b4⟩ | ⟨b1, b2, b3, b4⟩
          · exact absurd a1 b1
          · exact ⟨⟨rfl, kz⟩, fun j j1 j2 => by rw [a2 j j1 j2, b2 j j1 j2]; exact ⟨rfl, kz j⟩, by omega⟩
  have hJ : lJ t2 (n + 1) := ⟨jC2, hI2.1, hI2.2.1, hI2.2.2.1, j02, ⟨by omega, by omega⟩, ⟨u6, u7.1, u7.2, kk9.1, kk9.2.1, kk9.2.2, by omega, by omega⟩⟩
  refine lv_pop hx hb dL_law_234 rfl ?_
  refine lv_goto (tgt := 990) hx hb dL_law_235 (by decide) ?_
  refine W.widen (k := cells + 1) (n := slots + 60) (by omega) (by omega) ?_
  exact kk H locs t2 hJ hW
theorem l_2 {p : Program} {e : Env} {s : State} {m : MethodId} {below : List Frame} {meth : Method} {c : Code} {l : Launch} {b h0 L : Nat} {xs : Nat → Int32} {D : va_G} {g : xG} {T : Nat × Nat × Nat} {H : Heap} {locs : List Loc} {ls : Array Slot} {cells slots : Nat} {Q : State → Prop} {σ : xS} {n : Nat} {i : Int} (hx : p.tables.exec = Jvm.exec) (hb : c.code = cL_law) (hml : c.maxLocals = 4) (hown : s.vm.findClass "ShadowCourtLaw" = some m.cls) (hT : ∀ w ∈ xTB, w.before #[Value.ref b] s = true) (hE : xE D g T h0 s) (hX : va_X b L xs s s.heap) (hbl : b < s.heap.size) (eh : h0 = s.heap.size) (hW : xW D g h0 s H locs σ) (hl : lv_has ls 4 [(3, .int (xJ i)), (2, .ref (h0 + 268)), (1, .ref (h0 + 0)), (0, .ref b)]) (hcs : cells ≤ 600000 ∧ slots ≤ 7302250) (hcs1 : cells + 1 ≤ 600000 ∧ slots + 60 ≤ 7302250) (hJ : lJ σ n) (hn : n ≤ 512) (hi : 0 ≤ i ∧ i + 5 < (L : Int) ∧ L ≤ 3072)
    (kk : ∀ (H : Heap) (locs : List Loc) (τ : xS), lJ τ (n + 1) → xW D g h0 s H locs τ → W p l e room_1 s m #[Value.ref b] below meth c H locs (cells + 1) (slots + 60) Q (F0 m 990 ls [])) : W p l e room_1 s m #[Value.ref b] below meth c H locs cells slots Q (F0 m 238 ls []) := by
  obtain ⟨jC, jn, jk, jo, j0, jz, jr⟩ := hJ
  obtain ⟨a1, e1, r1⟩ := xJ_ex (xs (i + 1).toNat)
  refine x_aload_n hx hb hl 2 rfl dL_law_238 rfl ?_
  refine x_aload_n hx hb hl 3 rfl dL_law_239 rfl ?_
  refine x_iload_n hx hb hl 0 rfl dL_law_240 rfl ?_
  refine x_iconst hx hb dL_law_241 ?_
  refine x_iadd hx hb dL_law_242 ?_
  refine l_sld hx hb hX hbl eh hW (by omega) (by omega) e1 dL_law_243 ?_
  refine x_goi (x_runV (As := [.int (xJ a1)]) hx hb hml hown hT hE hW hl.1 (Or.inl (by decide)) (so_0 h0 g _) rfl cf_X10_law wq630 wq631 wq629 (c_X10_law l D g T h0 σ hW.2.1 a1 r1 jC) ⟨rfl, rfl, ⟨by decide, by decide⟩, hcs⟩ rfl rfl (Nat.le_of_ble_eq_true rfl) dL_law_244) hW (fun q1 t1 H locs rq1 hp hW => ?_)
  obtain ⟨hF1, hI1, hp1⟩ := hp
  have jC1 := hI1.1
  have jn1 : IMn t1 := IMn_f (fun k hk => hF1 k (by unfold suIMn at hk; omega)) jn
  have jk1 : IMk t1 := IMk_f (fun k hk => hF1 k (by unfold suIMk at hk; omega)) jk
  have jo1 : IMo t1 := IMo_f (fun k hk => hF1 k (by unfold suIMo at hk; omega)) jo
  have j01 : t1 0 11 = 0 ∨ t1 0 11 = 1 := by rw [hF1 0 (by omega)]; exact j0
  have jz1 : t1 999996 0 = σ 999996 0 := by rw [hF1 999996 (by omega)]
  refine lv_pop hx hb dL_law_247 rfl ?_
  refine x_aload_n hx hb hl 1 rfl dL_law_248 rfl ?_
  refine b_pc (pc1 := 249) rfl ?_
  refine x_aload_n hx hb hl 3 rfl dL_law_249 rfl ?_
  refine x_iload_n hx hb hl 0 rfl dL_law_250 rfl ?_
  refine x_iconst hx hb dL_law_251 ?_
  refine x_iadd hx hb dL_law_252 ?_
  refine l_sld hx hb hX hbl eh hW (by omega) (by omega) e1 dL_law_253 ?_
  refine x_goi (x_runV (As := [.int (xJ a1)]) hx hb hml hown hT hE hW hl.1 (Or.inl (by decide)) (so_268 h0 g _) rfl cf_X11_law wq1460 wq1461 wq1459 (c_X11_law l D g T h0 t1 hW.2.1 a1 r1 jn1 jk1 jo1) ⟨rfl, rfl, ⟨by decide, by decide⟩, hcs⟩ rfl rfl (Nat.le_of_ble_eq_true rfl) dL_law_254) hW (fun q2 t2 H locs rq2 hp hW => ?_)
  obtain ⟨hF2, hI2, hp2⟩ := hp
  have jC2 : IC t2 := IC_f (fun k hk => hF2 k (by unfold suIC at hk; omega)) jC1
  have j02 : t2 0 11 = 0 ∨ t2 0 11 = 1 := by rw [hF2 0 (by omega)]; exact j01
  have jz2 : t2 999996 0 = t1 999996 0 := by rw [hF2 999996 (by omega)]
  have u1 : t2 1 1 = t1 1 1 := by rw [hF2 1 (by omega)]
  have u2 : t1 268 8 = σ 268 8 := by rw [hF1 268 (by omega)]
  have u0 : σ 1 1 = σ 268 8 := jr.1
  have u6 : t2 1 1 = t2 268 8 := by omega
  have u7 : t2 2 = xm8 (t2 276) ∧ xb8 (t2 276) := by rw [hF2 2 (by omega), hF1 2 (by omega), hF2 276 (by omega), hF1 276 (by omega)]; exact ⟨jr.2.1, jr.2.2.1⟩
  have w0a : t1 0 11 = σ 0 11 := by rw [hF1 0 (by omega)]
  have w0b : t2 0 11 = t1 0 11 := by rw [hF2 0 (by omega)]
  have w1a : t1 268 58 = σ 268 58 := by rw [hF1 268 (by omega)]
  have w1b : t2 268 58 = t1 268 58 := hI2.2.2.2.1
  have w2a : t1 136 7 = σ 136 7 := by rw [hF1 136 (by omega)]
  have w2b : t2 136 7 = t1 136 7 := by rw [hF2 136 (by omega)]
  have w3a : t1 146 7 = σ 146 7 := by rw [hF1 146 (by omega)]
  have w3b : t2 146 7 = t1 146 7 := by rw [hF2 146 (by omega)]
  have w4a : t1 269 37 = σ 269 37 := by rw [hF1 269 (by omega)]
  have w4b : t2 269 37 = t1 269 37 := by rw [hF2 269 (by omega)]
  have w5a : t1 271 37 = σ 271 37 := by rw [hF1 271 (by omega)]
  have w5b : t2 271 37 = t1 271 37 := by rw [hF2 271 (by omega)]
  have jk0 := jr.2.2.2.2.2.1
  have jm0 := jr.2.2.2.2.2.2.1
  have jm1 := jr.2.2.2.2.2.2.2
  have g1 := IC.m jC2 xd_136
  have g2 := (IMn.n1 hI2.1).2.2.2.1
  have e5 : (t2 5 = t2 288 ∧ zk3 (t2 5)) := by rw [hF2 5 (by omega), hF1 5 (by omega), hF2 288 (by omega), hF1 288 (by omega)]; exact jr.2.2.2.1
  have e4 : (∀ j, 0 ≤ j → j < 100 → t2 4 j = t2 272 j ∧ 0 ≤ t2 4 j ∧ t2 4 j ≤ 3) := by rw [hF2 4 (by omega), hF1 4 (by omega), hF2 272 (by omega), hF1 272 (by omega)]; exact jr.2.2.2.2.1
  have hJ : lJ t2 (n + 1) := ⟨jC2, hI2.1, hI2.2.1, hI2.2.2.1, j02, ⟨by omega, by omega⟩, ⟨u6, u7.1, u7.2, e5, e4, by omega, by omega, by omega⟩⟩
  refine lv_pop hx hb dL_law_257 rfl ?_
  refine lv_goto (tgt := 990) hx hb dL_law_258 (by decide) ?_
  refine W.widen (k := cells + 1) (n := slots + 60) (by omega) (by omega) ?_
  exact kk H locs t2 hJ hW
theorem l_3 {p : Program} {e : Env} {s : State} {m : MethodId} {below : List Frame} {meth : Method} {c : Code} {l : Launch} {b h0 L : Nat} {xs : Nat → Int32} {D : va_G} {g : xG} {T : Nat × Nat × Nat} {H : Heap} {locs : List Loc} {ls : Array Slot} {cells slots : Nat} {Q : State → Prop} {σ : xS} {n : Nat} {i : Int} (hx : p.tables.exec = Jvm.exec) (hb : c.code = cL_law) (hml : c.maxLocals = 4) (hown : s.vm.findClass "ShadowCourtLaw" = some m.cls) (hT : ∀ w ∈ xTB, w.before #[Value.ref b] s = true) (hE : xE D g T h0 s) (hX : va_X b L xs s s.heap) (hbl : b < s.heap.size) (eh : h0 = s.heap.size) (hW : xW D g h0 s H locs σ) (hl : lv_has ls 4 [(3, .int (xJ i)), (2, .ref (h0 + 268)), (1, .ref (h0 + 0)), (0, .ref b)]) (hcs : cells ≤ 600000 ∧ slots ≤ 7302250) (hcs1 : cells + 1 ≤ 600000 ∧ slots + 60 ≤ 7302250) (hJ : lJ σ n) (hn : n ≤ 512) (hi : 0 ≤ i ∧ i + 5 < (L : Int) ∧ L ≤ 3072)
    (kk : ∀ (H : Heap) (locs : List Loc) (τ : xS), lJ τ (n + 1) → xW D g h0 s H locs τ → W p l e room_1 s m #[Value.ref b] below meth c H locs (cells + 1) (slots + 60) Q (F0 m 990 ls [])) : W p l e room_1 s m #[Value.ref b] below meth c H locs cells slots Q (F0 m 261 ls []) := by
  obtain ⟨jC, jn, jk, jo, j0, jz, jr⟩ := hJ
  obtain ⟨a1, e1, r1⟩ := xJ_ex (xs (i + 1).toNat)
  obtain ⟨a2, e2, r2⟩ := xJ_ex (xs (i + 2).toNat)
  obtain ⟨a3, e3, r3⟩ := xJ_ex (xs (i + 3).toNat)
  refine x_aload_n hx hb hl 2 rfl dL_law_261 rfl ?_
  refine x_aload_n hx hb hl 3 rfl dL_law_262 rfl ?_
  refine x_iload_n hx hb hl 0 rfl dL_law_263 rfl ?_
  refine x_iconst hx hb dL_law_264 ?_
  refine x_iadd hx hb dL_law_265 ?_
  refine l_sld hx hb hX hbl eh hW (by omega) (by omega) e1 dL_law_266 ?_
  refine x_aload_n hx hb hl 3 rfl dL_law_267 rfl ?_
  refine x_iload_n hx hb hl 0 rfl dL_law_268 rfl ?_
  refine x_iconst hx hb dL_law_269 ?_
  refine b_pc (pc1 := 270) rfl ?_
  refine x_iadd hx hb dL_law_270 ?_
  refine l_sld hx hb hX hbl eh hW (by omega) (by omega) e2 dL_law_271 ?_
  refine x_aload_n hx hb hl 3 rfl dL_law_272 rfl ?_
  refine x_iload_n hx hb hl 0 rfl dL_law_273 rfl ?_
  refine x_iconst hx hb dL_law_274 ?_
  refine x_iadd hx hb dL_law_275 ?_
  refine l_sld hx hb hX hbl eh hW (by omega) (by omega) e3 dL_law_276 ?_
  refine x_goi (x_runV (As := [.int (xJ a1), .int (xJ a2), .int (xJ a3)]) hx hb hml hown hT hE hW hl.1 (Or.inl (by decide)) (so_0 h0 g _) rfl cf_X10_judge wq700 wq701 wq699 (c_X10_judge l D g T h0 σ hW.2.1 a1 r1 a2 r2 a3 r3 jC) ⟨rfl, rfl, ⟨by decide, by decide⟩, hcs⟩ rfl rfl (Nat.le_of_ble_eq_true rfl) dL_law_277) hW (fun q1 t1 H locs rq1 hp hW => ?_)
  obtain ⟨hF1, hI1, hp1⟩ := hp
  have jC1 := hI1.1
  have jn1 : IMn t1 := IMn_f (fun k hk => hF1 k (by unfold suIMn at hk; omega)) jn
  have jk1 : IMk t1 := IMk_f (fun k hk => hF1 k (by unfold suIMk at hk; omega)) jk
  have jo1 : IMo t1 := IMo_f (fun k hk => hF1 k (by unfold suIMo at hk; omega)) jo
  have j01 : t1 0 11 = 0 ∨ t1 0 11 = 1 := by rw [hF1 0 (by omega)]; exact j0
  have jz1 : t1 999996 0 = σ 999996 0 := by rw [hF1 999996 (by omega)]
  refine lv_pop hx hb dL_law_280 rfl ?_
  refine x_aload_n hx hb hl 1 rfl dL_law_281 rfl ?_
  refine b_pc (pc1 := 282) rfl ?_
  refine x_aload_n hx hb hl 3 rfl dL_law_282 rfl ?_
  refine x_iload_n hx hb hl 0 rfl dL_law_283 rfl ?_
  refine x_iconst hx hb dL_law_284 ?_
  refine x_iadd hx hb dL_law_285 ?_
  refine l_sld hx hb hX hbl eh hW (by omega) (by omega) e1 dL_law_286 ?_
  refine x_aload_n hx hb hl 3 rfl dL_law_287 rfl ?_
  refine x_iload_n hx hb hl 0 rfl dL_law_288 rfl ?_
  refine x_iconst hx hb dL_law_289 ?_
  refine x_iadd hx hb dL_law_290 ?_
  refine l_sld hx hb hX hbl eh hW (by omega) (by omega) e2 dL_law_291 ?_
  refine b_pc (pc1 := 292) rfl ?_
  refine x_aload_n hx hb hl 3 rfl dL_law_292 rfl ?_
  refine x_iload_n hx hb hl 0 rfl dL_law_293 rfl ?_
  refine x_iconst hx hb dL_law_294 ?_
  refine x_iadd hx hb dL_law_295 ?_
  refine l_sld hx hb hX hbl eh hW (by omega) (by omega) e3 dL_law_296 ?_
  refine x_goi (x_runV (As := [.int (xJ a1), .int (xJ a2), .int (xJ a3)]) hx hb hml hown hT hE hW hl.1 (Or.inl (by decide)) (so_268 h0 g _) rfl cf_X11_judge wq1426 wq1427 wq1425 (c_X11_judgeM l D g T h0 t1 hW.2.1 a1 r1 a2 r2 a3 r3 jn1 jk1 jo1) ⟨rfl, rfl, ⟨by decide, by decide⟩, hcs⟩ rfl rfl (Nat.le_of_ble_eq_true rfl) dL_law_297) hW (fun q2 t2 H locs rq2 hp hW => ?_)
  obtain ⟨hF2, hI2, hp2⟩ := hp
  have jC2 : IC t2 := IC_f (fun k hk => hF2 k (by unfold suIC at hk; omega)) jC1
  have j02 : t2 0 11 = 0 ∨ t2 0 11 = 1 := by rw [hF2 0 (by omega)]; exact j01
  have jz2 : t2 999996 0 = t1 999996 0 := by rw [hF2 999996 (by omega)]
  have u1 : t2 1 1 = t1 1 1 := by rw [hF2 1 (by omega)]
  have u2 : t1 268 8 = σ 268 8 := by rw [hF1 268 (by omega)]
  have u0 : σ 1 1 = σ 268 8 := jr.1
  have u3 : t1 1 1 = σ 1 1 := by rw [hF1 1 (by omega)]
  have u4 : t2 268 8 = t1 268 8 := by rw [hF2 268 (by omega)]
  have u6 : t2 1 1 = t2 268 8 := by omega
  have u7 : t2 2 = xm8 (t2 276) ∧ xb8 (t2 276) := by rw [hF2 2 (by omega), hF1 2 (by omega), hF2 276 (by omega), hF1 276 (by omega)]; exact ⟨jr.2.1, jr.2.2.1⟩
  have w0a : t1 0 11 = σ 0 11 := by rw [hF1 0 (by omega)]
  have w0b : t2 0 11 = t1 0 11 := by rw [hF2 0 (by omega)]
  have w1a : t1 268 58 = σ 268 58 := by rw [hF1 268 (by omega)]
  have w1b : t2 268 58 = t1 268 58 := by rw [hF2 268 (by omega)]
  have w2a : t1 136 7 = σ 136 7 := by rw [hF1 136 (by omega)]
  have w2b : t2 136 7 = t1 136 7 := by rw [hF2 136 (by omega)]
  have w3a : t1 146 7 = σ 146 7 := by rw [hF1 146 (by omega)]
  have w3b : t2 146 7 = t1 146 7 := by rw [hF2 146 (by omega)]
  have w4a : t1 269 37 = σ 269 37 := by rw [hF1 269 (by omega)]
  have w4b : t2 269 37 = t1 269 37 := hI2.2.2.2.1
  have w5a : t1 271 37 = σ 271 37 := by rw [hF1 271 (by omega)]
  have w5b : t2 271 37 = t1 271 37 := by rw [hF2 271 (by omega)]
  have jk0 := jr.2.2.2.2.2.1
  have jm0 := jr.2.2.2.2.2.2.1
  have jm1 := jr.2.2.2.2.2.2.2
  have g1 := IC.m jC2 xd_136
  have g2 := (IMn.n1 hI2.1).2.2.2.1
  have e5 : (t2 5 = t2 288 ∧ zk3 (t2 5)) := by rw [hF2 5 (by omega), hF1 5 (by omega), hF2 288 (by omega), hF1 288 (by omega)]; exact jr.2.2.2.1
  have e4 : (∀ j, 0 ≤ j → j < 100 → t2 4 j = t2 272 j ∧ 0 ≤ t2 4 j ∧ t2 4 j ≤ 3) := by rw [hF2 4 (by omega), hF1 4 (by omega), hF2 272 (by omega), hF1 272 (by omega)]; exact jr.2.2.2.2.1
  have hJ : lJ t2 (n + 1) := ⟨jC2, hI2.1, hI2.2.1, hI2.2.2.1, j02, ⟨by omega, by omega⟩, ⟨u6, u7.1, u7.2, e5, e4, by omega, by omega, by omega⟩⟩
  refine lv_pop hx hb dL_law_300 rfl ?_
  refine lv_goto (tgt := 990) hx hb dL_law_301 (by decide) ?_
  refine W.widen (k := cells + 1) (n := slots + 60) (by omega) (by omega) ?_
  exact kk H locs t2 hJ hW
theorem l_4 {p : Program} {e : Env} {s : State} {m : MethodId} {below : List Frame} {meth : Method} {c : Code} {l : Launch} {b h0 L : Nat} {xs : Nat → Int32} {D : va_G} {g : xG} {T : Nat × Nat × Nat} {H : Heap} {locs : List Loc} {ls : Array Slot} {cells slots : Nat} {Q : State → Prop} {σ : xS} {n : Nat} {i : Int} (hx : p.tables.exec = Jvm.exec) (hb : c.code = cL_law) (hml : c.maxLocals = 4) (hown : s.vm.findClass "ShadowCourtLaw" = some m.cls) (hT : ∀ w ∈ xTB, w.before #[Value.ref b] s = true) (hE : xE D g T h0 s) (hX : va_X b L xs s s.heap) (hbl : b < s.heap.size) (eh : h0 = s.heap.size) (hW : xW D g h0 s H locs σ) (hl : lv_has ls 4 [(3, .int (xJ i)), (2, .ref (h0 + 268)), (1, .ref (h0 + 0)), (0, .ref b)]) (hcs : cells ≤ 600000 ∧ slots ≤ 7302250) (hcs1 : cells + 1 ≤ 600000 ∧ slots + 60 ≤ 7302250) (hJ : lJ σ n) (hn : n ≤ 512) (hi : 0 ≤ i ∧ i + 5 < (L : Int) ∧ L ≤ 3072)
    (kk : ∀ (H : Heap) (locs : List Loc) (τ : xS), lJ τ (n + 1) → xW D g h0 s H locs τ → W p l e room_1 s m #[Value.ref b] below meth c H locs (cells + 1) (slots + 60) Q (F0 m 990 ls [])) : W p l e room_1 s m #[Value.ref b] below meth c H locs cells slots Q (F0 m 304 ls []) := by
  obtain ⟨jC, jn, jk, jo, j0, jz, jr⟩ := hJ
  obtain ⟨a1, e1, r1⟩ := xJ_ex (xs (i + 1).toNat)
  obtain ⟨a2, e2, r2⟩ := xJ_ex (xs (i + 2).toNat)
  refine x_aload_n hx hb hl 2 rfl dL_law_304 rfl ?_
  refine x_aload_n hx hb hl 3 rfl dL_law_305 rfl ?_
  refine x_iload_n hx hb hl 0 rfl dL_law_306 rfl ?_
  refine x_iconst hx hb dL_law_307 ?_
  refine x_iadd hx hb dL_law_308 ?_
  refine l_sld hx hb hX hbl eh hW (by omega) (by omega) e1 dL_law_309 ?_
  refine x_aload_n hx hb hl 3 rfl dL_law_310 rfl ?_
  refine x_iload_n hx hb hl 0 rfl dL_law_311 rfl ?_
  refine x_iconst hx hb dL_law_312 ?_
  refine b_pc (pc1 := 313) rfl ?_
  refine x_iadd hx hb dL_law_313 ?_
  refine l_sld hx hb hX hbl eh hW (by omega) (by omega) e2 dL_law_314 ?_
  refine x_goi (x_runV (As := [.int (xJ a1), .int (xJ a2)]) hx hb hml hown hT hE hW hl.1 (Or.inl (by decide)) (so_0 h0 g _) rfl cf_X10_walk wq712 wq713 wq711 (c_X10_walk l D g T h0 σ hW.2.1 a1 r1 a2 r2 ⟨by omega, by omega⟩ jC) ⟨rfl, rfl, ⟨by decide, by decide⟩, hcs1⟩ rfl rfl (Nat.le_of_ble_eq_true rfl) dL_law_315) hW (fun q1 t1 H locs rq1 hp hW => ?_)
  obtain ⟨hF1, hI1, hp1⟩ := hp
  have jC1 := hI1.1
  have jn1 : IMn t1 := IMn_f (fun k hk => hF1 k (by unfold suIMn at hk; omega)) jn
  have jk1 : IMk t1 := IMk_f (fun k hk => hF1 k (by unfold suIMk at hk; omega)) jk
  have jo1 : IMo t1 := IMo_f (fun k hk => hF1 k (by unfold suIMo at hk; omega)) jo
  have j01 : t1 0 11 = 0 ∨ t1 0 11 = 1 := by rw [hF1 0 (by omega)]; exact j0
  refine lv_pop hx hb dL_law_318 rfl ?_
  refine x_aload_n hx hb hl 1 rfl dL_law_319 rfl ?_
  refine x_aload_n hx hb hl 3 rfl dL_law_320 rfl ?_
  refine x_iload_n hx hb hl 0 rfl dL_law_321 rfl ?_
  refine x_iconst hx hb dL_law_322 ?_
  refine x_iadd hx hb dL_law_323 ?_
  refine l_sld hx hb hX hbl eh hW (by omega) (by omega) e1 dL_law_324 ?_
  refine b_pc (pc1 := 325) rfl ?_
  refine x_aload_n hx hb hl 3 rfl dL_law_325 rfl ?_
  refine x_iload_n hx hb hl 0 rfl dL_law_326 rfl ?_
  refine x_iconst hx hb dL_law_327 ?_
  refine x_iadd hx hb dL_law_328 ?_
  refine l_sld hx hb hX hbl eh hW (by omega) (by omega) e2 dL_law_329 ?_
  refine x_goi (x_runV (As := [.int (xJ a1), .int (xJ a2)]) hx hb hml hown hT hE hW hl.1 (Or.inl (by decide)) (so_268 h0 g _) rfl cf_X11_walk wq1441 wq1442 wq1440 (c_X11_walkM l D g T h0 t1 hW.2.1 a1 r1 a2 r2 jn1 jk1 jo1) ⟨rfl, rfl, ⟨by decide, by decide⟩, hcs1⟩ rfl rfl (Nat.le_of_ble_eq_true rfl) dL_law_330) hW (fun q2 t2 H locs rq2 hp hW => ?_)
  obtain ⟨hF2, hI2, hp2⟩ := hp
  have jC2 : IC t2 := IC_f (fun k hk => hF2 k (by unfold suIC at hk; omega)) jC1
  have j02 : t2 0 11 = 0 ∨ t2 0 11 = 1 := by rw [hF2 0 (by omega)]; exact j01
  have jz2 : t2 999996 0 = t1 999996 0 := by rw [hF2 999996 (by omega)]
  have u1 : t2 1 1 = t1 1 1 := by rw [hF2 1 (by omega)]
  have u2 : t1 268 8 = σ 268 8 := by rw [hF1 268 (by omega)]
  have u0 : σ 1 1 = σ 268 8 := jr.1
  have u6 : t2 1 1 = t2 268 8 := by omega
  have u7 : t2 2 = xm8 (t2 276) ∧ xb8 (t2 276) := by rw [hF2 2 (by omega), hF1 2 (by omega), hF2 276 (by omega), hF1 276 (by omega)]; exact ⟨jr.2.1, jr.2.2.1⟩
  have w0a : t1 0 11 = σ 0 11 := by rw [hF1 0 (by omega)]
  have w0b : t2 0 11 = t1 0 11 := by rw [hF2 0 (by omega)]
  have w1a : t1 268 58 = σ 268 58 := by rw [hF1 268 (by omega)]
  have w1b : t2 268 58 = t1 268 58 := hI2.2.2.2.1
  have w2a : t1 136 7 = σ 136 7 := by rw [hF1 136 (by omega)]
  have w2b : t2 136 7 = t1 136 7 := by rw [hF2 136 (by omega)]
  have w3a : t1 146 7 = σ 146 7 := by rw [hF1 146 (by omega)]
  have w3b : t2 146 7 = t1 146 7 := by rw [hF2 146 (by omega)]
  have w4a : t1 269 37 = σ 269 37 := by rw [hF1 269 (by omega)]
  have w4b : t2 269 37 = t1 269 37 := hI2.2.2.2.2.1
  have w5a : t1 271 37 = σ 271 37 := by rw [hF1 271 (by omega)]
  have w5b : t2 271 37 = t1 271 37 := by rw [hF2 271 (by omega)]
  have jk0 := jr.2.2.2.2.2.1
  have jm0 := jr.2.2.2.2.2.2.1
  have jm1 := jr.2.2.2.2.2.2.2
  have g1 := IC.m jC2 xd_136
  have g2 := (IMn.n1 hI2.1).2.2.2.1
  have e5 : (t2 5 = t2 288 ∧ zk3 (t2 5)) := by rw [hF2 5 (by omega), hF1 5 (by omega), hF2 288 (by omega), hF1 288 (by omega)]; exact jr.2.2.2.1
  have e4 : (∀ j, 0 ≤ j → j < 100 → t2 4 j = t2 272 j ∧ 0 ≤ t2 4 j ∧ t2 4 j ≤ 3) := by rw [hF2 4 (by omega), hF1 4 (by omega), hF2 272 (by omega), hF1 272 (by omega)]; exact jr.2.2.2.2.1
  have hJ : lJ t2 (n + 1) := ⟨jC2, hI2.1, hI2.2.1, hI2.2.2.1, j02, ⟨by omega, by omega⟩, ⟨u6, u7.1, u7.2, e5, e4, by omega, by omega, by omega⟩⟩
  refine lv_pop hx hb dL_law_333 rfl ?_
  refine lv_goto (tgt := 990) hx hb dL_law_334 (by decide) ?_
  refine W.widen (k := cells + 1) (n := slots + 60) (by omega) (by omega) ?_
  exact kk H locs t2 hJ hW
theorem l_5 {p : Program} {e : Env} {s : State} {m : MethodId} {below : List Frame} {meth : Method} {c : Code} {l : Launch} {b h0 L : Nat} {xs : Nat → Int32} {D : va_G} {g : xG} {T : Nat × Nat × Nat} {H : Heap} {locs : List Loc} {ls : Array Slot} {cells slots : Nat} {Q : State → Prop} {σ : xS} {n : Nat} {i : Int} (hx : p.tables.exec = Jvm.exec) (hb : c.code = cL_law) (hml : c.maxLocals = 4) (hown : s.vm.findClass "ShadowCourtLaw" = some m.cls) (hT : ∀ w ∈ xTB, w.before #[Value.ref b] s = true) (hE : xE D g T h0 s) (hX : va_X b L xs s s.heap) (hbl : b < s.heap.size) (eh : h0 = s.heap.size) (hW : xW D g h0 s H locs σ) (hl : lv_has ls 4 [(3, .int (xJ i)), (2, .ref (h0 + 268)), (1, .ref (h0 + 0)), (0, .ref b)]) (hcs : cells ≤ 600000 ∧ slots ≤ 7302250) (hcs1 : cells + 1 ≤ 600000 ∧ slots + 60 ≤ 7302250) (hJ : lJ σ n) (hn : n ≤ 512) (hi : 0 ≤ i ∧ i + 5 < (L : Int) ∧ L ≤ 3072)
    (kk : ∀ (H : Heap) (locs : List Loc) (τ : xS), lJ τ (n + 1) → xW D g h0 s H locs τ → W p l e room_1 s m #[Value.ref b] below meth c H locs (cells + 1) (slots + 60) Q (F0 m 990 ls [])) : W p l e room_1 s m #[Value.ref b] below meth c H locs cells slots Q (F0 m 337 ls []) := by
  obtain ⟨jC, jn, jk, jo, j0, jz, jr⟩ := hJ
  obtain ⟨a1, e1, r1⟩ := xJ_ex (xs (i + 1).toNat)
  obtain ⟨a2, e2, r2⟩ := xJ_ex (xs (i + 2).toNat)
  obtain ⟨a3, e3, r3⟩ := xJ_ex (xs (i + 3).toNat)
  obtain ⟨a4, e4, r4⟩ := xJ_ex (xs (i + 4).toNat)
  refine x_aload_n hx hb hl 2 rfl dL_law_337 rfl ?_
  refine x_aload_n hx hb hl 3 rfl dL_law_338 rfl ?_
  refine x_iload_n hx hb hl 0 rfl dL_law_339 rfl ?_
  refine x_iconst hx hb dL_law_340 ?_
  refine x_iadd hx hb dL_law_341 ?_
  refine l_sld hx hb hX hbl eh hW (by omega) (by omega) e1 dL_law_342 ?_
  refine x_aload_n hx hb hl 3 rfl dL_law_343 rfl ?_
  refine x_iload_n hx hb hl 0 rfl dL_law_344 rfl ?_
  refine x_iconst hx hb dL_law_345 ?_
  refine b_pc (pc1 := 346) rfl ?_
  refine x_iadd hx hb dL_law_346 ?_
  refine l_sld hx hb hX hbl eh hW (by omega) (by omega) e2 dL_law_347 ?_
  refine x_aload_n hx hb hl 3 rfl dL_law_348 rfl ?_
  refine x_iload_n hx hb hl 0 rfl dL_law_349 rfl ?_
  refine x_iconst hx hb dL_law_350 ?_
  refine x_iadd hx hb dL_law_351 ?_
  refine l_sld hx hb hX hbl eh hW (by omega) (by omega) e3 dL_law_352 ?_
  refine x_aload_n hx hb hl 3 rfl dL_law_353 rfl ?_
  refine x_iload_n hx hb hl 0 rfl dL_law_354 rfl ?_
  refine x_iconst hx hb dL_law_355 ?_
  refine b_pc (pc1 := 356) rfl ?_
  refine x_iadd hx hb dL_law_356 ?_
  refine l_sld hx hb hX hbl eh hW (by omega) (by omega) e4 dL_law_357 ?_
  refine x_goi (x_runV (As := [.int (xJ a1), .int (xJ a2), .int (xJ a3), .int (xJ a4)]) hx hb hml hown hT hE hW hl.1 (Or.inl (by decide)) (so_0 h0 g _) rfl cf_X10_felon wq748 wq749 wq747 (c_X10_felonM l D g T h0 σ hW.2.1 a1 r1 a2 r2 a3 r3 a4 r4 jC) ⟨rfl, rfl, ⟨by decide, by decide⟩, hcs⟩ rfl rfl (Nat.le_of_ble_eq_true rfl) dL_law_358) hW (fun q1 t1 H locs rq1 hp hW => ?_)
  obtain ⟨hF1, hI1, hp1⟩ := hp
  have jC1 := hI1.1
  have jn1 : IMn t1 := IMn_f (fun k hk => hF1 k (by unfold suIMn at hk; omega)) jn
  have jk1 : IMk t1 := IMk_f (fun k hk => hF1 k (by unfold suIMk at hk; omega)) jk
  have jo1 : IMo t1 := IMo_f (fun k hk => hF1 k (by unfold suIMo at hk; omega)) jo
  have j01 : t1 0 11 = 0 ∨ t1 0 11 = 1 := by rw [hF1 0 (by omega)]; exact j0
  have jz1 : t1 999996 0 = σ 999996 0 := by rw [hF1 999996 (by omega)]
  refine lv_pop hx hb dL_law_361 rfl ?_
  refine x_aload_n hx hb hl 1 rfl dL_law_362 rfl ?_
  refine x_aload_n hx hb hl 3 rfl dL_law_363 rfl ?_
  refine x_iload_n hx hb hl 0 rfl dL_law_364 rfl ?_
  refine x_iconst hx hb dL_law_365 ?_
  refine x_iadd hx hb dL_law_366 ?_
  refine l_sld hx hb hX hbl eh hW (by omega) (by omega) e1 dL_law_367 ?_
  refine b_pc (pc1 := 368) rfl ?_
  refine x_aload_n hx hb hl 3 rfl dL_law_368 rfl ?_
  refine x_iload_n hx hb hl 0 rfl dL_law_369 rfl ?_
  refine x_iconst hx hb dL_law_370 ?_
  refine x_iadd hx hb dL_law_371 ?_
  refine l_sld hx hb hX hbl eh hW (by omega) (by omega) e2 dL_law_372 ?_
  refine x_aload_n hx hb hl 3 rfl dL_law_373 rfl ?_
  refine x_iload_n hx hb hl 0 rfl dL_law_374 rfl ?_
  refine x_iconst hx hb dL_law_375 ?_
  refine x_iadd hx hb dL_law_376 ?_
  refine l_sld hx hb hX hbl eh hW (by omega) (by omega) e3 dL_law_377 ?_
  refine b_pc (pc1 := 378) rfl ?_
  refine x_aload_n hx hb hl 3 rfl dL_law_378 rfl ?_
  refine x_iload_n hx hb hl 0 rfl dL_law_379 rfl ?_
  refine x_iconst hx hb dL_law_380 ?_
  refine x_iadd hx hb dL_law_381 ?_
  refine l_sld hx hb hX hbl eh hW (by omega) (by omega) e4 dL_law_382 ?_
  refine x_goi (x_runV (As := [.int (xJ a1), .int (xJ a2), .int (xJ a3), .int (xJ a4)]) hx hb hml hown hT hE hW hl.1 (Or.inl (by decide)) (so_268 h0 g _) rfl cf_X11_felon wq1433 wq1434 wq1432 (c_X11_felonM l D g T h0 t1 hW.2.1 a1 r1 a2 r2 a3 r3 a4 r4 jn1 jk1 jo1) ⟨rfl, rfl, ⟨by decide, by decide⟩, hcs⟩ rfl rfl (Nat.le_of_ble_eq_true rfl) dL_law_383) hW (fun q2 t2 H locs rq2 hp hW => ?_)
  obtain ⟨hF2, hI2, hp2⟩ := hp
  have jC2 : IC t2 := IC_f (fun k hk => hF2 k (by unfold suIC at hk; omega)) jC1
  have j02 : t2 0 11 = 0 ∨ t2 0 11 = 1 := by rw [hF2 0 (by omega)]; exact j01
  have jz2 : t2 999996 0 = t1 999996 0 := by rw [hF2 999996 (by omega)]
  have u1 : t2 1 1 = t1 1 1 := by rw [hF2 1 (by omega)]
  have u2 : t1 268 8 = σ 268 8 := by rw [hF1 268 (by omega)]
  have u0 : σ 1 1 = σ 268 8 := jr.1
  have u3 : t1 1 1 = σ 1 1 := by rw [hF1 1 (by omega)]
  have u4 : t2 268 8 = t1 268 8 := by rw [hF2 268 (by omega)]
  have u6 : t2 1 1 = t2 268 8 := by omega
  have u7 : t2 2 = xm8 (t2 276) ∧ xb8 (t2 276) := by rw [hF2 2 (by omega), hF1 2 (by omega), hF2 276 (by omega), hF1 276 (by omega)]; exact ⟨jr.2.1, jr.2.2.1⟩
  have w0a : t1 0 11 = σ 0 11 := by rw [hF1 0 (by omega)]
  have w0b : t2 0 11 = t1 0 11 := by rw [hF2 0 (by omega)]
  have w1a : t1 268 58 = σ 268 58 := by rw [hF1 268 (by omega)]
  have w1b : t2 268 58 = t1 268 58 := by rw [hF2 268 (by omega)]
  have w2a : t1 136 7 = σ 136 7 := by rw [hF1 136 (by omega)]
  have w2b : t2 136 7 = t1 136 7 := by rw [hF2 136 (by omega)]
  have w3a : t1 146 7 = σ 146 7 := by rw [hF1 146 (by omega)]
  have w3b : t2 146 7 = t1 146 7 := by rw [hF2 146 (by omega)]
  have w4a : t1 269 37 = σ 269 37 := by rw [hF1 269 (by omega)]
  have w4b : t2 269 37 = t1 269 37 := hI2.2.2.2.1
  have w5a : t1 271 37 = σ 271 37 := by rw [hF1 271 (by omega)]
  have w5b : t2 271 37 = t1 271 37 := by rw [hF2 271 (by omega)]
  have jk0 := jr.2.2.2.2.2.1
  have jm0 := jr.2.2.2.2.2.2.1
  have jm1 := jr.2.2.2.2.2.2.2
  have g1 := IC.m jC2 xd_136
  have g2 := (IMn.n1 hI2.1).2.2.2.1
  have e5 : (t2 5 = t2 288 ∧ zk3 (t2 5)) := by rw [hF2 5 (by omega), hF1 5 (by omega), hF2 288 (by omega), hF1 288 (by omega)]; exact jr.2.2.2.1
  have e4 : (∀ j, 0 ≤ j → j < 100 → t2 4 j = t2 272 j ∧ 0 ≤ t2 4 j ∧ t2 4 j ≤ 3) := by rw [hF2 4 (by omega), hF1 4 (by omega), hF2 272 (by omega), hF1 272 (by omega)]; exact jr.2.2.2.2.1
  have hJ : lJ t2 (n + 1) := ⟨jC2, hI2.1, hI2.2.1, hI2.2.2.1, j02, ⟨by omega, by omega⟩, ⟨u6, u7.1, u7.2, e5, e4, by omega, by omega, by omega⟩⟩
  refine lv_pop hx hb dL_law_386 rfl ?_
  refine lv_goto (tgt := 990) hx hb dL_law_387 (by decide) ?_
  refine W.widen (k := cells + 1) (n := slots + 60) (by omega) (by omega) ?_
  exact kk H locs t2 hJ hW
theorem l_6 {p : Program} {e : Env} {s : State} {m : MethodId} {below : List Frame} {meth : Method} {c : Code} {l : Launch} {b h0 L : Nat} {xs : Nat → Int32} {D : va_G} {g : xG} {T : Nat × Nat × Nat} {H : Heap} {locs : List Loc} {ls : Array Slot} {cells slots : Nat} {Q : State → Prop} {σ : xS} {n : Nat} {i : Int} (hx : p.tables.exec = Jvm.exec) (hb : c.code = cL_law) (hml : c.maxLocals = 4) (hown : s.vm.findClass "ShadowCourtLaw" = some m.cls) (hT : ∀ w ∈ xTB, w.before #[Value.ref b] s = true) (hE : xE D g T h0 s) (hX : va_X b L xs s s.heap) (hbl : b < s.heap.size) (eh : h0 = s.heap.size) (hW : xW D g h0 s H locs σ) (hl : lv_has ls 4 [(3, .int (xJ i)), (2, .ref (h0 + 268)), (1, .ref (h0 + 0)), (0, .ref b)]) (hcs : cells ≤ 600000 ∧ slots ≤ 7302250) (hcs1 : cells + 1 ≤ 600000 ∧ slots + 60 ≤ 7302250) (hJ : lJ σ n) (hn : n ≤ 512) (hi : 0 ≤ i ∧ i + 5 < (L : Int) ∧ L ≤ 3072)
    (kk : ∀ (H : Heap) (locs : List Loc) (τ : xS), lJ τ (n + 1) → xW D g h0 s H locs τ → W p l e room_1 s m #[Value.ref b] below meth c H locs (cells + 1) (slots + 60) Q (F0 m 990 ls [])) : W p l e room_1 s m #[Value.ref b] below meth c H locs cells slots Q (F0 m 390 ls []) := by
  obtain ⟨jC, jn, jk, jo, j0, jz, jr⟩ := hJ
  obtain ⟨a1, e1, r1⟩ := xJ_ex (xs (i + 1).toNat)
  obtain ⟨a2, e2, r2⟩ := xJ_ex (xs (i + 2).toNat)
  obtain ⟨a3, e3, r3⟩ := xJ_ex (xs (i + 3).toNat)
  refine x_aload_n hx hb hl 2 rfl dL_law_390 rfl ?_
  refine x_aload_n hx hb hl 3 rfl dL_law_391 rfl ?_
  refine x_iload_n hx hb hl 0 rfl dL_law_392 rfl ?_
  refine x_iconst hx hb dL_law_393 ?_
  refine x_iadd hx hb dL_law_394 ?_
  refine l_sld hx hb hX hbl eh hW (by omega) (by omega) e1 dL_law_395 ?_
  refine x_aload_n hx hb hl 3 rfl dL_law_396 rfl ?_
  refine x_iload_n hx hb hl 0 rfl dL_law_397 rfl ?_
  refine x_iconst hx hb dL_law_398 ?_
  refine b_pc (pc1 := 399) rfl ?_
  refine x_iadd hx hb dL_law_399 ?_
  refine l_sld hx hb hX hbl eh hW (by omega) (by omega) e2 dL_law_400 ?_
  refine x_aload_n hx hb hl 3 rfl dL_law_401 rfl ?_
  refine x_iload_n hx hb hl 0 rfl dL_law_402 rfl ?_
  refine x_iconst hx hb dL_law_403 ?_
  refine x_iadd hx hb dL_law_404 ?_
  refine l_sld hx hb hX hbl eh hW (by omega) (by omega) e3 dL_law_405 ?_
  refine x_goi (x_runV (As := [.int (xJ a1), .int (xJ a2), .int (xJ a3)]) hx hb hml hown hT hE hW hl.1 (Or.inl (by decide)) (so_0 h0 g _) rfl cf_X10_lamp wq752 wq753 wq751 (c_X10_lampM l D g T h0 σ hW.2.1 a1 r1 a2 r2 a3 r3 jC) ⟨rfl, rfl, ⟨by decide, by decide⟩, hcs⟩ rfl rfl (Nat.le_of_ble_eq_true rfl) dL_law_406) hW (fun q1 t1 H locs rq1 hp hW => ?_)
  obtain ⟨hF1, hI1, hp1⟩ := hp
  have jC1 := hI1.1
  have jn1 : IMn t1 := IMn_f (fun k hk => hF1 k (by unfold suIMn at hk; omega)) jn
  have jk1 : IMk t1 := IMk_f (fun k hk => hF1 k (by unfold suIMk at hk; omega)) jk
  have jo1 : IMo t1 := IMo_f (fun k hk => hF1 k (by unfold suIMo at hk; omega)) jo
  have j01 : t1 0 11 = 0 ∨ t1 0 11 = 1 := by rw [hF1 0 (by omega)]; exact j0
  have jz1 : t1 999996 0 = σ 999996 0 := by rw [hF1 999996 (by omega)]
  refine lv_pop hx hb dL_law_409 rfl ?_
  refine x_aload_n hx hb hl 1 rfl dL_law_410 rfl ?_
  refine b_pc (pc1 := 411) rfl ?_
  refine x_aload_n hx hb hl 3 rfl dL_law_411 rfl ?_
  refine x_iload_n hx hb hl 0 rfl dL_law_412 rfl ?_
  refine x_iconst hx hb dL_law_413 ?_
  refine x_iadd hx hb dL_law_414 ?_
  refine l_sld hx hb hX hbl eh hW (by omega) (by omega) e1 dL_law_415 ?_
  refine x_aload_n hx hb hl 3 rfl dL_law_416 rfl ?_
  refine x_iload_n hx hb hl 0 rfl dL_law_417 rfl ?_
  refine x_iconst hx hb dL_law_418 ?_
  refine x_iadd hx hb dL_law_419 ?_
  refine l_sld hx hb hX hbl eh hW (by omega) (by omega) e2 dL_law_420 ?_
  refine b_pc (pc1 := 421) rfl ?_
  refine x_aload_n hx hb hl 3 rfl dL_law_421 rfl ?_
  refine x_iload_n hx hb hl 0 rfl dL_law_422 rfl ?_
  refine x_iconst hx hb dL_law_423 ?_
  refine x_iadd hx hb dL_law_424 ?_
  refine l_sld hx hb hX hbl eh hW (by omega) (by omega) e3 dL_law_425 ?_
  refine x_goi (x_runV (As := [.int (xJ a1), .int (xJ a2), .int (xJ a3)]) hx hb hml hown hT hE hW hl.1 (Or.inl (by decide)) (so_268 h0 g _) rfl cf_X11_lamp wq1437 wq1438 wq1436 (c_X11_lampM l D g T h0 t1 hW.2.1 a1 r1 a2 r2 a3 r3 jn1 jk1 jo1) ⟨rfl, rfl, ⟨by decide, by decide⟩, hcs⟩ rfl rfl (Nat.le_of_ble_eq_true rfl) dL_law_426) hW (fun q2 t2 H locs rq2 hp hW => ?_)
  obtain ⟨hF2, hI2, hp2⟩ := hp
  have jC2 : IC t2 := IC_f (fun k hk => hF2 k (by unfold suIC at hk; omega)) jC1
  have j02 : t2 0 11 = 0 ∨ t2 0 11 = 1 := by rw [hF2 0 (by omega)]; exact j01
  have jz2 : t2 999996 0 = t1 999996 0 := by rw [hF2 999996 (by omega)]
  have u1 : t2 1 1 = t1 1 1 := by rw [hF2 1 (by omega)]
  have u2 : t1 268 8 = σ 268 8 := by rw [hF1 268 (by omega)]
  have u0 : σ 1 1 = σ 268 8 := jr.1
  have u3 : t1 1 1 = σ 1 1 := by rw [hF1 1 (by omega)]
  have u4 : t2 268 8 = t1 268 8 := by rw [hF2 268 (by omega)]
  have u6 : t2 1 1 = t2 268 8 := by omega
  have u7 : t2 2 = xm8 (t2 276) ∧ xb8 (t2 276) := by rw [hF2 2 (by omega), hF1 2 (by omega), hF2 276 (by omega), hF1 276 (by omega)]; exact ⟨jr.2.1, jr.2.2.1⟩
  have w0a : t1 0 11 = σ 0 11 := by rw [hF1 0 (by omega)]
  have w0b : t2 0 11 = t1 0 11 := by rw [hF2 0 (by omega)]
  have w1a : t1 268 58 = σ 268 58 := by rw [hF1 268 (by omega)]
  have w1b : t2 268 58 = t1 268 58 := by rw [hF2 268 (by omega)]
  have w2a : t1 136 7 = σ 136 7 := by rw [hF1 136 (by omega)]
  have w2b : t2 136 7 = t1 136 7 := by rw [hF2 136 (by omega)]
  have w3a : t1 146 7 = σ 146 7 := by rw [hF1 146 (by omega)]
  have w3b : t2 146 7 = t1 146 7 := by rw [hF2 146 (by omega)]
  have w4a : t1 269 37 = σ 269 37 := by rw [hF1 269 (by omega)]
  have w4b : t2 269 37 = t1 269 37 := by rw [hF2 269 (by omega)]
  have w5a : t1 271 37 = σ 271 37 := by rw [hF1 271 (by omega)]
  have w5b : t2 271 37 = t1 271 37 := by rw [hF2 271 (by omega)]
  have jk0 := jr.2.2.2.2.2.1
  have jm0 := jr.2.2.2.2.2.2.1
  have jm1 := jr.2.2.2.2.2.2.2
  have g1 := IC.m jC2 xd_136
  have g2 := (IMn.n1 hI2.1).2.2.2.1
  have e5 : (t2 5 = t2 288 ∧ zk3 (t2 5)) := by rw [hF2 5 (by omega), hF1 5 (by omega), hF2 288 (by omega), hF1 288 (by omega)]; exact jr.2.2.2.1
  have e4 : (∀ j, 0 ≤ j → j < 100 → t2 4 j = t2 272 j ∧ 0 ≤ t2 4 j ∧ t2 4 j ≤ 3) := by rw [hF2 4 (by omega), hF1 4 (by omega), hF2 272 (by omega), hF1 272 (by omega)]; exact jr.2.2.2.2.1
  have hJ : lJ t2 (n + 1) := ⟨jC2, hI2.1, hI2.2.1, hI2.2.2.1, j02, ⟨by omega, by omega⟩, ⟨u6, u7.1, u7.2, e5, e4, by omega, by omega, by omega⟩⟩
  refine lv_pop hx hb dL_law_429 rfl ?_
  refine lv_goto (tgt := 990) hx hb dL_law_430 (by decide) ?_
  refine W.widen (k := cells + 1) (n := slots + 60) (by omega) (by omega) ?_
  exact kk H locs t2 hJ hW
theorem l_7 {p : Program} {e : Env} {s : State} {m : MethodId} {below : List Frame} {meth : Method} {c : Code} {l : Launch} {b h0 L : Nat} {xs : Nat → Int32} {D : va_G} {g : xG} {T : Nat × Nat × Nat} {H : Heap} {locs : List Loc} {ls : Array Slot} {cells slots : Nat} {Q : State → Prop} {σ : xS} {n : Nat} {i : Int} (hx : p.tables.exec = Jvm.exec) (hb : c.code = cL_law) (hml : c.maxLocals = 4) (hown : s.vm.findClass "ShadowCourtLaw" = some m.cls) (hT : ∀ w ∈ xTB, w.before #[Value.ref b] s = true) (hE : xE D g T h0 s) (hX : va_X b L xs s s.heap) (hbl : b < s.heap.size) (eh : h0 = s.heap.size) (hW : xW D g h0 s H locs σ) (hl : lv_has ls 4 [(3, .int (xJ i)), (2, .ref (h0 + 268)), (1, .ref (h0 + 0)), (0, .ref b)]) (hcs : cells ≤ 600000 ∧ slots ≤ 7302250) (hcs1 : cells + 1 ≤ 600000 ∧ slots + 60 ≤ 7302250) (hJ : lJ σ n) (hn : n ≤ 512) (hi : 0 ≤ i ∧ i + 5 < (L : Int) ∧ L ≤ 3072)
    (kk : ∀ (H : Heap) (locs : List Loc) (τ : xS), lJ τ (n + 1) → xW D g h0 s H locs τ → W p l e room_1 s m #[Value.ref b] below meth c H locs (cells + 1) (slots + 60) Q (F0 m 990 ls [])) : W p l e room_1 s m #[Value.ref b] below meth c H locs cells slots Q (F0 m 433 ls []) := by
  obtain ⟨jC, jn, jk, jo, j0, jz, jr⟩ := hJ
  obtain ⟨a1, e1, r1⟩ := xJ_ex (xs (i + 1).toNat)
  refine x_aload_n hx hb hl 2 rfl dL_law_433 rfl ?_
  refine x_aload_n hx hb hl 3 rfl dL_law_434 rfl ?_
  refine x_iload_n hx hb hl 0 rfl dL_law_435 rfl ?_
  refine x_iconst hx hb dL_law_436 ?_
  refine x_iadd hx hb dL_law_437 ?_
  refine l_sld hx hb hX hbl eh hW (by omega) (by omega) e1 dL_law_438 ?_
  refine x_goi (x_runV (As := [.int (xJ a1)]) hx hb hml hown hT hE hW hl.1 (Or.inl (by decide)) (so_0 h0 g _) rfl cf_X10_minutes wq756 wq757 wq755 (c_X10_minutesM l D g T h0 σ hW.2.1 a1 r1 jC) ⟨rfl, rfl, ⟨by decide, by decide⟩, hcs⟩ rfl rfl (Nat.le_of_ble_eq_true rfl) dL_law_439) hW (fun q1 t1 H locs rq1 hp hW => ?_)
  obtain ⟨hF1, hI1, hp1⟩ := hp
  have jC1 := hI1.1
  have jn1 : IMn t1 := IMn_f (fun k hk => hF1 k (by unfold suIMn at hk; omega)) jn
  have jk1 : IMk t1 := IMk_f (fun k hk => hF1 k (by unfold suIMk at hk; omega)) jk
  have jo1 : IMo t1 := IMo_f (fun k hk => hF1 k (by unfold suIMo at hk; omega)) jo
  have j01 : t1 0 11 = 0 ∨ t1 0 11 = 1 := by rw [hF1 0 (by omega)]; exact j0
  have jz1 : t1 999996 0 = σ 999996 0 := by rw [hF1 999996 (by omega)]
  refine lv_pop hx hb dL_law_442 rfl ?_
  refine x_aload_n hx hb hl 1 rfl dL_law_443 rfl ?_
  refine b_pc (pc1 := 444) rfl ?_
  refine x_aload_n hx hb hl 3 rfl dL_law_444 rfl ?_
  refine x_iload_n hx hb hl 0 rfl dL_law_445 rfl ?_
  refine x_iconst hx hb dL_law_446 ?_
  refine x_iadd hx hb dL_law_447 ?_
  refine l_sld hx hb hX hbl eh hW (by omega) (by omega) e1 dL_law_448 ?_
  refine x_goi (x_runV (As := [.int (xJ a1)]) hx hb hml hown hT hE hW hl.1 (Or.inl (by decide)) (so_268 h0 g _) rfl cf_X11_minutes wq1534 wq1535 wq1533 (c_X11_minutesM l D g T h0 t1 hW.2.1 a1 r1 jn1 jk1 jo1) ⟨rfl, rfl, ⟨by decide, by decide⟩, hcs⟩ rfl rfl (Nat.le_of_ble_eq_true rfl) dL_law_449) hW (fun q2 t2 H locs rq2 hp hW => ?_)
  obtain ⟨hF2, hI2, hp2⟩ := hp
  have jC2 : IC t2 := IC_f (fun k hk => hF2 k (by unfold suIC at hk; omega)) jC1
  have j02 : t2 0 11 = 0 ∨ t2 0 11 = 1 := by rw [hF2 0 (by omega)]; exact j01
  have jz2 : t2 999996 0 = t1 999996 0 := by rw [hF2 999996 (by omega)]
  have u1 : t2 1 1 = t1 1 1 := by rw [hF2 1 (by omega)]
  have u2 : t1 268 8 = σ 268 8 := by rw [hF1 268 (by omega)]
  have u0 : σ 1 1 = σ 268 8 := jr.1
  have u3 : t1 1 1 = σ 1 1 := by rw [hF1 1 (by omega)]
  have u4 : t2 268 8 = t1 268 8 := hI2.2.2.2.1
  have u6 : t2 1 1 = t2 268 8 := by omega
  have u7 : t2 2 = xm8 (t2 276) ∧ xb8 (t2 276) := by rw [hF2 2 (by omega), hF1 2 (by omega), hF2 276 (by omega), hF1 276 (by omega)]; exact ⟨jr.2.1, jr.2.2.1⟩
  have w0a : t1 0 11 = σ 0 11 := by rw [hF1 0 (by omega)]
  have w0b : t2 0 11 = t1 0 11 := by rw [hF2 0 (by omega)]
  have w1a : t1 268 58 = σ 268 58 := by rw [hF1 268 (by omega)]
  have w1b : t2 268 58 = t1 268 58 := hI2.2.2.2.2.1
  have w2b : t2 136 7 = t1 136 7 := by rw [hF2 136 (by omega)]
  have w3a : t1 146 7 = σ 146 7 := by rw [hF1 146 (by omega)]
  have w3b : t2 146 7 = t1 146 7 := by rw [hF2 146 (by omega)]
  have w4a : t1 269 37 = σ 269 37 := by rw [hF1 269 (by omega)]
  have w5a : t1 271 37 = σ 271 37 := by rw [hF1 271 (by omega)]
  have w5b : t2 271 37 = t1 271 37 := by rw [hF2 271 (by omega)]
  have jk0 := jr.2.2.2.2.2.1
  have jm0 := jr.2.2.2.2.2.2.1
  have jm1 := jr.2.2.2.2.2.2.2
  have g1 := IC.m jC2 xd_136
  have g2 := (IMn.n1 hI2.1).2.2.2.1
  have e5 : (t2 5 = t2 288 ∧ zk3 (t2 5)) := by rw [hF2 5 (by omega), hF1 5 (by omega), hF2 288 (by omega), hF1 288 (by omega)]; exact jr.2.2.2.1
  have e4 : (∀ j, 0 ≤ j → j < 100 → t2 4 j = t2 272 j ∧ 0 ≤ t2 4 j ∧ t2 4 j ≤ 3) := by rw [hF2 4 (by omega), hF1 4 (by omega), hF2 272 (by omega), hF1 272 (by omega)]; exact jr.2.2.2.2.1
  have hJ : lJ t2 (n + 1) := ⟨jC2, hI2.1, hI2.2.1, hI2.2.2.1, j02, ⟨by omega, by omega⟩, ⟨u6, u7.1, u7.2, e5, e4, by omega, by omega, by omega⟩⟩
  refine lv_pop hx hb dL_law_452 rfl ?_
  refine lv_goto (tgt := 990) hx hb dL_law_453 (by decide) ?_
  refine W.widen (k := cells + 1) (n := slots + 60) (by omega) (by omega) ?_
  exact kk H locs t2 hJ hW
theorem l_8 {p : Program} {e : Env} {s : State} {m : MethodId} {below : List Frame} {meth : Method} {c : Code} {l : Launch} {b h0 L : Nat} {xs : Nat → Int32} {D : va_G} {g : xG} {T : Nat × Nat × Nat} {H : Heap} {locs : List Loc} {ls : Array Slot} {cells slots : Nat} {Q : State → Prop} {σ : xS} {n : Nat} {i : Int} (hx : p.tables.exec = Jvm.exec) (hb : c.code = cL_law) (hml : c.maxLocals = 4) (hown : s.vm.findClass "ShadowCourtLaw" = some m.cls) (hT : ∀ w ∈ xTB, w.before #[Value.ref b] s = true) (hE : xE D g T h0 s) (hX : va_X b L xs s s.heap) (hbl : b < s.heap.size) (eh : h0 = s.heap.size) (hW : xW D g h0 s H locs σ) (hl : lv_has ls 4 [(3, .int (xJ i)), (2, .ref (h0 + 268)), (1, .ref (h0 + 0)), (0, .ref b)]) (hcs : cells ≤ 600000 ∧ slots ≤ 7302250) (hcs1 : cells + 1 ≤ 600000 ∧ slots + 60 ≤ 7302250) (hJ : lJ σ n) (hn : n ≤ 512) (hi : 0 ≤ i ∧ i + 5 < (L : Int) ∧ L ≤ 3072)
    (kk : ∀ (H : Heap) (locs : List Loc) (τ : xS), lJ τ (n + 1) → xW D g h0 s H locs τ → W p l e room_1 s m #[Value.ref b] below meth c H locs (cells + 1) (slots + 60) Q (F0 m 990 ls [])) : W p l e room_1 s m #[Value.ref b] below meth c H locs cells slots Q (F0 m 456 ls []) := by
  obtain ⟨jC, jn, jk, jo, j0, jz, jr⟩ := hJ
  obtain ⟨a1, e1, r1⟩ := xJ_ex (xs (i + 1).toNat)
  obtain ⟨a2, e2, r2⟩ := xJ_ex (xs (i + 2).toNat)
  refine x_aload_n hx hb hl 2 rfl dL_law_456 rfl ?_
  refine x_aload_n hx hb hl 3 rfl dL_law_457 rfl ?_
  refine x_iload_n hx hb hl 0 rfl dL_law_458 rfl ?_
  refine x_iconst hx hb dL_law_459 ?_
  refine x_iadd hx hb dL_law_460 ?_
  refine l_sld hx hb hX hbl eh hW (by omega) (by omega) e1 dL_law_461 ?_
  refine x_aload_n hx hb hl 3 rfl dL_law_462 rfl ?_
  refine x_iload_n hx hb hl 0 rfl dL_law_463 rfl ?_
  refine x_iconst hx hb dL_law_464 ?_
  refine b_pc (pc1 := 465) rfl ?_
  refine x_iadd hx hb dL_law_465 ?_
  refine l_sld hx hb hX hbl eh hW (by omega) (by omega) e2 dL_law_466 ?_
  refine x_goi (x_runV (As := [.int (xJ a1), .int (xJ a2)]) hx hb hml hown hT hE hW hl.1 (Or.inl (by decide)) (so_0 h0 g _) rfl cf_X10_tried wq903 wq904 wq902 (c_X10_tried l D g T h0 σ hW.2.1 a1 r1 a2 r2 jC) ⟨rfl, rfl, ⟨by decide, by decide⟩, hcs⟩ rfl rfl (Nat.le_of_ble_eq_true rfl) dL_law_467) hW (fun q1 t1 H locs rq1 hp hW => ?_)
  obtain ⟨hF1, hI1, hp1⟩ := hp
  have jC1 := hI1.1
  have jn1 : IMn t1 := IMn_f (fun k hk => hF1 k (by unfold suIMn at hk; omega)) jn
  have jk1 : IMk t1 := IMk_f (fun k hk => hF1 k (by unfold suIMk at hk; omega)) jk
  have jo1 : IMo t1 := IMo_f (fun k hk => hF1 k (by unfold suIMo at hk; omega)) jo
  have j01 : t1 0 11 = 0 ∨ t1 0 11 = 1 := by rw [hF1 0 (by omega)]; exact j0
  have jz1 : t1 999996 0 = σ 999996 0 := by rw [hF1 999996 (by omega)]
  refine lv_pop hx hb dL_law_470 rfl ?_
  refine x_aload_n hx hb hl 1 rfl dL_law_471 rfl ?_
  refine x_aload_n hx hb hl 3 rfl dL_law_472 rfl ?_
  refine x_iload_n hx hb hl 0 rfl dL_law_473 rfl ?_
  refine x_iconst hx hb dL_law_474 ?_
  refine x_iadd hx hb dL_law_475 ?_
  refine l_sld hx hb hX hbl eh hW (by omega) (by omega) e1 dL_law_476 ?_
  refine b_pc (pc1 := 477) rfl ?_
  refine x_aload_n hx hb hl 3 rfl dL_law_477 rfl ?_
  refine x_iload_n hx hb hl 0 rfl dL_law_478 rfl ?_
  refine x_iconst hx hb dL_law_479 ?_
  refine x_iadd hx hb dL_law_480 ?_
  refine l_sld hx hb hX hbl eh hW (by omega) (by omega) e2 dL_law_481 ?_
  refine x_goi (x_runV (As := [.int (xJ a1), .int (xJ a2)]) hx hb hml hown hT hE hW hl.1 (Or.inl (by decide)) (so_268 h0 g _) rfl cf_X11_tried wq1643 wq1644 wq1642 (c_X11_triedM l D g T h0 t1 hW.2.1 a1 r1 a2 r2 jn1 jk1 jo1) ⟨rfl, rfl, ⟨by decide, by decide⟩, hcs⟩ rfl rfl (Nat.le_of_ble_eq_true rfl) dL_law_482) hW (fun q2 t2 H locs rq2 hp hW => ?_)
  obtain ⟨hF2, hI2, hp2⟩ := hp
  have jC2 : IC t2 := IC_f (fun k hk => hF2 k (by unfold suIC at hk; omega)) jC1
  have j02 : t2 0 11 = 0 ∨ t2 0 11 = 1 := by rw [hF2 0 (by omega)]; exact j01
  have jz2 : t2 999996 0 = t1 999996 0 := by rw [hF2 999996 (by omega)]
  have u1 : t2 1 1 = t1 1 1 := by rw [hF2 1 (by omega)]
  have u2 : t1 268 8 = σ 268 8 := by rw [hF1 268 (by omega)]
  have u0 : σ 1 1 = σ 268 8 := jr.1
  have u3 : t1 1 1 = σ 1 1 := by rw [hF1 1 (by omega)]
  have u4 : t2 268 8 = t1 268 8 := hI2.2.2.2.1
  have u6 : t2 1 1 = t2 268 8 := by omega
  have u7 : t2 2 = xm8 (t2 276) ∧ xb8 (t2 276) := by rw [hF2 2 (by omega), hF1 2 (by omega), hF2 276 (by omega), hF1 276 (by omega)]; exact ⟨jr.2.1, jr.2.2.1⟩
  have w0a : t1 0 11 = σ 0 11 := by rw [hF1 0 (by omega)]
  have w0b : t2 0 11 = t1 0 11 := by rw [hF2 0 (by omega)]
  have w1a : t1 268 58 = σ 268 58 := by rw [hF1 268 (by omega)]
  have w1b : t2 268 58 = t1 268 58 := hI2.2.2.2.2.1
  have w2a : t1 136 7 = σ 136 7 := by rw [hF1 136 (by omega)]
  have w2b : t2 136 7 = t1 136 7 := by rw [hF2 136 (by omega)]
  have w3a : t1 146 7 = σ 146 7 := by rw [hF1 146 (by omega)]
  have w3b : t2 146 7 = t1 146 7 := by rw [hF2 146 (by omega)]
  have w4a : t1 269 37 = σ 269 37 := by rw [hF1 269 (by omega)]
  have w4b : t2 269 37 = t1 269 37 := hI2.2.2.2.2.2.1
  have w5a : t1 271 37 = σ 271 37 := by rw [hF1 271 (by omega)]
  have w5b : t2 271 37 = t1 271 37 := by rw [hF2 271 (by omega)]
  have jk0 := jr.2.2.2.2.2.1
  have jm0 := jr.2.2.2.2.2.2.1
  have jm1 := jr.2.2.2.2.2.2.2
  have g1 := IC.m jC2 xd_136
  have g2 := (IMn.n1 hI2.1).2.2.2.1
  have e5 : (t2 5 = t2 288 ∧ zk3 (t2 5)) := by rw [hF2 5 (by omega), hF1 5 (by omega), hF2 288 (by omega), hF1 288 (by omega)]; exact jr.2.2.2.1
  have e4 : (∀ j, 0 ≤ j → j < 100 → t2 4 j = t2 272 j ∧ 0 ≤ t2 4 j ∧ t2 4 j ≤ 3) := by rw [hF2 4 (by omega), hF1 4 (by omega), hF2 272 (by omega), hF1 272 (by omega)]; exact jr.2.2.2.2.1
  have hJ : lJ t2 (n + 1) := ⟨jC2, hI2.1, hI2.2.1, hI2.2.2.1, j02, ⟨by omega, by omega⟩, ⟨u6, u7.1, u7.2, e5, e4, by omega, by omega, by omega⟩⟩
  refine lv_pop hx hb dL_law_485 rfl ?_
  refine lv_goto (tgt := 990) hx hb dL_law_486 (by decide) ?_
  refine W.widen (k := cells + 1) (n := slots + 60) (by omega) (by omega) ?_
  exact kk H locs t2 hJ hW
theorem l_9 {p : Program} {e : Env} {s : State} {m : MethodId} {below : List Frame} {meth : Method} {c : Code} {l : Launch} {b h0 L : Nat} {xs : Nat → Int32} {D : va_G} {g : xG} {T : Nat × Nat × Nat} {H : Heap} {locs : List Loc} {ls : Array Slot} {cells slots : Nat} {Q : State → Prop} {σ : xS} {n : Nat} {i : Int} (hx : p.tables.exec = Jvm.exec) (hb : c.code = cL_law) (hml : c.maxLocals = 4) (hown : s.vm.findClass "ShadowCourtLaw" = some m.cls) (hT : ∀ w ∈ xTB, w.before #[Value.ref b] s = true) (hE : xE D g T h0 s) (hX : va_X b L xs s s.heap) (hbl : b < s.heap.size) (eh : h0 = s.heap.size) (hW : xW D g h0 s H locs σ) (hl : lv_has ls 4 [(3, .int (xJ i)), (2, .ref (h0 + 268)), (1, .ref (h0 + 0)), (0, .ref b)]) (hcs : cells ≤ 600000 ∧ slots ≤ 7302250) (hcs1 : cells + 1 ≤ 600000 ∧ slots + 60 ≤ 7302250) (hJ : lJ σ n) (hn : n ≤ 512) (hi : 0 ≤ i ∧ i + 5 < (L : Int) ∧ L ≤ 3072)
    (kk : ∀ (H : Heap) (locs : List Loc) (τ : xS), lJ τ (n + 1) → xW D g h0 s H locs τ → W p l e room_1 s m #[Value.ref b] below meth c H locs (cells + 1) (slots + 60) Q (F0 m 990 ls [])) : W p l e room_1 s m #[Value.ref b] below meth c H locs cells slots Q (F0 m 489 ls []) := by
  obtain ⟨jC, jn, jk, jo, j0, jz, jr⟩ := hJ
  obtain ⟨a1, e1, r1⟩ := xJ_ex (xs (i + 1).toNat)
  obtain ⟨a2, e2, r2⟩ := xJ_ex (xs (i + 2).toNat)
  refine x_aload_n hx hb hl 2 rfl dL_law_489 rfl ?_
  refine x_aload_n hx hb hl 3 rfl dL_law_490 rfl ?_
  refine x_iload_n hx hb hl 0 rfl dL_law_491 rfl ?_
  refine x_iconst hx hb dL_law_492 ?_
  refine x_iadd hx hb dL_law_493 ?_
  refine l_sld hx hb hX hbl eh hW (by omega) (by omega) e1 dL_law_494 ?_
  refine x_aload_n hx hb hl 3 rfl dL_law_495 rfl ?_
  refine x_iload_n hx hb hl 0 rfl dL_law_496 rfl ?_
  refine x_iconst hx hb dL_law_497 ?_
  refine b_pc (pc1 := 498) rfl ?_
  refine x_iadd hx hb dL_law_498 ?_
  refine l_sld hx hb hX hbl eh hW (by omega) (by omega) e2 dL_law_499 ?_
  refine x_goi (x_runV (As := [.int (xJ a1), .int (xJ a2)]) hx hb hml hown hT hE hW hl.1 (Or.inl (by decide)) (so_0 h0 g _) rfl cf_X10_felonIs wq933 wq934 wq932 (c_X10_felonIs l D g T h0 σ hW.2.1 a1 r1 a2 r2 jC) ⟨rfl, rfl, ⟨by decide, by decide⟩, hcs⟩ rfl rfl (Nat.le_of_ble_eq_true rfl) dL_law_500) hW (fun q1 t1 H locs rq1 hp hW => ?_)
  obtain ⟨hF1, hI1, hp1⟩ := hp
  have jC1 := hI1.1
  have jn1 : IMn t1 := IMn_f (fun k hk => hF1 k (by unfold suIMn at hk; omega)) jn
  have jk1 : IMk t1 := IMk_f (fun k hk => hF1 k (by unfold suIMk at hk; omega)) jk
  have jo1 : IMo t1 := IMo_f (fun k hk => hF1 k (by unfold suIMo at hk; omega)) jo
  have j01 : t1 0 11 = 0 ∨ t1 0 11 = 1 := by rw [hF1 0 (by omega)]; exact j0
  have jz1 : t1 999996 0 = σ 999996 0 := by rw [hF1 999996 (by omega)]
  refine lv_pop hx hb dL_law_503 rfl ?_
  refine x_aload_n hx hb hl 1 rfl dL_law_504 rfl ?_
  refine x_aload_n hx hb hl 3 rfl dL_law_505 rfl ?_
  refine x_iload_n hx hb hl 0 rfl dL_law_506 rfl ?_
  refine x_iconst hx hb dL_law_507 ?_
  refine x_iadd hx hb dL_law_508 ?_
  refine l_sld hx hb hX hbl eh hW (by omega) (by omega) e1 dL_law_509 ?_
  refine b_pc (pc1 := 510) rfl ?_
  refine x_aload_n hx hb hl 3 rfl dL_law_510 rfl ?_
  refine x_iload_n hx hb hl 0 rfl dL_law_511 rfl ?_
  refine x_iconst hx hb dL_law_512 ?_
  refine x_iadd hx hb dL_law_513 ?_
  refine l_sld hx hb hX hbl eh hW (by omega) (by omega) e2 dL_law_514 ?_
  refine x_goi (x_runV (As := [.int (xJ a1), .int (xJ a2)]) hx hb hml hown hT hE hW hl.1 (Or.inl (by decide)) (so_268 h0 g _) rfl cf_X11_felonIs wq1657 wq1658 wq1656 (c_X11_felonIs l D g T h0 t1 hW.2.1 a1 r1 a2 r2 jn1 jk1 jo1) ⟨rfl, rfl, ⟨by decide, by decide⟩, hcs⟩ rfl rfl (Nat.le_of_ble_eq_true rfl) dL_law_515) hW (fun q2 t2 H locs rq2 hp hW => ?_)
  obtain ⟨hF2, hI2, hp2⟩ := hp
  have jC2 : IC t2 := IC_f (fun k hk => hF2 k (by unfold suIC at hk; omega)) jC1
  have j02 : t2 0 11 = 0 ∨ t2 0 11 = 1 := by rw [hF2 0 (by omega)]; exact j01
  have jz2 : t2 999996 0 = t1 999996 0 := by rw [hF2 999996 (by omega)]
  have u1 : t2 1 1 = t1 1 1 := by rw [hF2 1 (by omega)]
  have u2 : t1 268 8 = σ 268 8 := by rw [hF1 268 (by omega)]
  have u0 : σ 1 1 = σ 268 8 := jr.1
  have u3 : t1 1 1 = σ 1 1 := by rw [hF1 1 (by omega)]
  have u4 : t2 268 8 = t1 268 8 := by rw [hF2 268 (by omega)]
  have u6 : t2 1 1 = t2 268 8 := by omega
  have u7 : t2 2 = xm8 (t2 276) ∧ xb8 (t2 276) := by rw [hF2 2 (by omega), hF1 2 (by omega), hF2 276 (by omega), hF1 276 (by omega)]; exact ⟨jr.2.1, jr.2.2.1⟩
  have w0a : t1 0 11 = σ 0 11 := by rw [hF1 0 (by omega)]
  have w0b : t2 0 11 = t1 0 11 := by rw [hF2 0 (by omega)]
  have w1a : t1 268 58 = σ 268 58 := by rw [hF1 268 (by omega)]
  have w1b : t2 268 58 = t1 268 58 := by rw [hF2 268 (by omega)]
  have w2a : t1 136 7 = σ 136 7 := by rw [hF1 136 (by omega)]
  have w2b : t2 136 7 = t1 136 7 := by rw [hF2 136 (by omega)]
  have w3a : t1 146 7 = σ 146 7 := by rw [hF1 146 (by omega)]
  have w3b : t2 146 7 = t1 146 7 := by rw [hF2 146 (by omega)]
  have w4a : t1 269 37 = σ 269 37 := by rw [hF1 269 (by omega)]
  have w4b : t2 269 37 = t1 269 37 := by rw [hF2 269 (by omega)]
  have w5a : t1 271 37 = σ 271 37 := by rw [hF1 271 (by omega)]
  have w5b : t2 271 37 = t1 271 37 := by rw [hF2 271 (by omega)]
  have jk0 := jr.2.2.2.2.2.1
  have jm0 := jr.2.2.2.2.2.2.1
  have jm1 := jr.2.2.2.2.2.2.2
  have g1 := IC.m jC2 xd_136
  have g2 := (IMn.n1 hI2.1).2.2.2.1
  have e5 : (t2 5 = t2 288 ∧ zk3 (t2 5)) := by rw [hF2 5 (by omega), hF1 5 (by omega), hF2 288 (by omega), hF1 288 (by omega)]; exact jr.2.2.2.1
  have e4 : (∀ j, 0 ≤ j → j < 100 → t2 4 j = t2 272 j ∧ 0 ≤ t2 4 j ∧ t2 4 j ≤ 3) := by rw [hF2 4 (by omega), hF1 4 (by omega), hF2 272 (by omega), hF1 272 (by omega)]; exact jr.2.2.2.2.1
  have hJ : lJ t2 (n + 1) := ⟨jC2, hI2.1, hI2.2.1, hI2.2.2.1, j02, ⟨by omega, by omega⟩, ⟨u6, u7.1, u7.2, e5, e4, by omega, by omega, by omega⟩⟩
  refine lv_pop hx hb dL_law_518 rfl ?_
  refine lv_goto (tgt := 990) hx hb dL_law_519 (by decide) ?_
  refine W.widen (k := cells + 1) (n := slots + 60) (by omega) (by omega) ?_
  exact kk H locs t2 hJ hW
theorem l_10 {p : Program} {e : Env} {s : State} {m : MethodId} {below : List Frame} {meth : Method} {c : Code} {l : Launch} {b h0 L : Nat} {xs : Nat → Int32} {D : va_G} {g : xG} {T : Nat × Nat × Nat} {H : Heap} {locs : List Loc} {ls : Array Slot} {cells slots : Nat} {Q : State → Prop} {σ : xS} {n : Nat} {i : Int} (hx : p.tables.exec = Jvm.exec) (hb : c.code = cL_law) (hml : c.maxLocals = 4) (hown : s.vm.findClass "ShadowCourtLaw" = some m.cls) (hT : ∀ w ∈ xTB, w.before #[Value.ref b] s = true) (hE : xE D g T h0 s) (hX : va_X b L xs s s.heap) (hbl : b < s.heap.size) (eh : h0 = s.heap.size) (hW : xW D g h0 s H locs σ) (hl : lv_has ls 4 [(3, .int (xJ i)), (2, .ref (h0 + 268)), (1, .ref (h0 + 0)), (0, .ref b)]) (hcs : cells ≤ 600000 ∧ slots ≤ 7302250) (hcs1 : cells + 1 ≤ 600000 ∧ slots + 60 ≤ 7302250) (hJ : lJ σ n) (hn : n ≤ 512) (hi : 0 ≤ i ∧ i + 5 < (L : Int) ∧ L ≤ 3072)
    (kk : ∀ (H : Heap) (locs : List Loc) (τ : xS), lJ τ (n + 1) → xW D g h0 s H locs τ → W p l e room_1 s m #[Value.ref b] below meth c H locs (cells + 1) (slots + 60) Q (F0 m 990 ls [])) : W p l e room_1 s m #[Value.ref b] below meth c H locs cells slots Q (F0 m 522 ls []) := by
  obtain ⟨jC, jn, jk, jo, j0, jz, jr⟩ := hJ
  obtain ⟨a1, e1, r1⟩ := xJ_ex (xs (i + 1).toNat)
  obtain ⟨a2, e2, r2⟩ := xJ_ex (xs (i + 2).toNat)
  refine x_aload_n hx hb hl 2 rfl dL_law_522 rfl ?_
  refine x_aload_n hx hb hl 3 rfl dL_law_523 rfl ?_
  refine x_iload_n hx hb hl 0 rfl dL_law_524 rfl ?_
  refine x_iconst hx hb dL_law_525 ?_
  refine x_iadd hx hb dL_law_526 ?_
  refine l_sld hx hb hX hbl eh hW (by omega) (by omega) e1 dL_law_527 ?_
  refine x_aload_n hx hb hl 3 rfl dL_law_528 rfl ?_
  refine x_iload_n hx hb hl 0 rfl dL_law_529 rfl ?_
  refine x_iconst hx hb dL_law_530 ?_
  refine b_pc (pc1 := 531) rfl ?_
  refine x_iadd hx hb dL_law_531 ?_
  refine l_sld hx hb hX hbl eh hW (by omega) (by omega) e2 dL_law_532 ?_
  refine x_goi (x_runV (As := [.int (xJ a1), .int (xJ a2)]) hx hb hml hown hT hE hW hl.1 (Or.inl (by decide)) (so_0 h0 g _) rfl cf_X10_shade wq946 wq947 wq945 (c_X10_shade l D g T h0 σ hW.2.1 a1 r1 a2 r2 jC) ⟨rfl, rfl, ⟨by decide, by decide⟩, hcs⟩ rfl rfl (Nat.le_of_ble_eq_true rfl) dL_law_533) hW (fun q1 t1 H locs rq1 hp hW => ?_)
  obtain ⟨hF1, hI1, hp1⟩ := hp
  have jC1 := hI1.1
  have jn1 : IMn t1 := IMn_f (fun k hk => hF1 k (by unfold suIMn at hk; omega)) jn
  have jk1 : IMk t1 := IMk_f (fun k hk => hF1 k (by unfold suIMk at hk; omega)) jk
  have jo1 : IMo t1 := IMo_f (fun k hk => hF1 k (by unfold suIMo at hk; omega)) jo
  have j01 : t1 0 11 = 0 ∨ t1 0 11 = 1 := by rw [hF1 0 (by omega)]; exact j0
  have jz1 : t1 999996 0 = σ 999996 0 := by rw [hF1 999996 (by omega)]
  refine lv_pop hx hb dL_law_536 rfl ?_
  refine x_aload_n hx hb hl 1 rfl dL_law_537 rfl ?_
  refine x_aload_n hx hb hl 3 rfl dL_law_538 rfl ?_
  refine x_iload_n hx hb hl 0 rfl dL_law_539 rfl ?_
  refine x_iconst hx hb dL_law_540 ?_
  refine x_iadd hx hb dL_law_541 ?_
  refine l_sld hx hb hX hbl eh hW (by omega) (by omega) e1 dL_law_542 ?_
  refine b_pc (pc1 := 543) rfl ?_
  refine x_aload_n hx hb hl 3 rfl dL_law_543 rfl ?_
  refine x_iload_n hx hb hl 0 rfl dL_law_544 rfl ?_
  refine x_iconst hx hb dL_law_545 ?_
  refine x_iadd hx hb dL_law_546 ?_
  refine l_sld hx hb hX hbl eh hW (by omega) (by omega) e2 dL_law_547 ?_
  refine x_goi (x_runV (As := [.int (xJ a1), .int (xJ a2)]) hx hb hml hown hT hE hW hl.1 (Or.inl (by decide)) (so_268 h0 g _) rfl cf_X11_shade wq1661 wq1662 wq1660 (c_X11_shade l D g T h0 t1 hW.2.1 a1 r1 a2 r2 jn1 jk1 jo1) ⟨rfl, rfl, ⟨by decide, by decide⟩, hcs⟩ rfl rfl (Nat.le_of_ble_eq_true rfl) dL_law_548) hW (fun q2 t2 H locs rq2 hp hW => ?_)
  obtain ⟨hF2, hI2, hp2⟩ := hp
  have jC2 : IC t2 := IC_f (fun k hk => hF2 k (by unfold suIC at hk; omega)) jC1
  have j02 : t2 0 11 = 0 ∨ t2 0 11 = 1 := by rw [hF2 0 (by omega)]; exact j01
  have jz2 : t2 999996 0 = t1 999996 0 := by rw [hF2 999996 (by omega)]
  have u1 : t2 1 1 = t1 1 1 := by rw [hF2 1 (by omega)]
  have u2 : t1 268 8 = σ 268 8 := by rw [hF1 268 (by omega)]
  have u0 : σ 1 1 = σ 268 8 := jr.1
  have u3 : t1 1 1 = σ 1 1 := by rw [hF1 1 (by omega)]
  have u4 : t2 268 8 = t1 268 8 := by rw [hF2 268 (by omega)]
  have u6 : t2 1 1 = t2 268 8 := by omega
  have u7 : t2 2 = xm8 (t2 276) ∧ xb8 (t2 276) := by rw [hF2 2 (by omega), hF1 2 (by omega), hF2 276 (by omega), hF1 276 (by omega)]; exact ⟨jr.2.1, jr.2.2.1⟩
  have w0a : t1 0 11 = σ 0 11 := by rw [hF1 0 (by omega)]
  have w0b : t2 0 11 = t1 0 11 := by rw [hF2 0 (by omega)]
  have w1a : t1 268 58 = σ 268 58 := by rw [hF1 268 (by omega)]
  have w1b : t2 268 58 = t1 268 58 := by rw [hF2 268 (by omega)]
  have w2a : t1 136 7 = σ 136 7 := by rw [hF1 136 (by omega)]
  have w2b : t2 136 7 = t1 136 7 := by rw [hF2 136 (by omega)]
  have w3a : t1 146 7 = σ 146 7 := by rw [hF1 146 (by omega)]
  have w3b : t2 146 7 = t1 146 7 := by rw [hF2 146 (by omega)]
  have w4a : t1 269 37 = σ 269 37 := by rw [hF1 269 (by omega)]
  have w4b : t2 269 37 = t1 269 37 := by rw [hF2 269 (by omega)]
  have w5a : t1 271 37 = σ 271 37 := by rw [hF1 271 (by omega)]
  have w5b : t2 271 37 = t1 271 37 := by rw [hF2 271 (by omega)]
  have jk0 := jr.2.2.2.2.2.1
  have jm0 := jr.2.2.2.2.2.2.1
  have jm1 := jr.2.2.2.2.2.2.2
  have g1 := IC.m jC2 xd_136
  have g2 := (IMn.n1 hI2.1).2.2.2.1
  have e5 : (t2 5 = t2 288 ∧ zk3 (t2 5)) := by rw [hF2 5 (by omega), hF1 5 (by omega), hF2 288 (by omega), hF1 288 (by omega)]; exact jr.2.2.2.1
  have e4 : (∀ j, 0 ≤ j → j < 100 → t2 4 j = t2 272 j ∧ 0 ≤ t2 4 j ∧ t2 4 j ≤ 3) := by rw [hF2 4 (by omega), hF1 4 (by omega), hF2 272 (by omega), hF1 272 (by omega)]; exact jr.2.2.2.2.1
  have hJ : lJ t2 (n + 1) := ⟨jC2, hI2.1, hI2.2.1, hI2.2.2.1, j02, ⟨by omega, by omega⟩, ⟨u6, u7.1, u7.2, e5, e4, by omega, by omega, by omega⟩⟩
  refine lv_pop hx hb dL_law_551 rfl ?_
  refine lv_goto (tgt := 990) hx hb dL_law_552 (by decide) ?_
  refine W.widen (k := cells + 1) (n := slots + 60) (by omega) (by omega) ?_
  exact kk H locs t2 hJ hW
theorem l_11 {p : Program} {e : Env} {s : State} {m : MethodId} {below : List Frame} {meth : Method} {c : Code} {l : Launch} {b h0 L : Nat} {xs : Nat → Int32} {D : va_G} {g : xG} {T : Nat × Nat × Nat} {H : Heap} {locs : List Loc} {ls : Array Slot} {cells slots : Nat} {Q : State → Prop} {σ : xS} {n : Nat} {i : Int} (hx : p.tables.exec = Jvm.exec) (hb : c.code = cL_law) (hml : c.maxLocals = 4) (hown : s.vm.findClass "ShadowCourtLaw" = some m.cls) (hT : ∀ w ∈ xTB, w.before #[Value.ref b] s = true) (hE : xE D g T h0 s) (hX : va_X b L xs s s.heap) (hbl : b < s.heap.size) (eh : h0 = s.heap.size) (hW : xW D g h0 s H locs σ) (hl : lv_has ls 4 [(3, .int (xJ i)), (2, .ref (h0 + 268)), (1, .ref (h0 + 0)), (0, .ref b)]) (hcs : cells ≤ 600000 ∧ slots ≤ 7302250) (hcs1 : cells + 1 ≤ 600000 ∧ slots + 60 ≤ 7302250) (hJ : lJ σ n) (hn : n ≤ 512) (hi : 0 ≤ i ∧ i + 5 < (L : Int) ∧ L ≤ 3072)
    (kk : ∀ (H : Heap) (locs : List Loc) (τ : xS), lJ τ (n + 1) → xW D g h0 s H locs τ → W p l e room_1 s m #[Value.ref b] below meth c H locs (cells + 1) (slots + 60) Q (F0 m 990 ls [])) : W p l e room_1 s m #[Value.ref b] below meth c H locs cells slots Q (F0 m 555 ls []) := by
  obtain ⟨jC, jn, jk, jo, j0, jz, jr⟩ := hJ
  obtain ⟨a1, e1, r1⟩ := xJ_ex (xs (i + 1).toNat)
  refine x_aload_n hx hb hl 2 rfl dL_law_555 rfl ?_
  refine x_aload_n hx hb hl 3 rfl dL_law_556 rfl ?_
  refine x_iload_n hx hb hl 0 rfl dL_law_557 rfl ?_
  refine x_iconst hx hb dL_law_558 ?_
  refine x_iadd hx hb dL_law_559 ?_
  refine l_sld hx hb hX hbl eh hW (by omega) (by omega) e1 dL_law_560 ?_
  refine x_goi (x_runV (As := [.int (xJ a1)]) hx hb hml hown hT hE hW hl.1 (Or.inl (by decide)) (so_0 h0 g _) rfl cf_X10_atOnce wq951 wq952 wq950 (c_X10_atOnce l D g T h0 σ hW.2.1 a1 r1 jC) ⟨rfl, rfl, ⟨by decide, by decide⟩, hcs⟩ rfl rfl (Nat.le_of_ble_eq_true rfl) dL_law_561) hW (fun q1 t1 H locs rq1 hp hW => ?_)
  obtain ⟨hF1, hI1, hp1⟩ := hp
  have jC1 := hI1.1
  have jn1 : IMn t1 := IMn_f (fun k hk => hF1 k (by unfold suIMn at hk; omega)) jn
  have jk1 : IMk t1 := IMk_f (fun k hk => hF1 k (by unfold suIMk at hk; omega)) jk
  have jo1 : IMo t1 := IMo_f (fun k hk => hF1 k (by unfold suIMo at hk; omega)) jo
  have j01 : t1 0 11 = 0 ∨ t1 0 11 = 1 := by rw [hF1 0 (by omega)]; exact j0
  have jz1 : t1 999996 0 = σ 999996 0 := by rw [hF1 999996 (by omega)]
  refine lv_pop hx hb dL_law_564 rfl ?_
  refine x_aload_n hx hb hl 1 rfl dL_law_565 rfl ?_
  refine b_pc (pc1 := 566) rfl ?_
  refine x_aload_n hx hb hl 3 rfl dL_law_566 rfl ?_
  refine x_iload_n hx hb hl 0 rfl dL_law_567 rfl ?_
  refine x_iconst hx hb dL_law_568 ?_
  refine x_iadd hx hb dL_law_569 ?_
  refine l_sld hx hb hX hbl eh hW (by omega) (by omega) e1 dL_law_570 ?_
  refine x_goi (x_runV (As := [.int (xJ a1)]) hx hb hml hown hT hE hW hl.1 (Or.inl (by decide)) (so_268 h0 g _) rfl cf_X11_atOnce wq1665 wq1666 wq1664 (c_X11_atOnce l D g T h0 t1 hW.2.1 a1 r1 jn1 jk1 jo1) ⟨rfl, rfl, ⟨by decide, by decide⟩, hcs⟩ rfl rfl (Nat.le_of_ble_eq_true rfl) dL_law_571) hW (fun q2 t2 H locs rq2 hp hW => ?_)
  obtain ⟨hF2, hI2, hp2⟩ := hp
  have jC2 : IC t2 := IC_f (fun k hk => hF2 k (by unfold suIC at hk; omega)) jC1
  have j02 : t2 0 11 = 0 ∨ t2 0 11 = 1 := by rw [hF2 0 (by omega)]; exact j01
  have jz2 : t2 999996 0 = t1 999996 0 := by rw [hF2 999996 (by omega)]
  have u1 : t2 1 1 = t1 1 1 := by rw [hF2 1 (by omega)]
  have u2 : t1 268 8 = σ 268 8 := by rw [hF1 268 (by omega)]
  have u0 : σ 1 1 = σ 268 8 := jr.1
  have u3 : t1 1 1 = σ 1 1 := by rw [hF1 1 (by omega)]
  have u4 : t2 268 8 = t1 268 8 := by rw [hF2 268 (by omega)]
  have u6 : t2 1 1 = t2 268 8 := by omega
  have u7 : t2 2 = xm8 (t2 276) ∧ xb8 (t2 276) := by rw [hF2 2 (by omega), hF1 2 (by omega), hF2 276 (by omega), hF1 276 (by omega)]; exact ⟨jr.2.1, jr.2.2.1⟩
  have w0a : t1 0 11 = σ 0 11 := by rw [hF1 0 (by omega)]
  have w0b : t2 0 11 = t1 0 11 := by rw [hF2 0 (by omega)]
  have w1a : t1 268 58 = σ 268 58 := by rw [hF1 268 (by omega)]
  have w1b : t2 268 58 = t1 268 58 := by rw [hF2 268 (by omega)]
  have w2a : t1 136 7 = σ 136 7 := by rw [hF1 136 (by omega)]
  have w2b : t2 136 7 = t1 136 7 := by rw [hF2 136 (by omega)]
  have w3a : t1 146 7 = σ 146 7 := by rw [hF1 146 (by omega)]
  have w3b : t2 146 7 = t1 146 7 := by rw [hF2 146 (by omega)]
  have w4a : t1 269 37 = σ 269 37 := by rw [hF1 269 (by omega)]
  have w4b : t2 269 37 = t1 269 37 := by rw [hF2 269 (by omega)]
  have w5a : t1 271 37 = σ 271 37 := by rw [hF1 271 (by omega)]
  have w5b : t2 271 37 = t1 271 37 := by rw [hF2 271 (by omega)]
  have jk0 := jr.2.2.2.2.2.1
  have jm0 := jr.2.2.2.2.2.2.1
  have jm1 := jr.2.2.2.2.2.2.2
  have g1 := IC.m jC2 xd_136
  have g2 := (IMn.n1 hI2.1).2.2.2.1
  have e5 : (t2 5 = t2 288 ∧ zk3 (t2 5)) := by rw [hF2 5 (by omega), hF1 5 (by omega), hF2 288 (by omega), hF1 288 (by omega)]; exact jr.2.2.2.1
  have e4 : (∀ j, 0 ≤ j → j < 100 → t2 4 j = t2 272 j ∧ 0 ≤ t2 4 j ∧ t2 4 j ≤ 3) := by rw [hF2 4 (by omega), hF1 4 (by omega), hF2 272 (by omega), hF1 272 (by omega)]; exact jr.2.2.2.2.1
  have hJ : lJ t2 (n + 1) := ⟨jC2, hI2.1, hI2.2.1, hI2.2.2.1, j02, ⟨by omega, by omega⟩, ⟨u6, u7.1, u7.2, e5, e4, by omega, by omega, by omega⟩⟩
  refine lv_pop hx hb dL_law_574 rfl ?_
  refine lv_goto (tgt := 990) hx hb dL_law_575 (by decide) ?_
  refine W.widen (k := cells + 1) (n := slots + 60) (by omega) (by omega) ?_
  exact kk H locs t2 hJ hW
theorem l_12 {p : Program} {e : Env} {s : State} {m : MethodId} {below : List Frame} {meth : Method} {c : Code} {l : Launch} {b h0 L : Nat} {xs : Nat → Int32} {D : va_G} {g : xG} {T : Nat × Nat × Nat} {H : Heap} {locs : List Loc} {ls : Array Slot} {cells slots : Nat} {Q : State → Prop} {σ : xS} {n : Nat} {i : Int} (hx : p.tables.exec = Jvm.exec) (hb : c.code = cL_law) (hml : c.maxLocals = 4) (hown : s.vm.findClass "ShadowCourtLaw" = some m.cls) (hT : ∀ w ∈ xTB, w.before #[Value.ref b] s = true) (hE : xE D g T h0 s) (hX : va_X b L xs s s.heap) (hbl : b < s.heap.size) (eh : h0 = s.heap.size) (hW : xW D g h0 s H locs σ) (hl : lv_has ls 4 [(3, .int (xJ i)), (2, .ref (h0 + 268)), (1, .ref (h0 + 0)), (0, .ref b)]) (hcs : cells ≤ 600000 ∧ slots ≤ 7302250) (hcs1 : cells + 1 ≤ 600000 ∧ slots + 60 ≤ 7302250) (hJ : lJ σ n) (hn : n ≤ 512) (hi : 0 ≤ i ∧ i + 5 < (L : Int) ∧ L ≤ 3072)
    (kk : ∀ (H : Heap) (locs : List Loc) (τ : xS), lJ τ (n + 1) → xW D g h0 s H locs τ → W p l e room_1 s m #[Value.ref b] below meth c H locs (cells + 1) (slots + 60) Q (F0 m 990 ls [])) : W p l e room_1 s m #[Value.ref b] below meth c H locs cells slots Q (F0 m 578 ls []) := by
  obtain ⟨jC, jn, jk, jo, j0, jz, jr⟩ := hJ
  obtain ⟨a1, e1, r1⟩ := xJ_ex (xs (i + 1).toNat)
  obtain ⟨a2, e2, r2⟩ := xJ_ex (xs (i + 2).toNat)
  obtain ⟨a3, e3, r3⟩ := xJ_ex (xs (i + 3).toNat)
  refine x_aload_n hx hb hl 2 rfl dL_law_578 rfl ?_
  refine x_aload_n hx hb hl 3 rfl dL_law_579 rfl ?_
  refine x_iload_n hx hb hl 0 rfl dL_law_580 rfl ?_
  refine x_iconst hx hb dL_law_581 ?_
  refine x_iadd hx hb dL_law_582 ?_
  refine l_sld hx hb hX hbl eh hW (by omega) (by omega) e1 dL_law_583 ?_
  refine x_aload_n hx hb hl 3 rfl dL_law_584 rfl ?_
  refine x_iload_n hx hb hl 0 rfl dL_law_585 rfl ?_
  refine x_iconst hx hb dL_law_586 ?_
  refine b_pc (pc1 := 587) rfl ?_
  refine x_iadd hx hb dL_law_587 ?_
  refine l_sld hx hb hX hbl eh hW (by omega) (by omega) e2 dL_law_588 ?_
  refine x_aload_n hx hb hl 3 rfl dL_law_589 rfl ?_
  refine x_iload_n hx hb hl 0 rfl dL_law_590 rfl ?_
  refine x_iconst hx hb dL_law_591 ?_
  refine x_iadd hx hb dL_law_592 ?_
  refine l_sld hx hb hX hbl eh hW (by omega) (by omega) e3 dL_law_593 ?_
  refine x_goi (x_runV (As := [.int (xJ a1), .int (xJ a2), .int (xJ a3)]) hx hb hml hown hT hE hW hl.1 (Or.inl (by decide)) (so_0 h0 g _) rfl cf_X10_fewest wq982 wq983 wq981 (c_X10_fewest l D g T h0 σ hW.2.1 a1 r1 a2 r2 a3 r3 jC) ⟨rfl, rfl, ⟨by decide, by decide⟩, hcs⟩ rfl rfl (Nat.le_of_ble_eq_true rfl) dL_law_594) hW (fun q1 t1 H locs rq1 hp hW => ?_)
  obtain ⟨hF1, hI1, hp1⟩ := hp
  have jC1 := hI1.1
  have jn1 : IMn t1 := IMn_f (fun k hk => hF1 k (by unfold suIMn at hk; omega)) jn
  have jk1 : IMk t1 := IMk_f (fun k hk => hF1 k (by unfold suIMk at hk; omega)) jk
  have jo1 : IMo t1 := IMo_f (fun k hk => hF1 k (by unfold suIMo at hk; omega)) jo
  have j01 : t1 0 11 = 0 ∨ t1 0 11 = 1 := by rw [hF1 0 (by omega)]; exact j0
  have jz1 : t1 999996 0 = σ 999996 0 := by rw [hF1 999996 (by omega)]
  refine lv_pop hx hb dL_law_597 rfl ?_
  refine x_aload_n hx hb hl 1 rfl dL_law_598 rfl ?_
  refine b_pc (pc1 := 599) rfl ?_
  refine x_aload_n hx hb hl 3 rfl dL_law_599 rfl ?_
  refine x_iload_n hx hb hl 0 rfl dL_law_600 rfl ?_
  refine x_iconst hx hb dL_law_601 ?_
  refine x_iadd hx hb dL_law_602 ?_
  refine l_sld hx hb hX hbl eh hW (by omega) (by omega) e1 dL_law_603 ?_
  refine x_aload_n hx hb hl 3 rfl dL_law_604 rfl ?_
  refine x_iload_n hx hb hl 0 rfl dL_law_605 rfl ?_
  refine x_iconst hx hb dL_law_606 ?_
  refine x_iadd hx hb dL_law_607 ?_
  refine l_sld hx hb hX hbl eh hW (by omega) (by omega) e2 dL_law_608 ?_
  refine b_pc (pc1 := 609) rfl ?_
  refine x_aload_n hx hb hl 3 rfl dL_law_609 rfl ?_
  refine x_iload_n hx hb hl 0 rfl dL_law_610 rfl ?_
  refine x_iconst hx hb dL_law_611 ?_
  refine x_iadd hx hb dL_law_612 ?_
  refine l_sld hx hb hX hbl eh hW (by omega) (by omega) e3 dL_law_613 ?_
  refine x_goi (x_runV (As := [.int (xJ a1), .int (xJ a2), .int (xJ a3)]) hx hb hml hown hT hE hW hl.1 (Or.inl (by decide)) (so_268 h0 g _) rfl cf_X11_fewest wq1680 wq1681 wq1679 (c_X11_fewestM l D g T h0 t1 hW.2.1 a1 r1 a2 r2 a3 r3 jn1 jk1 jo1) ⟨rfl, rfl, ⟨by decide, by decide⟩, hcs⟩ rfl rfl (Nat.le_of_ble_eq_true rfl) dL_law_614) hW (fun q2 t2 H locs rq2 hp hW => ?_)
  obtain ⟨hF2, hI2, hp2⟩ := hp
  have jC2 : IC t2 := IC_f (fun k hk => hF2 k (by unfold suIC at hk; omega)) jC1
  have j02 : t2 0 11 = 0 ∨ t2 0 11 = 1 := by rw [hF2 0 (by omega)]; exact j01
  have jz2 : t2 999996 0 = t1 999996 0 := by rw [hF2 999996 (by omega)]
  have u1 : t2 1 1 = t1 1 1 := by rw [hF2 1 (by omega)]
  have u2 : t1 268 8 = σ 268 8 := by rw [hF1 268 (by omega)]
  have u0 : σ 1 1 = σ 268 8 := jr.1
  have u3 : t1 1 1 = σ 1 1 := by rw [hF1 1 (by omega)]
  have u4 : t2 268 8 = t1 268 8 := by rw [hF2 268 (by omega)]
  have u6 : t2 1 1 = t2 268 8 := by omega
  have u7 : t2 2 = xm8 (t2 276) ∧ xb8 (t2 276) := by rw [hF2 2 (by omega), hF1 2 (by omega), hF2 276 (by omega), hF1 276 (by omega)]; exact ⟨jr.2.1, jr.2.2.1⟩
  have w0a : t1 0 11 = σ 0 11 := by rw [hF1 0 (by omega)]
  have w0b : t2 0 11 = t1 0 11 := by rw [hF2 0 (by omega)]
  have w1a : t1 268 58 = σ 268 58 := by rw [hF1 268 (by omega)]
  have w1b : t2 268 58 = t1 268 58 := by rw [hF2 268 (by omega)]
  have w2a : t1 136 7 = σ 136 7 := by rw [hF1 136 (by omega)]
  have w2b : t2 136 7 = t1 136 7 := by rw [hF2 136 (by omega)]
  have w3a : t1 146 7 = σ 146 7 := by rw [hF1 146 (by omega)]
  have w3b : t2 146 7 = t1 146 7 := by rw [hF2 146 (by omega)]
  have w4a : t1 269 37 = σ 269 37 := by rw [hF1 269 (by omega)]
  have w4b : t2 269 37 = t1 269 37 := hI2.2.2.2.1
  have w5a : t1 271 37 = σ 271 37 := by rw [hF1 271 (by omega)]
  have w5b : t2 271 37 = t1 271 37 := by rw [hF2 271 (by omega)]
  have jk0 := jr.2.2.2.2.2.1
  have jm0 := jr.2.2.2.2.2.2.1
  have jm1 := jr.2.2.2.2.2.2.2
  have g1 := IC.m jC2 xd_136
  have g2 := (IMn.n1 hI2.1).2.2.2.1
  have e5 : (t2 5 = t2 288 ∧ zk3 (t2 5)) := by rw [hF2 5 (by omega), hF1 5 (by omega), hF2 288 (by omega), hF1 288 (by omega)]; exact jr.2.2.2.1
  have e4 : (∀ j, 0 ≤ j → j < 100 → t2 4 j = t2 272 j ∧ 0 ≤ t2 4 j ∧ t2 4 j ≤ 3) := by rw [hF2 4 (by omega), hF1 4 (by omega), hF2 272 (by omega), hF1 272 (by omega)]; exact jr.2.2.2.2.1
  have hJ : lJ t2 (n + 1) := ⟨jC2, hI2.1, hI2.2.1, hI2.2.2.1, j02, ⟨by omega, by omega⟩, ⟨u6, u7.1, u7.2, e5, e4, by omega, by omega, by omega⟩⟩
  refine lv_pop hx hb dL_law_617 rfl ?_
  refine lv_goto (tgt := 990) hx hb dL_law_618 (by decide) ?_
  refine W.widen (k := cells + 1) (n := slots + 60) (by omega) (by omega) ?_
  exact kk H locs t2 hJ hW
theorem l_13 {p : Program} {e : Env} {s : State} {m : MethodId} {below : List Frame} {meth : Method} {c : Code} {l : Launch} {b h0 L : Nat} {xs : Nat → Int32} {D : va_G} {g : xG} {T : Nat × Nat × Nat} {H : Heap} {locs : List Loc} {ls : Array Slot} {cells slots : Nat} {Q : State → Prop} {σ : xS} {n : Nat} {i : Int} (hx : p.tables.exec = Jvm.exec) (hb : c.code = cL_law) (hml : c.maxLocals = 4) (hown : s.vm.findClass "ShadowCourtLaw" = some m.cls) (hT : ∀ w ∈ xTB, w.before #[Value.ref b] s = true) (hE : xE D g T h0 s) (hX : va_X b L xs s s.heap) (hbl : b < s.heap.size) (eh : h0 = s.heap.size) (hW : xW D g h0 s H locs σ) (hl : lv_has ls 4 [(3, .int (xJ i)), (2, .ref (h0 + 268)), (1, .ref (h0 + 0)), (0, .ref b)]) (hcs : cells ≤ 600000 ∧ slots ≤ 7302250) (hcs1 : cells + 1 ≤ 600000 ∧ slots + 60 ≤ 7302250) (hJ : lJ σ n) (hn : n ≤ 512) (hi : 0 ≤ i ∧ i + 5 < (L : Int) ∧ L ≤ 3072)
    (kk : ∀ (H : Heap) (locs : List Loc) (τ : xS), lJ τ (n + 1) → xW D g h0 s H locs τ → W p l e room_1 s m #[Value.ref b] below meth c H locs (cells + 1) (slots + 60) Q (F0 m 990 ls [])) : W p l e room_1 s m #[Value.ref b] below meth c H locs cells slots Q (F0 m 621 ls []) := by
  obtain ⟨jC, jn, jk, jo, j0, jz, jr⟩ := hJ
  obtain ⟨a1, e1, r1⟩ := xJ_ex (xs (i + 1).toNat)
  obtain ⟨a2, e2, r2⟩ := xJ_ex (xs (i + 2).toNat)
  obtain ⟨a3, e3, r3⟩ := xJ_ex (xs (i + 3).toNat)
  refine x_aload_n hx hb hl 2 rfl dL_law_621 rfl ?_
  refine x_aload_n hx hb hl 3 rfl dL_law_622 rfl ?_
  refine x_iload_n hx hb hl 0 rfl dL_law_623 rfl ?_
  refine x_iconst hx hb dL_law_624 ?_
  refine x_iadd hx hb dL_law_625 ?_
  refine l_sld hx hb hX hbl eh hW (by omega) (by omega) e1 dL_law_626 ?_
  refine x_aload_n hx hb hl 3 rfl dL_law_627 rfl ?_
  refine x_iload_n hx hb hl 0 rfl dL_law_628 rfl ?_
  refine x_iconst hx hb dL_law_629 ?_
  refine b_pc (pc1 := 630) rfl ?_
  refine x_iadd hx hb dL_law_630 ?_
  refine l_sld hx hb hX hbl eh hW (by omega) (by omega) e2 dL_law_631 ?_
  refine x_aload_n hx hb hl 3 rfl dL_law_632 rfl ?_
  refine x_iload_n hx hb hl 0 rfl dL_law_633 rfl ?_
  refine x_iconst hx hb dL_law_634 ?_
  refine x_iadd hx hb dL_law_635 ?_
  refine l_sld hx hb hX hbl eh hW (by omega) (by omega) e3 dL_law_636 ?_
  refine x_goi (x_runV (As := [.int (xJ a1), .int (xJ a2), .int (xJ a3)]) hx hb hml hown hT hE hW hl.1 (Or.inl (by decide)) (so_0 h0 g _) rfl cf_X10_home wq1015 wq1016 wq1014 (c_X10_home l D g T h0 σ hW.2.1 a1 r1 a2 r2 a3 r3 jC) ⟨rfl, rfl, ⟨by decide, by decide⟩, hcs⟩ rfl rfl (Nat.le_of_ble_eq_true rfl) dL_law_637) hW (fun q1 t1 H locs rq1 hp hW => ?_)
  obtain ⟨hF1, hI1, hp1⟩ := hp
  have jC1 := hI1.1
  have jn1 : IMn t1 := IMn_f (fun k hk => hF1 k (by unfold suIMn at hk; omega)) jn
  have jk1 : IMk t1 := IMk_f (fun k hk => hF1 k (by unfold suIMk at hk; omega)) jk
  have jo1 : IMo t1 := IMo_f (fun k hk => hF1 k (by unfold suIMo at hk; omega)) jo
  have j01 : t1 0 11 = 0 ∨ t1 0 11 = 1 := by rw [hF1 0 (by omega)]; exact j0
  have jz1 : t1 999996 0 = σ 999996 0 := by rw [hF1 999996 (by omega)]
  refine lv_pop hx hb dL_law_640 rfl ?_
  refine x_aload_n hx hb hl 1 rfl dL_law_641 rfl ?_
  refine b_pc (pc1 := 642) rfl ?_
  refine x_aload_n hx hb hl 3 rfl dL_law_642 rfl ?_
  refine x_iload_n hx hb hl 0 rfl dL_law_643 rfl ?_
  refine x_iconst hx hb dL_law_644 ?_
  refine x_iadd hx hb dL_law_645 ?_
  refine l_sld hx hb hX hbl eh hW (by omega) (by omega) e1 dL_law_646 ?_
  refine x_aload_n hx hb hl 3 rfl dL_law_647 rfl ?_
  refine x_iload_n hx hb hl 0 rfl dL_law_648 rfl ?_
  refine x_iconst hx hb dL_law_649 ?_
  refine x_iadd hx hb dL_law_650 ?_
  refine l_sld hx hb hX hbl eh hW (by omega) (by omega) e2 dL_law_651 ?_
  refine b_pc (pc1 := 652) rfl ?_
  refine x_aload_n hx hb hl 3 rfl dL_law_652 rfl ?_
  refine x_iload_n hx hb hl 0 rfl dL_law_653 rfl ?_
  refine x_iconst hx hb dL_law_654 ?_
  refine x_iadd hx hb dL_law_655 ?_
  refine l_sld hx hb hX hbl eh hW (by omega) (by omega) e3 dL_law_656 ?_
  refine x_goi (x_runV (As := [.int (xJ a1), .int (xJ a2), .int (xJ a3)]) hx hb hml hown hT hE hW hl.1 (Or.inl (by decide)) (so_268 h0 g _) rfl cf_X11_home wq1692 wq1693 wq1691 (c_X11_homeM l D g T h0 t1 hW.2.1 a1 r1 a2 r2 a3 r3 jn1 jk1 jo1) ⟨rfl, rfl, ⟨by decide, by decide⟩, hcs⟩ rfl rfl (Nat.le_of_ble_eq_true rfl) dL_law_657) hW (fun q2 t2 H locs rq2 hp hW => ?_)
  obtain ⟨hF2, hI2, hp2⟩ := hp
  have jC2 : IC t2 := IC_f (fun k hk => hF2 k (by unfold suIC at hk; omega)) jC1
  have j02 : t2 0 11 = 0 ∨ t2 0 11 = 1 := by rw [hF2 0 (by omega)]; exact j01
  have jz2 : t2 999996 0 = t1 999996 0 := by rw [hF2 999996 (by omega)]
  have u1 : t2 1 1 = t1 1 1 := by rw [hF2 1 (by omega)]
  have u2 : t1 268 8 = σ 268 8 := by rw [hF1 268 (by omega)]
  have u0 : σ 1 1 = σ 268 8 := jr.1
  have u3 : t1 1 1 = σ 1 1 := by rw [hF1 1 (by omega)]
  have u4 : t2 268 8 = t1 268 8 := hI2.2.2.2.1
  have u6 : t2 1 1 = t2 268 8 := by omega
  have u7 : t2 2 = xm8 (t2 276) ∧ xb8 (t2 276) := by rw [hF2 2 (by omega), hF1 2 (by omega), hF2 276 (by omega), hF1 276 (by omega)]; exact ⟨jr.2.1, jr.2.2.1⟩
  have w0a : t1 0 11 = σ 0 11 := by rw [hF1 0 (by omega)]
  have w0b : t2 0 11 = t1 0 11 := by rw [hF2 0 (by omega)]
  have w1a : t1 268 58 = σ 268 58 := by rw [hF1 268 (by omega)]
  have w1b : t2 268 58 = t1 268 58 := hI2.2.2.2.2.1
  have w2a : t1 136 7 = σ 136 7 := by rw [hF1 136 (by omega)]
  have w2b : t2 136 7 = t1 136 7 := by rw [hF2 136 (by omega)]
  have w3a : t1 146 7 = σ 146 7 := by rw [hF1 146 (by omega)]
  have w3b : t2 146 7 = t1 146 7 := by rw [hF2 146 (by omega)]
  have w4a : t1 269 37 = σ 269 37 := by rw [hF1 269 (by omega)]
  have w4b : t2 269 37 = t1 269 37 := hI2.2.2.2.2.2.1
  have w5a : t1 271 37 = σ 271 37 := by rw [hF1 271 (by omega)]
  have w5b : t2 271 37 = t1 271 37 := by rw [hF2 271 (by omega)]
  have jk0 := jr.2.2.2.2.2.1
  have jm0 := jr.2.2.2.2.2.2.1
  have jm1 := jr.2.2.2.2.2.2.2
  have g1 := IC.m jC2 xd_136
  have g2 := (IMn.n1 hI2.1).2.2.2.1
  have e5 : (t2 5 = t2 288 ∧ zk3 (t2 5)) := by rw [hF2 5 (by omega), hF1 5 (by omega), hF2 288 (by omega), hF1 288 (by omega)]; exact jr.2.2.2.1
  have e4 : (∀ j, 0 ≤ j → j < 100 → t2 4 j = t2 272 j ∧ 0 ≤ t2 4 j ∧ t2 4 j ≤ 3) := by rw [hF2 4 (by omega), hF1 4 (by omega), hF2 272 (by omega), hF1 272 (by omega)]; exact jr.2.2.2.2.1
  have hJ : lJ t2 (n + 1) := ⟨jC2, hI2.1, hI2.2.1, hI2.2.2.1, j02, ⟨by omega, by omega⟩, ⟨u6, u7.1, u7.2, e5, e4, by omega, by omega, by omega⟩⟩
  refine lv_pop hx hb dL_law_660 rfl ?_
  refine lv_goto (tgt := 990) hx hb dL_law_661 (by decide) ?_
  refine W.widen (k := cells + 1) (n := slots + 60) (by omega) (by omega) ?_
  exact kk H locs t2 hJ hW
theorem l_14 {p : Program} {e : Env} {s : State} {m : MethodId} {below : List Frame} {meth : Method} {c : Code} {l : Launch} {b h0 L : Nat} {xs : Nat → Int32} {D : va_G} {g : xG} {T : Nat × Nat × Nat} {H : Heap} {locs : List Loc} {ls : Array Slot} {cells slots : Nat} {Q : State → Prop} {σ : xS} {n : Nat} {i : Int} (hx : p.tables.exec = Jvm.exec) (hb : c.code = cL_law) (hml : c.maxLocals = 4) (hown : s.vm.findClass "ShadowCourtLaw" = some m.cls) (hT : ∀ w ∈ xTB, w.before #[Value.ref b] s = true) (hE : xE D g T h0 s) (hX : va_X b L xs s s.heap) (hbl : b < s.heap.size) (eh : h0 = s.heap.size) (hW : xW D g h0 s H locs σ) (hl : lv_has ls 4 [(3, .int (xJ i)), (2, .ref (h0 + 268)), (1, .ref (h0 + 0)), (0, .ref b)]) (hcs : cells ≤ 600000 ∧ slots ≤ 7302250) (hcs1 : cells + 1 ≤ 600000 ∧ slots + 60 ≤ 7302250) (hJ : lJ σ n) (hn : n ≤ 512) (hi : 0 ≤ i ∧ i + 5 < (L : Int) ∧ L ≤ 3072)
    (kk : ∀ (H : Heap) (locs : List Loc) (τ : xS), lJ τ (n + 1) → xW D g h0 s H locs τ → W p l e room_1 s m #[Value.ref b] below meth c H locs (cells + 1) (slots + 60) Q (F0 m 990 ls [])) : W p l e room_1 s m #[Value.ref b] below meth c H locs cells slots Q (F0 m 664 ls []) := by
  obtain ⟨jC, jn, jk, jo, j0, jz, jr⟩ := hJ
  obtain ⟨a1, e1, r1⟩ := xJ_ex (xs (i + 1).toNat)
  obtain ⟨a2, e2, r2⟩ := xJ_ex (xs (i + 2).toNat)
  refine x_aload_n hx hb hl 2 rfl dL_law_664 rfl ?_
  refine x_aload_n hx hb hl 3 rfl dL_law_665 rfl ?_
  refine x_iload_n hx hb hl 0 rfl dL_law_666 rfl ?_
  refine x_iconst hx hb dL_law_667 ?_
  refine x_iadd hx hb dL_law_668 ?_
  refine l_sld hx hb hX hbl eh hW (by omega) (by omega) e1 dL_law_669 ?_
  refine x_aload_n hx hb hl 3 rfl dL_law_670 rfl ?_
  refine x_iload_n hx hb hl 0 rfl dL_law_671 rfl ?_
  refine x_iconst hx hb dL_law_672 ?_
  refine b_pc (pc1 := 673) rfl ?_
  refine x_iadd hx hb dL_law_673 ?_
  refine l_sld hx hb hX hbl eh hW (by omega) (by omega) e2 dL_law_674 ?_
  refine x_goi (x_runV (As := [.int (xJ a1), .int (xJ a2)]) hx hb hml hown hT hE hW hl.1 (Or.inl (by decide)) (so_0 h0 g _) rfl cf_X10_first wq1034 wq1035 wq1033 (c_X10_first l D g T h0 σ hW.2.1 a1 r1 a2 r2 jC) ⟨rfl, rfl, ⟨by decide, by decide⟩, hcs⟩ rfl rfl (Nat.le_of_ble_eq_true rfl) dL_law_675) hW (fun q1 t1 H locs rq1 hp hW => ?_)
  obtain ⟨hF1, hI1, hp1⟩ := hp
  have jC1 := hI1.1
  have jn1 : IMn t1 := IMn_f (fun k hk => hF1 k (by unfold suIMn at hk; omega)) jn
  have jk1 : IMk t1 := IMk_f (fun k hk => hF1 k (by unfold suIMk at hk; omega)) jk
  have jo1 : IMo t1 := IMo_f (fun k hk => hF1 k (by unfold suIMo at hk; omega)) jo
  have j01 : t1 0 11 = 0 ∨ t1 0 11 = 1 := by rw [hF1 0 (by omega)]; exact j0
  have jz1 : t1 999996 0 = σ 999996 0 := by rw [hF1 999996 (by omega)]
  refine lv_pop hx hb dL_law_678 rfl ?_
  refine x_aload_n hx hb hl 1 rfl dL_law_679 rfl ?_
  refine x_aload_n hx hb hl 3 rfl dL_law_680 rfl ?_
  refine x_iload_n hx hb hl 0 rfl dL_law_681 rfl ?_
  refine x_iconst hx hb dL_law_682 ?_
  refine x_iadd hx hb dL_law_683 ?_
  refine l_sld hx hb hX hbl eh hW (by omega) (by omega) e1 dL_law_684 ?_
  refine b_pc (pc1 := 685) rfl ?_
  refine x_aload_n hx hb hl 3 rfl dL_law_685 rfl ?_
  refine x_iload_n hx hb hl 0 rfl dL_law_686 rfl ?_
  refine x_iconst hx hb dL_law_687 ?_
  refine x_iadd hx hb dL_law_688 ?_
  refine l_sld hx hb hX hbl eh hW (by omega) (by omega) e2 dL_law_689 ?_
  refine x_goi (x_runV (As := [.int (xJ a1), .int (xJ a2)]) hx hb hml hown hT hE hW hl.1 (Or.inl (by decide)) (so_268 h0 g _) rfl cf_X11_first wq1711 wq1712 wq1710 (c_X11_firstM l D g T h0 t1 hW.2.1 a1 r1 a2 r2 jn1 jk1 jo1) ⟨rfl, rfl, ⟨by decide, by decide⟩, hcs⟩ rfl rfl (Nat.le_of_ble_eq_true rfl) dL_law_690) hW (fun q2 t2 H locs rq2 hp hW => ?_)
  obtain ⟨hF2, hI2, hp2⟩ := hp
  have jC2 : IC t2 := IC_f (fun k hk => hF2 k (by unfold suIC at hk; omega)) jC1
  have j02 : t2 0 11 = 0 ∨ t2 0 11 = 1 := by rw [hF2 0 (by omega)]; exact j01
  have jz2 : t2 999996 0 = t1 999996 0 := by rw [hF2 999996 (by omega)]
  have u1 : t2 1 1 = t1 1 1 := by rw [hF2 1 (by omega)]
  have u2 : t1 268 8 = σ 268 8 := by rw [hF1 268 (by omega)]
  have u0 : σ 1 1 = σ 268 8 := jr.1
  have u3 : t1 1 1 = σ 1 1 := by rw [hF1 1 (by omega)]
  have u4 : t2 268 8 = t1 268 8 := hI2.2.2.2.1
  have u6 : t2 1 1 = t2 268 8 := by omega
  have u7 : t2 2 = xm8 (t2 276) ∧ xb8 (t2 276) := by rw [hF2 2 (by omega), hF1 2 (by omega), hF2 276 (by omega), hF1 276 (by omega)]; exact ⟨jr.2.1, jr.2.2.1⟩
  have w0a : t1 0 11 = σ 0 11 := by rw [hF1 0 (by omega)]
  have w0b : t2 0 11 = t1 0 11 := by rw [hF2 0 (by omega)]
  have w1a : t1 268 58 = σ 268 58 := by rw [hF1 268 (by omega)]
  have w1b : t2 268 58 = t1 268 58 := hI2.2.2.2.2.1
  have w2a : t1 136 7 = σ 136 7 := by rw [hF1 136 (by omega)]
  have w2b : t2 136 7 = t1 136 7 := by rw [hF2 136 (by omega)]
  have w3a : t1 146 7 = σ 146 7 := by rw [hF1 146 (by omega)]
  have w3b : t2 146 7 = t1 146 7 := by rw [hF2 146 (by omega)]
  have w4a : t1 269 37 = σ 269 37 := by rw [hF1 269 (by omega)]
  have w4b : t2 269 37 = t1 269 37 := hI2.2.2.2.2.2.1
  have w5a : t1 271 37 = σ 271 37 := by rw [hF1 271 (by omega)]
  have w5b : t2 271 37 = t1 271 37 := by rw [hF2 271 (by omega)]
  have jk0 := jr.2.2.2.2.2.1
  have jm0 := jr.2.2.2.2.2.2.1
  have jm1 := jr.2.2.2.2.2.2.2
  have g1 := IC.m jC2 xd_136
  have g2 := (IMn.n1 hI2.1).2.2.2.1
  have e5 : (t2 5 = t2 288 ∧ zk3 (t2 5)) := by rw [hF2 5 (by omega), hF1 5 (by omega), hF2 288 (by omega), hF1 288 (by omega)]; exact jr.2.2.2.1
  have e4 : (∀ j, 0 ≤ j → j < 100 → t2 4 j = t2 272 j ∧ 0 ≤ t2 4 j ∧ t2 4 j ≤ 3) := by rw [hF2 4 (by omega), hF1 4 (by omega), hF2 272 (by omega), hF1 272 (by omega)]; exact jr.2.2.2.2.1
  have hJ : lJ t2 (n + 1) := ⟨jC2, hI2.1, hI2.2.1, hI2.2.2.1, j02, ⟨by omega, by omega⟩, ⟨u6, u7.1, u7.2, e5, e4, by omega, by omega, by omega⟩⟩
  refine lv_pop hx hb dL_law_693 rfl ?_
  refine lv_goto (tgt := 990) hx hb dL_law_694 (by decide) ?_
  refine W.widen (k := cells + 1) (n := slots + 60) (by omega) (by omega) ?_
  exact kk H locs t2 hJ hW
theorem l_15 {p : Program} {e : Env} {s : State} {m : MethodId} {below : List Frame} {meth : Method} {c : Code} {l : Launch} {b h0 L : Nat} {xs : Nat → Int32} {D : va_G} {g : xG} {T : Nat × Nat × Nat} {H : Heap} {locs : List Loc} {ls : Array Slot} {cells slots : Nat} {Q : State → Prop} {σ : xS} {n : Nat} {i : Int} (hx : p.tables.exec = Jvm.exec) (hb : c.code = cL_law) (hml : c.maxLocals = 4) (hown : s.vm.findClass "ShadowCourtLaw" = some m.cls) (hT : ∀ w ∈ xTB, w.before #[Value.ref b] s = true) (hE : xE D g T h0 s) (hX : va_X b L xs s s.heap) (hbl : b < s.heap.size) (eh : h0 = s.heap.size) (hW : xW D g h0 s H locs σ) (hl : lv_has ls 4 [(3, .int (xJ i)), (2, .ref (h0 + 268)), (1, .ref (h0 + 0)), (0, .ref b)]) (hcs : cells ≤ 600000 ∧ slots ≤ 7302250) (hcs1 : cells + 1 ≤ 600000 ∧ slots + 60 ≤ 7302250) (hJ : lJ σ n) (hn : n ≤ 512) (hi : 0 ≤ i ∧ i + 5 < (L : Int) ∧ L ≤ 3072)
    (kk : ∀ (H : Heap) (locs : List Loc) (τ : xS), lJ τ (n + 1) → xW D g h0 s H locs τ → W p l e room_1 s m #[Value.ref b] below meth c H locs (cells + 1) (slots + 60) Q (F0 m 990 ls [])) : W p l e room_1 s m #[Value.ref b] below meth c H locs cells slots Q (F0 m 697 ls []) := by
  obtain ⟨jC, jn, jk, jo, j0, jz, jr⟩ := hJ
  obtain ⟨a1, e1, r1⟩ := xJ_ex (xs (i + 1).toNat)
  obtain ⟨a2, e2, r2⟩ := xJ_ex (xs (i + 2).toNat)
  refine x_aload_n hx hb hl 2 rfl dL_law_697 rfl ?_
  refine x_aload_n hx hb hl 3 rfl dL_law_698 rfl ?_
  refine x_iload_n hx hb hl 0 rfl dL_law_699 rfl ?_
  refine x_iconst hx hb dL_law_700 ?_
  refine x_iadd hx hb dL_law_701 ?_
  refine l_sld hx hb hX hbl eh hW (by omega) (by omega) e1 dL_law_702 ?_
  refine x_aload_n hx hb hl 3 rfl dL_law_703 rfl ?_
  refine x_iload_n hx hb hl 0 rfl dL_law_704 rfl ?_
  refine x_iconst hx hb dL_law_705 ?_
  refine b_pc (pc1 := 706) rfl ?_
  refine x_iadd hx hb dL_law_706 ?_
  refine l_sld hx hb hX hbl eh hW (by omega) (by omega) e2 dL_law_707 ?_
  refine x_goi (x_runV (As := [.int (xJ a1), .int (xJ a2)]) hx hb hml hown hT hE hW hl.1 (Or.inl (by decide)) (so_0 h0 g _) rfl cf_X10_dark wq1043 wq1044 wq1042 (c_X10_dark l D g T h0 σ hW.2.1 a1 r1 a2 r2 jC) ⟨rfl, rfl, ⟨by decide, by decide⟩, hcs⟩ rfl rfl (Nat.le_of_ble_eq_true rfl) dL_law_708) hW (fun q1 t1 H locs rq1 hp hW => ?_)
  obtain ⟨hF1, hI1, hp1⟩ := hp
  have jC1 := hI1.1
  have jn1 : IMn t1 := IMn_f (fun k hk => hF1 k (by unfold suIMn at hk; omega)) jn
  have jk1 : IMk t1 := IMk_f (fun k hk => hF1 k (by unfold suIMk at hk; omega)) jk
  have jo1 : IMo t1 := IMo_f (fun k hk => hF1 k (by unfold suIMo at hk; omega)) jo
  have j01 : t1 0 11 = 0 ∨ t1 0 11 = 1 := by rw [hF1 0 (by omega)]; exact j0
  have jz1 : t1 999996 0 = σ 999996 0 := by rw [hF1 999996 (by omega)]
  refine lv_pop hx hb dL_law_711 rfl ?_
  refine x_aload_n hx hb hl 1 rfl dL_law_712 rfl ?_
  refine x_aload_n hx hb hl 3 rfl dL_law_713 rfl ?_
  refine x_iload_n hx hb hl 0 rfl dL_law_714 rfl ?_
  refine x_iconst hx hb dL_law_715 ?_
  refine x_iadd hx hb dL_law_716 ?_
  refine l_sld hx hb hX hbl eh hW (by omega) (by omega) e1 dL_law_717 ?_
  refine b_pc (pc1 := 718) rfl ?_
  refine x_aload_n hx hb hl 3 rfl dL_law_718 rfl ?_
  refine x_iload_n hx hb hl 0 rfl dL_law_719 rfl ?_
  refine x_iconst hx hb dL_law_720 ?_
  refine x_iadd hx hb dL_law_721 ?_
  refine l_sld hx hb hX hbl eh hW (by omega) (by omega) e2 dL_law_722 ?_
  refine x_goi (x_runV (As := [.int (xJ a1), .int (xJ a2)]) hx hb hml hown hT hE hW hl.1 (Or.inl (by decide)) (so_268 h0 g _) rfl cf_X11_dark wq1719 wq1720 wq1718 (c_X11_darkM l D g T h0 t1 hW.2.1 a1 r1 a2 r2 jn1 jk1 jo1) ⟨rfl, rfl, ⟨by decide, by decide⟩, hcs⟩ rfl rfl (Nat.le_of_ble_eq_true rfl) dL_law_723) hW (fun q2 t2 H locs rq2 hp hW => ?_)
  obtain ⟨hF2, hI2, hp2⟩ := hp
  have jC2 : IC t2 := IC_f (fun k hk => hF2 k (by unfold suIC at hk; omega)) jC1
  have j02 : t2 0 11 = 0 ∨ t2 0 11 = 1 := by rw [hF2 0 (by omega)]; exact j01
  have jz2 : t2 999996 0 = t1 999996 0 := by rw [hF2 999996 (by omega)]
  have u1 : t2 1 1 = t1 1 1 := by rw [hF2 1 (by omega)]
  have u2 : t1 268 8 = σ 268 8 := by rw [hF1 268 (by omega)]
  have u0 : σ 1 1 = σ 268 8 := jr.1
  have u3 : t1 1 1 = σ 1 1 := by rw [hF1 1 (by omega)]
  have u4 : t2 268 8 = t1 268 8 := by rw [hF2 268 (by omega)]
  have u6 : t2 1 1 = t2 268 8 := by omega
  have u7 : t2 2 = xm8 (t2 276) ∧ xb8 (t2 276) := by rw [hF2 2 (by omega), hF1 2 (by omega), hF2 276 (by omega), hF1 276 (by omega)]; exact ⟨jr.2.1, jr.2.2.1⟩
  have w0a : t1 0 11 = σ 0 11 := by rw [hF1 0 (by omega)]
  have w0b : t2 0 11 = t1 0 11 := by rw [hF2 0 (by omega)]
  have w1a : t1 268 58 = σ 268 58 := by rw [hF1 268 (by omega)]
  have w1b : t2 268 58 = t1 268 58 := by rw [hF2 268 (by omega)]
  have w2a : t1 136 7 = σ 136 7 := by rw [hF1 136 (by omega)]
  have w2b : t2 136 7 = t1 136 7 := by rw [hF2 136 (by omega)]
  have w3a : t1 146 7 = σ 146 7 := by rw [hF1 146 (by omega)]
  have w3b : t2 146 7 = t1 146 7 := by rw [hF2 146 (by omega)]
  have w4a : t1 269 37 = σ 269 37 := by rw [hF1 269 (by omega)]
  have w4b : t2 269 37 = t1 269 37 := hI2.2.2.2.1
  have w5a : t1 271 37 = σ 271 37 := by rw [hF1 271 (by omega)]
  have w5b : t2 271 37 = t1 271 37 := by rw [hF2 271 (by omega)]
  have jk0 := jr.2.2.2.2.2.1
  have jm0 := jr.2.2.2.2.2.2.1
  have jm1 := jr.2.2.2.2.2.2.2
  have g1 := IC.m jC2 xd_136
  have g2 := (IMn.n1 hI2.1).2.2.2.1
  have e5 : (t2 5 = t2 288 ∧ zk3 (t2 5)) := by rw [hF2 5 (by omega), hF1 5 (by omega), hF2 288 (by omega), hF1 288 (by omega)]; exact jr.2.2.2.1
  have e4 : (∀ j, 0 ≤ j → j < 100 → t2 4 j = t2 272 j ∧ 0 ≤ t2 4 j ∧ t2 4 j ≤ 3) := by rw [hF2 4 (by omega), hF1 4 (by omega), hF2 272 (by omega), hF1 272 (by omega)]; exact jr.2.2.2.2.1
  have hJ : lJ t2 (n + 1) := ⟨jC2, hI2.1, hI2.2.1, hI2.2.2.1, j02, ⟨by omega, by omega⟩, ⟨u6, u7.1, u7.2, e5, e4, by omega, by omega, by omega⟩⟩
  refine lv_pop hx hb dL_law_726 rfl ?_
  refine lv_goto (tgt := 990) hx hb dL_law_727 (by decide) ?_
  refine W.widen (k := cells + 1) (n := slots + 60) (by omega) (by omega) ?_
  exact kk H locs t2 hJ hW
theorem l_16 {p : Program} {e : Env} {s : State} {m : MethodId} {below : List Frame} {meth : Method} {c : Code} {l : Launch} {b h0 L : Nat} {xs : Nat → Int32} {D : va_G} {g : xG} {T : Nat × Nat × Nat} {H : Heap} {locs : List Loc} {ls : Array Slot} {cells slots : Nat} {Q : State → Prop} {σ : xS} {n : Nat} {i : Int} (hx : p.tables.exec = Jvm.exec) (hb : c.code = cL_law) (hml : c.maxLocals = 4) (hown : s.vm.findClass "ShadowCourtLaw" = some m.cls) (hT : ∀ w ∈ xTB, w.before #[Value.ref b] s = true) (hE : xE D g T h0 s) (hX : va_X b L xs s s.heap) (hbl : b < s.heap.size) (eh : h0 = s.heap.size) (hW : xW D g h0 s H locs σ) (hl : lv_has ls 4 [(3, .int (xJ i)), (2, .ref (h0 + 268)), (1, .ref (h0 + 0)), (0, .ref b)]) (hcs : cells ≤ 600000 ∧ slots ≤ 7302250) (hcs1 : cells + 1 ≤ 600000 ∧ slots + 60 ≤ 7302250) (hJ : lJ σ n) (hn : n ≤ 512) (hi : 0 ≤ i ∧ i + 5 < (L : Int) ∧ L ≤ 3072)
    (kk : ∀ (H : Heap) (locs : List Loc) (τ : xS), lJ τ (n + 1) → xW D g h0 s H locs τ → W p l e room_1 s m #[Value.ref b] below meth c H locs (cells + 1) (slots + 60) Q (F0 m 990 ls [])) : W p l e room_1 s m #[Value.ref b] below meth c H locs cells slots Q (F0 m 730 ls []) := by
  obtain ⟨jC, jn, jk, jo, j0, jz, jr⟩ := hJ
  obtain ⟨a1, e1, r1⟩ := xJ_ex (xs (i + 1).toNat)
  refine x_aload_n hx hb hl 2 rfl dL_law_730 rfl ?_
  refine x_aload_n hx hb hl 3 rfl dL_law_731 rfl ?_
  refine x_iload_n hx hb hl 0 rfl dL_law_732 rfl ?_
  refine x_iconst hx hb dL_law_733 ?_
  refine x_iadd hx hb dL_law_734 ?_
  refine l_sld hx hb hX hbl eh hW (by omega) (by omega) e1 dL_law_735 ?_
  refine x_goi (x_runV (As := [.int (xJ a1)]) hx hb hml hown hT hE hW hl.1 (Or.inl (by decide)) (so_0 h0 g _) rfl cf_X10_hung wq1060 wq1061 wq1059 (c_X10_hung l D g T h0 σ hW.2.1 a1 r1 jC) ⟨rfl, rfl, ⟨by decide, by decide⟩, hcs⟩ rfl rfl (Nat.le_of_ble_eq_true rfl) dL_law_736) hW (fun q1 t1 H locs rq1 hp hW => ?_)
  obtain ⟨hF1, hI1, hp1⟩ := hp
  have jC1 := hI1.1
  have jn1 : IMn t1 := IMn_f (fun k hk => hF1 k (by unfold suIMn at hk; omega)) jn
  have jk1 : IMk t1 := IMk_f (fun k hk => hF1 k (by unfold suIMk at hk; omega)) jk
  have jo1 : IMo t1 := IMo_f (fun k hk => hF1 k (by unfold suIMo at hk; omega)) jo
  have j01 : t1 0 11 = 0 ∨ t1 0 11 = 1 := by rw [hF1 0 (by omega)]; exact j0
  have jz1 : t1 999996 0 = σ 999996 0 := by rw [hF1 999996 (by omega)]
  refine lv_pop hx hb dL_law_739 rfl ?_
  refine x_aload_n hx hb hl 1 rfl dL_law_740 rfl ?_
  refine b_pc (pc1 := 741) rfl ?_
  refine x_aload_n hx hb hl 3 rfl dL_law_741 rfl ?_
  refine x_iload_n hx hb hl 0 rfl dL_law_742 rfl ?_
  refine x_iconst hx hb dL_law_743 ?_
  refine x_iadd hx hb dL_law_744 ?_
  refine l_sld hx hb hX hbl eh hW (by omega) (by omega) e1 dL_law_745 ?_
  refine x_goi (x_runV (As := [.int (xJ a1)]) hx hb hml hown hT hE hW hl.1 (Or.inl (by decide)) (so_268 h0 g _) rfl cf_X11_hung wq1703 wq1704 wq1702 (c_X11_hung l D g T h0 t1 hW.2.1 a1 r1 jn1 jk1 jo1) ⟨rfl, rfl, ⟨by decide, by decide⟩, hcs⟩ rfl rfl (Nat.le_of_ble_eq_true rfl) dL_law_746) hW (fun q2 t2 H locs rq2 hp hW => ?_)
  obtain ⟨hF2, hI2, hp2⟩ := hp
  have jC2 : IC t2 := IC_f (fun k hk => hF2 k (by unfold suIC at hk; omega)) jC1
  have j02 : t2 0 11 = 0 ∨ t2 0 11 = 1 := by rw [hF2 0 (by omega)]; exact j01
  have jz2 : t2 999996 0 = t1 999996 0 := by rw [hF2 999996 (by omega)]
  have u1 : t2 1 1 = t1 1 1 := by rw [hF2 1 (by omega)]
  have u2 : t1 268 8 = σ 268 8 := by rw [hF1 268 (by omega)]
  have u0 : σ 1 1 = σ 268 8 := jr.1
  have u3 : t1 1 1 = σ 1 1 := by rw [hF1 1 (by omega)]
  have u4 : t2 268 8 = t1 268 8 := by rw [hF2 268 (by omega)]
  have u6 : t2 1 1 = t2 268 8 := by omega
  have u7 : t2 2 = xm8 (t2 276) ∧ xb8 (t2 276) := by rw [hF2 2 (by omega), hF1 2 (by omega), hF2 276 (by omega), hF1 276 (by omega)]; exact ⟨jr.2.1, jr.2.2.1⟩
  have w0a : t1 0 11 = σ 0 11 := by rw [hF1 0 (by omega)]
  have w0b : t2 0 11 = t1 0 11 := by rw [hF2 0 (by omega)]
  have w1a : t1 268 58 = σ 268 58 := by rw [hF1 268 (by omega)]
  have w1b : t2 268 58 = t1 268 58 := by rw [hF2 268 (by omega)]
  have w2a : t1 136 7 = σ 136 7 := by rw [hF1 136 (by omega)]
  have w2b : t2 136 7 = t1 136 7 := by rw [hF2 136 (by omega)]
  have w3a : t1 146 7 = σ 146 7 := by rw [hF1 146 (by omega)]
  have w3b : t2 146 7 = t1 146 7 := by rw [hF2 146 (by omega)]
  have w4a : t1 269 37 = σ 269 37 := by rw [hF1 269 (by omega)]
  have w4b : t2 269 37 = t1 269 37 := by rw [hF2 269 (by omega)]
  have w5a : t1 271 37 = σ 271 37 := by rw [hF1 271 (by omega)]
  have w5b : t2 271 37 = t1 271 37 := by rw [hF2 271 (by omega)]
  have jk0 := jr.2.2.2.2.2.1
  have jm0 := jr.2.2.2.2.2.2.1
  have jm1 := jr.2.2.2.2.2.2.2
  have g1 := IC.m jC2 xd_136
  have g2 := (IMn.n1 hI2.1).2.2.2.1
  have e5 : (t2 5 = t2 288 ∧ zk3 (t2 5)) := by rw [hF2 5 (by omega), hF1 5 (by omega), hF2 288 (by omega), hF1 288 (by omega)]; exact jr.2.2.2.1
  have e4 : (∀ j, 0 ≤ j → j < 100 → t2 4 j = t2 272 j ∧ 0 ≤ t2 4 j ∧ t2 4 j ≤ 3) := by rw [hF2 4 (by omega), hF1 4 (by omega), hF2 272 (by omega), hF1 272 (by omega)]; exact jr.2.2.2.2.1
  have hJ : lJ t2 (n + 1) := ⟨jC2, hI2.1, hI2.2.1, hI2.2.2.1, j02, ⟨by omega, by omega⟩, ⟨u6, u7.1, u7.2, e5, e4, by omega, by omega, by omega⟩⟩
  refine lv_pop hx hb dL_law_749 rfl ?_
  refine lv_goto (tgt := 990) hx hb dL_law_750 (by decide) ?_
  refine W.widen (k := cells + 1) (n := slots + 60) (by omega) (by omega) ?_
  exact kk H locs t2 hJ hW
theorem l_17 {p : Program} {e : Env} {s : State} {m : MethodId} {below : List Frame} {meth : Method} {c : Code} {l : Launch} {b h0 L : Nat} {xs : Nat → Int32} {D : va_G} {g : xG} {T : Nat × Nat × Nat} {H : Heap} {locs : List Loc} {ls : Array Slot} {cells slots : Nat} {Q : State → Prop} {σ : xS} {n : Nat} {i : Int} (hx : p.tables.exec = Jvm.exec) (hb : c.code = cL_law) (hml : c.maxLocals = 4) (hown : s.vm.findClass "ShadowCourtLaw" = some m.cls) (hT : ∀ w ∈ xTB, w.before #[Value.ref b] s = true) (hE : xE D g T h0 s) (hX : va_X b L xs s s.heap) (hbl : b < s.heap.size) (eh : h0 = s.heap.size) (hW : xW D g h0 s H locs σ) (hl : lv_has ls 4 [(3, .int (xJ i)), (2, .ref (h0 + 268)), (1, .ref (h0 + 0)), (0, .ref b)]) (hcs : cells ≤ 600000 ∧ slots ≤ 7302250) (hcs1 : cells + 1 ≤ 600000 ∧ slots + 60 ≤ 7302250) (hJ : lJ σ n) (hn : n ≤ 512) (hi : 0 ≤ i ∧ i + 5 < (L : Int) ∧ L ≤ 3072)
    (kk : ∀ (H : Heap) (locs : List Loc) (τ : xS), lJ τ (n + 1) → xW D g h0 s H locs τ → W p l e room_1 s m #[Value.ref b] below meth c H locs (cells + 1) (slots + 60) Q (F0 m 990 ls [])) : W p l e room_1 s m #[Value.ref b] below meth c H locs cells slots Q (F0 m 753 ls []) := by
  obtain ⟨jC, jn, jk, jo, j0, jz, jr⟩ := hJ
  obtain ⟨a1, e1, r1⟩ := xJ_ex (xs (i + 1).toNat)
  obtain ⟨a2, e2, r2⟩ := xJ_ex (xs (i + 2).toNat)
  refine x_aload_n hx hb hl 2 rfl dL_law_753 rfl ?_
  refine x_aload_n hx hb hl 3 rfl dL_law_754 rfl ?_
  refine x_iload_n hx hb hl 0 rfl dL_law_755 rfl ?_
  refine x_iconst hx hb dL_law_756 ?_
  refine x_iadd hx hb dL_law_757 ?_
  refine l_sld hx hb hX hbl eh hW (by omega) (by omega) e1 dL_law_758 ?_
  refine x_aload_n hx hb hl 3 rfl dL_law_759 rfl ?_
  refine x_iload_n hx hb hl 0 rfl dL_law_760 rfl ?_
  refine x_iconst hx hb dL_law_761 ?_
  refine b_pc (pc1 := 762) rfl ?_
  refine x_iadd hx hb dL_law_762 ?_
  refine l_sld hx hb hX hbl eh hW (by omega) (by omega) e2 dL_law_763 ?_
  refine x_goi (x_runV (As := [.int (xJ a1), .int (xJ a2)]) hx hb hml hown hT hE hW hl.1 (Or.inl (by decide)) (so_0 h0 g _) rfl cf_X10_prints wq1075 wq1076 wq1074 (c_X10_prints l D g T h0 σ hW.2.1 a1 r1 a2 r2 jC) ⟨rfl, rfl, ⟨by decide, by decide⟩, hcs⟩ rfl rfl (Nat.le_of_ble_eq_true rfl) dL_law_764) hW (fun q1 t1 H locs rq1 hp hW => ?_)
  obtain ⟨hF1, hI1, hp1⟩ := hp
  have jC1 := hI1.1
  have jn1 : IMn t1 := IMn_f (fun k hk => hF1 k (by unfold suIMn at hk; omega)) jn
  have jk1 : IMk t1 := IMk_f (fun k hk => hF1 k (by unfold suIMk at hk; omega)) jk
  have jo1 : IMo t1 := IMo_f (fun k hk => hF1 k (by unfold suIMo at hk; omega)) jo
  have j01 : t1 0 11 = 0 ∨ t1 0 11 = 1 := by rw [hF1 0 (by omega)]; exact j0
  have jz1 : t1 999996 0 = σ 999996 0 := by rw [hF1 999996 (by omega)]
  refine lv_pop hx hb dL_law_767 rfl ?_
  refine x_aload_n hx hb hl 1 rfl dL_law_768 rfl ?_
  refine x_aload_n hx hb hl 3 rfl dL_law_769 rfl ?_
  refine x_iload_n hx hb hl 0 rfl dL_law_770 rfl ?_
  refine x_iconst hx hb dL_law_771 ?_
  refine x_iadd hx hb dL_law_772 ?_
  refine l_sld hx hb hX hbl eh hW (by omega) (by omega) e1 dL_law_773 ?_
  refine b_pc (pc1 := 774) rfl ?_
  refine x_aload_n hx hb hl 3 rfl dL_law_774 rfl ?_
  refine x_iload_n hx hb hl 0 rfl dL_law_775 rfl ?_
  refine x_iconst hx hb dL_law_776 ?_
  refine x_iadd hx hb dL_law_777 ?_
  refine l_sld hx hb hX hbl eh hW (by omega) (by omega) e2 dL_law_778 ?_
  refine x_goi (x_runV (As := [.int (xJ a1), .int (xJ a2)]) hx hb hml hown hT hE hW hl.1 (Or.inl (by decide)) (so_268 h0 g _) rfl cf_X11_prints wq1727 wq1728 wq1726 (c_X11_prints l D g T h0 t1 hW.2.1 a1 r1 a2 r2 jn1 jk1 jo1) ⟨rfl, rfl, ⟨by decide, by decide⟩, hcs⟩ rfl rfl (Nat.le_of_ble_eq_true rfl) dL_law_779) hW (fun q2 t2 H locs rq2 hp hW => ?_)
  obtain ⟨hF2, hI2, hp2⟩ := hp
  have jC2 : IC t2 := IC_f (fun k hk => hF2 k (by unfold suIC at hk; omega)) jC1
  have j02 : t2 0 11 = 0 ∨ t2 0 11 = 1 := by rw [hF2 0 (by omega)]; exact j01
  have jz2 : t2 999996 0 = t1 999996 0 := by rw [hF2 999996 (by omega)]
  have u1 : t2 1 1 = t1 1 1 := by rw [hF2 1 (by omega)]
  have u2 : t1 268 8 = σ 268 8 := by rw [hF1 268 (by omega)]
  have u0 : σ 1 1 = σ 268 8 := jr.1
  have u6 : t2 1 1 = t2 268 8 := by omega
  have u7 : t2 2 = xm8 (t2 276) ∧ xb8 (t2 276) := by rw [hF2 2 (by omega), hF1 2 (by omega), hF2 276 (by omega), hF1 276 (by omega)]; exact ⟨jr.2.1, jr.2.2.1⟩
  have w0a : t1 0 11 = σ 0 11 := by rw [hF1 0 (by omega)]
  have w0b : t2 0 11 = t1 0 11 := by rw [hF2 0 (by omega)]
  have w1a : t1 268 58 = σ 268 58 := by rw [hF1 268 (by omega)]
  have w1b : t2 268 58 = t1 268 58 := hI2.2.2.2.1
  have w2a : t1 136 7 = σ 136 7 := by rw [hF1 136 (by omega)]
  have w2b : t2 136 7 = t1 136 7 := by rw [hF2 136 (by omega)]
  have w3a : t1 146 7 = σ 146 7 := by rw [hF1 146 (by omega)]
  have w3b : t2 146 7 = t1 146 7 := by rw [hF2 146 (by omega)]
  have w4a : t1 269 37 = σ 269 37 := by rw [hF1 269 (by omega)]
  have w4b : t2 269 37 = t1 269 37 := by rw [hF2 269 (by omega)]
  have w5a : t1 271 37 = σ 271 37 := by rw [hF1 271 (by omega)]
  have w5b : t2 271 37 = t1 271 37 := by rw [hF2 271 (by omega)]
  have jk0 := jr.2.2.2.2.2.1
  have jm0 := jr.2.2.2.2.2.2.1
  have jm1 := jr.2.2.2.2.2.2.2
  have g1 := IC.m jC2 xd_136
  have g2 := (IMn.n1 hI2.1).2.2.2.1
  have e5 : (t2 5 = t2 288 ∧ zk3 (t2 5)) := by rw [hF2 5 (by omega), hF1 5 (by omega), hF2 288 (by omega), hF1 288 (by omega)]; exact jr.2.2.2.1
  have e4 : (∀ j, 0 ≤ j → j < 100 → t2 4 j = t2 272 j ∧ 0 ≤ t2 4 j ∧ t2 4 j ≤ 3) := by rw [hF2 4 (by omega), hF1 4 (by omega), hF2 272 (by omega), hF1 272 (by omega)]; exact jr.2.2.2.2.1
  have hJ : lJ t2 (n + 1) := ⟨jC2, hI2.1, hI2.2.1, hI2.2.2.1, j02, ⟨by omega, by omega⟩, ⟨u6, u7.1, u7.2, e5, e4, by omega, by omega, by omega⟩⟩
  refine lv_pop hx hb dL_law_782 rfl ?_
  refine lv_goto (tgt := 990) hx hb dL_law_783 (by decide) ?_
  refine W.widen (k := cells + 1) (n := slots + 60) (by omega) (by omega) ?_
  exact kk H locs t2 hJ hW
theorem l_18 {p : Program} {e : Env} {s : State} {m : MethodId} {below : List Frame} {meth : Method} {c : Code} {l : Launch} {b h0 L : Nat} {xs : Nat → Int32} {D : va_G} {g : xG} {T : Nat × Nat × Nat} {H : Heap} {locs : List Loc} {ls : Array Slot} {cells slots : Nat} {Q : State → Prop} {σ : xS} {n : Nat} {i : Int} (hx : p.tables.exec = Jvm.exec) (hb : c.code = cL_law) (hml : c.maxLocals = 4) (hown : s.vm.findClass "ShadowCourtLaw" = some m.cls) (hT : ∀ w ∈ xTB, w.before #[Value.ref b] s = true) (hE : xE D g T h0 s) (hX : va_X b L xs s s.heap) (hbl : b < s.heap.size) (eh : h0 = s.heap.size) (hW : xW D g h0 s H locs σ) (hl : lv_has ls 4 [(3, .int (xJ i)), (2, .ref (h0 + 268)), (1, .ref (h0 + 0)), (0, .ref b)]) (hcs : cells ≤ 600000 ∧ slots ≤ 7302250) (hcs1 : cells + 1 ≤ 600000 ∧ slots + 60 ≤ 7302250) (hJ : lJ σ n) (hn : n ≤ 512) (hi : 0 ≤ i ∧ i + 5 < (L : Int) ∧ L ≤ 3072)
    (kk : ∀ (H : Heap) (locs : List Loc) (τ : xS), lJ τ (n + 1) → xW D g h0 s H locs τ → W p l e room_1 s m #[Value.ref b] below meth c H locs (cells + 1) (slots + 60) Q (F0 m 990 ls [])) : W p l e room_1 s m #[Value.ref b] below meth c H locs cells slots Q (F0 m 786 ls []) := by
  obtain ⟨jC, jn, jk, jo, j0, jz, jr⟩ := hJ
  obtain ⟨a1, e1, r1⟩ := xJ_ex (xs (i + 1).toNat)
  obtain ⟨a2, e2, r2⟩ := xJ_ex (xs (i + 2).toNat)
  obtain ⟨a3, e3, r3⟩ := xJ_ex (xs (i + 3).toNat)
  refine x_aload_n hx hb hl 2 rfl dL_law_786 rfl ?_
  refine x_aload_n hx hb hl 3 rfl dL_law_787 rfl ?_
  refine x_iload_n hx hb hl 0 rfl dL_law_788 rfl ?_
  refine x_iconst hx hb dL_law_789 ?_
  refine x_iadd hx hb dL_law_790 ?_
  refine l_sld hx hb hX hbl eh hW (by omega) (by omega) e1 dL_law_791 ?_
  refine x_aload_n hx hb hl 3 rfl dL_law_792 rfl ?_
  refine x_iload_n hx hb hl 0 rfl dL_law_793 rfl ?_
  refine x_iconst hx hb dL_law_794 ?_
  refine b_pc (pc1 := 795) rfl ?_
  refine x_iadd hx hb dL_law_795 ?_
  refine l_sld hx hb hX hbl eh hW (by omega) (by omega) e2 dL_law_796 ?_
  refine x_aload_n hx hb hl 3 rfl dL_law_797 rfl ?_
  refine x_iload_n hx hb hl 0 rfl dL_law_798 rfl ?_
  refine x_iconst hx hb dL_law_799 ?_
  refine x_iadd hx hb dL_law_800 ?_
  refine l_sld hx hb hX hbl eh hW (by omega) (by omega) e3 dL_law_801 ?_
  refine x_goi (x_runV (As := [.int (xJ a1), .int (xJ a2), .int (xJ a3)]) hx hb hml hown hT hE hW hl.1 (Or.inl (by decide)) (so_0 h0 g _) rfl cf_X10_cloudy wq1110 wq1111 wq1109 (c_X10_cloudy l D g T h0 σ hW.2.1 a1 r1 a2 r2 a3 r3 jC) ⟨rfl, rfl, ⟨by decide, by decide⟩, hcs⟩ rfl rfl (Nat.le_of_ble_eq_true rfl) dL_law_802) hW (fun q1 t1 H locs rq1 hp hW => ?_)
  obtain ⟨hF1, hI1, hp1⟩ := hp
  have jC1 := hI1.1
  have jn1 : IMn t1 := IMn_f (fun k hk => hF1 k (by unfold suIMn at hk; omega)) jn
  have jk1 : IMk t1 := IMk_f (fun k hk => hF1 k (by unfold suIMk at hk; omega)) jk
  have jo1 : IMo t1 := IMo_f (fun k hk => hF1 k (by unfold suIMo at hk; omega)) jo
  have j01 : t1 0 11 = 0 ∨ t1 0 11 = 1 := by rw [hF1 0 (by omega)]; exact j0
  have jz1 : t1 999996 0 = σ 999996 0 := by rw [hF1 999996 (by omega)]
  refine lv_pop hx hb dL_law_805 rfl ?_
  refine x_aload_n hx hb hl 1 rfl dL_law_806 rfl ?_
  refine b_pc (pc1 := 807) rfl ?_
  refine x_aload_n hx hb hl 3 rfl dL_law_807 rfl ?_
  refine x_iload_n hx hb hl 0 rfl dL_law_808 rfl ?_
  refine x_iconst hx hb dL_law_809 ?_
  refine x_iadd hx hb dL_law_810 ?_
  refine l_sld hx hb hX hbl eh hW (by omega) (by omega) e1 dL_law_811 ?_
  refine x_aload_n hx hb hl 3 rfl dL_law_812 rfl ?_
  refine x_iload_n hx hb hl 0 rfl dL_law_813 rfl ?_
  refine x_iconst hx hb dL_law_814 ?_
  refine x_iadd hx hb dL_law_815 ?_
  refine l_sld hx hb hX hbl eh hW (by omega) (by omega) e2 dL_law_816 ?_
  refine b_pc (pc1 := 817) rfl ?_
  refine x_aload_n hx hb hl 3 rfl dL_law_817 rfl ?_
  refine x_iload_n hx hb hl 0 rfl dL_law_818 rfl ?_
  refine x_iconst hx hb dL_law_819 ?_
  refine x_iadd hx hb dL_law_820 ?_
  refine l_sld hx hb hX hbl eh hW (by omega) (by omega) e3 dL_law_821 ?_
  refine x_goi (x_runV (As := [.int (xJ a1), .int (xJ a2), .int (xJ a3)]) hx hb hml hown hT hE hW hl.1 (Or.inl (by decide)) (so_268 h0 g _) rfl cf_X11_cloudy wq1739 wq1740 wq1738 (c_X11_cloudy l D g T h0 t1 hW.2.1 a1 r1 a2 r2 a3 r3 jn1 jk1 jo1) ⟨rfl, rfl, ⟨by decide, by decide⟩, hcs⟩ rfl rfl (Nat.le_of_ble_eq_true rfl) dL_law_822) hW (fun q2 t2 H locs rq2 hp hW => ?_)
  obtain ⟨hF2, hI2, hp2⟩ := hp
  have jC2 : IC t2 := IC_f (fun k hk => hF2 k (by unfold suIC at hk; omega)) jC1
  have j02 : t2 0 11 = 0 ∨ t2 0 11 = 1 := by rw [hF2 0 (by omega)]; exact j01
  have jz2 : t2 999996 0 = t1 999996 0 := by rw [hF2 999996 (by omega)]
  have u1 : t2 1 1 = t1 1 1 := by rw [hF2 1 (by omega)]
  have u2 : t1 268 8 = σ 268 8 := by rw [hF1 268 (by omega)]
  have u0 : σ 1 1 = σ 268 8 := jr.1
  have u6 : t2 1 1 = t2 268 8 := by omega
  have u7 : t2 2 = xm8 (t2 276) ∧ xb8 (t2 276) := by rw [hF2 2 (by omega), hF1 2 (by omega), hF2 276 (by omega), hF1 276 (by omega)]; exact ⟨jr.2.1, jr.2.2.1⟩
  have w0a : t1 0 11 = σ 0 11 := by rw [hF1 0 (by omega)]
  have w0b : t2 0 11 = t1 0 11 := by rw [hF2 0 (by omega)]
  have w1a : t1 268 58 = σ 268 58 := by rw [hF1 268 (by omega)]
  have w1b : t2 268 58 = t1 268 58 := hI2.2.2.2.1
  have w2a : t1 136 7 = σ 136 7 := by rw [hF1 136 (by omega)]
  have w2b : t2 136 7 = t1 136 7 := by rw [hF2 136 (by omega)]
  have w3a : t1 146 7 = σ 146 7 := by rw [hF1 146 (by omega)]
  have w3b : t2 146 7 = t1 146 7 := by rw [hF2 146 (by omega)]
  have w4a : t1 269 37 = σ 269 37 := by rw [hF1 269 (by omega)]
  have w4b : t2 269 37 = t1 269 37 := by rw [hF2 269 (by omega)]
  have w5a : t1 271 37 = σ 271 37 := by rw [hF1 271 (by omega)]
  have w5b : t2 271 37 = t1 271 37 := by rw [hF2 271 (by omega)]
  have jk0 := jr.2.2.2.2.2.1
  have jm0 := jr.2.2.2.2.2.2.1
  have jm1 := jr.2.2.2.2.2.2.2
  have g1 := IC.m jC2 xd_136
  have g2 := (IMn.n1 hI2.1).2.2.2.1
  have e5 : (t2 5 = t2 288 ∧ zk3 (t2 5)) := by rw [hF2 5 (by omega), hF1 5 (by omega), hF2 288 (by omega), hF1 288 (by omega)]; exact jr.2.2.2.1
  have e4 : (∀ j, 0 ≤ j → j < 100 → t2 4 j = t2 272 j ∧ 0 ≤ t2 4 j ∧ t2 4 j ≤ 3) := by rw [hF2 4 (by omega), hF1 4 (by omega), hF2 272 (by omega), hF1 272 (by omega)]; exact jr.2.2.2.2.1
  have hJ : lJ t2 (n + 1) := ⟨jC2, hI2.1, hI2.2.1, hI2.2.2.1, j02, ⟨by omega, by omega⟩, ⟨u6, u7.1, u7.2, e5, e4, by omega, by omega, by omega⟩⟩
  refine lv_pop hx hb dL_law_825 rfl ?_
  refine lv_goto (tgt := 990) hx hb dL_law_826 (by decide) ?_
  refine W.widen (k := cells + 1) (n := slots + 60) (by omega) (by omega) ?_
  exact kk H locs t2 hJ hW
theorem l_19 {p : Program} {e : Env} {s : State} {m : MethodId} {below : List Frame} {meth : Method} {c : Code} {l : Launch} {b h0 L : Nat} {xs : Nat → Int32} {D : va_G} {g : xG} {T : Nat × Nat × Nat} {H : Heap} {locs : List Loc} {ls : Array Slot} {cells slots : Nat} {Q : State → Prop} {σ : xS} {n : Nat} {i : Int} (hx : p.tables.exec = Jvm.exec) (hb : c.code = cL_law) (hml : c.maxLocals = 4) (hown : s.vm.findClass "ShadowCourtLaw" = some m.cls) (hT : ∀ w ∈ xTB, w.before #[Value.ref b] s = true) (hE : xE D g T h0 s) (hX : va_X b L xs s s.heap) (hbl : b < s.heap.size) (eh : h0 = s.heap.size) (hW : xW D g h0 s H locs σ) (hl : lv_has ls 4 [(3, .int (xJ i)), (2, .ref (h0 + 268)), (1, .ref (h0 + 0)), (0, .ref b)]) (hcs : cells ≤ 600000 ∧ slots ≤ 7302250) (hcs1 : cells + 1 ≤ 600000 ∧ slots + 60 ≤ 7302250) (hJ : lJ σ n) (hn : n ≤ 512) (hi : 0 ≤ i ∧ i + 5 < (L : Int) ∧ L ≤ 3072)
    (kk : ∀ (H : Heap) (locs : List Loc) (τ : xS), lJ τ (n + 1) → xW D g h0 s H locs τ → W p l e room_1 s m #[Value.ref b] below meth c H locs (cells + 1) (slots + 60) Q (F0 m 990 ls [])) : W p l e room_1 s m #[Value.ref b] below meth c H locs cells slots Q (F0 m 829 ls []) := by
  obtain ⟨jC, jn, jk, jo, j0, jz, jr⟩ := hJ
  obtain ⟨a1, e1, r1⟩ := xJ_ex (xs (i + 1).toNat)
  obtain ⟨a2, e2, r2⟩ := xJ_ex (xs (i + 2).toNat)
  refine x_aload_n hx hb hl 2 rfl dL_law_829 rfl ?_
  refine x_aload_n hx hb hl 3 rfl dL_law_830 rfl ?_
  refine x_iload_n hx hb hl 0 rfl dL_law_831 rfl ?_
  refine x_iconst hx hb dL_law_832 ?_
  refine x_iadd hx hb dL_law_833 ?_
  refine l_sld hx hb hX hbl eh hW (by omega) (by omega) e1 dL_law_834 ?_
  refine x_aload_n hx hb hl 3 rfl dL_law_835 rfl ?_
  refine x_iload_n hx hb hl 0 rfl dL_law_836 rfl ?_
  refine x_iconst hx hb dL_law_837 ?_
  refine b_pc (pc1 := 838) rfl ?_
  refine x_iadd hx hb dL_law_838 ?_
  refine l_sld hx hb hX hbl eh hW (by omega) (by omega) e2 dL_law_839 ?_
  refine x_goi (x_runV (As := [.int (xJ a1), .int (xJ a2)]) hx hb hml hown hT hE hW hl.1 (Or.inl (by decide)) (so_0 h0 g _) rfl cf_X10_together wq1122 wq1123 wq1121 (c_X10_together l D g T h0 σ hW.2.1 a1 r1 a2 r2 jC) ⟨rfl, rfl, ⟨by decide, by decide⟩, hcs⟩ rfl rfl (Nat.le_of_ble_eq_true rfl) dL_law_840) hW (fun q1 t1 H locs rq1 hp hW => ?_)
  obtain ⟨hF1, hI1, hp1⟩ := hp
  have jC1 := hI1.1
  have jn1 : IMn t1 := IMn_f (fun k hk => hF1 k (by unfold suIMn at hk; omega)) jn
  have jk1 : IMk t1 := IMk_f (fun k hk => hF1 k (by unfold suIMk at hk; omega)) jk
  have jo1 : IMo t1 := IMo_f (fun k hk => hF1 k (by unfold suIMo at hk; omega)) jo
  have j01 : t1 0 11 = 0 ∨ t1 0 11 = 1 := by rw [hF1 0 (by omega)]; exact j0
  have jz1 : t1 999996 0 = σ 999996 0 := by rw [hF1 999996 (by omega)]
  refine lv_pop hx hb dL_law_843 rfl ?_
  refine x_aload_n hx hb hl 1 rfl dL_law_844 rfl ?_
  refine x_aload_n hx hb hl 3 rfl dL_law_845 rfl ?_
  refine x_iload_n hx hb hl 0 rfl dL_law_846 rfl ?_
  refine x_iconst hx hb dL_law_847 ?_
  refine x_iadd hx hb dL_law_848 ?_
  refine l_sld hx hb hX hbl eh hW (by omega) (by omega) e1 dL_law_849 ?_
  refine b_pc (pc1 := 850) rfl ?_
  refine x_aload_n hx hb hl 3 rfl dL_law_850 rfl ?_
  refine x_iload_n hx hb hl 0 rfl dL_law_851 rfl ?_
  refine x_iconst hx hb dL_law_852 ?_
  refine x_iadd hx hb dL_law_853 ?_
  refine l_sld hx hb hX hbl eh hW (by omega) (by omega) e2 dL_law_854 ?_
  refine x_goi (x_runV (As := [.int (xJ a1), .int (xJ a2)]) hx hb hml hown hT hE hW hl.1 (Or.inl (by decide)) (so_268 h0 g _) rfl cf_X11_together wq1743 wq1744 wq1742 (c_X11_together l D g T h0 t1 hW.2.1 a1 r1 a2 r2 jn1 jk1 jo1) ⟨rfl, rfl, ⟨by decide, by decide⟩, hcs⟩ rfl rfl (Nat.le_of_ble_eq_true rfl) dL_law_855) hW (fun q2 t2 H locs rq2 hp hW => ?_)
  obtain ⟨hF2, hI2, hp2⟩ := hp
  have jC2 : IC t2 := IC_f (fun k hk => hF2 k (by unfold suIC at hk; omega)) jC1
  have j02 : t2 0 11 = 0 ∨ t2 0 11 = 1 := by rw [hF2 0 (by omega)]; exact j01
  have jz2 : t2 999996 0 = t1 999996 0 := by rw [hF2 999996 (by omega)]
  have u1 : t2 1 1 = t1 1 1 := by rw [hF2 1 (by omega)]
  have u2 : t1 268 8 = σ 268 8 := by rw [hF1 268 (by omega)]
  have u0 : σ 1 1 = σ 268 8 := jr.1
  have u5 : σ 2 (2 * a1) = t1 276 (2 * a1) % 256 := by rw [hF1 276 (by omega), jr.2.1]; rfl
  have u6 : t2 1 1 = t2 268 8 := by omega
  have u7 : t2 2 = xm8 (t2 276) ∧ xb8 (t2 276) := by rw [hF2 2 (by omega), hF1 2 (by omega), hF2 276 (by omega), hF1 276 (by omega)]; exact ⟨jr.2.1, jr.2.2.1⟩
  have w0a : t1 0 11 = σ 0 11 := by rw [hF1 0 (by omega)]
  have w0b : t2 0 11 = t1 0 11 := by rw [hF2 0 (by omega)]
  have w1a : t1 268 58 = σ 268 58 := by rw [hF1 268 (by omega)]
  have w1b : t2 268 58 = t1 268 58 := hI2.2.2.2.1
  have w2a : t1 136 7 = σ 136 7 := by rw [hF1 136 (by omega)]
  have w2b : t2 136 7 = t1 136 7 := by rw [hF2 136 (by omega)]
  have w3a : t1 146 7 = σ 146 7 := by rw [hF1 146 (by omega)]
  have w3b : t2 146 7 = t1 146 7 := by rw [hF2 146 (by omega)]
  have w4a : t1 269 37 = σ 269 37 := by rw [hF1 269 (by omega)]
  have w4b : t2 269 37 = t1 269 37 := by rw [hF2 269 (by omega)]
  have w5a : t1 271 37 = σ 271 37 := by rw [hF1 271 (by omega)]
  have w5b : t2 271 37 = t1 271 37 := by rw [hF2 271 (by omega)]
  have jk0 := jr.2.2.2.2.2.1
  have jm0 := jr.2.2.2.2.2.2.1
  have jm1 := jr.2.2.2.2.2.2.2
  have g1 := IC.m jC2 xd_136
  have g2 := (IMn.n1 hI2.1).2.2.2.1
  have e5 : (t2 5 = t2 288 ∧ zk3 (t2 5)) := by rw [hF2 5 (by omega), hF1 5 (by omega), hF2 288 (by omega), hF1 288 (by omega)]; exact jr.2.2.2.1
  have e4 : (∀ j, 0 ≤ j → j < 100 → t2 4 j = t2 272 j ∧ 0 ≤ t2 4 j ∧ t2 4 j ≤ 3) := by rw [hF2 4 (by omega), hF1 4 (by omega), hF2 272 (by omega), hF1 272 (by omega)]; exact jr.2.2.2.2.1
  have hJ : lJ t2 (n + 1) := ⟨jC2, hI2.1, hI2.2.1, hI2.2.2.1, j02, ⟨by omega, by omega⟩, ⟨u6, u7.1, u7.2, e5, e4, by omega, by omega, by omega⟩⟩
  refine lv_pop hx hb dL_law_858 rfl ?_
  refine lv_goto (tgt := 990) hx hb dL_law_859 (by decide) ?_
  refine W.widen (k := cells + 1) (n := slots + 60) (by omega) (by omega) ?_
  exact kk H locs t2 hJ hW
theorem l_20 {p : Program} {e : Env} {s : State} {m : MethodId} {below : List Frame} {meth : Method} {c : Code} {l : Launch} {b h0 L : Nat} {xs : Nat → Int32} {D : va_G} {g : xG} {T : Nat × Nat × Nat} {H : Heap} {locs : List Loc} {ls : Array Slot} {cells slots : Nat} {Q : State → Prop} {σ : xS} {n : Nat} {i : Int} (hx : p.tables.exec = Jvm.exec) (hb : c.code = cL_law) (hml : c.maxLocals = 4) (hown : s.vm.findClass "ShadowCourtLaw" = some m.cls) (hT : ∀ w ∈ xTB, w.before #[Value.ref b] s = true) (hE : xE D g T h0 s) (hX : va_X b L xs s s.heap) (hbl : b < s.heap.size) (eh : h0 = s.heap.size) (hW : xW D g h0 s H locs σ) (hl : lv_has ls 4 [(3, .int (xJ i)), (2, .ref (h0 + 268)), (1, .ref (h0 + 0)), (0, .ref b)]) (hcs : cells ≤ 600000 ∧ slots ≤ 7302250) (hcs1 : cells + 1 ≤ 600000 ∧ slots + 60 ≤ 7302250) (hJ : lJ σ n) (hn : n ≤ 512) (hi : 0 ≤ i ∧ i + 5 < (L : Int) ∧ L ≤ 3072)
    (kk : ∀ (H : Heap) (locs : List Loc) (τ : xS), lJ τ (n + 1) → xW D g h0 s H locs τ → W p l e room_1 s m #[Value.ref b] below meth c H locs (cells + 1) (slots + 60) Q (F0 m 990 ls [])) : W p l e room_1 s m #[Value.ref b] below meth c H locs cells slots Q (F0 m 862 ls []) := by
  obtain ⟨jC, jn, jk, jo, j0, jz, jr⟩ := hJ
  obtain ⟨a1, e1, r1⟩ := xJ_ex (xs (i + 1).toNat)
  obtain ⟨a2, e2, r2⟩ := xJ_ex (xs (i + 2).toNat)
  refine x_aload_n hx hb hl 2 rfl dL_law_862 rfl ?_
  refine x_aload_n hx hb hl 3 rfl dL_law_863 rfl ?_
  refine x_iload_n hx hb hl 0 rfl dL_law_864 rfl ?_
  refine x_iconst hx hb dL_law_865 ?_
  refine x_iadd hx hb dL_law_866 ?_
  refine l_sld hx hb hX hbl eh hW (by omega) (by omega) e1 dL_law_867 ?_
  refine x_aload_n hx hb hl 3 rfl dL_law_868 rfl ?_
  refine x_iload_n hx hb hl 0 rfl dL_law_869 rfl ?_
  refine x_iconst hx hb dL_law_870 ?_
  refine b_pc (pc1 := 871) rfl ?_
  refine x_iadd hx hb dL_law_871 ?_
  refine l_sld hx hb hX hbl eh hW (by omega) (by omega) e2 dL_law_872 ?_
  refine x_goi (x_runV (As := [.int (xJ a1), .int (xJ a2)]) hx hb hml hown hT hE hW hl.1 (Or.inl (by decide)) (so_0 h0 g _) rfl cf_X10_servedBy wq1146 wq1147 wq1145 (c_X10_servedBy l D g T h0 σ hW.2.1 a1 r1 a2 r2 jC) ⟨rfl, rfl, ⟨by decide, by decide⟩, hcs⟩ rfl rfl (Nat.le_of_ble_eq_true rfl) dL_law_873) hW (fun q1 t1 H locs rq1 hp hW => ?_)
  obtain ⟨hF1, hI1, hp1⟩ := hp
  have jC1 := hI1.1
  have jn1 : IMn t1 := IMn_f (fun k hk => hF1 k (by unfold suIMn at hk; omega)) jn
  have jk1 : IMk t1 := IMk_f (fun k hk => hF1 k (by unfold suIMk at hk; omega)) jk
  have jo1 : IMo t1 := IMo_f (fun k hk => hF1 k (by unfold suIMo at hk; omega)) jo
  have j01 : t1 0 11 = 0 ∨ t1 0 11 = 1 := by rw [hF1 0 (by omega)]; exact j0
  have jz1 : t1 999996 0 = σ 999996 0 := by rw [hF1 999996 (by omega)]
  refine lv_pop hx hb dL_law_876 rfl ?_
  refine x_aload_n hx hb hl 1 rfl dL_law_877 rfl ?_
  refine x_aload_n hx hb hl 3 rfl dL_law_878 rfl ?_
  refine x_iload_n hx hb hl 0 rfl dL_law_879 rfl ?_
  refine x_iconst hx hb dL_law_880 ?_
  refine x_iadd hx hb dL_law_881 ?_
  refine l_sld hx hb hX hbl eh hW (by omega) (by omega) e1 dL_law_882 ?_
  refine b_pc (pc1 := 883) rfl ?_
  refine x_aload_n hx hb hl 3 rfl dL_law_883 rfl ?_
  refine x_iload_n hx hb hl 0 rfl dL_law_884 rfl ?_
  refine x_iconst hx hb dL_law_885 ?_
  refine x_iadd hx hb dL_law_886 ?_
  refine l_sld hx hb hX hbl eh hW (by omega) (by omega) e2 dL_law_887 ?_
  refine x_goi (x_runV (As := [.int (xJ a1), .int (xJ a2)]) hx hb hml hown hT hE hW hl.1 (Or.inl (by decide)) (so_268 h0 g _) rfl cf_X11_servedBy wq1751 wq1752 wq1750 (c_X11_servedByM l D g T h0 t1 hW.2.1 a1 r1 a2 r2 jn1 jk1 jo1) ⟨rfl, rfl, ⟨by decide, by decide⟩, hcs⟩ rfl rfl (Nat.le_of_ble_eq_true rfl) dL_law_888) hW (fun q2 t2 H locs rq2 hp hW => ?_)
  obtain ⟨hF2, hI2, hp2⟩ := hp
  have jC2 : IC t2 := IC_f (fun k hk => hF2 k (by unfold suIC at hk; omega)) jC1
  have j02 : t2 0 11 = 0 ∨ t2 0 11 = 1 := by rw [hF2 0 (by omega)]; exact j01
  have jz2 : t2 999996 0 = t1 999996 0 := by rw [hF2 999996 (by omega)]
  have u1 : t2 1 1 = t1 1 1 := by rw [hF2 1 (by omega)]
  have u2 : t1 268 8 = σ 268 8 := by rw [hF1 268 (by omega)]
  have u0 : σ 1 1 = σ 268 8 := jr.1
  have u3 : t1 1 1 = σ 1 1 := by rw [hF1 1 (by omega)]
  have u4 : t2 268 8 = t1 268 8 := hI2.2.2.2.1
  have u6 : t2 1 1 = t2 268 8 := by omega
  have u7 : t2 2 = xm8 (t2 276) ∧ xb8 (t2 276) := by rw [hF2 2 (by omega), hF1 2 (by omega), hF2 276 (by omega), hF1 276 (by omega)]; exact ⟨jr.2.1, jr.2.2.1⟩
  have w0a : t1 0 11 = σ 0 11 := by rw [hF1 0 (by omega)]
  have w0b : t2 0 11 = t1 0 11 := by rw [hF2 0 (by omega)]
  have w1a : t1 268 58 = σ 268 58 := by rw [hF1 268 (by omega)]
  have w1b : t2 268 58 = t1 268 58 := hI2.2.2.2.2.1
  have w2a : t1 136 7 = σ 136 7 := by rw [hF1 136 (by omega)]
  have w2b : t2 136 7 = t1 136 7 := by rw [hF2 136 (by omega)]
  have w3a : t1 146 7 = σ 146 7 := by rw [hF1 146 (by omega)]
  have w3b : t2 146 7 = t1 146 7 := by rw [hF2 146 (by omega)]
  have w4a : t1 269 37 = σ 269 37 := by rw [hF1 269 (by omega)]
  have w4b : t2 269 37 = t1 269 37 := hI2.2.2.2.2.2.1
  have w5a : t1 271 37 = σ 271 37 := by rw [hF1 271 (by omega)]
  have w5b : t2 271 37 = t1 271 37 := by rw [hF2 271 (by omega)]
  have jk0 := jr.2.2.2.2.2.1
  have jm0 := jr.2.2.2.2.2.2.1
  have jm1 := jr.2.2.2.2.2.2.2
  have g1 := IC.m jC2 xd_136
  have g2 := (IMn.n1 hI2.1).2.2.2.1
  have e5 : (t2 5 = t2 288 ∧ zk3 (t2 5)) := by rw [hF2 5 (by omega), hF1 5 (by omega), hF2 288 (by omega), hF1 288 (by omega)]; exact jr.2.2.2.1
  have e4 : (∀ j, 0 ≤ j → j < 100 → t2 4 j = t2 272 j ∧ 0 ≤ t2 4 j ∧ t2 4 j ≤ 3) := by rw [hF2 4 (by omega), hF1 4 (by omega), hF2 272 (by omega), hF1 272 (by omega)]; exact jr.2.2.2.2.1
  have hJ : lJ t2 (n + 1) := ⟨jC2, hI2.1, hI2.2.1, hI2.2.2.1, j02, ⟨by omega, by omega⟩, ⟨u6, u7.1, u7.2, e5, e4, by omega, by omega, by omega⟩⟩
  refine lv_pop hx hb dL_law_891 rfl ?_
  refine lv_goto (tgt := 990) hx hb dL_law_892 (by decide) ?_
  refine W.widen (k := cells + 1) (n := slots + 60) (by omega) (by omega) ?_
  exact kk H locs t2 hJ hW
theorem l_21 {p : Program} {e : Env} {s : State} {m : MethodId} {below : List Frame} {meth : Method} {c : Code} {l : Launch} {b h0 L : Nat} {xs : Nat → Int32} {D : va_G} {g : xG} {T : Nat × Nat × Nat} {H : Heap} {locs : List Loc} {ls : Array Slot} {cells slots : Nat} {Q : State → Prop} {σ : xS} {n : Nat} {i : Int} (hx : p.tables.exec = Jvm.exec) (hb : c.code = cL_law) (hml : c.maxLocals = 4) (hown : s.vm.findClass "ShadowCourtLaw" = some m.cls) (hT : ∀ w ∈ xTB, w.before #[Value.ref b] s = true) (hE : xE D g T h0 s) (hX : va_X b L xs s s.heap) (hbl : b < s.heap.size) (eh : h0 = s.heap.size) (hW : xW D g h0 s H locs σ) (hl : lv_has ls 4 [(3, .int (xJ i)), (2, .ref (h0 + 268)), (1, .ref (h0 + 0)), (0, .ref b)]) (hcs : cells ≤ 600000 ∧ slots ≤ 7302250) (hcs1 : cells + 1 ≤ 600000 ∧ slots + 60 ≤ 7302250) (hJ : lJ σ n) (hn : n ≤ 512) (hi : 0 ≤ i ∧ i + 5 < (L : Int) ∧ L ≤ 3072)
    (kk : ∀ (H : Heap) (locs : List Loc) (τ : xS), lJ τ (n + 1) → xW D g h0 s H locs τ → W p l e room_1 s m #[Value.ref b] below meth c H locs (cells + 1) (slots + 60) Q (F0 m 990 ls [])) : W p l e room_1 s m #[Value.ref b] below meth c H locs cells slots Q (F0 m 895 ls []) := by
  obtain ⟨jC, jn, jk, jo, j0, jz, jr⟩ := hJ
  obtain ⟨a1, e1, r1⟩ := xJ_ex (xs (i + 1).toNat)
  refine x_aload_n hx hb hl 2 rfl dL_law_895 rfl ?_
  refine x_aload_n hx hb hl 3 rfl dL_law_896 rfl ?_
  refine x_iload_n hx hb hl 0 rfl dL_law_897 rfl ?_
  refine x_iconst hx hb dL_law_898 ?_
  refine x_iadd hx hb dL_law_899 ?_
  refine l_sld hx hb hX hbl eh hW (by omega) (by omega) e1 dL_law_900 ?_
  refine x_goi (x_runV (As := [.int (xJ a1)]) hx hb hml hown hT hE hW hl.1 (Or.inl (by decide)) (so_0 h0 g _) rfl cf_X10_seed wq1150 wq1151 wq1149 (c_X10_seedM l D g T h0 σ hW.2.1 a1 r1 jC) ⟨rfl, rfl, ⟨by decide, by decide⟩, hcs⟩ rfl rfl (Nat.le_of_ble_eq_true rfl) dL_law_901) hW (fun q1 t1 H locs rq1 hp hW => ?_)
  obtain ⟨hF1, hI1, hp1⟩ := hp
  have jC1 := hI1.1
  have jn1 : IMn t1 := IMn_f (fun k hk => hF1 k (by unfold suIMn at hk; omega)) jn
  have jk1 : IMk t1 := IMk_f (fun k hk => hF1 k (by unfold suIMk at hk; omega)) jk
  have jo1 : IMo t1 := IMo_f (fun k hk => hF1 k (by unfold suIMo at hk; omega)) jo
  have j01 : t1 0 11 = 0 ∨ t1 0 11 = 1 := by rw [hF1 0 (by omega)]; exact j0
  have jz1 : t1 999996 0 = σ 999996 0 := by rw [hF1 999996 (by omega)]
  refine lv_pop hx hb dL_law_904 rfl ?_
  refine x_aload_n hx hb hl 1 rfl dL_law_905 rfl ?_
  refine b_pc (pc1 := 906) rfl ?_
  refine x_aload_n hx hb hl 3 rfl dL_law_906 rfl ?_
  refine x_iload_n hx hb hl 0 rfl dL_law_907 rfl ?_
  refine x_iconst hx hb dL_law_908 ?_
  refine x_iadd hx hb dL_law_909 ?_
  refine l_sld hx hb hX hbl eh hW (by omega) (by omega) e1 dL_law_910 ?_
  refine x_goi (x_runV (As := [.int (xJ a1)]) hx hb hml hown hT hE hW hl.1 (Or.inl (by decide)) (so_268 h0 g _) rfl cf_X11_seed wq1755 wq1756 wq1754 (c_X11_seedM l D g T h0 t1 hW.2.1 a1 r1 jn1 jk1 jo1) ⟨rfl, rfl, ⟨by decide, by decide⟩, hcs⟩ rfl rfl (Nat.le_of_ble_eq_true rfl) dL_law_911) hW (fun q2 t2 H locs rq2 hp hW => ?_)
  obtain ⟨hF2, hI2, hp2⟩ := hp
  have jC2 : IC t2 := IC_f (fun k hk => hF2 k (by unfold suIC at hk; omega)) jC1
  have j02 : t2 0 11 = 0 ∨ t2 0 11 = 1 := by rw [hF2 0 (by omega)]; exact j01
  have jz2 : t2 999996 0 = t1 999996 0 := by rw [hF2 999996 (by omega)]
  have u1 : t2 1 1 = t1 1 1 := by rw [hF2 1 (by omega)]
  have u2 : t1 268 8 = σ 268 8 := by rw [hF1 268 (by omega)]
  have u0 : σ 1 1 = σ 268 8 := jr.1
  have u3 : t1 1 1 = σ 1 1 := by rw [hF1 1 (by omega)]
  have u4 : t2 268 8 = t1 268 8 := by rw [hF2 268 (by omega)]
  have u6 : t2 1 1 = t2 268 8 := by omega
  have u7 : t2 2 = xm8 (t2 276) ∧ xb8 (t2 276) := by rw [hF2 2 (by omega), hF1 2 (by omega), hF2 276 (by omega), hF1 276 (by omega)]; exact ⟨jr.2.1, jr.2.2.1⟩
  have w0a : t1 0 11 = σ 0 11 := by rw [hF1 0 (by omega)]
  have w0b : t2 0 11 = t1 0 11 := by rw [hF2 0 (by omega)]
  have w1a : t1 268 58 = σ 268 58 := by rw [hF1 268 (by omega)]
  have w1b : t2 268 58 = t1 268 58 := by rw [hF2 268 (by omega)]
  have w2a : t1 136 7 = σ 136 7 := hI1.2.1
  have w2b : t2 136 7 = t1 136 7 := by rw [hF2 136 (by omega)]
  have w3a : t1 146 7 = σ 146 7 := by rw [hF1 146 (by omega)]
  have w3b : t2 146 7 = t1 146 7 := by rw [hF2 146 (by omega)]
  have w4a : t1 269 37 = σ 269 37 := by rw [hF1 269 (by omega)]
  have w4b : t2 269 37 = t1 269 37 := hI2.2.2.2.1
  have w5a : t1 271 37 = σ 271 37 := by rw [hF1 271 (by omega)]
  have w5b : t2 271 37 = t1 271 37 := by rw [hF2 271 (by omega)]
  have jk0 := jr.2.2.2.2.2.1
  have jm0 := jr.2.2.2.2.2.2.1
  have jm1 := jr.2.2.2.2.2.2.2
  have g1 := IC.m jC2 xd_136
  have g2 := (IMn.n1 hI2.1).2.2.2.1
  have e5 : (t2 5 = t2 288 ∧ zk3 (t2 5)) := by rw [hF2 5 (by omega), hF1 5 (by omega), hF2 288 (by omega), hF1 288 (by omega)]; exact jr.2.2.2.1
  have e4 : (∀ j, 0 ≤ j → j < 100 → t2 4 j = t2 272 j ∧ 0 ≤ t2 4 j ∧ t2 4 j ≤ 3) := by rw [hF2 4 (by omega), hF1 4 (by omega), hF2 272 (by omega), hF1 272 (by omega)]; exact jr.2.2.2.2.1
  have hJ : lJ t2 (n + 1) := ⟨jC2, hI2.1, hI2.2.1, hI2.2.2.1, j02, ⟨by omega, by omega⟩, ⟨u6, u7.1, u7.2, e5, e4, by omega, by omega, by omega⟩⟩
  refine lv_pop hx hb dL_law_914 rfl ?_
  refine lv_goto (tgt := 990) hx hb dL_law_915 (by decide) ?_
  refine W.widen (k := cells + 1) (n := slots + 60) (by omega) (by omega) ?_
  exact kk H locs t2 hJ hW
theorem l_22 {p : Program} {e : Env} {s : State} {m : MethodId} {below : List Frame} {meth : Method} {c : Code} {l : Launch} {b h0 L : Nat} {xs : Nat → Int32} {D : va_G} {g : xG} {T : Nat × Nat × Nat} {H : Heap} {locs : List Loc} {ls : Array Slot} {cells slots : Nat} {Q : State → Prop} {σ : xS} {n : Nat} {i : Int} (hx : p.tables.exec = Jvm.exec) (hb : c.code = cL_law) (hml : c.maxLocals = 4) (hown : s.vm.findClass "ShadowCourtLaw" = some m.cls) (hT : ∀ w ∈ xTB, w.before #[Value.ref b] s = true) (hE : xE D g T h0 s) (hX : va_X b L xs s s.heap) (hbl : b < s.heap.size) (eh : h0 = s.heap.size) (hW : xW D g h0 s H locs σ) (hl : lv_has ls 4 [(3, .int (xJ i)), (2, .ref (h0 + 268)), (1, .ref (h0 + 0)), (0, .ref b)]) (hcs : cells ≤ 600000 ∧ slots ≤ 7302250) (hcs1 : cells + 1 ≤ 600000 ∧ slots + 60 ≤ 7302250) (hJ : lJ σ n) (hn : n ≤ 512) (hi : 0 ≤ i ∧ i + 5 < (L : Int) ∧ L ≤ 3072)
    (kk : ∀ (H : Heap) (locs : List Loc) (τ : xS), lJ τ (n + 1) → xW D g h0 s H locs τ → W p l e room_1 s m #[Value.ref b] below meth c H locs (cells + 1) (slots + 60) Q (F0 m 990 ls [])) : W p l e room_1 s m #[Value.ref b] below meth c H locs cells slots Q (F0 m 918 ls []) := by
  obtain ⟨jC, jn, jk, jo, j0, jz, jr⟩ := hJ
  refine x_aload_n hx hb hl 2 rfl dL_law_918 rfl ?_
  refine x_goi (x_runV (As := []) hx hb hml hown hT hE hW hl.1 (Or.inl (by decide)) (so_0 h0 g _) rfl cf_X10_keep wq1155 wq1156 wq1154 (c_X10_keepM l D g T h0 σ hW.2.1 jC) ⟨rfl, rfl, ⟨by decide, by decide⟩, hcs⟩ rfl rfl (Nat.le_of_ble_eq_true rfl) dL_law_919) hW (fun q1 t1 H locs rq1 hp hW => ?_)
  obtain ⟨hF1, hI1, hp1⟩ := hp
  have jC1 := hI1.1
  have jn1 : IMn t1 := IMn_f (fun k hk => hF1 k (by unfold suIMn at hk; omega)) jn
  have jk1 : IMk t1 := IMk_f (fun k hk => hF1 k (by unfold suIMk at hk; omega)) jk
  have jo1 : IMo t1 := IMo_f (fun k hk => hF1 k (by unfold suIMo at hk; omega)) jo
  have j01 : t1 0 11 = 0 ∨ t1 0 11 = 1 := by omega
  have jz1 : t1 999996 0 = σ 999996 0 := by rw [hF1 999996 (by omega)]
  refine lv_pop hx hb dL_law_922 rfl ?_
  refine x_aload_n hx hb hl 1 rfl dL_law_923 rfl ?_
  refine x_goi (x_runV (As := []) hx hb hml hown hT hE hW hl.1 (Or.inl (by decide)) (so_268 h0 g _) rfl cf_X11_keep wq1760 wq1761 wq1759 (c_X11_keepM l D g T h0 t1 hW.2.1 jn1 jk1 jo1) ⟨rfl, rfl, ⟨by decide, by decide⟩, hcs⟩ rfl rfl (Nat.le_of_ble_eq_true rfl) dL_law_924) hW (fun q2 t2 H locs rq2 hp hW => ?_)
  obtain ⟨hF2, hI2, hp2⟩ := hp
  have jC2 : IC t2 := IC_f (fun k hk => hF2 k (by unfold suIC at hk; omega)) jC1
  have j02 : t2 0 11 = 0 ∨ t2 0 11 = 1 := by rw [hF2 0 (by omega)]; exact j01
  have jz2 : t2 999996 0 = t1 999996 0 := by rw [hF2 999996 (by omega)]
  have u1 : t2 1 1 = t1 1 1 := by rw [hF2 1 (by omega)]
  have u2 : t1 268 8 = σ 268 8 := by rw [hF1 268 (by omega)]
  have u0 : σ 1 1 = σ 268 8 := jr.1
  have u3 : t1 1 1 = σ 1 1 := by rw [hF1 1 (by omega)]
  have u4 : t2 268 8 = t1 268 8 := hI2.2.2.2.1
  have u6 : t2 1 1 = t2 268 8 := by omega
  have u7 : t2 2 = xm8 (t2 276) ∧ xb8 (t2 276) := by rw [hF2 2 (by omega), hF1 2 (by omega), hF2 276 (by omega), hF1 276 (by omega)]; exact ⟨jr.2.1, jr.2.2.1⟩
  have w0b : t2 0 11 = t1 0 11 := by rw [hF2 0 (by omega)]
  have w1a : t1 268 58 = σ 268 58 := by rw [hF1 268 (by omega)]
  have w2a : t1 136 7 = σ 136 7 := by rw [hF1 136 (by omega)]
  have w2b : t2 136 7 = t1 136 7 := by rw [hF2 136 (by omega)]
  have w3b : t2 146 7 = t1 146 7 := by rw [hF2 146 (by omega)]
  have w4a : t1 269 37 = σ 269 37 := by rw [hF1 269 (by omega)]
  have w4b : t2 269 37 = t1 269 37 := by rw [hF2 269 (by omega)]
  have w5a : t1 271 37 = σ 271 37 := by rw [hF1 271 (by omega)]
  have jk0 := jr.2.2.2.2.2.1
  have jm0 := jr.2.2.2.2.2.2.1
  have jm1 := jr.2.2.2.2.2.2.2
  have g1 := IC.m jC2 xd_136
  have g2 := (IMn.n1 hI2.1).2.2.2.1
  have e5 : (t2 5 = t2 288 ∧ zk3 (t2 5)) := by rw [hF2 5 (by omega), hF1 5 (by omega), hF2 288 (by omega), hF1 288 (by omega)]; exact jr.2.2.2.1
  have e4 : (∀ j, 0 ≤ j → j < 100 → t2 4 j = t2 272 j ∧ 0 ≤ t2 4 j ∧ t2 4 j ≤ 3) := by rw [hF2 4 (by omega), hF1 4 (by omega), hF2 272 (by omega), hF1 272 (by omega)]; exact jr.2.2.2.2.1
  have hJ : lJ t2 (n + 1) := ⟨jC2, hI2.1, hI2.2.1, hI2.2.2.1, j02, ⟨by omega, by omega⟩, ⟨u6, u7.1, u7.2, e5, e4, by omega, by omega, by omega⟩⟩
  refine lv_pop hx hb dL_law_927 rfl ?_
  refine lv_goto (tgt := 990) hx hb dL_law_928 (by decide) ?_
  refine W.widen (k := cells + 1) (n := slots + 60) (by omega) (by omega) ?_
  exact kk H locs t2 hJ hW
theorem l_23 {p : Program} {e : Env} {s : State} {m : MethodId} {below : List Frame} {meth : Method} {c : Code} {l : Launch} {b h0 L : Nat} {xs : Nat → Int32} {D : va_G} {g : xG} {T : Nat × Nat × Nat} {H : Heap} {locs : List Loc} {ls : Array Slot} {cells slots : Nat} {Q : State → Prop} {σ : xS} {n : Nat} {i : Int} (hx : p.tables.exec = Jvm.exec) (hb : c.code = cL_law) (hml : c.maxLocals = 4) (hown : s.vm.findClass "ShadowCourtLaw" = some m.cls) (hT : ∀ w ∈ xTB, w.before #[Value.ref b] s = true) (hE : xE D g T h0 s) (hX : va_X b L xs s s.heap) (hbl : b < s.heap.size) (eh : h0 = s.heap.size) (hW : xW D g h0 s H locs σ) (hl : lv_has ls 4 [(3, .int (xJ i)), (2, .ref (h0 + 268)), (1, .ref (h0 + 0)), (0, .ref b)]) (hcs : cells ≤ 600000 ∧ slots ≤ 7302250) (hcs1 : cells + 1 ≤ 600000 ∧ slots + 60 ≤ 7302250) (hJ : lJ σ n) (hn : n ≤ 512) (hi : 0 ≤ i ∧ i + 5 < (L : Int) ∧ L ≤ 3072)
    (kk : ∀ (H : Heap) (locs : List Loc) (τ : xS), lJ τ (n + 1) → xW D g h0 s H locs τ → W p l e room_1 s m #[Value.ref b] below meth c H locs (cells + 1) (slots + 60) Q (F0 m 990 ls [])) : W p l e room_1 s m #[Value.ref b] below meth c H locs cells slots Q (F0 m 931 ls []) := by
  obtain ⟨jC, jn, jk, jo, j0, jz, jr⟩ := hJ
  refine x_aload_n hx hb hl 2 rfl dL_law_931 rfl ?_
  refine x_goi (x_runV (As := []) hx hb hml hown hT hE hW hl.1 (Or.inl (by decide)) (so_0 h0 g _) rfl cf_X10_undo wq1160 wq1161 wq1159 (c_X10_undoM l D g T h0 σ hW.2.1 j0 jC) ⟨rfl, rfl, ⟨by decide, by decide⟩, hcs⟩ rfl rfl (Nat.le_of_ble_eq_true rfl) dL_law_932) hW (fun q1 t1 H locs rq1 hp hW => ?_)
  obtain ⟨hF1, hI1, hp1⟩ := hp
  have jC1 := hI1.1
  have jn1 : IMn t1 := IMn_f (fun k hk => hF1 k (by unfold suIMn at hk; omega)) jn
  have jk1 : IMk t1 := IMk_f (fun k hk => hF1 k (by unfold suIMk at hk; omega)) jk
  have jo1 : IMo t1 := IMo_f (fun k hk => hF1 k (by unfold suIMo at hk; omega)) jo
  have j01 : t1 0 11 = 0 ∨ t1 0 11 = 1 := by rw [hF1 0 (by omega)]; exact j0
  have jz1 : t1 999996 0 = σ 999996 0 := by rw [hF1 999996 (by omega)]
  refine x_aload_n hx hb hl 1 rfl dL_law_935 rfl ?_
  refine x_goi (x_runV (As := []) hx hb hml hown hT hE hW hl.1 (Or.inl (by decide)) (so_268 h0 g _) rfl cf_X11_undo wq1767 wq1768 wq1766 (c_X11_undoM l D g T h0 t1 hW.2.1 jn1 jk1 jo1) ⟨rfl, rfl, ⟨by decide, by decide⟩, hcs⟩ rfl rfl (Nat.le_of_ble_eq_true rfl) dL_law_936) hW (fun q2 t2 H locs rq2 hp hW => ?_)
  obtain ⟨hF2, hI2, hp2⟩ := hp
  have jC2 : IC t2 := IC_f (fun k hk => hF2 k (by unfold suIC at hk; omega)) jC1
  have j02 : t2 0 11 = 0 ∨ t2 0 11 = 1 := by rw [hF2 0 (by omega)]; exact j01
  have jz2 : t2 999996 0 = t1 999996 0 := by rw [hF2 999996 (by omega)]
  have u1 : t2 1 1 = t1 1 1 := by rw [hF2 1 (by omega)]
  have u2 : t1 268 8 = σ 268 8 := by rw [hF1 268 (by omega)]
  have u0 : σ 1 1 = σ 268 8 := jr.1
  have u3 : t1 1 1 = σ 1 1 := by rw [hF1 1 (by omega)]
  have u4 : t2 268 8 = t1 268 8 := by rw [hF2 268 (by omega)]
  have u6 : t2 1 1 = t2 268 8 := by omega
  have u7 : t2 2 = xm8 (t2 276) ∧ xb8 (t2 276) := by rw [hF2 2 (by omega), hF1 2 (by omega), hF2 276 (by omega), hF1 276 (by omega)]; exact ⟨jr.2.1, jr.2.2.1⟩
  have w0a : t1 0 11 = σ 0 11 := by rw [hF1 0 (by omega)]
  have w0b : t2 0 11 = t1 0 11 := by rw [hF2 0 (by omega)]
  have w1a : t1 268 58 = σ 268 58 := by rw [hF1 268 (by omega)]
  have w1b : t2 268 58 = t1 268 58 := by rw [hF2 268 (by omega)]
  have w2b : t2 136 7 = t1 136 7 := by rw [hF2 136 (by omega)]
  have w3a : t1 146 7 = σ 146 7 := by rw [hF1 146 (by omega)]
  have w3b : t2 146 7 = t1 146 7 := by rw [hF2 146 (by omega)]
  have w4a : t1 269 37 = σ 269 37 := by rw [hF1 269 (by omega)]
  have w5a : t1 271 37 = σ 271 37 := by rw [hF1 271 (by omega)]
  have w5b : t2 271 37 = t1 271 37 := by rw [hF2 271 (by omega)]
  have jk0 := jr.2.2.2.2.2.1
  have jm0 := jr.2.2.2.2.2.2.1
  have jm1 := jr.2.2.2.2.2.2.2
  have g1 := IC.m jC2 xd_136
  have g2 := (IMn.n1 hI2.1).2.2.2.1
  have e5 : (t2 5 = t2 288 ∧ zk3 (t2 5)) := by rw [hF2 5 (by omega), hF1 5 (by omega), hF2 288 (by omega), hF1 288 (by omega)]; exact jr.2.2.2.1
  have e4 : (∀ j, 0 ≤ j → j < 100 → t2 4 j = t2 272 j ∧ 0 ≤ t2 4 j ∧ t2 4 j ≤ 3) := by rw [hF2 4 (by omega), hF1 4 (by omega), hF2 272 (by omega), hF1 272 (by omega)]; exact jr.2.2.2.2.1
  have hJ : lJ t2 (n + 1) := ⟨jC2, hI2.1, hI2.2.1, hI2.2.2.1, j02, ⟨by omega, by omega⟩, ⟨u6, u7.1, u7.2, e5, e4, by omega, by omega, by omega⟩⟩
  refine x_icmp_eq (tgt := 990) hx hb rq1 rq2 dL_law_939 (by decide) (fun _ => ?_) (fun h9 => absurd ?_ h9)
  · refine W.widen (k := cells + 1) (n := slots + 60) (by omega) (by omega) ?_
    exact kk H locs t2 hJ hW
  omega
theorem l_24 {p : Program} {e : Env} {s : State} {m : MethodId} {below : List Frame} {meth : Method} {c : Code} {l : Launch} {b h0 L : Nat} {xs : Nat → Int32} {D : va_G} {g : xG} {T : Nat × Nat × Nat} {H : Heap} {locs : List Loc} {ls : Array Slot} {cells slots : Nat} {Q : State → Prop} {σ : xS} {n : Nat} {i : Int} (hx : p.tables.exec = Jvm.exec) (hb : c.code = cL_law) (hml : c.maxLocals = 4) (hown : s.vm.findClass "ShadowCourtLaw" = some m.cls) (hT : ∀ w ∈ xTB, w.before #[Value.ref b] s = true) (hE : xE D g T h0 s) (hX : va_X b L xs s s.heap) (hbl : b < s.heap.size) (eh : h0 = s.heap.size) (hW : xW D g h0 s H locs σ) (hl : lv_has ls 4 [(3, .int (xJ i)), (2, .ref (h0 + 268)), (1, .ref (h0 + 0)), (0, .ref b)]) (hcs : cells ≤ 600000 ∧ slots ≤ 7302250) (hcs1 : cells + 1 ≤ 600000 ∧ slots + 60 ≤ 7302250) (hJ : lJ σ n) (hn : n ≤ 512) (hi : 0 ≤ i ∧ i + 5 < (L : Int) ∧ L ≤ 3072)
    (kk : ∀ (H : Heap) (locs : List Loc) (τ : xS), lJ τ (n + 1) → xW D g h0 s H locs τ → W p l e room_1 s m #[Value.ref b] below meth c H locs (cells + 1) (slots + 60) Q (F0 m 990 ls [])) : W p l e room_1 s m #[Value.ref b] below meth c H locs cells slots Q (F0 m 944 ls []) := by
  obtain ⟨jC, jn, jk, jo, j0, jz, jr⟩ := hJ
  obtain ⟨a1, e1, r1⟩ := xJ_ex (xs (i + 1).toNat)
  refine x_aload_n hx hb hl 2 rfl dL_law_944 rfl ?_
  refine x_aload_n hx hb hl 3 rfl dL_law_945 rfl ?_
  refine x_iload_n hx hb hl 0 rfl dL_law_946 rfl ?_
  refine x_iconst hx hb dL_law_947 ?_
  refine x_iadd hx hb dL_law_948 ?_
  refine l_sld hx hb hX hbl eh hW (by omega) (by omega) e1 dL_law_949 ?_
  refine x_goi (x_runV (As := [.int (xJ a1)]) hx hb hml hown hT hE hW hl.1 (Or.inl (by decide)) (so_0 h0 g _) rfl cf_X10_check wq1164 wq1165 wq1163 (c_X10_check l D g T h0 σ hW.2.1 a1 r1 jC) ⟨rfl, rfl, ⟨by decide, by decide⟩, hcs⟩ rfl rfl (Nat.le_of_ble_eq_true rfl) dL_law_950) hW (fun q1 t1 H locs rq1 hp hW => ?_)
  obtain ⟨hF1, hI1, hp1⟩ := hp
  have jC1 := hI1.1
  have jn1 : IMn t1 := IMn_f (fun k hk => hF1 k (by unfold suIMn at hk; omega)) jn
  have jk1 : IMk t1 := IMk_f (fun k hk => hF1 k (by unfold suIMk at hk; omega)) jk
  have jo1 : IMo t1 := IMo_f (fun k hk => hF1 k (by unfold suIMo at hk; omega)) jo
  have j01 : t1 0 11 = 0 ∨ t1 0 11 = 1 := by rw [hF1 0 (by omega)]; exact j0
  have jz1 : t1 999996 0 = σ 999996 0 := by rw [hF1 999996 (by omega)]
  refine lv_pop hx hb dL_law_953 rfl ?_
  refine x_aload_n hx hb hl 1 rfl dL_law_954 rfl ?_
  refine b_pc (pc1 := 955) rfl ?_
  refine x_aload_n hx hb hl 3 rfl dL_law_955 rfl ?_
  refine x_iload_n hx hb hl 0 rfl dL_law_956 rfl ?_
  refine x_iconst hx hb dL_law_957 ?_
  refine x_iadd hx hb dL_law_958 ?_
  refine l_sld hx hb hX hbl eh hW (by omega) (by omega) e1 dL_law_959 ?_
  refine x_goi (x_runV (As := [.int (xJ a1)]) hx hb hml hown hT hE hW hl.1 (Or.inl (by decide)) (so_268 h0 g _) rfl cf_X11_check wq1771 wq1772 wq1770 (c_X11_check l D g T h0 t1 hW.2.1 a1 r1 jn1 jk1 jo1) ⟨rfl, rfl, ⟨by decide, by decide⟩, hcs⟩ rfl rfl (Nat.le_of_ble_eq_true rfl) dL_law_960) hW (fun q2 t2 H locs rq2 hp hW => ?_)
  obtain ⟨hF2, hI2, hp2⟩ := hp
  have jC2 : IC t2 := IC_f (fun k hk => hF2 k (by unfold suIC at hk; omega)) jC1
  have j02 : t2 0 11 = 0 ∨ t2 0 11 = 1 := by rw [hF2 0 (by omega)]; exact j01
  have jz2 : t2 999996 0 = t1 999996 0 := by rw [hF2 999996 (by omega)]
  have u1 : t2 1 1 = t1 1 1 := by rw [hF2 1 (by omega)]
  have u2 : t1 268 8 = σ 268 8 := by rw [hF1 268 (by omega)]
  have u0 : σ 1 1 = σ 268 8 := jr.1
  have u6 : t2 1 1 = t2 268 8 := by omega
  have u7 : t2 2 = xm8 (t2 276) ∧ xb8 (t2 276) := by rw [hF2 2 (by omega), hF1 2 (by omega), hF2 276 (by omega), hF1 276 (by omega)]; exact ⟨jr.2.1, jr.2.2.1⟩
  have w0a : t1 0 11 = σ 0 11 := by rw [hF1 0 (by omega)]
  have w0b : t2 0 11 = t1 0 11 := by rw [hF2 0 (by omega)]
  have w1a : t1 268 58 = σ 268 58 := by rw [hF1 268 (by omega)]
  have w1b : t2 268 58 = t1 268 58 := hI2.2.2.2.1
  have w2a : t1 136 7 = σ 136 7 := by rw [hF1 136 (by omega)]
  have w2b : t2 136 7 = t1 136 7 := by rw [hF2 136 (by omega)]
  have w3a : t1 146 7 = σ 146 7 := by rw [hF1 146 (by omega)]
  have w3b : t2 146 7 = t1 146 7 := by rw [hF2 146 (by omega)]
  have w4a : t1 269 37 = σ 269 37 := by rw [hF1 269 (by omega)]
  have w4b : t2 269 37 = t1 269 37 := by rw [hF2 269 (by omega)]
  have w5a : t1 271 37 = σ 271 37 := by rw [hF1 271 (by omega)]
  have w5b : t2 271 37 = t1 271 37 := by rw [hF2 271 (by omega)]
  have jk0 := jr.2.2.2.2.2.1
  have jm0 := jr.2.2.2.2.2.2.1
  have jm1 := jr.2.2.2.2.2.2.2
  have g1 := IC.m jC2 xd_136
  have g2 := (IMn.n1 hI2.1).2.2.2.1
  have e5 : (t2 5 = t2 288 ∧ zk3 (t2 5)) := by rw [hF2 5 (by omega), hF1 5 (by omega), hF2 288 (by omega), hF1 288 (by omega)]; exact jr.2.2.2.1
  have e4 : (∀ j, 0 ≤ j → j < 100 → t2 4 j = t2 272 j ∧ 0 ≤ t2 4 j ∧ t2 4 j ≤ 3) := by rw [hF2 4 (by omega), hF1 4 (by omega), hF2 272 (by omega), hF1 272 (by omega)]; exact jr.2.2.2.2.1
  have hJ : lJ t2 (n + 1) := ⟨jC2, hI2.1, hI2.2.1, hI2.2.2.1, j02, ⟨by omega, by omega⟩, ⟨u6, u7.1, u7.2, e5, e4, by omega, by omega, by omega⟩⟩
  refine lv_pop hx hb dL_law_963 rfl ?_
  refine lv_goto (tgt := 990) hx hb dL_law_964 (by decide) ?_
  refine W.widen (k := cells + 1) (n := slots + 60) (by omega) (by omega) ?_
  exact kk H locs t2 hJ hW
theorem l_25 {p : Program} {e : Env} {s : State} {m : MethodId} {below : List Frame} {meth : Method} {c : Code} {l : Launch} {b h0 L : Nat} {xs : Nat → Int32} {D : va_G} {g : xG} {T : Nat × Nat × Nat} {H : Heap} {locs : List Loc} {ls : Array Slot} {cells slots : Nat} {Q : State → Prop} {σ : xS} {n : Nat} {i : Int} (hx : p.tables.exec = Jvm.exec) (hb : c.code = cL_law) (hml : c.maxLocals = 4) (hown : s.vm.findClass "ShadowCourtLaw" = some m.cls) (hT : ∀ w ∈ xTB, w.before #[Value.ref b] s = true) (hE : xE D g T h0 s) (hX : va_X b L xs s s.heap) (hbl : b < s.heap.size) (eh : h0 = s.heap.size) (hW : xW D g h0 s H locs σ) (hl : lv_has ls 4 [(3, .int (xJ i)), (2, .ref (h0 + 268)), (1, .ref (h0 + 0)), (0, .ref b)]) (hcs : cells ≤ 600000 ∧ slots ≤ 7302250) (hcs1 : cells + 1 ≤ 600000 ∧ slots + 60 ≤ 7302250) (hJ : lJ σ n) (hn : n ≤ 512) (hi : 0 ≤ i ∧ i + 5 < (L : Int) ∧ L ≤ 3072)
    (kk : ∀ (H : Heap) (locs : List Loc) (τ : xS), lJ τ (n + 1) → xW D g h0 s H locs τ → W p l e room_1 s m #[Value.ref b] below meth c H locs (cells + 1) (slots + 60) Q (F0 m 990 ls [])) : W p l e room_1 s m #[Value.ref b] below meth c H locs cells slots Q (F0 m 967 ls []) := by
  obtain ⟨jC, jn, jk, jo, j0, jz, jr⟩ := hJ
  obtain ⟨a1, e1, r1⟩ := xJ_ex (xs (i + 1).toNat)
  refine x_aload_n hx hb hl 2 rfl dL_law_967 rfl ?_
  refine x_aload_n hx hb hl 3 rfl dL_law_968 rfl ?_
  refine x_iload_n hx hb hl 0 rfl dL_law_969 rfl ?_
  refine x_iconst hx hb dL_law_970 ?_
  refine x_iadd hx hb dL_law_971 ?_
  refine l_sld hx hb hX hbl eh hW (by omega) (by omega) e1 dL_law_972 ?_
  refine x_goi (x_runV (As := [.int (xJ a1)]) hx hb hml hown hT hE hW hl.1 (Or.inl (by decide)) (so_0 h0 g _) rfl cf_X10_count wq1173 wq1174 wq1172 (c_X10_count l D g T h0 σ hW.2.1 a1 r1 jC) ⟨rfl, rfl, ⟨by decide, by decide⟩, hcs⟩ rfl rfl (Nat.le_of_ble_eq_true rfl) dL_law_973) hW (fun q1 t1 H locs rq1 hp hW => ?_)
  obtain ⟨hF1, hI1, hp1⟩ := hp
  have jC1 := hI1.1
  have jn1 : IMn t1 := IMn_f (fun k hk => hF1 k (by unfold suIMn at hk; omega)) jn
  have jk1 : IMk t1 := IMk_f (fun k hk => hF1 k (by unfold suIMk at hk; omega)) jk
  have jo1 : IMo t1 := IMo_f (fun k hk => hF1 k (by unfold suIMo at hk; omega)) jo
  have j01 : t1 0 11 = 0 ∨ t1 0 11 = 1 := by rw [hF1 0 (by omega)]; exact j0
  have jz1 : t1 999996 0 = σ 999996 0 := by rw [hF1 999996 (by omega)]
  refine lv_pop hx hb dL_law_976 rfl ?_
  refine x_aload_n hx hb hl 1 rfl dL_law_977 rfl ?_
  refine b_pc (pc1 := 978) rfl ?_
  refine x_aload_n hx hb hl 3 rfl dL_law_978 rfl ?_
  refine x_iload_n hx hb hl 0 rfl dL_law_979 rfl ?_
  refine x_iconst hx hb dL_law_980 ?_
  refine x_iadd hx hb dL_law_981 ?_
  refine l_sld hx hb hX hbl eh hW (by omega) (by omega) e1 dL_law_982 ?_
  refine x_goi (x_runV (As := [.int (xJ a1)]) hx hb hml hown hT hE hW hl.1 (Or.inl (by decide)) (so_268 h0 g _) rfl cf_X11_count wq1779 wq1780 wq1778 (c_X11_count l D g T h0 t1 hW.2.1 a1 r1 jn1 jk1 jo1) ⟨rfl, rfl, ⟨by decide, by decide⟩, hcs⟩ rfl rfl (Nat.le_of_ble_eq_true rfl) dL_law_983) hW (fun q2 t2 H locs rq2 hp hW => ?_)
  obtain ⟨hF2, hI2, hp2⟩ := hp
  have jC2 : IC t2 := IC_f (fun k hk => hF2 k (by unfold suIC at hk; omega)) jC1
  have j02 : t2 0 11 = 0 ∨ t2 0 11 = 1 := by rw [hF2 0 (by omega)]; exact j01
  have jz2 : t2 999996 0 = t1 999996 0 := by rw [hF2 999996 (by omega)]
  have u1 : t2 1 1 = t1 1 1 := by rw [hF2 1 (by omega)]
  have u2 : t1 268 8 = σ 268 8 := by rw [hF1 268 (by omega)]
  have u0 : σ 1 1 = σ 268 8 := jr.1
  have u3 : t1 1 1 = σ 1 1 := by rw [hF1 1 (by omega)]
  have u4 : t2 268 8 = t1 268 8 := by rw [hF2 268 (by omega)]
  have u6 : t2 1 1 = t2 268 8 := by omega
  have u7 : t2 2 = xm8 (t2 276) ∧ xb8 (t2 276) := by rw [hF2 2 (by omega), hF1 2 (by omega), hF2 276 (by omega), hF1 276 (by omega)]; exact ⟨jr.2.1, jr.2.2.1⟩
  have w0a : t1 0 11 = σ 0 11 := by rw [hF1 0 (by omega)]
  have w0b : t2 0 11 = t1 0 11 := by rw [hF2 0 (by omega)]
  have w1a : t1 268 58 = σ 268 58 := by rw [hF1 268 (by omega)]
  have w1b : t2 268 58 = t1 268 58 := by rw [hF2 268 (by omega)]
  have w2a : t1 136 7 = σ 136 7 := by rw [hF1 136 (by omega)]
  have w2b : t2 136 7 = t1 136 7 := by rw [hF2 136 (by omega)]
  have w3a : t1 146 7 = σ 146 7 := by rw [hF1 146 (by omega)]
  have w3b : t2 146 7 = t1 146 7 := by rw [hF2 146 (by omega)]
  have w4a : t1 269 37 = σ 269 37 := by rw [hF1 269 (by omega)]
  have w4b : t2 269 37 = t1 269 37 := by rw [hF2 269 (by omega)]
  have w5a : t1 271 37 = σ 271 37 := by rw [hF1 271 (by omega)]
  have w5b : t2 271 37 = t1 271 37 := by rw [hF2 271 (by omega)]
  have jk0 := jr.2.2.2.2.2.1
  have jm0 := jr.2.2.2.2.2.2.1
  have jm1 := jr.2.2.2.2.2.2.2
  have g1 := IC.m jC2 xd_136
  have g2 := (IMn.n1 hI2.1).2.2.2.1
  have e5 : (t2 5 = t2 288 ∧ zk3 (t2 5)) := by rw [hF2 5 (by omega), hF1 5 (by omega), hF2 288 (by omega), hF1 288 (by omega)]; exact jr.2.2.2.1
  have e4 : (∀ j, 0 ≤ j → j < 100 → t2 4 j = t2 272 j ∧ 0 ≤ t2 4 j ∧ t2 4 j ≤ 3) := by rw [hF2 4 (by omega), hF1 4 (by omega), hF2 272 (by omega), hF1 272 (by omega)]; exact jr.2.2.2.2.1
  have hJ : lJ t2 (n + 1) := ⟨jC2, hI2.1, hI2.2.1, hI2.2.2.1, j02, ⟨by omega, by omega⟩, ⟨u6, u7.1, u7.2, e5, e4, by omega, by omega, by omega⟩⟩
  refine lv_pop hx hb dL_law_986 rfl ?_
  refine lv_goto (tgt := 990) hx hb dL_law_987 (by decide) ?_
  refine W.widen (k := cells + 1) (n := slots + 60) (by omega) (by omega) ?_
  exact kk H locs t2 hJ hW

