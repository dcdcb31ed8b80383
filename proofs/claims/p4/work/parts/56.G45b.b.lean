set_option maxHeartbeats 4000000 in
set_option maxRecDepth 100000 in
theorem c_X11_readsClauseK (l : Launch) (D : va_G) (g : xG) (T : Nat × Nat × Nat) (h0 : Nat) (s0 : xS) (hσ : xRR s0) (f9 : Int → Int) (n9 : Int) (Z : zLT) (hf : xm8 (s0 276) = f9 ∧ s0 268 10 = n9) (hz : zLX f9 n9 Z true (s0 268 16) (s0 268 9) (s0 268 14) (s0 277) (s0 279) (s0 280) (s0 281) (s0 282)) (p0 : IMn s0) (p1 : IMk s0) (p2 : IMo s0) (p3 : IR s0) : Met l yX11_readsClause (xws yX11_readsClause cX11_readsClause 2 (some .boolean)) { frames := 7, cells := 0, slots := 0, locals := 145 } (xP [.ref (h0 + 268)] D g T h0 s0) (xQi D g h0 (fun r τ => xFr (fun k => k = 268 ∨ k = 277 ∨ k = 278 ∨ k = 279 ∨ k = 280 ∨ k = 281 ∨ k = 282) s0 τ ∧ (((IMn τ) ∧ (IMk τ) ∧ (IMo τ) ∧ (IR τ) ∧ (τ 268 8 = s0 268 8) ∧ (τ 268 58 = s0 268 58) ∧ (τ 268 17 = s0 268 17) ∧ (τ 268 10 = s0 268 10) ∧ True) ∧ ((r = 0 ∧ Z.1 ≠ 0 ∧ τ 268 11 = Z.1) ∨ (r = 1 ∧ zLX f9 n9 Z false (τ 268 16) (τ 268 9) (τ 268 14) (τ 277) (τ 279) (τ 280) (τ 281) (τ 282) ∧ s0 268 9 + 1 ≤ τ 268 9))))) 0 0 (xA h0) := by
  refine x_met hσ (by decide) (Nat.le_of_ble_eq_true rfl) ?_
  intro p e s m args below meth c hx hb hr hml hown hT hlk hnm hE hW ls hl
  have hl : lv_has ls 2 [(0, .ref (h0 + 268))] := hl
  obtain ⟨Q, eQ⟩ : ∃ Q, Q = MQ below (xQi D g h0 (fun r τ => xFr (fun k => k = 268 ∨ k = 277 ∨ k = 278 ∨ k = 279 ∨ k = 280 ∨ k = 281 ∨ k = 282) s0 τ ∧ (((IMn τ) ∧ (IMk τ) ∧ (IMo τ) ∧ (IR τ) ∧ (τ 268 8 = s0 268 8) ∧ (τ 268 58 = s0 268 58) ∧ (τ 268 17 = s0 268 17) ∧ (τ 268 10 = s0 268 10) ∧ True) ∧ ((r = 0 ∧ Z.1 ≠ 0 ∧ τ 268 11 = Z.1) ∨ (r = 1 ∧ zLX f9 n9 Z false (τ 268 16) (τ 268 9) (τ 268 14) (τ 277) (τ 279) (τ 280) (τ 281) (τ 282) ∧ s0 268 9 + 1 ≤ τ 268 9))))) args s 0 0 (xA h0) := ⟨_, rfl⟩
  rw [← eQ]
  generalize hHe : ([] : List Loc) = locs at hW ⊢
  obtain ⟨H, eH⟩ : ∃ H, H = s.heap := ⟨_, rfl⟩
  rw [← eH] at hW ⊢
  have hF : xFr (fun k => k = 268 ∨ k = 277 ∨ k = 278 ∨ k = 279 ∨ k = 280 ∨ k = 281 ∨ k = 282) s0 s0 := xFr.rf
  have k268_8 : s0 268 8 = s0 268 8 := rfl
  have k268_58 : s0 268 58 = s0 268 58 := rfl
  have k268_17 : s0 268 17 = s0 268 17 := rfl
  have k268_10 : s0 268 10 = s0 268 10 := rfl
  have k268_9 : s0 268 9 = s0 268 9 := rfl
  have k268_13 : s0 268 13 = s0 268 13 := rfl
  have k268_14 : s0 268 14 = s0 268 14 := rfl
  have k268_15 : s0 268 15 = s0 268 15 := rfl
  have k268_16 : s0 268 16 = s0 268 16 := rfl
  have hf2 := hf.2
  have hr0 : 0 ≤ s0 268 9 ∧ s0 268 9 ≤ s0 268 10 ∧ s0 268 10 ≤ 240 := p3
  have b0 := hz.b
  refine x_aload_n hx hb hl 0 rfl dX11_readsClause_0 rfl ?_
  refine x_goi (x_runV (As := []) hx hb hml hown hT hE hW hl.1 (Or.inl (by decide)) (so_268 h0 g _) rfl cf_X11_here wq1391 wq106 wq1389 (c_X11_here l D g T h0 s0 hW.2.1 p0 p1 p2 p3) ⟨rfl, rfl, ⟨by decide, by decide⟩, ⟨by decide, by decide⟩⟩ rfl rfl (Nat.le_of_ble_eq_true rfl) dX11_readsClause_1) hW (fun x1 s2 H locs rx1 hp3 hW => ?_)
  obtain ⟨es2, hp3⟩ := hp3
  subst es2
  have ghp3 := hp3
  have C1 : x1 = zch f9 n9 (s0 268 9) := by
    have q8 := ghp3.1
    rw [zhC_ch, show s0 276 = s0 276 from hF 276 (by omega), hf.1, show s0 268 10 = n9 from by omega] at q8
    exact q8
  have z1 := zkl_cs (zch f9 n9 (s0 268 9))
  have L1 : zch f9 n9 (s0 268 9) ≠ -1 → s0 268 9 < n9 := zch_lt
  refine lv_istore_n (lv' := [(1, .int (xJ x1)), (0, .ref (h0 + 268))]) hx hb dX11_readsClause_4 rfl hl (by decide) rfl (fun ls hl => ?_)
  refine x_iload_n hx hb hl 0 rfl dX11_readsClause_5 rfl ?_
  refine x_goi (x_runS (As := [.int (xJ x1)]) hx hb hml hown hT hE hW hl.1 cf_X11_isClause wq1468 wq1467 (c_X11_isClauseK l D g T h0 s0 hW.2.1 x1 rx1) ⟨rfl, rfl, ⟨by decide, by decide⟩, ⟨by decide, by decide⟩⟩ rfl rfl (Nat.le_of_ble_eq_true rfl) dX11_readsClause_6) hW (fun x4 s5 H locs rx4 hp6 hW => ?_)
  obtain ⟨es5, hp6⟩ := hp6
  subst es5
  have ghp6 := hp6
  have H6 := ghp6
  refine x_if_ne (tgt := 22) hx hb rx4 dX11_readsClause_9 (by decide) (fun c7 => ?_) (fun c7 => ?_)
  · skip
    refine x_aload_n hx hb hl 1 rfl dX11_readsClause_22 rfl ?_
    refine x_get (j := 16) (v := .int (xJ (s0 268 16))) hx hb hown hT hE hW cls_X11 (Or.inl (by decide)) (so_268 h0 g _) (by decide) rfl wq1201 dX11_readsClause_23 ?_
    refine x_rd hW (fun x8 ex8 rx8 => ?_)
    have fx8 : x8 = s0 268 16 := ex8.trans k268_16
    refine x_bipush hx hb dX11_readsClause_26 (by decide) ?_
    refine x_icmp_ne (tgt := 41) hx hb rx8 (by decide) dX11_readsClause_28 (by decide) (fun c9 => ?_) (fun c9 => ?_)
    · skip
      refine x_aload_n hx hb hl 1 rfl dX11_readsClause_41 rfl ?_
      refine x_get (j := 20) (v := .ref (h0 + 279)) hx hb hown hT hE hW cls_X11 (Or.inl (by decide)) (so_268 h0 g _) (by decide) rfl wq1205 dX11_readsClause_42 ?_
      refine x_aload_n hx hb hl 1 rfl dX11_readsClause_45 rfl ?_
      refine x_get (j := 16) (v := .int (xJ (s0 268 16))) hx hb hown hT hE hW cls_X11 (Or.inl (by decide)) (so_268 h0 g _) (by decide) rfl wq1201 dX11_readsClause_46 ?_
      refine x_rd hW (fun x10 ex10 rx10 => ?_)
      have fx10 : x10 = s0 268 16 := ex10.trans k268_16
      refine x_iload_n hx hb hl 0 rfl dX11_readsClause_49 rfl ?_
      refine x_iast hx hb hE hW (by decide) (fun σ => sa_279 h0 g σ) (by omega) (by decide) rx1 dX11_readsClause_50 (fun H locs s11 es11 hW => ?_)
      have q12 : IMn s11 := by rw [es11]; exact IMn_o (by unfold suIMn; omega) p0
      have q13 : IMk s11 := by rw [es11]; exact IMk_o (by unfold suIMk; omega) p1
      have q14 : IMo s11 := by rw [es11]; exact IMo_o (by unfold suIMo; omega) p2
      have q15 : IR s11 := by rw [es11]; exact IR_o (by unfold suIR; omega) p3
      have q16 : s11 268 8 = s0 268 8 := (show s11 268 8 = s0 268 8 from by rw [es11, xU_k _ _ _ (by omega)]).trans k268_8
      have q17 : s11 268 58 = s0 268 58 := (show s11 268 58 = s0 268 58 from by rw [es11, xU_k _ _ _ (by omega)]).trans k268_58
      have q18 : s11 268 17 = s0 268 17 := (show s11 268 17 = s0 268 17 from by rw [es11, xU_k _ _ _ (by omega)]).trans k268_17
      have q19 : s11 268 10 = s0 268 10 := (show s11 268 10 = s0 268 10 from by rw [es11, xU_k _ _ _ (by omega)]).trans k268_10
      have q20 : s11 268 9 = s0 268 9 := (show s11 268 9 = s0 268 9 from by rw [es11, xU_k _ _ _ (by omega)]).trans k268_9
      have q21 : s11 268 13 = s0 268 13 := (show s11 268 13 = s0 268 13 from by rw [es11, xU_k _ _ _ (by omega)]).trans k268_13
      have q22 : s11 268 14 = s0 268 14 := (show s11 268 14 = s0 268 14 from by rw [es11, xU_k _ _ _ (by omega)]).trans k268_14
      have q23 : s11 268 15 = s0 268 15 := (show s11 268 15 = s0 268 15 from by rw [es11, xU_k _ _ _ (by omega)]).trans k268_15
      have q24 : s11 268 16 = s0 268 16 := (show s11 268 16 = s0 268 16 from by rw [es11, xU_k _ _ _ (by omega)]).trans k268_16
      have hF25 := hF.put es11 (by omega)
      have I50 : x10 = s0 268 16 := by omega
      have A50 : s11 277 = s0 277 ∧ s11 279 = xud (s0 279) (s0 268 16) (zch f9 n9 (s0 268 9)) ∧ s11 280 = s0 280 ∧ s11 281 = s0 281 ∧ s11 282 = s0 282 := ⟨by rw [es11, xU_k _ _ _ (by omega)], by rw [es11, xU_xud, I50, ← C1], by rw [es11, xU_k _ _ _ (by omega)], by rw [es11, xU_k _ _ _ (by omega)], by rw [es11, xU_k _ _ _ (by omega)]⟩
      refine x_aload_n hx hb hl 1 rfl dX11_readsClause_51 rfl ?_
      refine x_aload_n hx hb hl 1 rfl dX11_readsClause_52 rfl ?_
      refine x_get (j := 9) (v := .int (xJ (s11 268 9))) hx hb hown hT hE hW cls_X11 (Or.inl (by decide)) (so_268 h0 g _) (by decide) rfl wq1194 dX11_readsClause_53 ?_
      refine x_rd hW (fun x26 ex26 rx26 => ?_)
      have bx26 : 0 ≤ x26 ∧ x26 ≤ s11 268 10 ∧ s11 268 10 ≤ 240 := by rw [ex26]; exact q15
      have fx26 : x26 = s0 268 9 := ex26.trans q20
      refine x_iconst hx hb dX11_readsClause_56 ?_
      refine x_iadd hx hb dX11_readsClause_57 ?_
      refine x_put (j := 9) hx hb hown hT hE hW cls_X11 (by decide) (fun σ => so_268 h0 g σ) (by decide) (st_X11_9 h0 s11 268 (x26 + 1)) (ln_X11_9 h0 _ _) wq1194 rfl rfl rfl (by omega) dX11_readsClause_58 (fun H locs s27 es27 hW => ?_)
      have q28 : IMn s27 := by rw [es27]; exact IMn_268 q12 (by omega)
      have q29 : IMk s27 := by rw [es27]; exact IMk_268 q13 (by omega)
      have q30 : IMo s27 := by rw [es27]; exact IMo_o (by unfold suIMo; omega) q14
      have q31 : IR s27 := by rw [es27]; exact IR_268 q15 (by omega)
      have q32 : s27 268 8 = s0 268 8 := (show s27 268 8 = s11 268 8 from by rw [es27, xU_j _ _ (by decide)]).trans q16
      have q33 : s27 268 58 = s0 268 58 := (show s27 268 58 = s11 268 58 from by rw [es27, xU_j _ _ (by decide)]).trans q17
      have q34 : s27 268 17 = s0 268 17 := (show s27 268 17 = s11 268 17 from by rw [es27, xU_j _ _ (by decide)]).trans q18
      have q35 : s27 268 10 = s0 268 10 := (show s27 268 10 = s11 268 10 from by rw [es27, xU_j _ _ (by decide)]).trans q19
      have q36 : s27 268 9 = (x26 + 1) := by rw [es27, xU_s]
      have q37 : s27 268 13 = s0 268 13 := (show s27 268 13 = s11 268 13 from by rw [es27, xU_j _ _ (by decide)]).trans q21
      have q38 : s27 268 14 = s0 268 14 := (show s27 268 14 = s11 268 14 from by rw [es27, xU_j _ _ (by decide)]).trans q22
      have q39 : s27 268 15 = s0 268 15 := (show s27 268 15 = s11 268 15 from by rw [es27, xU_j _ _ (by decide)]).trans q23
      have q40 : s27 268 16 = s0 268 16 := (show s27 268 16 = s11 268 16 from by rw [es27, xU_j _ _ (by decide)]).trans q24
      have hF41 := hF25.put es27 (by omega)
      have A58 : s27 277 = s0 277 ∧ s27 279 = xud (s0 279) (s0 268 16) (zch f9 n9 (s0 268 9)) ∧ s27 280 = s0 280 ∧ s27 281 = s0 281 ∧ s27 282 = s0 282 := by rw [es27, xU_k _ _ _ (by omega), xU_k _ _ _ (by omega), xU_k _ _ _ (by omega), xU_k _ _ _ (by omega), xU_k _ _ _ (by omega)]; exact A50
      refine x_aload_n hx hb hl 1 rfl dX11_readsClause_61 rfl ?_
      refine x_get (j := 21) (v := .ref (h0 + 280)) hx hb hown hT hE hW cls_X11 (Or.inl (by decide)) (so_268 h0 g _) (by decide) rfl wq1206 dX11_readsClause_62 ?_
      refine x_aload_n hx hb hl 1 rfl dX11_readsClause_65 rfl ?_
      refine x_get (j := 16) (v := .int (xJ (s27 268 16))) hx hb hown hT hE hW cls_X11 (Or.inl (by decide)) (so_268 h0 g _) (by decide) rfl wq1201 dX11_readsClause_66 ?_
      refine x_rd hW (fun x42 ex42 rx42 => ?_)
      have fx42 : x42 = s0 268 16 := ex42.trans q40
      refine x_aload_n hx hb hl 1 rfl dX11_readsClause_69 rfl ?_
      refine x_get (j := 14) (v := .int (xJ (s27 268 14))) hx hb hown hT hE hW cls_X11 (Or.inl (by decide)) (so_268 h0 g _) (by decide) rfl wq1199 dX11_readsClause_70 ?_
      refine x_rd hW (fun x43 ex43 rx43 => ?_)
      have fx43 : x43 = s0 268 14 := ex43.trans q38
      refine x_iast hx hb hE hW (by decide) (fun σ => sa_280 h0 g σ) (by omega) (by decide) rx43 dX11_readsClause_73 (fun H locs s44 es44 hW => ?_)
      have q45 : IMn s44 := by rw [es44]; exact IMn_o (by unfold suIMn; omega) q28
      have q46 : IMk s44 := by rw [es44]; exact IMk_o (by unfold suIMk; omega) q29
      have q47 : IMo s44 := by rw [es44]; exact IMo_o (by unfold suIMo; omega) q30
      have q48 : IR s44 := by rw [es44]; exact IR_o (by unfold suIR; omega) q31
      have q49 : s44 268 8 = s0 268 8 := (show s44 268 8 = s27 268 8 from by rw [es44, xU_k _ _ _ (by omega)]).trans q32
      have q50 : s44 268 58 = s0 268 58 := (show s44 268 58 = s27 268 58 from by rw [es44, xU_k _ _ _ (by omega)]).trans q33
      have q51 : s44 268 17 = s0 268 17 := (show s44 268 17 = s27 268 17 from by rw [es44, xU_k _ _ _ (by omega)]).trans q34
      have q52 : s44 268 10 = s0 268 10 := (show s44 268 10 = s27 268 10 from by rw [es44, xU_k _ _ _ (by omega)]).trans q35
      have q53 : s44 268 9 = (x26 + 1) := (show s44 268 9 = s27 268 9 from by rw [es44, xU_k _ _ _ (by omega)]).trans q36
      have q54 : s44 268 13 = s0 268 13 := (show s44 268 13 = s27 268 13 from by rw [es44, xU_k _ _ _ (by omega)]).trans q37
      have q55 : s44 268 14 = s0 268 14 := (show s44 268 14 = s27 268 14 from by rw [es44, xU_k _ _ _ (by omega)]).trans q38
      have q56 : s44 268 15 = s0 268 15 := (show s44 268 15 = s27 268 15 from by rw [es44, xU_k _ _ _ (by omega)]).trans q39
      have q57 : s44 268 16 = s0 268 16 := (show s44 268 16 = s27 268 16 from by rw [es44, xU_k _ _ _ (by omega)]).trans q40
      have hF58 := hF41.put es44 (by omega)
      have I73 : x42 = s0 268 16 ∧ x43 = s0 268 14 := by omega
      have A73 : s44 277 = s0 277 ∧ s44 279 = xud (s0 279) (s0 268 16) (zch f9 n9 (s0 268 9)) ∧ s44 280 = xud (s0 280) (s0 268 16) (s0 268 14) ∧ s44 281 = s0 281 ∧ s44 282 = s0 282 := ⟨by rw [es44, xU_k _ _ _ (by omega)]; exact A58.1, by rw [es44, xU_k _ _ _ (by omega)]; exact A58.2.1, by rw [es44, xU_xud, I73.1, I73.2, A58.2.2.1], by rw [es44, xU_k _ _ _ (by omega)]; exact A58.2.2.2.1, by rw [es44, xU_k _ _ _ (by omega)]; exact A58.2.2.2.2⟩
      refine x_aload_n hx hb hl 1 rfl dX11_readsClause_74 rfl ?_
      refine x_iconst hx hb dX11_readsClause_75 ?_
      refine x_put (j := 13) hx hb hown hT hE hW cls_X11 (by decide) (fun σ => so_268 h0 g σ) (by decide) (st_X11_13 h0 s44 268 0) (ln_X11_13 h0 _ _) wq1198 rfl rfl rfl (by decide) dX11_readsClause_76 (fun H locs s59 es59 hW => ?_)
      have q60 : IMn s59 := by rw [es59]; exact IMn_268 q45 (by omega)
      have q61 : IMk s59 := by rw [es59]; exact IMk_268 q46 (by omega)
      have q62 : IMo s59 := by rw [es59]; exact IMo_o (by unfold suIMo; omega) q47
      have q63 : IR s59 := by rw [es59]; exact IR_268 q48 (by omega)
      have q64 : s59 268 8 = s0 268 8 := (show s59 268 8 = s44 268 8 from by rw [es59, xU_j _ _ (by decide)]).trans q49
      have q65 : s59 268 58 = s0 268 58 := (show s59 268 58 = s44 268 58 from by rw [es59, xU_j _ _ (by decide)]).trans q50
      have q66 : s59 268 17 = s0 268 17 := (show s59 268 17 = s44 268 17 from by rw [es59, xU_j _ _ (by decide)]).trans q51
      have q67 : s59 268 10 = s0 268 10 := (show s59 268 10 = s44 268 10 from by rw [es59, xU_j _ _ (by decide)]).trans q52
      have q68 : s59 268 9 = (x26 + 1) := (show s59 268 9 = s44 268 9 from by rw [es59, xU_j _ _ (by decide)]).trans q53
      have q69 : s59 268 13 = 0 := by rw [es59, xU_s]
      have q70 : s59 268 14 = s0 268 14 := (show s59 268 14 = s44 268 14 from by rw [es59, xU_j _ _ (by decide)]).trans q55
      have q71 : s59 268 15 = s0 268 15 := (show s59 268 15 = s44 268 15 from by rw [es59, xU_j _ _ (by decide)]).trans q56
      have q72 : s59 268 16 = s0 268 16 := (show s59 268 16 = s44 268 16 from by rw [es59, xU_j _ _ (by decide)]).trans q57
      have hF73 := hF58.put es59 (by omega)
      have A76 : s59 277 = s0 277 ∧ s59 279 = xud (s0 279) (s0 268 16) (zch f9 n9 (s0 268 9)) ∧ s59 280 = xud (s0 280) (s0 268 16) (s0 268 14) ∧ s59 281 = s0 281 ∧ s59 282 = s0 282 := by rw [es59, xU_k _ _ _ (by omega), xU_k _ _ _ (by omega), xU_k _ _ _ (by omega), xU_k _ _ _ (by omega), xU_k _ _ _ (by omega)]; exact A73
      refine x_aload_n hx hb hl 1 rfl dX11_readsClause_79 rfl ?_
      refine x_iconst hx hb dX11_readsClause_80 ?_
      refine x_put (j := 15) hx hb hown hT hE hW cls_X11 (by decide) (fun σ => so_268 h0 g σ) (by decide) (st_X11_15 h0 s59 268 0) (ln_X11_15 h0 _ _) wq1200 rfl rfl rfl (by decide) dX11_readsClause_81 (fun H locs s74 es74 hW => ?_)
      have q75 : IMn s74 := by rw [es74]; exact IMn_268 q60 (by omega)
      have q76 : IMk s74 := by rw [es74]; exact IMk_268 q61 (by omega)
      have q77 : IMo s74 := by rw [es74]; exact IMo_o (by unfold suIMo; omega) q62
      have q78 : IR s74 := by rw [es74]; exact IR_268 q63 (by omega)
      have q79 : s74 268 8 = s0 268 8 := (show s74 268 8 = s59 268 8 from by rw [es74, xU_j _ _ (by decide)]).trans q64
      have q80 : s74 268 58 = s0 268 58 := (show s74 268 58 = s59 268 58 from by rw [es74, xU_j _ _ (by decide)]).trans q65
      have q81 : s74 268 17 = s0 268 17 := (show s74 268 17 = s59 268 17 from by rw [es74, xU_j _ _ (by decide)]).trans q66
      have q82 : s74 268 10 = s0 268 10 := (show s74 268 10 = s59 268 10 from by rw [es74, xU_j _ _ (by decide)]).trans q67
      have q83 : s74 268 9 = (x26 + 1) := (show s74 268 9 = s59 268 9 from by rw [es74, xU_j _ _ (by decide)]).trans q68
      have q84 : s74 268 13 = 0 := (show s74 268 13 = s59 268 13 from by rw [es74, xU_j _ _ (by decide)]).trans q69
      have q85 : s74 268 14 = s0 268 14 := (show s74 268 14 = s59 268 14 from by rw [es74, xU_j _ _ (by decide)]).trans q70
      have q86 : s74 268 15 = 0 := by rw [es74, xU_s]
      have q87 : s74 268 16 = s0 268 16 := (show s74 268 16 = s59 268 16 from by rw [es74, xU_j _ _ (by decide)]).trans q72
      have hF88 := hF73.put es74 (by omega)
      have A81 : s74 277 = s0 277 ∧ s74 279 = xud (s0 279) (s0 268 16) (zch f9 n9 (s0 268 9)) ∧ s74 280 = xud (s0 280) (s0 268 16) (s0 268 14) ∧ s74 281 = s0 281 ∧ s74 282 = s0 282 := by rw [es74, xU_k _ _ _ (by omega), xU_k _ _ _ (by omega), xU_k _ _ _ (by omega), xU_k _ _ _ (by omega), xU_k _ _ _ (by omega)]; exact A76
      have z81 : zch f9 n9 (s0 268 9) ≠ 110 → (zc1 f9 n9 (s0 268 9) (s0 268 14) (s0 277)) = zE0 f9 n9 0 (s74 268 9) (s74 268 14) (s74 277) := fun h => by unfold zc1; rw [if_neg h, A81.1, show s74 268 9 = s0 268 9 + 1 from by omega, show s74 268 14 = s0 268 14 from by omega]
      refine x_iload_n hx hb hl 0 rfl dX11_readsClause_84 rfl ?_
      refine x_bipush hx hb dX11_readsClause_85 (by decide) ?_
      have J99 : ∀ (s_99 : xS) (H : Heap) (locs : List Loc) (ls : Array Slot), (xFr (fun k => k = 268 ∨ k = 277 ∨ k = 278 ∨ k = 279 ∨ k = 280 ∨ k = 281 ∨ k = 282) s0 s_99) → (IMn s_99) → (IMk s_99) → (IMo s_99) → (IR s_99) → (s_99 268 8 = s0 268 8) → (s_99 268 58 = s0 268 58) → (s_99 268 17 = s0 268 17) → (s_99 268 10 = s0 268 10) → (s_99 268 16 = s0 268 16) → ((zc1 f9 n9 (s0 268 9) (s0 268 14) (s0 277)) = (0, s_99 268 9, s_99 268 14, s_99 277) ∧ (0 ≤ s_99 268 14 ∧ s_99 268 14 + 1 ≤ s_99 268 9 ∧ s0 268 9 + 1 ≤ s_99 268 9)) → (s_99 279 = xud (s0 279) (s0 268 16) (zch f9 n9 (s0 268 9)) ∧ s_99 280 = xud (s0 280) (s0 268 16) (s0 268 14) ∧ s_99 281 = s0 281 ∧ s_99 282 = s0 282) → xW D g h0 s H locs s_99 → lv_has ls 2 [(0, .ref (h0 + 268))] → W p l e { frames := 7, cells := 0, slots := 0, locals := 145 } s m args below meth c H locs 0 0 Q (F0 m 99 ls []) := by
        intro s_99 H locs ls hF_99 q99_0 q99_1 q99_2 q99_3 q99_4 q99_5 q99_6 q99_7 q99_12 v99_0 v99_1 hW hl
        refine x_aload_n hx hb hl 0 rfl dX11_readsClause_99 rfl ?_
        have r99 : 0 ≤ s_99 268 9 ∧ s_99 268 9 ≤ s_99 268 10 ∧ s_99 268 10 ≤ 240 := q99_3
        refine x_get (j := 22) (v := .ref (h0 + 281)) hx hb hown hT hE hW cls_X11 (Or.inl (by decide)) (so_268 h0 g _) (by decide) rfl wq1207 dX11_readsClause_100 ?_
        refine x_aload_n hx hb hl 0 rfl dX11_readsClause_103 rfl ?_
        refine x_get (j := 16) (v := .int (xJ (s_99 268 16))) hx hb hown hT hE hW cls_X11 (Or.inl (by decide)) (so_268 h0 g _) (by decide) rfl wq1201 dX11_readsClause_104 ?_
        refine x_rd hW (fun x89 ex89 rx89 => ?_)
        have fx89 : x89 = s0 268 16 := ex89.trans q99_12
        refine x_aload_n hx hb hl 0 rfl dX11_readsClause_107 rfl ?_
        refine x_get (j := 14) (v := .int (xJ (s_99 268 14))) hx hb hown hT hE hW cls_X11 (Or.inl (by decide)) (so_268 h0 g _) (by decide) rfl wq1199 dX11_readsClause_108 ?_
        refine x_rd hW (fun x90 ex90 rx90 => ?_)
        have q91 : s_99 268 14 = x90 := ex90.symm
        refine x_iast hx hb hE hW (by decide) (fun σ => sa_281 h0 g σ) (by omega) (by decide) rx90 dX11_readsClause_111 (fun H locs s92 es92 hW => ?_)
        have q93 : IMn s92 := by rw [es92]; exact IMn_o (by unfold suIMn; omega) q99_0
        have q94 : IMk s92 := by rw [es92]; exact IMk_o (by unfold suIMk; omega) q99_1
        have q95 : IMo s92 := by rw [es92]; exact IMo_o (by unfold suIMo; omega) q99_2
        have q96 : IR s92 := by rw [es92]; exact IR_o (by unfold suIR; omega) q99_3
        have q97 : s92 268 8 = s0 268 8 := (show s92 268 8 = s_99 268 8 from by rw [es92, xU_k _ _ _ (by omega)]).trans q99_4
        have q98 : s92 268 58 = s0 268 58 := (show s92 268 58 = s_99 268 58 from by rw [es92, xU_k _ _ _ (by omega)]).trans q99_5
        have q99 : s92 268 17 = s0 268 17 := (show s92 268 17 = s_99 268 17 from by rw [es92, xU_k _ _ _ (by omega)]).trans q99_6
        have q100 : s92 268 10 = s0 268 10 := (show s92 268 10 = s_99 268 10 from by rw [es92, xU_k _ _ _ (by omega)]).trans q99_7
        have q101 : s92 268 16 = s0 268 16 := (show s92 268 16 = s_99 268 16 from by rw [es92, xU_k _ _ _ (by omega)]).trans q99_12
        have q102 : s92 268 14 = x90 := (show s92 268 14 = s_99 268 14 from by rw [es92, xU_k _ _ _ (by omega)]).trans q91
        have hF103 := hF_99.put es92 (by omega)
        have I111 : x89 = s0 268 16 ∧ x90 = s_99 268 14 := by omega
        have B111 : s92 277 = s_99 277 ∧ s92 279 = xud (s0 279) (s0 268 16) (zch f9 n9 (s0 268 9)) ∧ s92 280 = xud (s0 280) (s0 268 16) (s0 268 14) ∧ s92 281 = xud (s0 281) (s0 268 16) (s_99 268 14) ∧ s92 282 = s0 282 := ⟨by rw [es92, xU_k _ _ _ (by omega)], by rw [es92, xU_k _ _ _ (by omega)]; exact v99_1.1, by rw [es92, xU_k _ _ _ (by omega)]; exact v99_1.2.1, by rw [es92, xU_xud, I111.1, I111.2, v99_1.2.2.1], by rw [es92, xU_k _ _ _ (by omega)]; exact v99_1.2.2.2⟩
        have C111 : s92 268 14 = s_99 268 14 ∧ s92 268 9 = s_99 268 9 := by rw [es92, xU_k _ _ _ (by omega)]; exact ⟨rfl, rfl⟩
        refine x_aload_n hx hb hl 0 rfl dX11_readsClause_112 rfl ?_
        refine x_goi (x_runV (As := []) hx hb hml hown hT hE hW hl.1 (Or.inl (by decide)) (so_268 h0 g _) rfl cf_X11_readsCondition wq1515 wq125 wq1513 (c_X11_readsConditionK l D g T h0 s92 hW.2.1 f9 n9 (by first | exact hf | exact ⟨by rw [hF103 276 (by omega)]; exact hf.1, by omega⟩) (by omega) q93 q94 q95 q96) ⟨rfl, rfl, ⟨by decide, by decide⟩, ⟨by decide, by decide⟩⟩ rfl rfl (Nat.le_of_ble_eq_true rfl) dX11_readsClause_113) hW (fun x104 s105 H locs rx104 hp106 hW => ?_)
        obtain ⟨fs105, hp106⟩ := hp106
        have hF107 := hF103.call fs105 (fun k h => by omega)
        have ghp106 := hp106.2
        have H113 := ghp106
        rw [B111.1, C111.1, C111.2] at H113
        have B113 : s105 279 = xud (s0 279) (s0 268 16) (zch f9 n9 (s0 268 9)) ∧ s105 280 = xud (s0 280) (s0 268 16) (s0 268 14) ∧ s105 281 = xud (s0 281) (s0 268 16) (s_99 268 14) ∧ s105 282 = s0 282 := ⟨(fs105 279 (by omega)).trans B111.2.1, (fs105 280 (by omega)).trans B111.2.2.1, (fs105 281 (by omega)).trans B111.2.2.2.1, (fs105 282 (by omega)).trans B111.2.2.2.2⟩
        obtain ⟨p4, ep4⟩ : ∃ p : Int, p = s105 268 9 := ⟨_, rfl⟩
        obtain ⟨c4, ec4⟩ : ∃ p : Int, p = s105 268 14 := ⟨_, rfl⟩
        obtain ⟨K4, eK4⟩ : ∃ K, K = s105 277 := ⟨_, rfl⟩
        rw [← ep4, ← ec4, ← eK4] at H113
        refine x_if_ne (tgt := 121) hx hb rx104 dX11_readsClause_116 (by decide) (fun c108 => ?_) (fun c108 => ?_)
        · skip
          refine x_aload_n hx hb hl 0 rfl dX11_readsClause_121 rfl ?_
          refine x_get (j := 23) (v := .ref (h0 + 282)) hx hb hown hT hE hW cls_X11 (Or.inl (by decide)) (so_268 h0 g _) (by decide) rfl wq1208 dX11_readsClause_122 ?_
          refine x_aload_n hx hb hl 0 rfl dX11_readsClause_125 rfl ?_
          refine x_get (j := 16) (v := .int (xJ (s105 268 16))) hx hb hown hT hE hW cls_X11 (Or.inl (by decide)) (so_268 h0 g _) (by decide) rfl wq1201 dX11_readsClause_126 ?_
          refine x_rd hW (fun x109 ex109 rx109 => ?_)
          have fx109 : x109 = s0 268 16 := ex109.trans (hp106.1.2.2.2.2.2.2.2.2.1.trans q101)
          refine x_aload_n hx hb hl 0 rfl dX11_readsClause_129 rfl ?_
          refine x_get (j := 14) (v := .int (xJ (s105 268 14))) hx hb hown hT hE hW cls_X11 (Or.inl (by decide)) (so_268 h0 g _) (by decide) rfl wq1199 dX11_readsClause_130 ?_
          refine x_rd hW (fun x110 ex110 rx110 => ?_)
          have q111 : s105 268 14 = x110 := ex110.symm
          refine x_iast hx hb hE hW (by decide) (fun σ => sa_282 h0 g σ) (by omega) (by decide) rx110 dX11_readsClause_133 (fun H locs s112 es112 hW => ?_)
          have q113 : IMn s112 := by rw [es112]; exact IMn_o (by unfold suIMn; omega) hp106.1.1
          have q114 : IMk s112 := by rw [es112]; exact IMk_o (by unfold suIMk; omega) hp106.1.2.1
          have q115 : IMo s112 := by rw [es112]; exact IMo_o (by unfold suIMo; omega) hp106.1.2.2.1
          have q116 : IR s112 := by rw [es112]; exact IR_o (by unfold suIR; omega) hp106.1.2.2.2.1
          have q117 : s112 268 8 = s0 268 8 := (show s112 268 8 = s105 268 8 from by rw [es112, xU_k _ _ _ (by omega)]).trans (hp106.1.2.2.2.2.1.trans q97)
          have q118 : s112 268 58 = s0 268 58 := (show s112 268 58 = s105 268 58 from by rw [es112, xU_k _ _ _ (by omega)]).trans (hp106.1.2.2.2.2.2.1.trans q98)
          have q119 : s112 268 17 = s0 268 17 := (show s112 268 17 = s105 268 17 from by rw [es112, xU_k _ _ _ (by omega)]).trans (hp106.1.2.2.2.2.2.2.1.trans q99)
          have q120 : s112 268 10 = s0 268 10 := (show s112 268 10 = s105 268 10 from by rw [es112, xU_k _ _ _ (by omega)]).trans (hp106.1.2.2.2.2.2.2.2.1.trans q100)
          have q121 : s112 268 16 = s0 268 16 := (show s112 268 16 = s105 268 16 from by rw [es112, xU_k _ _ _ (by omega)]).trans (hp106.1.2.2.2.2.2.2.2.2.1.trans q101)
          have q122 : s112 268 14 = x110 := (show s112 268 14 = s105 268 14 from by rw [es112, xU_k _ _ _ (by omega)]).trans q111
          have hF123 := hF107.put es112 (by omega)
          have I133 : x109 = s0 268 16 ∧ x110 = c4 := by omega
          have B133 : s112 277 = K4 ∧ s112 279 = xud (s0 279) (s0 268 16) (zch f9 n9 (s0 268 9)) ∧ s112 280 = xud (s0 280) (s0 268 16) (s0 268 14) ∧ s112 281 = xud (s0 281) (s0 268 16) (s_99 268 14) ∧ s112 282 = xud (s0 282) (s0 268 16) c4 := ⟨by rw [es112, xU_k _ _ _ (by omega), eK4], by rw [es112, xU_k _ _ _ (by omega)]; exact B113.1, by rw [es112, xU_k _ _ _ (by omega)]; exact B113.2.1, by rw [es112, xU_k _ _ _ (by omega)]; exact B113.2.2.1, by rw [es112, xU_xud, I133.1, I133.2, B113.2.2.2]⟩
          have C133 : s112 268 9 = p4 ∧ s112 268 14 = c4 := by rw [es112, xU_k _ _ _ (by omega)]; exact ⟨ep4.symm, ec4.symm⟩
          refine x_aload_n hx hb hl 0 rfl dX11_readsClause_134 rfl ?_
          refine x_aload_n hx hb hl 0 rfl dX11_readsClause_135 rfl ?_
          refine x_get (j := 16) (v := .int (xJ (s112 268 16))) hx hb hown hT hE hW cls_X11 (Or.inl (by decide)) (so_268 h0 g _) (by decide) rfl wq1201 dX11_readsClause_136 ?_
          refine x_rd hW (fun x124 ex124 rx124 => ?_)
          have fx124 : x124 = s0 268 16 := ex124.trans q121
          refine x_iconst hx hb dX11_readsClause_139 ?_
          refine x_iadd hx hb dX11_readsClause_140 ?_
          refine x_put (j := 16) hx hb hown hT hE hW cls_X11 (by decide) (fun σ => so_268 h0 g σ) (by decide) (st_X11_16 h0 s112 268 (x124 + 1)) (ln_X11_16 h0 _ _) wq1201 rfl rfl rfl (by omega) dX11_readsClause_141 (fun H locs s125 es125 hW => ?_)
          have q126 : IMn s125 := by rw [es125]; exact IMn_268 q113 (by omega)
          have q127 : IMk s125 := by rw [es125]; exact IMk_268 q114 (by omega)
          have q128 : IMo s125 := by rw [es125]; exact IMo_o (by unfold suIMo; omega) q115
          have q129 : IR s125 := by rw [es125]; exact IR_268 q116 (by omega)
          have q130 : s125 268 8 = s0 268 8 := (show s125 268 8 = s112 268 8 from by rw [es125, xU_j _ _ (by decide)]).trans q117
          have q131 : s125 268 58 = s0 268 58 := (show s125 268 58 = s112 268 58 from by rw [es125, xU_j _ _ (by decide)]).trans q118
          have q132 : s125 268 17 = s0 268 17 := (show s125 268 17 = s112 268 17 from by rw [es125, xU_j _ _ (by decide)]).trans q119
          have q133 : s125 268 10 = s0 268 10 := (show s125 268 10 = s112 268 10 from by rw [es125, xU_j _ _ (by decide)]).trans q120
          have q134 : s125 268 16 = (x124 + 1) := by rw [es125, xU_s]
          have q135 : s125 268 14 = x110 := (show s125 268 14 = s112 268 14 from by rw [es125, xU_j _ _ (by decide)]).trans q122
          have hF136 := hF123.put es125 (by omega)
          have C141 : s125 268 9 = p4 ∧ s125 268 14 = c4 := by rw [es125, xU_j _ _ (by decide), xU_j _ _ (by decide)]; exact C133
          have B141 : s125 277 = K4 ∧ s125 279 = xud (s0 279) (s0 268 16) (zch f9 n9 (s0 268 9)) ∧ s125 280 = xud (s0 280) (s0 268 16) (s0 268 14) ∧ s125 281 = xud (s0 281) (s0 268 16) (s_99 268 14) ∧ s125 282 = xud (s0 282) (s0 268 16) c4 := by rw [es125, xU_k _ _ _ (by omega), xU_k _ _ _ (by omega), xU_k _ _ _ (by omega), xU_k _ _ _ (by omega), xU_k _ _ _ (by omega)]; exact B133
          refine x_iconst hx hb dX11_readsClause_144 ?_
          rw [eQ]
          exact x_zret hx hb hr hlk hW (by omega) ⟨hF136, ⟨q126, q127, q128, q129, q130, q131, q132, q133, trivial⟩, by
    have e := (H113.resolve_left (fun q => by omega)).2
    have w := zc2_wf (by omega) e.1
    rw [B141.1, B141.2.1, B141.2.2.1, B141.2.2.2.1, B141.2.2.2.2, show s125 268 9 = p4 from by omega, show s125 268 14 = c4 from by omega]
    exact Or.inr ⟨by omega, by exact hz.clause (by omega) (by omega) v99_0.1 e.1 (by omega) (by omega) rfl rfl rfl rfl, by omega⟩⟩ dX11_readsClause_145
        refine x_iconst hx hb dX11_readsClause_119 ?_
        rw [eQ]
        exact x_zret hx hb hr hlk hW (by omega) ⟨hF107, ⟨hp106.1.1, hp106.1.2.1, hp106.1.2.2.1, hp106.1.2.2.2.1, (hp106.1.2.2.2.2.1.trans q97), (hp106.1.2.2.2.2.2.1.trans q98), (hp106.1.2.2.2.2.2.2.1.trans q99), (hp106.1.2.2.2.2.2.2.2.1.trans q100), trivial⟩, by
    have e := H113.resolve_right (fun q => by omega)
    have z := hz.e2 (by omega) (by omega) v99_0.1 e.2.1
    rw [z]
    exact Or.inl ⟨by omega, e.2.1, e.2.2⟩⟩ dX11_readsClause_120
      refine x_icmp_eq (tgt := 99) hx hb rx1 (by decide) dX11_readsClause_87 (by decide) (fun c137 => ?_) (fun c137 => ?_)
      · skip
        exact J99 s74 H locs ls hF88 q75 q76 q77 q78 q79 q80 q81 q82 q87 (by first | exact ⟨by unfold zc1; rw [if_pos (by omega), A81.1, show s74 268 9 = s0 268 9 + 1 from by omega, show s74 268 14 = s0 268 14 from by omega], by omega⟩ | exact ⟨z91.trans (H91.resolve_left (fun q => by omega)).2.1, by have e := H91.resolve_left (fun q => by omega); omega⟩) (by first | exact A81.2 | exact ⟨(F91 279 (by omega)).trans A81.2.1, (F91 280 (by omega)).trans A81.2.2.1, (F91 281 (by omega)).trans A81.2.2.2.1, (F91 282 (by omega)).trans A81.2.2.2.2⟩) hW (lv_sub hl [1] rfl)
      refine x_aload_n hx hb hl 1 rfl dX11_readsClause_90 rfl ?_
      refine x_goi (x_runV (As := []) hx hb hml hown hT hE hW hl.1 (Or.inl (by decide)) (so_268 h0 g _) rfl cf_X11_readsSum wq1472 wq116 wq1470 (c_X11_readsSumK l D g T h0 s74 hW.2.1 f9 n9 0 1 (by first | exact hf | exact ⟨by rw [hF88 276 (by omega)]; exact hf.1, by omega⟩) (by omega) (by omega) (Or.inl (by omega)) q75 q76 q77 q78) ⟨rfl, rfl, ⟨by decide, by decide⟩, ⟨by decide, by decide⟩⟩ rfl rfl (Nat.le_of_ble_eq_true rfl) dX11_readsClause_91) hW (fun x138 s139 H locs rx138 hp140 hW => ?_)
      obtain ⟨fs139, hp140⟩ := hp140
      have hF141 := hF88.call fs139 (fun k h => by omega)
      have ghp140 := hp140.2
      have H91 := ghp140
      have F91 := fs139
      have z91 := z81 (by omega)
      refine x_if_ne (tgt := 99) hx hb rx138 dX11_readsClause_94 (by decide) (fun c142 => ?_) (fun c142 => ?_)
      · skip
        exact J99 s139 H locs ls hF141 hp140.1.1 hp140.1.2.1 hp140.1.2.2.1 hp140.1.2.2.2.1 (hp140.1.2.2.2.2.1.trans q79) (hp140.1.2.2.2.2.2.1.trans q80) (hp140.1.2.2.2.2.2.2.1.trans q81) (hp140.1.2.2.2.2.2.2.2.1.trans q82) (hp140.1.2.2.2.2.2.2.2.2.1.trans q87) (by first | exact ⟨by unfold zc1; rw [if_pos (by omega), A81.1, show s139 268 9 = s0 268 9 + 1 from by omega, show s139 268 14 = s0 268 14 from by omega], by omega⟩ | exact ⟨z91.trans (H91.resolve_left (fun q => by omega)).2.1, by have e := H91.resolve_left (fun q => by omega); omega⟩) (by first | exact A81.2 | exact ⟨(F91 279 (by omega)).trans A81.2.1, (F91 280 (by omega)).trans A81.2.2.1, (F91 281 (by omega)).trans A81.2.2.2.1, (F91 282 (by omega)).trans A81.2.2.2.2⟩) hW (lv_sub hl [1] rfl)
      refine x_iconst hx hb dX11_readsClause_97 ?_
      rw [eQ]
      exact x_zret hx hb hr hlk hW (by omega) ⟨hF141, ⟨hp140.1.1, hp140.1.2.1, hp140.1.2.2.1, hp140.1.2.2.2.1, (hp140.1.2.2.2.2.1.trans q79), (hp140.1.2.2.2.2.2.1.trans q80), (hp140.1.2.2.2.2.2.2.1.trans q81), (hp140.1.2.2.2.2.2.2.2.1.trans q82), trivial⟩, by
    have e := H91.resolve_right (fun q => by omega)
    rw [← z91] at e
    have z := hz.e1 (by omega) (by omega) e.2.1
    rw [z]
    exact Or.inl ⟨by omega, e.2.1, e.2.2⟩⟩ dX11_readsClause_98
    refine x_aload_n hx hb hl 1 rfl dX11_readsClause_31 rfl ?_
    refine x_iconst hx hb dX11_readsClause_32 ?_
    refine x_aload_n hx hb hl 1 rfl dX11_readsClause_33 rfl ?_
    refine x_get (j := 9) (v := .int (xJ (s0 268 9))) hx hb hown hT hE hW cls_X11 (Or.inl (by decide)) (so_268 h0 g _) (by decide) rfl wq1194 dX11_readsClause_34 ?_
    refine x_rd hW (fun x143 ex143 rx143 => ?_)
    have bx143 : 0 ≤ x143 ∧ x143 ≤ s0 268 10 ∧ s0 268 10 ≤ 240 := by rw [ex143]; exact p3
    have fx143 : x143 = s0 268 9 := ex143.trans k268_9
    refine x_goi (x_runV (As := [.int (xJ 4), .int (xJ x143)]) hx hb hml hown hT hE hW hl.1 (Or.inl (by decide)) (so_268 h0 g _) rfl cf_X11_wrongAt wq1401 wq107 wq1399 (c_X11_wrongAtK l D g T h0 s0 hW.2.1 4 (by decide) x143 rx143 (by omega) p0 p1 p2 p3) ⟨rfl, rfl, ⟨by decide, by decide⟩, ⟨by decide, by decide⟩⟩ rfl rfl (Nat.le_of_ble_eq_true rfl) dX11_readsClause_37) hW (fun x144 s145 H locs rx144 hp146 hW => ?_)
    obtain ⟨fs145, hp146⟩ := hp146
    have hF147 := hF.call fs145 (fun k h => by omega)
    have ghp146 := hp146.2
    rw [eQ]
    exact x_zret hx hb hr hlk hW (by omega) ⟨hF147, ⟨hp146.1.1, hp146.1.2.1, hp146.1.2.2.1, hp146.1.2.2.2.1, (hp146.1.2.2.2.2.1.trans k268_8), (hp146.1.2.2.2.2.2.1.trans k268_58), (hp146.1.2.2.2.2.2.2.1.trans k268_17), (hp146.1.2.2.2.2.2.2.2.2.1.trans k268_10), trivial⟩, by
    have z := hz.four (by omega) (by omega)
    exact Or.inl ⟨by omega, by omega, by omega⟩⟩ dX11_readsClause_40
  refine x_aload_n hx hb hl 1 rfl dX11_readsClause_12 rfl ?_
  refine x_iconst hx hb dX11_readsClause_13 ?_
  refine x_aload_n hx hb hl 1 rfl dX11_readsClause_14 rfl ?_
  refine x_get (j := 9) (v := .int (xJ (s0 268 9))) hx hb hown hT hE hW cls_X11 (Or.inl (by decide)) (so_268 h0 g _) (by decide) rfl wq1194 dX11_readsClause_15 ?_
  refine x_rd hW (fun x148 ex148 rx148 => ?_)
  have bx148 : 0 ≤ x148 ∧ x148 ≤ s0 268 10 ∧ s0 268 10 ≤ 240 := by rw [ex148]; exact p3
  have fx148 : x148 = s0 268 9 := ex148.trans k268_9
  refine x_goi (x_runV (As := [.int (xJ 1), .int (xJ x148)]) hx hb hml hown hT hE hW hl.1 (Or.inl (by decide)) (so_268 h0 g _) rfl cf_X11_wrongAt wq1401 wq107 wq1399 (c_X11_wrongAtK l D g T h0 s0 hW.2.1 1 (by decide) x148 rx148 (by omega) p0 p1 p2 p3) ⟨rfl, rfl, ⟨by decide, by decide⟩, ⟨by decide, by decide⟩⟩ rfl rfl (Nat.le_of_ble_eq_true rfl) dX11_readsClause_18) hW (fun x149 s150 H locs rx149 hp151 hW => ?_)
  obtain ⟨fs150, hp151⟩ := hp151
  have hF152 := hF.call fs150 (fun k h => by omega)
  have ghp151 := hp151.2
  rw [eQ]
  exact x_zret hx hb hr hlk hW (by omega) ⟨hF152, ⟨hp151.1.1, hp151.1.2.1, hp151.1.2.2.1, hp151.1.2.2.2.1, (hp151.1.2.2.2.2.1.trans k268_8), (hp151.1.2.2.2.2.2.1.trans k268_58), (hp151.1.2.2.2.2.2.2.1.trans k268_17), (hp151.1.2.2.2.2.2.2.2.2.1.trans k268_10), trivial⟩, by
    have z := hz.one (by omega)
    exact Or.inl ⟨by omega, by omega, by omega⟩⟩ dX11_readsClause_21
