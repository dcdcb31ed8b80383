set_option maxHeartbeats 4000000 in
set_option maxRecDepth 100000 in
theorem c_X11_readsClauseK (l : Launch) (D : va_G) (g : xG) (T : Nat × Nat × Nat) (h0 : Nat) (s0 : xS) (hσ : xRR s0) (f9 : Int → Int) (n9 : Int) (Z : zLT) (hf : xm8 (s0 276) = f9 ∧ s0 268 10 = n9) (hz : zLX f9 n9 Z true (s0 268 16) (s0 268 9) (s0 268 14) (s0 277) (s0 279) (s0 280) (s0 281) (s0 282)) (p0 : IMn s0) (p1 : IMk s0) (p2 : IMo s0) (p3 : IR s0) : Met l yX11_readsClause (xws yX11_readsClause cX11_readsClause 2 (some .boolean)) { frames := 7, cells := 0, slots := 0, locals := 145 } (xP [.ref (h0 + 268)] D g T h0 s0) (xQi D g h0 (fun r τ => xFr (fun k => k = 268 ∨ k = 277 ∨ k = 278 ∨ k = 279 ∨ k = 280 ∨ k = 281 ∨ k = 282) s0 τ ∧ (((IMn τ) ∧ (IMk τ) ∧ (IMo τ) ∧ (IR τ) ∧ (τ 268 8 = s0 268 8) ∧ (τ 268 58 = s0 268 58) ∧ (τ 268 17 = s0 268 17) ∧ (τ 268 10 = s0 268 10) ∧ (τ 268 48 = s0 268 48) ∧ True) ∧ ((r = 0 ∧ Z.1 ≠ 0 ∧ τ 268 11 = Z.1) ∨ (r = 1 ∧ zLX f9 n9 Z false (τ 268 16) (τ 268 9) (τ 268 14) (τ 277) (τ 279) (τ 280) (τ 281) (τ 282) ∧ s0 268 9 + 1 ≤ τ 268 9))))) 0 0 (xA h0) := by
  refine x_met hσ (by decide) (Nat.le_of_ble_eq_true rfl) ?_
  intro p e s m args below meth c hx hb hr hml hown hT hlk hnm hE hW ls hl
  have hl : lv_has ls 2 [(0, .ref (h0 + 268))] := hl
  obtain ⟨Q, eQ⟩ : ∃ Q, Q = MQ below (xQi D g h0 (fun r τ => xFr (fun k => k = 268 ∨ k = 277 ∨ k = 278 ∨ k = 279 ∨ k = 280 ∨ k = 281 ∨ k = 282) s0 τ ∧ (((IMn τ) ∧ (IMk τ) ∧ (IMo τ) ∧ (IR τ) ∧ (τ 268 8 = s0 268 8) ∧ (τ 268 58 = s0 268 58) ∧ (τ 268 17 = s0 268 17) ∧ (τ 268 10 = s0 268 10) ∧ (τ 268 48 = s0 268 48) ∧ True) ∧ ((r = 0 ∧ Z.1 ≠ 0 ∧ τ 268 11 = Z.1) ∨ (r = 1 ∧ zLX f9 n9 Z false (τ 268 16) (τ 268 9) (τ 268 14) (τ 277) (τ 279) (τ 280) (τ 281) (τ 282) ∧ s0 268 9 + 1 ≤ τ 268 9))))) args s 0 0 (xA h0) := ⟨_, rfl⟩
  rw [← eQ]
  generalize hHe : ([] : List Loc) = locs at hW ⊢
  obtain ⟨H, eH⟩ : ∃ H, H = s.heap := ⟨_, rfl⟩
  rw [← eH] at hW ⊢
  have hF : xFr (fun k => k = 268 ∨ k = 277 ∨ k = 278 ∨ k = 279 ∨ k = 280 ∨ k = 281 ∨ k = 282) s0 s0 := xFr.rf
  have k268_8 : s0 268 8 = s0 268 8 := rfl
  have k268_58 : s0 268 58 = s0 268 58 := rfl
  have k268_17 : s0 268 17 = s0 268 17 := rfl
  have k268_10 : s0 268 10 = s0 268 10 := rfl
  have k268_48 : s0 268 48 = s0 268 48 := rfl
  have k268_9 : s0 268 9 = s0 268 9 := rfl
  have k268_13 : s0 268 13 = s0 268 13 := rfl
  have k268_14 : s0 268 14 = s0 268 14 := rfl
  have k268_15 : s0 268 15 = s0 268 15 := rfl
  have k268_16 : s0 268 16 = s0 268 16 := rfl
  have hf2 := hf.2
  have hr0 : 0 ≤ s0 268 9 ∧ s0 268 9 ≤ s0 268 10 ∧ s0 268 10 ≤ 240 := p3
  have b0 := hz.b
  refine x_aload_n hx hb hl 0 rfl dX11_readsClause_0 rfl ?_
  refine x_goi (x_runV (As := []) hx hb hml hown hT hE hW hl.1 (Or.inl (by decide)) (so_268 h0 g _) rfl cf_X11_here wq1391 wq106 wq1389 (c_X11_here l D g T h0 s0 hW.2.1 p0 p1 p2 p3) ⟨rfl, rfl, ⟨by decide, by decide⟩, ⟨by decide, by decide⟩⟩ rfl rfl (Nat.le_of_ble_eq_true rfl) dX11_readsClause_1) hW (fun x1 s2 H locs rx1 hp3 hW => ?_)
  obtain ⟨es2, hp3⟩ := hp3
  subst es2
  have ghp3 := hp3
  have C1 : x1 = zch f9 n9 (s0 268 9) := by
    have q8 := ghp3.1
    rw [zhC_ch, show s0 276 = s0 276 from hF 276 (by omega), hf.1, show s0 268 10 = n9 from by omega] at q8
    exact q8
  have z1 := zkl_cs (zch f9 n9 (s0 268 9))
  have L1 : zch f9 n9 (s0 268 9) ≠ -1 → s0 268 9 < n9 := zch_lt
  refine lv_istore_n (lv' := [(1, .int (xJ x1)), (0, .ref (h0 + 268))]) hx hb dX11_readsClause_4 rfl hl (by decide) rfl (fun ls hl => ?_)
  refine x_iload_n hx hb hl 0 rfl dX11_readsClause_5 rfl ?_
  refine x_goi (x_runS (As := [.int (xJ x1)]) hx hb hml hown hT hE hW hl.1 cf_X11_isClause wq1468 wq1467 (c_X11_isClauseK l D g T h0 s0 hW.2.1 x1 rx1) ⟨rfl, rfl, ⟨by decide, by decide⟩, ⟨by decide, by decide⟩⟩ rfl rfl (Nat.le_of_ble_eq_true rfl) dX11_readsClause_6) hW (fun x4 s5 H locs rx4 hp6 hW => ?_)
  obtain ⟨es5, hp6⟩ := hp6
  subst es5
  have ghp6 := hp6
  have H6 := ghp6
  refine x_if_ne (tgt := 22) hx hb rx4 dX11_readsClause_9 (by decide) (fun c7 => ?_) (fun c7 => ?_)
  · skip
    refine x_aload_n hx hb hl 1 rfl dX11_readsClause_22 rfl ?_
    refine x_get (j := 16) (v := .int (xJ (s0 268 16))) hx hb hown hT hE hW cls_X11 (Or.inl (by decide)) (so_268 h0 g _) (by decide) rfl wq1201 dX11_readsClause_23 ?_
    refine x_rd hW (fun x8 ex8 rx8 => ?_)
    have fx8 : x8 = s0 268 16 := ex8.trans k268_16
    refine x_bipush hx hb dX11_readsClause_26 (by decide) ?_
    refine x_icmp_ne (tgt := 41) hx hb rx8 (by decide) dX11_readsClause_28 (by decide) (fun c9 => ?_) (fun c9 => ?_)
    · skip
      refine x_aload_n hx hb hl 1 rfl dX11_readsClause_41 rfl ?_
      refine x_get (j := 20) (v := .ref (h0 + 279)) hx hb hown hT hE hW cls_X11 (Or.inl (by decide)) (so_268 h0 g _) (by decide) rfl wq1205 dX11_readsClause_42 ?_
      refine x_aload_n hx hb hl 1 rfl dX11_readsClause_45 rfl ?_
      refine x_get (j := 16) (v := .int (xJ (s0 268 16))) hx hb hown hT hE hW cls_X11 (Or.inl (by decide)) (so_268 h0 g _) (by decide) rfl wq1201 dX11_readsClause_46 ?_
      refine x_rd hW (fun x10 ex10 rx10 => ?_)
      have fx10 : x10 = s0 268 16 := ex10.trans k268_16
      refine x_iload_n hx hb hl 0 rfl dX11_readsClause_49 rfl ?_
      refine x_iast hx hb hE hW (by decide) (fun σ => sa_279 h0 g σ) (by omega) (by decide) rx1 dX11_readsClause_50 (fun H locs s11 es11 hW => ?_)
      have q12 : IMn s11 := by rw [es11]; exact IMn_o (by unfold suIMn; first | decide | omega) p0
      have q13 : IMk s11 := by rw [es11]; exact IMk_o (by unfold suIMk; first | decide | omega) p1
      have q14 : IMo s11 := by rw [es11]; exact IMo_o (by unfold suIMo; first | decide | omega) p2
      have q15 : IR s11 := by rw [es11]; exact IR_o (by unfold suIR; first | decide | omega) p3
      have q16 : s11 268 8 = s0 268 8 := (show s11 268 8 = s0 268 8 from by rw [es11, xU_k _ _ _ (by first | decide | omega)]).trans k268_8
      have q17 : s11 268 58 = s0 268 58 := (show s11 268 58 = s0 268 58 from by rw [es11, xU_k _ _ _ (by first | decide | omega)]).trans k268_58
      have q18 : s11 268 17 = s0 268 17 := (show s11 268 17 = s0 268 17 from by rw [es11, xU_k _ _ _ (by first | decide | omega)]).trans k268_17
      have q19 : s11 268 10 = s0 268 10 := (show s11 268 10 = s0 268 10 from by rw [es11, xU_k _ _ _ (by first | decide | omega)]).trans k268_10
      have q20 : s11 268 48 = s0 268 48 := (show s11 268 48 = s0 268 48 from by rw [es11, xU_k _ _ _ (by first | decide | omega)]).trans k268_48
      have q21 : s11 268 9 = s0 268 9 := (show s11 268 9 = s0 268 9 from by rw [es11, xU_k _ _ _ (by first | decide | omega)]).trans k268_9
      have q22 : s11 268 13 = s0 268 13 := (show s11 268 13 = s0 268 13 from by rw [es11, xU_k _ _ _ (by first | decide | omega)]).trans k268_13
      have q23 : s11 268 14 = s0 268 14 := (show s11 268 14 = s0 268 14 from by rw [es11, xU_k _ _ _ (by first | decide | omega)]).trans k268_14
      have q24 : s11 268 15 = s0 268 15 := (show s11 268 15 = s0 268 15 from by rw [es11, xU_k _ _ _ (by first | decide | omega)]).trans k268_15
      have q25 : s11 268 16 = s0 268 16 := (show s11 268 16 = s0 268 16 from by rw [es11, xU_k _ _ _ (by first | decide | omega)]).trans k268_16
      have hF26 := hF.put es11 (by omega)
      have I50 : x10 = s0 268 16 := by omega
      have A50 : s11 277 = s0 277 ∧ s11 279 = xud (s0 279) (s0 268 16) (zch f9 n9 (s0 268 9)) ∧ s11 280 = s0 280 ∧ s11 281 = s0 281 ∧ s11 282 = s0 282 := ⟨by rw [es11, xU_k _ _ _ (by first | decide | omega)], by rw [es11, xU_xud, I50, ← C1], by rw [es11, xU_k _ _ _ (by first | decide | omega)], by rw [es11, xU_k _ _ _ (by first | decide | omega)], by rw [es11, xU_k _ _ _ (by first | decide | omega)]⟩
      refine x_aload_n hx hb hl 1 rfl dX11_readsClause_51 rfl ?_
      refine x_aload_n hx hb hl 1 rfl dX11_readsClause_52 rfl ?_
      refine x_get (j := 9) (v := .int (xJ (s11 268 9))) hx hb hown hT hE hW cls_X11 (Or.inl (by decide)) (so_268 h0 g _) (by decide) rfl wq1194 dX11_readsClause_53 ?_
      refine x_rd hW (fun x27 ex27 rx27 => ?_)
      have bx27 : 0 ≤ x27 ∧ x27 ≤ s11 268 10 ∧ s11 268 10 ≤ 240 := by rw [ex27]; exact q15
      have fx27 : x27 = s0 268 9 := ex27.trans q21
      refine x_iconst hx hb dX11_readsClause_56 ?_
      refine x_iadd hx hb dX11_readsClause_57 ?_
      refine x_put (j := 9) hx hb hown hT hE hW cls_X11 (by decide) (fun σ => so_268 h0 g σ) (by decide) (st_X11_9 h0 s11 268 (x27 + 1)) (ln_X11_9 h0 _ _) wq1194 rfl rfl rfl (by omega) dX11_readsClause_58 (fun H locs s28 es28 hW => ?_)
      have q29 : IMn s28 := by rw [es28]; exact IMn_268 q12 (by omega)
      have q30 : IMk s28 := by rw [es28]; exact IMk_268 q13 (by omega)
      have q31 : IMo s28 := by rw [es28]; exact IMo_o (by unfold suIMo; first | decide | omega) q14
      have q32 : IR s28 := by rw [es28]; exact IR_268 q15 (by omega)
      have q33 : s28 268 8 = s0 268 8 := (show s28 268 8 = s11 268 8 from by rw [es28, xU_j _ _ (by decide)]).trans q16
      have q34 : s28 268 58 = s0 268 58 := (show s28 268 58 = s11 268 58 from by rw [es28, xU_j _ _ (by decide)]).trans q17
      have q35 : s28 268 17 = s0 268 17 := (show s28 268 17 = s11 268 17 from by rw [es28, xU_j _ _ (by decide)]).trans q18
      have q36 : s28 268 10 = s0 268 10 := (show s28 268 10 = s11 268 10 from by rw [es28, xU_j _ _ (by decide)]).trans q19
      have q37 : s28 268 48 = s0 268 48 := (show s28 268 48 = s11 268 48 from by rw [es28, xU_j _ _ (by decide)]).trans q20
      have q38 : s28 268 9 = (x27 + 1) := by rw [es28, xU_s]
      have q39 : s28 268 13 = s0 268 13 := (show s28 268 13 = s11 268 13 from by rw [es28, xU_j _ _ (by decide)]).trans q22
      have q40 : s28 268 14 = s0 268 14 := (show s28 268 14 = s11 268 14 from by rw [es28, xU_j _ _ (by decide)]).trans q23
      have q41 : s28 268 15 = s0 268 15 := (show s28 268 15 = s11 268 15 from by rw [es28, xU_j _ _ (by decide)]).trans q24
      have q42 : s28 268 16 = s0 268 16 := (show s28 268 16 = s11 268 16 from by rw [es28, xU_j _ _ (by decide)]).trans q25
      have hF43 := hF26.put es28 (by omega)
      have A58 : s28 277 = s0 277 ∧ s28 279 = xud (s0 279) (s0 268 16) (zch f9 n9 (s0 268 9)) ∧ s28 280 = s0 280 ∧ s28 281 = s0 281 ∧ s28 282 = s0 282 := by rw [es28, xU_k _ _ _ (by first | decide | omega), xU_k _ _ _ (by first | decide | omega), xU_k _ _ _ (by first | decide | omega), xU_k _ _ _ (by first | decide | omega), xU_k _ _ _ (by first | decide | omega)]; exact A50
      refine x_aload_n hx hb hl 1 rfl dX11_readsClause_61 rfl ?_
      refine x_get (j := 21) (v := .ref (h0 + 280)) hx hb hown hT hE hW cls_X11 (Or.inl (by decide)) (so_268 h0 g _) (by decide) rfl wq1206 dX11_readsClause_62 ?_
      refine x_aload_n hx hb hl 1 rfl dX11_readsClause_65 rfl ?_
      refine x_get (j := 16) (v := .int (xJ (s28 268 16))) hx hb hown hT hE hW cls_X11 (Or.inl (by decide)) (so_268 h0 g _) (by decide) rfl wq1201 dX11_readsClause_66 ?_
      refine x_rd hW (fun x44 ex44 rx44 => ?_)
      have fx44 : x44 = s0 268 16 := ex44.trans q42
      refine x_aload_n hx hb hl 1 rfl dX11_readsClause_69 rfl ?_
      refine x_get (j := 14) (v := .int (xJ (s28 268 14))) hx hb hown hT hE hW cls_X11 (Or.inl (by decide)) (so_268 h0 g _) (by decide) rfl wq1199 dX11_readsClause_70 ?_
      refine x_rd hW (fun x45 ex45 rx45 => ?_)
      have fx45 : x45 = s0 268 14 := ex45.trans q40
      refine x_iast hx hb hE hW (by decide) (fun σ => sa_280 h0 g σ) (by omega) (by decide) rx45 dX11_readsClause_73 (fun H locs s46 es46 hW => ?_)
      have q47 : IMn s46 := by rw [es46]; exact IMn_o (by unfold suIMn; first | decide | omega) q29
      have q48 : IMk s46 := by rw [es46]; exact IMk_o (by unfold suIMk; first | decide | omega) q30
      have q49 : IMo s46 := by rw [es46]; exact IMo_o (by unfold suIMo; first | decide | omega) q31
      have q50 : IR s46 := by rw [es46]; exact IR_o (by unfold suIR; first | decide | omega) q32
      have q51 : s46 268 8 = s0 268 8 := (show s46 268 8 = s28 268 8 from by rw [es46, xU_k _ _ _ (by first | decide | omega)]).trans q33
      have q52 : s46 268 58 = s0 268 58 := (show s46 268 58 = s28 268 58 from by rw [es46, xU_k _ _ _ (by first | decide | omega)]).trans q34
      have q53 : s46 268 17 = s0 268 17 := (show s46 268 17 = s28 268 17 from by rw [es46, xU_k _ _ _ (by first | decide | omega)]).trans q35
      have q54 : s46 268 10 = s0 268 10 := (show s46 268 10 = s28 268 10 from by rw [es46, xU_k _ _ _ (by first | decide | omega)]).trans q36
      have q55 : s46 268 48 = s0 268 48 := (show s46 268 48 = s28 268 48 from by rw [es46, xU_k _ _ _ (by first | decide | omega)]).trans q37
      have q56 : s46 268 9 = (x27 + 1) := (show s46 268 9 = s28 268 9 from by rw [es46, xU_k _ _ _ (by first | decide | omega)]).trans q38
      have q57 : s46 268 13 = s0 268 13 := (show s46 268 13 = s28 268 13 from by rw [es46, xU_k _ _ _ (by first | decide | omega)]).trans q39
      have q58 : s46 268 14 = s0 268 14 := (show s46 268 14 = s28 268 14 from by rw [es46, xU_k _ _ _ (by first | decide | omega)]).trans q40
      have q59 : s46 268 15 = s0 268 15 := (show s46 268 15 = s28 268 15 from by rw [es46, xU_k _ _ _ (by first | decide | omega)]).trans q41
      have q60 : s46 268 16 = s0 268 16 := (show s46 268 16 = s28 268 16 from by rw [es46, xU_k _ _ _ (by first | decide | omega)]).trans q42
      have hF61 := hF43.put es46 (by omega)
      have I73 : x44 = s0 268 16 ∧ x45 = s0 268 14 := by omega
      have A73 : s46 277 = s0 277 ∧ s46 279 = xud (s0 279) (s0 268 16) (zch f9 n9 (s0 268 9)) ∧ s46 280 = xud (s0 280) (s0 268 16) (s0 268 14) ∧ s46 281 = s0 281 ∧ s46 282 = s0 282 := ⟨by rw [es46, xU_k _ _ _ (by first | decide | omega)]; exact A58.1, by rw [es46, xU_k _ _ _ (by first | decide | omega)]; exact A58.2.1, by rw [es46, xU_xud, I73.1, I73.2, A58.2.2.1], by rw [es46, xU_k _ _ _ (by first | decide | omega)]; exact A58.2.2.2.1, by rw [es46, xU_k _ _ _ (by first | decide | omega)]; exact A58.2.2.2.2⟩
      refine x_aload_n hx hb hl 1 rfl dX11_readsClause_74 rfl ?_
      refine x_iconst hx hb dX11_readsClause_75 ?_
      refine x_put (j := 13) hx hb hown hT hE hW cls_X11 (by decide) (fun σ => so_268 h0 g σ) (by decide) (st_X11_13 h0 s46 268 0) (ln_X11_13 h0 _ _) wq1198 rfl rfl rfl (by decide) dX11_readsClause_76 (fun H locs s62 es62 hW => ?_)
      have q63 : IMn s62 := by rw [es62]; exact IMn_268 q47 (by omega)
      have q64 : IMk s62 := by rw [es62]; exact IMk_268 q48 (by omega)
      have q65 : IMo s62 := by rw [es62]; exact IMo_o (by unfold suIMo; first | decide | omega) q49
      have q66 : IR s62 := by rw [es62]; exact IR_268 q50 (by omega)
      have q67 : s62 268 8 = s0 268 8 := (show s62 268 8 = s46 268 8 from by rw [es62, xU_j _ _ (by decide)]).trans q51
      have q68 : s62 268 58 = s0 268 58 := (show s62 268 58 = s46 268 58 from by rw [es62, xU_j _ _ (by decide)]).trans q52
      have q69 : s62 268 17 = s0 268 17 := (show s62 268 17 = s46 268 17 from by rw [es62, xU_j _ _ (by decide)]).trans q53
      have q70 : s62 268 10 = s0 268 10 := (show s62 268 10 = s46 268 10 from by rw [es62, xU_j _ _ (by decide)]).trans q54
      have q71 : s62 268 48 = s0 268 48 := (show s62 268 48 = s46 268 48 from by rw [es62, xU_j _ _ (by decide)]).trans q55
      have q72 : s62 268 9 = (x27 + 1) := (show s62 268 9 = s46 268 9 from by rw [es62, xU_j _ _ (by decide)]).trans q56
      have q73 : s62 268 13 = 0 := by rw [es62, xU_s]
      have q74 : s62 268 14 = s0 268 14 := (show s62 268 14 = s46 268 14 from by rw [es62, xU_j _ _ (by decide)]).trans q58
      have q75 : s62 268 15 = s0 268 15 := (show s62 268 15 = s46 268 15 from by rw [es62, xU_j _ _ (by decide)]).trans q59
      have q76 : s62 268 16 = s0 268 16 := (show s62 268 16 = s46 268 16 from by rw [es62, xU_j _ _ (by decide)]).trans q60
      have hF77 := hF61.put es62 (by omega)
      have A76 : s62 277 = s0 277 ∧ s62 279 = xud (s0 279) (s0 268 16) (zch f9 n9 (s0 268 9)) ∧ s62 280 = xud (s0 280) (s0 268 16) (s0 268 14) ∧ s62 281 = s0 281 ∧ s62 282 = s0 282 := by rw [es62, xU_k _ _ _ (by first | decide | omega), xU_k _ _ _ (by first | decide | omega), xU_k _ _ _ (by first | decide | omega), xU_k _ _ _ (by first | decide | omega), xU_k _ _ _ (by first | decide | omega)]; exact A73
      refine x_aload_n hx hb hl 1 rfl dX11_readsClause_79 rfl ?_
      refine x_iconst hx hb dX11_readsClause_80 ?_
      refine x_put (j := 15) hx hb hown hT hE hW cls_X11 (by decide) (fun σ => so_268 h0 g σ) (by decide) (st_X11_15 h0 s62 268 0) (ln_X11_15 h0 _ _) wq1200 rfl rfl rfl (by decide) dX11_readsClause_81 (fun H locs s78 es78 hW => ?_)
      have q79 : IMn s78 := by rw [es78]; exact IMn_268 q63 (by omega)
      have q80 : IMk s78 := by rw [es78]; exact IMk_268 q64 (by omega)
      have q81 : IMo s78 := by rw [es78]; exact IMo_o (by unfold suIMo; first | decide | omega) q65
      have q82 : IR s78 := by rw [es78]; exact IR_268 q66 (by omega)
      have q83 : s78 268 8 = s0 268 8 := (show s78 268 8 = s62 268 8 from by rw [es78, xU_j _ _ (by decide)]).trans q67
      have q84 : s78 268 58 = s0 268 58 := (show s78 268 58 = s62 268 58 from by rw [es78, xU_j _ _ (by decide)]).trans q68
      have q85 : s78 268 17 = s0 268 17 := (show s78 268 17 = s62 268 17 from by rw [es78, xU_j _ _ (by decide)]).trans q69
      have q86 : s78 268 10 = s0 268 10 := (show s78 268 10 = s62 268 10 from by rw [es78, xU_j _ _ (by decide)]).trans q70
      have q87 : s78 268 48 = s0 268 48 := (show s78 268 48 = s62 268 48 from by rw [es78, xU_j _ _ (by decide)]).trans q71
      have q88 : s78 268 9 = (x27 + 1) := (show s78 268 9 = s62 268 9 from by rw [es78, xU_j _ _ (by decide)]).trans q72
      have q89 : s78 268 13 = 0 := (show s78 268 13 = s62 268 13 from by rw [es78, xU_j _ _ (by decide)]).trans q73
      have q90 : s78 268 14 = s0 268 14 := (show s78 268 14 = s62 268 14 from by rw [es78, xU_j _ _ (by decide)]).trans q74
      have q91 : s78 268 15 = 0 := by rw [es78, xU_s]
      have q92 : s78 268 16 = s0 268 16 := (show s78 268 16 = s62 268 16 from by rw [es78, xU_j _ _ (by decide)]).trans q76
      have hF93 := hF77.put es78 (by omega)
      have A81 : s78 277 = s0 277 ∧ s78 279 = xud (s0 279) (s0 268 16) (zch f9 n9 (s0 268 9)) ∧ s78 280 = xud (s0 280) (s0 268 16) (s0 268 14) ∧ s78 281 = s0 281 ∧ s78 282 = s0 282 := by rw [es78, xU_k _ _ _ (by first | decide | omega), xU_k _ _ _ (by first | decide | omega), xU_k _ _ _ (by first | decide | omega), xU_k _ _ _ (by first | decide | omega), xU_k _ _ _ (by first | decide | omega)]; exact A76
      have z81 : zch f9 n9 (s0 268 9) ≠ 110 → (zc1 f9 n9 (s0 268 9) (s0 268 14) (s0 277)) = zE0 f9 n9 0 (s78 268 9) (s78 268 14) (s78 277) := fun h => by unfold zc1; rw [if_neg h, A81.1, show s78 268 9 = s0 268 9 + 1 from by omega, show s78 268 14 = s0 268 14 from by omega]
      refine x_iload_n hx hb hl 0 rfl dX11_readsClause_84 rfl ?_
      refine x_bipush hx hb dX11_readsClause_85 (by decide) ?_
      have J99 : ∀ (s_99 : xS) (H : Heap) (locs : List Loc) (ls : Array Slot), (xFr (fun k => k = 268 ∨ k = 277 ∨ k = 278 ∨ k = 279 ∨ k = 280 ∨ k = 281 ∨ k = 282) s0 s_99) → (IMn s_99) → (IMk s_99) → (IMo s_99) → (IR s_99) → (s_99 268 8 = s0 268 8) → (s_99 268 58 = s0 268 58) → (s_99 268 17 = s0 268 17) → (s_99 268 10 = s0 268 10) → (s_99 268 48 = s0 268 48) → (s_99 268 16 = s0 268 16) → ((zc1 f9 n9 (s0 268 9) (s0 268 14) (s0 277)) = (0, s_99 268 9, s_99 268 14, s_99 277) ∧ (0 ≤ s_99 268 14 ∧ s_99 268 14 + 1 ≤ s_99 268 9 ∧ s0 268 9 + 1 ≤ s_99 268 9)) → (s_99 279 = xud (s0 279) (s0 268 16) (zch f9 n9 (s0 268 9)) ∧ s_99 280 = xud (s0 280) (s0 268 16) (s0 268 14) ∧ s_99 281 = s0 281 ∧ s_99 282 = s0 282) → xW D g h0 s H locs s_99 → lv_has ls 2 [(0, .ref (h0 + 268))] → W p l e { frames := 7, cells := 0, slots := 0, locals := 145 } s m args below meth c H locs 0 0 Q (F0 m 99 ls []) := by
        intro s_99 H locs ls hF_99 q99_0 q99_1 q99_2 q99_3 q99_4 q99_5 q99_6 q99_7 q99_8 q99_13 v99_0 v99_1 hW hl
        refine x_aload_n hx hb hl 0 rfl dX11_readsClause_99 rfl ?_
        have r99 : 0 ≤ s_99 268 9 ∧ s_99 268 9 ≤ s_99 268 10 ∧ s_99 268 10 ≤ 240 := q99_3
        refine x_get (j := 22) (v := .ref (h0 + 281)) hx hb hown hT hE hW cls_X11 (Or.inl (by decide)) (so_268 h0 g _) (by decide) rfl wq1207 dX11_readsClause_100 ?_
        refine x_aload_n hx hb hl 0 rfl dX11_readsClause_103 rfl ?_
        refine x_get (j := 16) (v := .int (xJ (s_99 268 16))) hx hb hown hT hE hW cls_X11 (Or.inl (by decide)) (so_268 h0 g _) (by decide) rfl wq1201 dX11_readsClause_104 ?_
        refine x_rd hW (fun x94 ex94 rx94 => ?_)
        have fx94 : x94 = s0 268 16 := ex94.trans q99_13
        refine x_aload_n hx hb hl 0 rfl dX11_readsClause_107 rfl ?_
        refine x_get (j := 14) (v := .int (xJ (s_99 268 14))) hx hb hown hT hE hW cls_X11 (Or.inl (by decide)) (so_268 h0 g _) (by decide) rfl wq1199 dX11_readsClause_108 ?_
        refine x_rd hW (fun x95 ex95 rx95 => ?_)
        have q96 : s_99 268 14 = x95 := ex95.symm
        refine x_iast hx hb hE hW (by decide) (fun σ => sa_281 h0 g σ) (by omega) (by decide) rx95 dX11_readsClause_111 (fun H locs s97 es97 hW => ?_)
        have q98 : IMn s97 := by rw [es97]; exact IMn_o (by unfold suIMn; first | decide | omega) q99_0
        have q99 : IMk s97 := by rw [es97]; exact IMk_o (by unfold suIMk; first | decide | omega) q99_1
        have q100 : IMo s97 := by rw [es97]; exact IMo_o (by unfold suIMo; first | decide | omega) q99_2
        have q101 : IR s97 := by rw [es97]; exact IR_o (by unfold suIR; first | decide | omega) q99_3
        have q102 : s97 268 8 = s0 268 8 := (show s97 268 8 = s_99 268 8 from by rw [es97, xU_k _ _ _ (by first | decide | omega)]).trans q99_4
        have q103 : s97 268 58 = s0 268 58 := (show s97 268 58 = s_99 268 58 from by rw [es97, xU_k _ _ _ (by first | decide | omega)]).trans q99_5
        have q104 : s97 268 17 = s0 268 17 := (show s97 268 17 = s_99 268 17 from by rw [es97, xU_k _ _ _ (by first | decide | omega)]).trans q99_6
        have q105 : s97 268 10 = s0 268 10 := (show s97 268 10 = s_99 268 10 from by rw [es97, xU_k _ _ _ (by first | decide | omega)]).trans q99_7
        have q106 : s97 268 48 = s0 268 48 := (show s97 268 48 = s_99 268 48 from by rw [es97, xU_k _ _ _ (by first | decide | omega)]).trans q99_8
        have q107 : s97 268 16 = s0 268 16 := (show s97 268 16 = s_99 268 16 from by rw [es97, xU_k _ _ _ (by first | decide | omega)]).trans q99_13
        have q108 : s97 268 14 = x95 := (show s97 268 14 = s_99 268 14 from by rw [es97, xU_k _ _ _ (by first | decide | omega)]).trans q96
        have hF109 := hF_99.put es97 (by omega)
        have I111 : x94 = s0 268 16 ∧ x95 = s_99 268 14 := by omega
        have B111 : s97 277 = s_99 277 ∧ s97 279 = xud (s0 279) (s0 268 16) (zch f9 n9 (s0 268 9)) ∧ s97 280 = xud (s0 280) (s0 268 16) (s0 268 14) ∧ s97 281 = xud (s0 281) (s0 268 16) (s_99 268 14) ∧ s97 282 = s0 282 := ⟨by rw [es97, xU_k _ _ _ (by first | decide | omega)], by rw [es97, xU_k _ _ _ (by first | decide | omega)]; exact v99_1.1, by rw [es97, xU_k _ _ _ (by first | decide | omega)]; exact v99_1.2.1, by rw [es97, xU_xud, I111.1, I111.2, v99_1.2.2.1], by rw [es97, xU_k _ _ _ (by first | decide | omega)]; exact v99_1.2.2.2⟩
        have C111 : s97 268 14 = s_99 268 14 ∧ s97 268 9 = s_99 268 9 := by rw [es97, xU_k _ _ _ (by first | decide | omega)]; exact ⟨rfl, rfl⟩
        refine x_aload_n hx hb hl 0 rfl dX11_readsClause_112 rfl ?_
        refine x_goi (x_runV (As := []) hx hb hml hown hT hE hW hl.1 (Or.inl (by decide)) (so_268 h0 g _) rfl cf_X11_readsCondition wq1515 wq125 wq1513 (c_X11_readsConditionK l D g T h0 s97 hW.2.1 f9 n9 (by first | exact hf | exact ⟨by rw [hF109 276 (by first | decide | omega)]; exact hf.1, by omega⟩) (by omega) q98 q99 q100 q101) ⟨rfl, rfl, ⟨by decide, by decide⟩, ⟨by decide, by decide⟩⟩ rfl rfl (Nat.le_of_ble_eq_true rfl) dX11_readsClause_113) hW (fun x110 s111 H locs rx110 hp112 hW => ?_)
        obtain ⟨fs111, hp112⟩ := hp112
        have hF113 := hF109.call fs111 (fun k h => by omega)
        have ghp112 := hp112.2
        have H113 := ghp112
        rw [B111.1, C111.1, C111.2] at H113
        have B113 : s111 279 = xud (s0 279) (s0 268 16) (zch f9 n9 (s0 268 9)) ∧ s111 280 = xud (s0 280) (s0 268 16) (s0 268 14) ∧ s111 281 = xud (s0 281) (s0 268 16) (s_99 268 14) ∧ s111 282 = s0 282 := ⟨(fs111 279 (by first | decide | omega)).trans B111.2.1, (fs111 280 (by first | decide | omega)).trans B111.2.2.1, (fs111 281 (by first | decide | omega)).trans B111.2.2.2.1, (fs111 282 (by first | decide | omega)).trans B111.2.2.2.2⟩
        obtain ⟨p4, ep4⟩ : ∃ p : Int, p = s111 268 9 := ⟨_, rfl⟩
        obtain ⟨c4, ec4⟩ : ∃ p : Int, p = s111 268 14 := ⟨_, rfl⟩
        obtain ⟨K4, eK4⟩ : ∃ K, K = s111 277 := ⟨_, rfl⟩
        rw [← ep4, ← ec4, ← eK4] at H113
        refine x_if_ne (tgt := 121) hx hb rx110 dX11_readsClause_116 (by decide) (fun c114 => ?_) (fun c114 => ?_)
        · skip
          refine x_aload_n hx hb hl 0 rfl dX11_readsClause_121 rfl ?_
          refine x_get (j := 23) (v := .ref (h0 + 282)) hx hb hown hT hE hW cls_X11 (Or.inl (by decide)) (so_268 h0 g _) (by decide) rfl wq1208 dX11_readsClause_122 ?_
          refine x_aload_n hx hb hl 0 rfl dX11_readsClause_125 rfl ?_
          refine x_get (j := 16) (v := .int (xJ (s111 268 16))) hx hb hown hT hE hW cls_X11 (Or.inl (by decide)) (so_268 h0 g _) (by decide) rfl wq1201 dX11_readsClause_126 ?_
          refine x_rd hW (fun x115 ex115 rx115 => ?_)
          have fx115 : x115 = s0 268 16 := ex115.trans (hp112.1.2.2.2.2.2.2.2.2.1.trans q107)
          refine x_aload_n hx hb hl 0 rfl dX11_readsClause_129 rfl ?_
          refine x_get (j := 14) (v := .int (xJ (s111 268 14))) hx hb hown hT hE hW cls_X11 (Or.inl (by decide)) (so_268 h0 g _) (by decide) rfl wq1199 dX11_readsClause_130 ?_
          refine x_rd hW (fun x116 ex116 rx116 => ?_)
          have q117 : s111 268 14 = x116 := ex116.symm
          refine x_iast hx hb hE hW (by decide) (fun σ => sa_282 h0 g σ) (by omega) (by decide) rx116 dX11_readsClause_133 (fun H locs s118 es118 hW => ?_)
          have q119 : IMn s118 := by rw [es118]; exact IMn_o (by unfold suIMn; first | decide | omega) hp112.1.1
          have q120 : IMk s118 := by rw [es118]; exact IMk_o (by unfold suIMk; first | decide | omega) hp112.1.2.1
          have q121 : IMo s118 := by rw [es118]; exact IMo_o (by unfold suIMo; first | decide | omega) hp112.1.2.2.1
          have q122 : IR s118 := by rw [es118]; exact IR_o (by unfold suIR; first | decide | omega) hp112.1.2.2.2.1
          have q123 : s118 268 8 = s0 268 8 := (show s118 268 8 = s111 268 8 from by rw [es118, xU_k _ _ _ (by first | decide | omega)]).trans (hp112.1.2.2.2.2.1.trans q102)
          have q124 : s118 268 58 = s0 268 58 := (show s118 268 58 = s111 268 58 from by rw [es118, xU_k _ _ _ (by first | decide | omega)]).trans (hp112.1.2.2.2.2.2.1.trans q103)
          have q125 : s118 268 17 = s0 268 17 := (show s118 268 17 = s111 268 17 from by rw [es118, xU_k _ _ _ (by first | decide | omega)]).trans (hp112.1.2.2.2.2.2.2.1.trans q104)
          have q126 : s118 268 10 = s0 268 10 := (show s118 268 10 = s111 268 10 from by rw [es118, xU_k _ _ _ (by first | decide | omega)]).trans (hp112.1.2.2.2.2.2.2.2.1.trans q105)
          have q127 : s118 268 16 = s0 268 16 := (show s118 268 16 = s111 268 16 from by rw [es118, xU_k _ _ _ (by first | decide | omega)]).trans (hp112.1.2.2.2.2.2.2.2.2.1.trans q107)
          have q128 : s118 268 48 = s0 268 48 := (show s118 268 48 = s111 268 48 from by rw [es118, xU_k _ _ _ (by first | decide | omega)]).trans (hp112.1.2.2.2.2.2.2.2.2.2.1.trans q106)
          have q129 : s118 268 14 = x116 := (show s118 268 14 = s111 268 14 from by rw [es118, xU_k _ _ _ (by first | decide | omega)]).trans q117
          have hF130 := hF113.put es118 (by omega)
          have I133 : x115 = s0 268 16 ∧ x116 = c4 := by omega
          have B133 : s118 277 = K4 ∧ s118 279 = xud (s0 279) (s0 268 16) (zch f9 n9 (s0 268 9)) ∧ s118 280 = xud (s0 280) (s0 268 16) (s0 268 14) ∧ s118 281 = xud (s0 281) (s0 268 16) (s_99 268 14) ∧ s118 282 = xud (s0 282) (s0 268 16) c4 := ⟨by rw [es118, xU_k _ _ _ (by first | decide | omega), eK4], by rw [es118, xU_k _ _ _ (by first | decide | omega)]; exact B113.1, by rw [es118, xU_k _ _ _ (by first | decide | omega)]; exact B113.2.1, by rw [es118, xU_k _ _ _ (by first | decide | omega)]; exact B113.2.2.1, by rw [es118, xU_xud, I133.1, I133.2, B113.2.2.2]⟩
          have C133 : s118 268 9 = p4 ∧ s118 268 14 = c4 := by rw [es118, xU_k _ _ _ (by first | decide | omega)]; exact ⟨ep4.symm, ec4.symm⟩
          refine x_aload_n hx hb hl 0 rfl dX11_readsClause_134 rfl ?_
          refine x_aload_n hx hb hl 0 rfl dX11_readsClause_135 rfl ?_
          refine x_get (j := 16) (v := .int (xJ (s118 268 16))) hx hb hown hT hE hW cls_X11 (Or.inl (by decide)) (so_268 h0 g _) (by decide) rfl wq1201 dX11_readsClause_136 ?_
          refine x_rd hW (fun x131 ex131 rx131 => ?_)
          have fx131 : x131 = s0 268 16 := ex131.trans q127
          refine x_iconst hx hb dX11_readsClause_139 ?_
          refine x_iadd hx hb dX11_readsClause_140 ?_
          refine x_put (j := 16) hx hb hown hT hE hW cls_X11 (by decide) (fun σ => so_268 h0 g σ) (by decide) (st_X11_16 h0 s118 268 (x131 + 1)) (ln_X11_16 h0 _ _) wq1201 rfl rfl rfl (by omega) dX11_readsClause_141 (fun H locs s132 es132 hW => ?_)
          have q133 : IMn s132 := by rw [es132]; exact IMn_268 q119 (by omega)
          have q134 : IMk s132 := by rw [es132]; exact IMk_268 q120 (by omega)
          have q135 : IMo s132 := by rw [es132]; exact IMo_o (by unfold suIMo; first | decide | omega) q121
          have q136 : IR s132 := by rw [es132]; exact IR_268 q122 (by omega)
          have q137 : s132 268 8 = s0 268 8 := (show s132 268 8 = s118 268 8 from by rw [es132, xU_j _ _ (by decide)]).trans q123
          have q138 : s132 268 58 = s0 268 58 := (show s132 268 58 = s118 268 58 from by rw [es132, xU_j _ _ (by decide)]).trans q124
          have q139 : s132 268 17 = s0 268 17 := (show s132 268 17 = s118 268 17 from by rw [es132, xU_j _ _ (by decide)]).trans q125
          have q140 : s132 268 10 = s0 268 10 := (show s132 268 10 = s118 268 10 from by rw [es132, xU_j _ _ (by decide)]).trans q126
          have q141 : s132 268 16 = (x131 + 1) := by rw [es132, xU_s]
          have q142 : s132 268 48 = s0 268 48 := (show s132 268 48 = s118 268 48 from by rw [es132, xU_j _ _ (by decide)]).trans q128
          have q143 : s132 268 14 = x116 := (show s132 268 14 = s118 268 14 from by rw [es132, xU_j _ _ (by decide)]).trans q129
          have hF144 := hF130.put es132 (by omega)
          have C141 : s132 268 9 = p4 ∧ s132 268 14 = c4 := by rw [es132, xU_j _ _ (by decide), xU_j _ _ (by decide)]; exact C133
          have B141 : s132 277 = K4 ∧ s132 279 = xud (s0 279) (s0 268 16) (zch f9 n9 (s0 268 9)) ∧ s132 280 = xud (s0 280) (s0 268 16) (s0 268 14) ∧ s132 281 = xud (s0 281) (s0 268 16) (s_99 268 14) ∧ s132 282 = xud (s0 282) (s0 268 16) c4 := by rw [es132, xU_k _ _ _ (by first | decide | omega), xU_k _ _ _ (by first | decide | omega), xU_k _ _ _ (by first | decide | omega), xU_k _ _ _ (by first | decide | omega), xU_k _ _ _ (by first | decide | omega)]; exact B133
          refine x_iconst hx hb dX11_readsClause_144 ?_
          rw [eQ]
          exact x_zret hx hb hr hlk hW (by omega) ⟨hF144, ⟨q133, q134, q135, q136, q137, q138, q139, q140, q142, trivial⟩, by
              have e := (H113.resolve_left (fun q => by omega)).2
              have w := zc2_wf (by omega) e.1
              rw [B141.1, B141.2.1, B141.2.2.1, B141.2.2.2.1, B141.2.2.2.2, show s132 268 9 = p4 from by omega, show s132 268 14 = c4 from by omega]
              exact Or.inr ⟨by omega, by exact hz.clause (by omega) (by omega) v99_0.1 e.1 (by omega) (by omega) rfl rfl rfl rfl, by omega⟩⟩ dX11_readsClause_145
        refine x_iconst hx hb dX11_readsClause_119 ?_
        rw [eQ]
        exact x_zret hx hb hr hlk hW (by omega) ⟨hF113, ⟨hp112.1.1, hp112.1.2.1, hp112.1.2.2.1, hp112.1.2.2.2.1, (hp112.1.2.2.2.2.1.trans q102), (hp112.1.2.2.2.2.2.1.trans q103), (hp112.1.2.2.2.2.2.2.1.trans q104), (hp112.1.2.2.2.2.2.2.2.1.trans q105), (hp112.1.2.2.2.2.2.2.2.2.2.1.trans q106), trivial⟩, by
            have e := H113.resolve_right (fun q => by omega)
            have z := hz.e2 (by omega) (by omega) v99_0.1 e.2.1
            rw [z]
            exact Or.inl ⟨by omega, e.2.1, e.2.2⟩⟩ dX11_readsClause_120
      refine x_icmp_eq (tgt := 99) hx hb rx1 (by decide) dX11_readsClause_87 (by decide) (fun c145 => ?_) (fun c145 => ?_)
      · skip
        exact J99 s78 H locs ls hF93 q79 q80 q81 q82 q83 q84 q85 q86 q87 q92 (by first | exact ⟨by unfold zc1; rw [if_pos (by omega), A81.1, show s78 268 9 = s0 268 9 + 1 from by omega, show s78 268 14 = s0 268 14 from by omega], by omega⟩ | exact ⟨z91.trans (H91.resolve_left (fun q => by omega)).2.1, by have e := H91.resolve_left (fun q => by omega); omega⟩) (by first | exact A81.2 | exact ⟨(F91 279 (by omega)).trans A81.2.1, (F91 280 (by omega)).trans A81.2.2.1, (F91 281 (by omega)).trans A81.2.2.2.1, (F91 282 (by omega)).trans A81.2.2.2.2⟩) hW (lv_sub hl [1] rfl)
      refine x_aload_n hx hb hl 1 rfl dX11_readsClause_90 rfl ?_
      refine x_goi (x_runV (As := []) hx hb hml hown hT hE hW hl.1 (Or.inl (by decide)) (so_268 h0 g _) rfl cf_X11_readsSum wq1472 wq116 wq1470 (c_X11_readsSumK l D g T h0 s78 hW.2.1 f9 n9 0 1 (by first | exact hf | exact ⟨by rw [hF93 276 (by first | decide | omega)]; exact hf.1, by omega⟩) (by omega) (by omega) (Or.inl (by omega)) q79 q80 q81 q82) ⟨rfl, rfl, ⟨by decide, by decide⟩, ⟨by decide, by decide⟩⟩ rfl rfl (Nat.le_of_ble_eq_true rfl) dX11_readsClause_91) hW (fun x146 s147 H locs rx146 hp148 hW => ?_)
      obtain ⟨fs147, hp148⟩ := hp148
      have hF149 := hF93.call fs147 (fun k h => by omega)
      have ghp148 := hp148.2
      have H91 := ghp148
      have F91 := fs147
      have z91 := z81 (by omega)
      refine x_if_ne (tgt := 99) hx hb rx146 dX11_readsClause_94 (by decide) (fun c150 => ?_) (fun c150 => ?_)
      · skip
        exact J99 s147 H locs ls hF149 hp148.1.1 hp148.1.2.1 hp148.1.2.2.1 hp148.1.2.2.2.1 (hp148.1.2.2.2.2.1.trans q83) (hp148.1.2.2.2.2.2.1.trans q84) (hp148.1.2.2.2.2.2.2.1.trans q85) (hp148.1.2.2.2.2.2.2.2.1.trans q86) (hp148.1.2.2.2.2.2.2.2.2.2.1.trans q87) (hp148.1.2.2.2.2.2.2.2.2.1.trans q92) (by first | exact ⟨by unfold zc1; rw [if_pos (by omega), A81.1, show s147 268 9 = s0 268 9 + 1 from by omega, show s147 268 14 = s0 268 14 from by omega], by omega⟩ | exact ⟨z91.trans (H91.resolve_left (fun q => by omega)).2.1, by have e := H91.resolve_left (fun q => by omega); omega⟩) (by first | exact A81.2 | exact ⟨(F91 279 (by omega)).trans A81.2.1, (F91 280 (by omega)).trans A81.2.2.1, (F91 281 (by omega)).trans A81.2.2.2.1, (F91 282 (by omega)).trans A81.2.2.2.2⟩) hW (lv_sub hl [1] rfl)
      refine x_iconst hx hb dX11_readsClause_97 ?_
      rw [eQ]
      exact x_zret hx hb hr hlk hW (by omega) ⟨hF149, ⟨hp148.1.1, hp148.1.2.1, hp148.1.2.2.1, hp148.1.2.2.2.1, (hp148.1.2.2.2.2.1.trans q83), (hp148.1.2.2.2.2.2.1.trans q84), (hp148.1.2.2.2.2.2.2.1.trans q85), (hp148.1.2.2.2.2.2.2.2.1.trans q86), (hp148.1.2.2.2.2.2.2.2.2.2.1.trans q87), trivial⟩, by
          have e := H91.resolve_right (fun q => by omega)
          rw [← z91] at e
          have z := hz.e1 (by omega) (by omega) e.2.1
          rw [z]
          exact Or.inl ⟨by omega, e.2.1, e.2.2⟩⟩ dX11_readsClause_98
    refine x_aload_n hx hb hl 1 rfl dX11_readsClause_31 rfl ?_
    refine x_iconst hx hb dX11_readsClause_32 ?_
    refine x_aload_n hx hb hl 1 rfl dX11_readsClause_33 rfl ?_
    refine x_get (j := 9) (v := .int (xJ (s0 268 9))) hx hb hown hT hE hW cls_X11 (Or.inl (by decide)) (so_268 h0 g _) (by decide) rfl wq1194 dX11_readsClause_34 ?_
    refine x_rd hW (fun x151 ex151 rx151 => ?_)
    have bx151 : 0 ≤ x151 ∧ x151 ≤ s0 268 10 ∧ s0 268 10 ≤ 240 := by rw [ex151]; exact p3
    have fx151 : x151 = s0 268 9 := ex151.trans k268_9
    refine x_goi (x_runV (As := [.int (xJ 4), .int (xJ x151)]) hx hb hml hown hT hE hW hl.1 (Or.inl (by decide)) (so_268 h0 g _) rfl cf_X11_wrongAt wq1401 wq107 wq1399 (c_X11_wrongAtK l D g T h0 s0 hW.2.1 4 (by decide) x151 rx151 (by omega) p0 p1 p2 p3) ⟨rfl, rfl, ⟨by decide, by decide⟩, ⟨by decide, by decide⟩⟩ rfl rfl (Nat.le_of_ble_eq_true rfl) dX11_readsClause_37) hW (fun x152 s153 H locs rx152 hp154 hW => ?_)
    obtain ⟨fs153, hp154⟩ := hp154
    have hF155 := hF.call fs153 (fun k h => by omega)
    have ghp154 := hp154.2
    rw [eQ]
    exact x_zret hx hb hr hlk hW (by omega) ⟨hF155, ⟨hp154.1.1, hp154.1.2.1, hp154.1.2.2.1, hp154.1.2.2.2.1, (hp154.1.2.2.2.2.1.trans k268_8), (hp154.1.2.2.2.2.2.1.trans k268_58), (hp154.1.2.2.2.2.2.2.1.trans k268_17), (hp154.1.2.2.2.2.2.2.2.2.1.trans k268_10), (hp154.1.2.2.2.2.2.2.2.2.2.2.2.2.2.1.trans k268_48), trivial⟩, by
        have z := hz.four (by omega) (by omega)
        exact Or.inl ⟨by omega, by omega, by omega⟩⟩ dX11_readsClause_40
  refine x_aload_n hx hb hl 1 rfl dX11_readsClause_12 rfl ?_
  refine x_iconst hx hb dX11_readsClause_13 ?_
  refine x_aload_n hx hb hl 1 rfl dX11_readsClause_14 rfl ?_
  refine x_get (j := 9) (v := .int (xJ (s0 268 9))) hx hb hown hT hE hW cls_X11 (Or.inl (by decide)) (so_268 h0 g _) (by decide) rfl wq1194 dX11_readsClause_15 ?_
  refine x_rd hW (fun x156 ex156 rx156 => ?_)
  have bx156 : 0 ≤ x156 ∧ x156 ≤ s0 268 10 ∧ s0 268 10 ≤ 240 := by rw [ex156]; exact p3
  have fx156 : x156 = s0 268 9 := ex156.trans k268_9
  refine x_goi (x_runV (As := [.int (xJ 1), .int (xJ x156)]) hx hb hml hown hT hE hW hl.1 (Or.inl (by decide)) (so_268 h0 g _) rfl cf_X11_wrongAt wq1401 wq107 wq1399 (c_X11_wrongAtK l D g T h0 s0 hW.2.1 1 (by decide) x156 rx156 (by omega) p0 p1 p2 p3) ⟨rfl, rfl, ⟨by decide, by decide⟩, ⟨by decide, by decide⟩⟩ rfl rfl (Nat.le_of_ble_eq_true rfl) dX11_readsClause_18) hW (fun x157 s158 H locs rx157 hp159 hW => ?_)
  obtain ⟨fs158, hp159⟩ := hp159
  have hF160 := hF.call fs158 (fun k h => by omega)
  have ghp159 := hp159.2
  rw [eQ]
  exact x_zret hx hb hr hlk hW (by omega) ⟨hF160, ⟨hp159.1.1, hp159.1.2.1, hp159.1.2.2.1, hp159.1.2.2.2.1, (hp159.1.2.2.2.2.1.trans k268_8), (hp159.1.2.2.2.2.2.1.trans k268_58), (hp159.1.2.2.2.2.2.2.1.trans k268_17), (hp159.1.2.2.2.2.2.2.2.2.1.trans k268_10), (hp159.1.2.2.2.2.2.2.2.2.2.2.2.2.2.1.trans k268_48), trivial⟩, by
    have z := hz.one (by omega)
    exact Or.inl ⟨by omega, by omega, by omega⟩⟩ dX11_readsClause_21

