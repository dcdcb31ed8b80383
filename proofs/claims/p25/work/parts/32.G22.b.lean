set_option maxHeartbeats 4000000 in
set_option maxRecDepth 100000 in
theorem c_X11_readsClause (l : Launch) (D : va_G) (g : xG) (T : Nat × Nat × Nat) (h0 : Nat) (s0 : xS) (hσ : xRR s0) (hz : zLW s0) (p0 : IMn s0) (p1 : IMk s0) (p2 : IMo s0) (p3 : IR s0) : Met l yX11_readsClause (xws yX11_readsClause cX11_readsClause 2 (some .boolean)) { frames := 7, cells := 0, slots := 0, locals := 145 } (xP [.ref (h0 + 268)] D g T h0 s0) (xQi D g h0 (fun r τ => xFr (fun k => k = 268 ∨ k = 277 ∨ k = 278 ∨ k = 279 ∨ k = 280 ∨ k = 281 ∨ k = 282) s0 τ ∧ (((IMn τ) ∧ (IMk τ) ∧ (IMo τ) ∧ (IR τ) ∧ (τ 268 8 = s0 268 8) ∧ (τ 268 58 = s0 268 58) ∧ (τ 268 10 = s0 268 10) ∧ True) ∧ ((r = 0 ∧ s0 268 9 ≤ τ 268 9) ∨ (r = 1 ∧ s0 268 9 ≤ τ 268 9 ∧ zLW τ))))) 0 0 (xA h0) := by
  refine x_met hσ (by decide) (Nat.le_of_ble_eq_true rfl) ?_
  intro p e s m args below meth c hx hb hr hml hown hT hlk hnm hE hW ls hl
  have hl : lv_has ls 2 [(0, .ref (h0 + 268))] := hl
  obtain ⟨Q, eQ⟩ : ∃ Q, Q = MQ below (xQi D g h0 (fun r τ => xFr (fun k => k = 268 ∨ k = 277 ∨ k = 278 ∨ k = 279 ∨ k = 280 ∨ k = 281 ∨ k = 282) s0 τ ∧ (((IMn τ) ∧ (IMk τ) ∧ (IMo τ) ∧ (IR τ) ∧ (τ 268 8 = s0 268 8) ∧ (τ 268 58 = s0 268 58) ∧ (τ 268 10 = s0 268 10) ∧ True) ∧ ((r = 0 ∧ s0 268 9 ≤ τ 268 9) ∨ (r = 1 ∧ s0 268 9 ≤ τ 268 9 ∧ zLW τ))))) args s 0 0 (xA h0) := ⟨_, rfl⟩
  rw [← eQ]
  generalize hHe : ([] : List Loc) = locs at hW ⊢
  obtain ⟨H, eH⟩ : ∃ H, H = s.heap := ⟨_, rfl⟩
  rw [← eH] at hW ⊢
  have hF : xFr (fun k => k = 268 ∨ k = 277 ∨ k = 278 ∨ k = 279 ∨ k = 280 ∨ k = 281 ∨ k = 282) s0 s0 := xFr.rf
  have k268_8 : s0 268 8 = s0 268 8 := rfl
  have k268_58 : s0 268 58 = s0 268 58 := rfl
  have k268_10 : s0 268 10 = s0 268 10 := rfl
  have k268_9 : s0 268 9 = s0 268 9 := rfl
  have k268_14 : s0 268 14 = s0 268 14 := rfl
  have k268_16 : s0 268 16 = s0 268 16 := rfl
  have lw := hz.1
  have lm := hz.2.1
  refine x_aload_n hx hb hl 0 rfl dX11_readsClause_0 rfl ?_
  refine x_goi (x_runV (As := []) hx hb hml hown hT hE hW hl.1 (Or.inl (by decide)) (so_268 h0 g _) rfl cf_X11_here wq1391 wq106 wq1389 (c_X11_here l D g T h0 s0 hW.2.1 p0 p1 p2 p3) ⟨rfl, rfl, ⟨by decide, by decide⟩, ⟨by decide, by decide⟩⟩ rfl rfl (Nat.le_of_ble_eq_true rfl) dX11_readsClause_1) hW (fun x1 s2 H locs rx1 hp3 hW => ?_)
  obtain ⟨es2, hp3⟩ := hp3
  subst es2
  have ghp3 := hp3
  refine lv_istore_n (lv' := [(1, .int (xJ x1)), (0, .ref (h0 + 268))]) hx hb dX11_readsClause_4 rfl hl (by decide) rfl (fun ls hl => ?_)
  refine x_iload_n hx hb hl 0 rfl dX11_readsClause_5 rfl ?_
  refine x_goi (x_runS (As := [.int (xJ x1)]) hx hb hml hown hT hE hW hl.1 cf_X11_isClause wq1468 wq1467 (c_X11_isClause l D g T h0 s0 hW.2.1 x1 rx1) ⟨rfl, rfl, ⟨by decide, by decide⟩, ⟨by decide, by decide⟩⟩ rfl rfl (Nat.le_of_ble_eq_true rfl) dX11_readsClause_6) hW (fun x4 s5 H locs rx4 hp6 hW => ?_)
  obtain ⟨es5, hp6⟩ := hp6
  subst es5
  have ghp6 := hp6
  refine x_if_ne (tgt := 22) hx hb rx4 dX11_readsClause_9 (by decide) (fun c7 => ?_) (fun c7 => ?_)
  · skip
    refine x_aload_n hx hb hl 1 rfl dX11_readsClause_22 rfl ?_
    refine x_get (j := 16) (v := .int (xJ (s0 268 16))) hx hb hown hT hE hW cls_X11 (Or.inl (by decide)) (so_268 h0 g _) (by decide) rfl wq1201 dX11_readsClause_23 ?_
    refine x_rd hW (fun x8 ex8 rx8 => ?_)
    have fx8 : x8 = s0 268 16 := ex8.trans k268_16
    refine x_bipush hx hb dX11_readsClause_26 (by decide) ?_
    refine x_icmp_ne (tgt := 41) hx hb rx8 (by decide) dX11_readsClause_28 (by decide) (fun c9 => ?_) (fun c9 => ?_)
    · skip
      refine x_aload_n hx hb hl 1 rfl dX11_readsClause_41 rfl ?_
      refine x_get (j := 20) (v := .ref (h0 + 279)) hx hb hown hT hE hW cls_X11 (Or.inl (by decide)) (so_268 h0 g _) (by decide) rfl wq1205 dX11_readsClause_42 ?_
      refine x_aload_n hx hb hl 1 rfl dX11_readsClause_45 rfl ?_
      refine x_get (j := 16) (v := .int (xJ (s0 268 16))) hx hb hown hT hE hW cls_X11 (Or.inl (by decide)) (so_268 h0 g _) (by decide) rfl wq1201 dX11_readsClause_46 ?_
      refine x_rd hW (fun x10 ex10 rx10 => ?_)
      have fx10 : x10 = s0 268 16 := ex10.trans k268_16
      refine x_iload_n hx hb hl 0 rfl dX11_readsClause_49 rfl ?_
      refine x_iast hx hb hE hW (by decide) (fun σ => sa_279 h0 g σ) (by omega) (by decide) rx1 dX11_readsClause_50 (fun H locs s11 es11 hW => ?_)
      have q12 : IMn s11 := by rw [es11]; exact IMn_o (by unfold suIMn; omega) p0
      have q13 : IMk s11 := by rw [es11]; exact IMk_o (by unfold suIMk; omega) p1
      have q14 : IMo s11 := by rw [es11]; exact IMo_o (by unfold suIMo; omega) p2
      have q15 : IR s11 := by rw [es11]; exact IR_o (by unfold suIR; omega) p3
      have q16 : s11 268 8 = s0 268 8 := (show s11 268 8 = s0 268 8 from by rw [es11, xU_k _ _ _ (by omega)]).trans k268_8
      have q17 : s11 268 58 = s0 268 58 := (show s11 268 58 = s0 268 58 from by rw [es11, xU_k _ _ _ (by omega)]).trans k268_58
      have q18 : s11 268 10 = s0 268 10 := (show s11 268 10 = s0 268 10 from by rw [es11, xU_k _ _ _ (by omega)]).trans k268_10
      have q19 : s11 268 9 = s0 268 9 := (show s11 268 9 = s0 268 9 from by rw [es11, xU_k _ _ _ (by omega)]).trans k268_9
      have q20 : s11 268 14 = s0 268 14 := (show s11 268 14 = s0 268 14 from by rw [es11, xU_k _ _ _ (by omega)]).trans k268_14
      have q21 : s11 268 16 = s0 268 16 := (show s11 268 16 = s0 268 16 from by rw [es11, xU_k _ _ _ (by omega)]).trans k268_16
      have hF22 := hF.put es11 (by omega)
      have A50 : s11 277 = s0 277 ∧ s11 280 = s0 280 ∧ s11 281 = s0 281 ∧ s11 282 = s0 282 := by rw [es11, xU_k _ _ _ (by omega), xU_k _ _ _ (by omega), xU_k _ _ _ (by omega), xU_k _ _ _ (by omega)]; exact ⟨rfl, rfl, rfl, rfl⟩
      refine x_aload_n hx hb hl 1 rfl dX11_readsClause_51 rfl ?_
      refine x_aload_n hx hb hl 1 rfl dX11_readsClause_52 rfl ?_
      refine x_get (j := 9) (v := .int (xJ (s11 268 9))) hx hb hown hT hE hW cls_X11 (Or.inl (by decide)) (so_268 h0 g _) (by decide) rfl wq1194 dX11_readsClause_53 ?_
      refine x_rd hW (fun x23 ex23 rx23 => ?_)
      have bx23 : 0 ≤ x23 ∧ x23 ≤ s11 268 10 ∧ s11 268 10 ≤ 240 := by rw [ex23]; exact q15
      have fx23 : x23 = s0 268 9 := ex23.trans q19
      refine x_iconst hx hb dX11_readsClause_56 ?_
      refine x_iadd hx hb dX11_readsClause_57 ?_
      refine x_put (j := 9) hx hb hown hT hE hW cls_X11 (by decide) (fun σ => so_268 h0 g σ) (by decide) (st_X11_9 h0 s11 268 (x23 + 1)) (ln_X11_9 h0 _ _) wq1194 rfl rfl rfl (by omega) dX11_readsClause_58 (fun H locs s24 es24 hW => ?_)
      have q25 : IMn s24 := by rw [es24]; exact IMn_268 q12 (by omega)
      have q26 : IMk s24 := by rw [es24]; exact IMk_268 q13 (by omega)
      have q27 : IMo s24 := by rw [es24]; exact IMo_o (by unfold suIMo; omega) q14
      have q28 : IR s24 := by rw [es24]; exact IR_268 q15 (by omega)
      have q29 : s24 268 8 = s0 268 8 := (show s24 268 8 = s11 268 8 from by rw [es24, xU_j _ _ (by decide)]).trans q16
      have q30 : s24 268 58 = s0 268 58 := (show s24 268 58 = s11 268 58 from by rw [es24, xU_j _ _ (by decide)]).trans q17
      have q31 : s24 268 10 = s0 268 10 := (show s24 268 10 = s11 268 10 from by rw [es24, xU_j _ _ (by decide)]).trans q18
      have q32 : s24 268 9 = (x23 + 1) := by rw [es24, xU_s]
      have q33 : s24 268 14 = s0 268 14 := (show s24 268 14 = s11 268 14 from by rw [es24, xU_j _ _ (by decide)]).trans q20
      have q34 : s24 268 16 = s0 268 16 := (show s24 268 16 = s11 268 16 from by rw [es24, xU_j _ _ (by decide)]).trans q21
      have hF35 := hF22.put es24 (by omega)
      have A58 : s24 277 = s0 277 ∧ s24 280 = s0 280 ∧ s24 281 = s0 281 ∧ s24 282 = s0 282 := by rw [es24, xU_k _ _ _ (by omega), xU_k _ _ _ (by omega), xU_k _ _ _ (by omega), xU_k _ _ _ (by omega)]; exact A50
      refine x_aload_n hx hb hl 1 rfl dX11_readsClause_61 rfl ?_
      refine x_get (j := 21) (v := .ref (h0 + 280)) hx hb hown hT hE hW cls_X11 (Or.inl (by decide)) (so_268 h0 g _) (by decide) rfl wq1206 dX11_readsClause_62 ?_
      refine x_aload_n hx hb hl 1 rfl dX11_readsClause_65 rfl ?_
      refine x_get (j := 16) (v := .int (xJ (s24 268 16))) hx hb hown hT hE hW cls_X11 (Or.inl (by decide)) (so_268 h0 g _) (by decide) rfl wq1201 dX11_readsClause_66 ?_
      refine x_rd hW (fun x36 ex36 rx36 => ?_)
      have fx36 : x36 = s0 268 16 := ex36.trans q34
      refine x_aload_n hx hb hl 1 rfl dX11_readsClause_69 rfl ?_
      refine x_get (j := 14) (v := .int (xJ (s24 268 14))) hx hb hown hT hE hW cls_X11 (Or.inl (by decide)) (so_268 h0 g _) (by decide) rfl wq1199 dX11_readsClause_70 ?_
      refine x_rd hW (fun x37 ex37 rx37 => ?_)
      have fx37 : x37 = s0 268 14 := ex37.trans q33
      refine x_iast hx hb hE hW (by decide) (fun σ => sa_280 h0 g σ) (by omega) (by decide) rx37 dX11_readsClause_73 (fun H locs s38 es38 hW => ?_)
      have q39 : IMn s38 := by rw [es38]; exact IMn_o (by unfold suIMn; omega) q25
      have q40 : IMk s38 := by rw [es38]; exact IMk_o (by unfold suIMk; omega) q26
      have q41 : IMo s38 := by rw [es38]; exact IMo_o (by unfold suIMo; omega) q27
      have q42 : IR s38 := by rw [es38]; exact IR_o (by unfold suIR; omega) q28
      have q43 : s38 268 8 = s0 268 8 := (show s38 268 8 = s24 268 8 from by rw [es38, xU_k _ _ _ (by omega)]).trans q29
      have q44 : s38 268 58 = s0 268 58 := (show s38 268 58 = s24 268 58 from by rw [es38, xU_k _ _ _ (by omega)]).trans q30
      have q45 : s38 268 10 = s0 268 10 := (show s38 268 10 = s24 268 10 from by rw [es38, xU_k _ _ _ (by omega)]).trans q31
      have q46 : s38 268 9 = (x23 + 1) := (show s38 268 9 = s24 268 9 from by rw [es38, xU_k _ _ _ (by omega)]).trans q32
      have q47 : s38 268 14 = s0 268 14 := (show s38 268 14 = s24 268 14 from by rw [es38, xU_k _ _ _ (by omega)]).trans q33
      have q48 : s38 268 16 = s0 268 16 := (show s38 268 16 = s24 268 16 from by rw [es38, xU_k _ _ _ (by omega)]).trans q34
      have hF49 := hF35.put es38 (by omega)
      have A73 : s38 277 = s0 277 ∧ s38 280 = xud (s0 280) (s0 268 16) (s0 268 14) ∧ s38 281 = s0 281 ∧ s38 282 = s0 282 := ⟨by rw [es38, xU_k _ _ _ (by omega)]; exact A58.1, by rw [es38, xU_xud, A58.2.1, show x36 = s0 268 16 from by omega, show x37 = s0 268 14 from by omega], by rw [es38, xU_k _ _ _ (by omega)]; exact A58.2.2.1, by rw [es38, xU_k _ _ _ (by omega)]; exact A58.2.2.2⟩
      refine x_aload_n hx hb hl 1 rfl dX11_readsClause_74 rfl ?_
      refine x_iconst hx hb dX11_readsClause_75 ?_
      refine x_put (j := 13) hx hb hown hT hE hW cls_X11 (by decide) (fun σ => so_268 h0 g σ) (by decide) (st_X11_13 h0 s38 268 0) (ln_X11_13 h0 _ _) wq1198 rfl rfl rfl (by decide) dX11_readsClause_76 (fun H locs s50 es50 hW => ?_)
      have q51 : IMn s50 := by rw [es50]; exact IMn_268 q39 (by omega)
      have q52 : IMk s50 := by rw [es50]; exact IMk_268 q40 (by omega)
      have q53 : IMo s50 := by rw [es50]; exact IMo_o (by unfold suIMo; omega) q41
      have q54 : IR s50 := by rw [es50]; exact IR_268 q42 (by omega)
      have q55 : s50 268 8 = s0 268 8 := (show s50 268 8 = s38 268 8 from by rw [es50, xU_j _ _ (by decide)]).trans q43
      have q56 : s50 268 58 = s0 268 58 := (show s50 268 58 = s38 268 58 from by rw [es50, xU_j _ _ (by decide)]).trans q44
      have q57 : s50 268 10 = s0 268 10 := (show s50 268 10 = s38 268 10 from by rw [es50, xU_j _ _ (by decide)]).trans q45
      have q58 : s50 268 9 = (x23 + 1) := (show s50 268 9 = s38 268 9 from by rw [es50, xU_j _ _ (by decide)]).trans q46
      have q59 : s50 268 14 = s0 268 14 := (show s50 268 14 = s38 268 14 from by rw [es50, xU_j _ _ (by decide)]).trans q47
      have q60 : s50 268 16 = s0 268 16 := (show s50 268 16 = s38 268 16 from by rw [es50, xU_j _ _ (by decide)]).trans q48
      have hF61 := hF49.put es50 (by omega)
      have A76 : s50 277 = s0 277 ∧ s50 280 = xud (s0 280) (s0 268 16) (s0 268 14) ∧ s50 281 = s0 281 ∧ s50 282 = s0 282 := by rw [es50, xU_k _ _ _ (by omega), xU_k _ _ _ (by omega), xU_k _ _ _ (by omega), xU_k _ _ _ (by omega)]; exact A73
      refine x_aload_n hx hb hl 1 rfl dX11_readsClause_79 rfl ?_
      refine x_iconst hx hb dX11_readsClause_80 ?_
      refine x_put (j := 15) hx hb hown hT hE hW cls_X11 (by decide) (fun σ => so_268 h0 g σ) (by decide) (st_X11_15 h0 s50 268 0) (ln_X11_15 h0 _ _) wq1200 rfl rfl rfl (by decide) dX11_readsClause_81 (fun H locs s62 es62 hW => ?_)
      have q63 : IMn s62 := by rw [es62]; exact IMn_268 q51 (by omega)
      have q64 : IMk s62 := by rw [es62]; exact IMk_268 q52 (by omega)
      have q65 : IMo s62 := by rw [es62]; exact IMo_o (by unfold suIMo; omega) q53
      have q66 : IR s62 := by rw [es62]; exact IR_268 q54 (by omega)
      have q67 : s62 268 8 = s0 268 8 := (show s62 268 8 = s50 268 8 from by rw [es62, xU_j _ _ (by decide)]).trans q55
      have q68 : s62 268 58 = s0 268 58 := (show s62 268 58 = s50 268 58 from by rw [es62, xU_j _ _ (by decide)]).trans q56
      have q69 : s62 268 10 = s0 268 10 := (show s62 268 10 = s50 268 10 from by rw [es62, xU_j _ _ (by decide)]).trans q57
      have q70 : s62 268 9 = (x23 + 1) := (show s62 268 9 = s50 268 9 from by rw [es62, xU_j _ _ (by decide)]).trans q58
      have q71 : s62 268 14 = s0 268 14 := (show s62 268 14 = s50 268 14 from by rw [es62, xU_j _ _ (by decide)]).trans q59
      have q72 : s62 268 16 = s0 268 16 := (show s62 268 16 = s50 268 16 from by rw [es62, xU_j _ _ (by decide)]).trans q60
      have q73 : s62 268 15 = 0 := by rw [es62, xU_s]
      have hF74 := hF61.put es62 (by omega)
      have A81 : s62 277 = s0 277 ∧ s62 280 = xud (s0 280) (s0 268 16) (s0 268 14) ∧ s62 281 = s0 281 ∧ s62 282 = s0 282 := by rw [es62, xU_k _ _ _ (by omega), xU_k _ _ _ (by omega), xU_k _ _ _ (by omega), xU_k _ _ _ (by omega)]; exact A76
      have Z81 : zLC (s0 277) (s0 268 14) (s0 268 16) 0 0 s62 := zLC.new q66 (by omega) (by omega) (by omega) (by omega) (fun k _ _ => by rw [A81.1])
      refine x_iload_n hx hb hl 0 rfl dX11_readsClause_84 rfl ?_
      refine x_bipush hx hb dX11_readsClause_85 (by decide) ?_
      have J99 : ∀ (s_99 : xS) (H : Heap) (locs : List Loc) (ls : Array Slot), (xFr (fun k => k = 268 ∨ k = 277 ∨ k = 278 ∨ k = 279 ∨ k = 280 ∨ k = 281 ∨ k = 282) s0 s_99) → (IMn s_99) → (IMk s_99) → (IMo s_99) → (IR s_99) → (s_99 268 8 = s0 268 8) → (s_99 268 58 = s0 268 58) → (s_99 268 10 = s0 268 10) → (s_99 268 16 = s0 268 16) → (segOK (s_99 277) (s0 268 14) (s_99 268 14) ∧ (0 ≤ s_99 268 14 ∧ s0 268 14 ≤ s_99 268 14 ∧ s_99 268 14 ≤ s_99 268 9)) → (∀ k : Int, 0 ≤ k → k < s0 268 14 → s_99 277 k = s0 277 k) → (0 ≤ s0 268 9 ∧ s0 268 9 + 1 ≤ s_99 268 9) → (s_99 280 = xud (s0 280) (s0 268 16) (s0 268 14) ∧ s_99 281 = s0 281 ∧ s_99 282 = s0 282) → xW D g h0 s H locs s_99 → lv_has ls 2 [(0, .ref (h0 + 268))] → W p l e { frames := 7, cells := 0, slots := 0, locals := 145 } s m args below meth c H locs 0 0 Q (F0 m 99 ls []) := by
        intro s_99 H locs ls hF_99 q99_0 q99_1 q99_2 q99_3 q99_4 q99_5 q99_6 q99_9 v99_0 v99_1 v99_2 v99_3 hW hl
        refine x_aload_n hx hb hl 0 rfl dX11_readsClause_99 rfl ?_
        refine x_get (j := 22) (v := .ref (h0 + 281)) hx hb hown hT hE hW cls_X11 (Or.inl (by decide)) (so_268 h0 g _) (by decide) rfl wq1207 dX11_readsClause_100 ?_
        refine x_aload_n hx hb hl 0 rfl dX11_readsClause_103 rfl ?_
        refine x_get (j := 16) (v := .int (xJ (s_99 268 16))) hx hb hown hT hE hW cls_X11 (Or.inl (by decide)) (so_268 h0 g _) (by decide) rfl wq1201 dX11_readsClause_104 ?_
        refine x_rd hW (fun x75 ex75 rx75 => ?_)
        have fx75 : x75 = s0 268 16 := ex75.trans q99_9
        refine x_aload_n hx hb hl 0 rfl dX11_readsClause_107 rfl ?_
        refine x_get (j := 14) (v := .int (xJ (s_99 268 14))) hx hb hown hT hE hW cls_X11 (Or.inl (by decide)) (so_268 h0 g _) (by decide) rfl wq1199 dX11_readsClause_108 ?_
        refine x_rd hW (fun x76 ex76 rx76 => ?_)
        refine x_iast hx hb hE hW (by decide) (fun σ => sa_281 h0 g σ) (by omega) (by decide) rx76 dX11_readsClause_111 (fun H locs s77 es77 hW => ?_)
        have q78 : IMn s77 := by rw [es77]; exact IMn_o (by unfold suIMn; omega) q99_0
        have q79 : IMk s77 := by rw [es77]; exact IMk_o (by unfold suIMk; omega) q99_1
        have q80 : IMo s77 := by rw [es77]; exact IMo_o (by unfold suIMo; omega) q99_2
        have q81 : IR s77 := by rw [es77]; exact IR_o (by unfold suIR; omega) q99_3
        have q82 : s77 268 8 = s0 268 8 := (show s77 268 8 = s_99 268 8 from by rw [es77, xU_k _ _ _ (by omega)]).trans q99_4
        have q83 : s77 268 58 = s0 268 58 := (show s77 268 58 = s_99 268 58 from by rw [es77, xU_k _ _ _ (by omega)]).trans q99_5
        have q84 : s77 268 10 = s0 268 10 := (show s77 268 10 = s_99 268 10 from by rw [es77, xU_k _ _ _ (by omega)]).trans q99_6
        have q85 : s77 268 16 = s0 268 16 := (show s77 268 16 = s_99 268 16 from by rw [es77, xU_k _ _ _ (by omega)]).trans q99_9
        have hF86 := hF_99.put es77 (by omega)
        have A111 : s77 277 = s_99 277 ∧ s77 280 = xud (s0 280) (s0 268 16) (s0 268 14) ∧ s77 281 = xud (s0 281) (s0 268 16) (s_99 268 14) ∧ s77 282 = s0 282 := ⟨by rw [es77, xU_k _ _ _ (by omega)], by rw [es77, xU_k _ _ _ (by omega)]; exact v99_3.1, by rw [es77, xU_xud, v99_3.2.1, show x75 = s0 268 16 from by omega, show x76 = s_99 268 14 from by omega], by rw [es77, xU_k _ _ _ (by omega)]; exact v99_3.2.2⟩
        have N111 : s77 268 14 = s_99 268 14 ∧ s77 268 9 = s_99 268 9 := by rw [es77, xU_k _ _ _ (by omega)]; exact ⟨rfl, rfl⟩
        refine x_aload_n hx hb hl 0 rfl dX11_readsClause_112 rfl ?_
        refine x_goi (x_runV (As := []) hx hb hml hown hT hE hW hl.1 (Or.inl (by decide)) (so_268 h0 g _) rfl cf_X11_readsCondition wq1515 wq125 wq1513 (c_X11_readsCondition l D g T h0 s77 hW.2.1 (by omega) q78 q79 q80 q81) ⟨rfl, rfl, ⟨by decide, by decide⟩, ⟨by decide, by decide⟩⟩ rfl rfl (Nat.le_of_ble_eq_true rfl) dX11_readsClause_113) hW (fun x87 s88 H locs rx87 hp89 hW => ?_)
        obtain ⟨fs88, hp89⟩ := hp89
        have hF90 := hF86.call fs88 (fun k h => by omega)
        have ghp89 := hp89.2
        have G113 := ghp89
        have T113 : s88 280 = xud (s0 280) (s0 268 16) (s0 268 14) ∧ s88 281 = xud (s0 281) (s0 268 16) (s_99 268 14) ∧ s88 282 = s0 282 := ⟨(fs88 280 (by omega)).trans A111.2.1, (fs88 281 (by omega)).trans A111.2.2.1, (fs88 282 (by omega)).trans A111.2.2.2⟩
        have P113 : x87 = 0 ∨ ((∀ k, 0 ≤ k → k < s_99 268 14 → s88 277 k = s_99 277 k) ∧ segOK (s88 277) (s_99 268 14) (s88 268 14) ∧ s_99 268 14 ≤ s88 268 14 ∧ s88 268 14 ≤ s88 268 9 ∧ s0 268 9 ≤ s88 268 9) := by
          rcases G113 with g | ⟨g1, g2, g3, g4⟩
          · exact Or.inl g.1
          · rw [A111.1, N111.1] at g4
            have g5 := g4.seg g3
            have g6 := g4.f
            exact Or.inr ⟨g4.2.old, g5.1, by omega, g5.2, by omega⟩
        refine x_if_ne (tgt := 121) hx hb rx87 dX11_readsClause_116 (by decide) (fun c91 => ?_) (fun c91 => ?_)
        · skip
          refine x_aload_n hx hb hl 0 rfl dX11_readsClause_121 rfl ?_
          refine x_get (j := 23) (v := .ref (h0 + 282)) hx hb hown hT hE hW cls_X11 (Or.inl (by decide)) (so_268 h0 g _) (by decide) rfl wq1208 dX11_readsClause_122 ?_
          refine x_aload_n hx hb hl 0 rfl dX11_readsClause_125 rfl ?_
          refine x_get (j := 16) (v := .int (xJ (s88 268 16))) hx hb hown hT hE hW cls_X11 (Or.inl (by decide)) (so_268 h0 g _) (by decide) rfl wq1201 dX11_readsClause_126 ?_
          refine x_rd hW (fun x92 ex92 rx92 => ?_)
          have fx92 : x92 = s0 268 16 := ex92.trans (hp89.1.2.2.2.2.2.2.2.1.trans q85)
          refine x_aload_n hx hb hl 0 rfl dX11_readsClause_129 rfl ?_
          refine x_get (j := 14) (v := .int (xJ (s88 268 14))) hx hb hown hT hE hW cls_X11 (Or.inl (by decide)) (so_268 h0 g _) (by decide) rfl wq1199 dX11_readsClause_130 ?_
          refine x_rd hW (fun x93 ex93 rx93 => ?_)
          refine x_iast hx hb hE hW (by decide) (fun σ => sa_282 h0 g σ) (by omega) (by decide) rx93 dX11_readsClause_133 (fun H locs s94 es94 hW => ?_)
          have q95 : IMn s94 := by rw [es94]; exact IMn_o (by unfold suIMn; omega) hp89.1.1
          have q96 : IMk s94 := by rw [es94]; exact IMk_o (by unfold suIMk; omega) hp89.1.2.1
          have q97 : IMo s94 := by rw [es94]; exact IMo_o (by unfold suIMo; omega) hp89.1.2.2.1
          have q98 : IR s94 := by rw [es94]; exact IR_o (by unfold suIR; omega) hp89.1.2.2.2.1
          have q99 : s94 268 8 = s0 268 8 := (show s94 268 8 = s88 268 8 from by rw [es94, xU_k _ _ _ (by omega)]).trans (hp89.1.2.2.2.2.1.trans q82)
          have q100 : s94 268 58 = s0 268 58 := (show s94 268 58 = s88 268 58 from by rw [es94, xU_k _ _ _ (by omega)]).trans (hp89.1.2.2.2.2.2.1.trans q83)
          have q101 : s94 268 10 = s0 268 10 := (show s94 268 10 = s88 268 10 from by rw [es94, xU_k _ _ _ (by omega)]).trans (hp89.1.2.2.2.2.2.2.1.trans q84)
          have q102 : s94 268 16 = s0 268 16 := (show s94 268 16 = s88 268 16 from by rw [es94, xU_k _ _ _ (by omega)]).trans (hp89.1.2.2.2.2.2.2.2.1.trans q85)
          have q103 : s94 268 34 = s77 268 34 := (show s94 268 34 = s88 268 34 from by rw [es94, xU_k _ _ _ (by omega)]).trans hp89.1.2.2.2.2.2.2.2.2.1
          have q104 : s94 268 35 = s77 268 35 := (show s94 268 35 = s88 268 35 from by rw [es94, xU_k _ _ _ (by omega)]).trans hp89.1.2.2.2.2.2.2.2.2.2.1
          have q105 : s94 268 36 = s77 268 36 := (show s94 268 36 = s88 268 36 from by rw [es94, xU_k _ _ _ (by omega)]).trans hp89.1.2.2.2.2.2.2.2.2.2.2.1
          have q106 : s94 268 37 = s77 268 37 := (show s94 268 37 = s88 268 37 from by rw [es94, xU_k _ _ _ (by omega)]).trans hp89.1.2.2.2.2.2.2.2.2.2.2.2.1
          have hF107 := hF90.put es94 (by omega)
          have A133 : s94 280 = xud (s0 280) (s0 268 16) (s0 268 14) ∧ s94 281 = xud (s0 281) (s0 268 16) (s_99 268 14) ∧ s94 282 = xud (s0 282) (s0 268 16) (s94 268 14) := ⟨by rw [es94, xU_k _ _ _ (by omega)]; exact T113.1, by rw [es94, xU_k _ _ _ (by omega)]; exact T113.2.1, by rw [es94, xU_xud, T113.2.2, show x92 = s0 268 16 from by omega, xU_k _ _ _ (by omega), show x93 = _ from ex93]⟩
          have P133 : ((∀ k, 0 ≤ k → k < s_99 268 14 → s94 277 k = s_99 277 k) ∧ segOK (s94 277) (s_99 268 14) (s94 268 14) ∧ s_99 268 14 ≤ s94 268 14 ∧ s94 268 14 ≤ s94 268 9 ∧ s0 268 9 ≤ s94 268 9) := by rw [es94, xU_k _ _ _ (by omega), xU_k _ _ _ (by omega)]; exact P113.resolve_left (fun q => by omega)
          refine x_aload_n hx hb hl 0 rfl dX11_readsClause_134 rfl ?_
          refine x_aload_n hx hb hl 0 rfl dX11_readsClause_135 rfl ?_
          refine x_get (j := 16) (v := .int (xJ (s94 268 16))) hx hb hown hT hE hW cls_X11 (Or.inl (by decide)) (so_268 h0 g _) (by decide) rfl wq1201 dX11_readsClause_136 ?_
          refine x_rd hW (fun x108 ex108 rx108 => ?_)
          have fx108 : x108 = s0 268 16 := ex108.trans q102
          refine x_iconst hx hb dX11_readsClause_139 ?_
          refine x_iadd hx hb dX11_readsClause_140 ?_
          refine x_put (j := 16) hx hb hown hT hE hW cls_X11 (by decide) (fun σ => so_268 h0 g σ) (by decide) (st_X11_16 h0 s94 268 (x108 + 1)) (ln_X11_16 h0 _ _) wq1201 rfl rfl rfl (by omega) dX11_readsClause_141 (fun H locs s109 es109 hW => ?_)
          have q110 : IMn s109 := by rw [es109]; exact IMn_268 q95 (by omega)
          have q111 : IMk s109 := by rw [es109]; exact IMk_268 q96 (by omega)
          have q112 : IMo s109 := by rw [es109]; exact IMo_o (by unfold suIMo; omega) q97
          have q113 : IR s109 := by rw [es109]; exact IR_268 q98 (by omega)
          have q114 : s109 268 8 = s0 268 8 := (show s109 268 8 = s94 268 8 from by rw [es109, xU_j _ _ (by decide)]).trans q99
          have q115 : s109 268 58 = s0 268 58 := (show s109 268 58 = s94 268 58 from by rw [es109, xU_j _ _ (by decide)]).trans q100
          have q116 : s109 268 10 = s0 268 10 := (show s109 268 10 = s94 268 10 from by rw [es109, xU_j _ _ (by decide)]).trans q101
          have q117 : s109 268 16 = (x108 + 1) := by rw [es109, xU_s]
          have q118 : s109 268 34 = s77 268 34 := (show s109 268 34 = s94 268 34 from by rw [es109, xU_j _ _ (by decide)]).trans q103
          have q119 : s109 268 35 = s77 268 35 := (show s109 268 35 = s94 268 35 from by rw [es109, xU_j _ _ (by decide)]).trans q104
          have q120 : s109 268 36 = s77 268 36 := (show s109 268 36 = s94 268 36 from by rw [es109, xU_j _ _ (by decide)]).trans q105
          have q121 : s109 268 37 = s77 268 37 := (show s109 268 37 = s94 268 37 from by rw [es109, xU_j _ _ (by decide)]).trans q106
          have hF122 := hF107.put es109 (by omega)
          have A141 : s109 280 = xud (s0 280) (s0 268 16) (s0 268 14) ∧ s109 281 = xud (s0 281) (s0 268 16) (s_99 268 14) ∧ s109 282 = xud (s0 282) (s0 268 16) (s109 268 14) := by rw [es109, xU_k _ _ _ (by omega), xU_k _ _ _ (by omega), xU_k _ _ _ (by omega), xU_j _ _ (by decide)]; exact A133
          have P141 : ((∀ k, 0 ≤ k → k < s_99 268 14 → s109 277 k = s_99 277 k) ∧ segOK (s109 277) (s_99 268 14) (s109 268 14) ∧ s_99 268 14 ≤ s109 268 14 ∧ s109 268 14 ≤ s109 268 9 ∧ s0 268 9 ≤ s109 268 9) := by rw [es109, xU_k _ _ _ (by omega), xU_j _ _ (by decide), xU_j _ _ (by decide)]; exact P133
          refine x_iconst hx hb dX11_readsClause_144 ?_
          rw [eQ]
          exact x_zret hx hb hr hlk hW (by omega) ⟨hF122, ⟨q110, q111, q112, q113, q114, q115, q116, trivial⟩, Or.inr ⟨by omega, P141.2.2.2.2, zLW.add (M := s0 268 16) (a := s0 268 14) (C1 := s_99 268 14) hz rfl (by omega) (by omega) rfl P141.2.2.2.1 (by omega) (segOK_cp v99_0.1 P141.1) P141.2.1 (fun k k1 k2 => (P141.1 k k1 (by omega)).trans (v99_1 k k1 k2)) A141.1 A141.2.1 A141.2.2⟩⟩ dX11_readsClause_145
        refine x_iconst hx hb dX11_readsClause_119 ?_
        rw [eQ]
        exact x_zret hx hb hr hlk hW (by omega) ⟨hF90, ⟨hp89.1.1, hp89.1.2.1, hp89.1.2.2.1, hp89.1.2.2.2.1, (hp89.1.2.2.2.2.1.trans q82), (hp89.1.2.2.2.2.2.1.trans q83), (hp89.1.2.2.2.2.2.2.1.trans q84), trivial⟩, Or.inl ⟨by omega, by omega⟩⟩ dX11_readsClause_120
      refine x_icmp_eq (tgt := 99) hx hb rx1 (by decide) dX11_readsClause_87 (by decide) (fun c123 => ?_) (fun c123 => ?_)
      · skip
        exact J99 s62 H locs ls hF74 q63 q64 q65 q66 q67 q68 q69 q72 (by first | exact (P91 (by omega)).1 | (refine ⟨?_, by omega, by omega, by omega⟩; rw [show s62 268 14 = s0 268 14 from by omega]; exact segOK_0 _ (by omega))) (by first | exact (P91 (by omega)).2.1 | exact fun k _ _ => by rw [A81.1]) (by omega) (by first | exact T91 | exact A81.2) hW (lv_sub hl [1] rfl)
      refine x_aload_n hx hb hl 1 rfl dX11_readsClause_90 rfl ?_
      refine x_goi (x_runV (As := []) hx hb hml hown hT hE hW hl.1 (Or.inl (by decide)) (so_268 h0 g _) rfl cf_X11_readsSum wq1472 wq116 wq1470 (c_X11_readsSum l D g T h0 s62 hW.2.1 (s0 277) (s0 268 14) (s0 268 16) 0 0 (Z81) q63 q64 q65 q66) ⟨rfl, rfl, ⟨by decide, by decide⟩, ⟨by decide, by decide⟩⟩ rfl rfl (Nat.le_of_ble_eq_true rfl) dX11_readsClause_91) hW (fun x124 s125 H locs rx124 hp126 hW => ?_)
      obtain ⟨fs125, hp126⟩ := hp126
      have hF127 := hF74.call fs125 (fun k h => by omega)
      have ghp126 := hp126.2
      have G91 := ghp126
      have T91 : s125 280 = xud (s0 280) (s0 268 16) (s0 268 14) ∧ s125 281 = s0 281 ∧ s125 282 = s0 282 := ⟨(fs125 280 (by omega)).trans A81.2.1, (fs125 281 (by omega)).trans A81.2.2.1, (fs125 282 (by omega)).trans A81.2.2.2⟩
      have P91 : x124 ≠ 0 → (segOK (s125 277) (s0 268 14) (s125 268 14) ∧ (0 ≤ s125 268 14 ∧ s0 268 14 ≤ s125 268 14 ∧ s125 268 14 ≤ s125 268 9)) ∧ (∀ k : Int, 0 ≤ k → k < s0 268 14 → s125 277 k = s0 277 k) ∧ s0 268 9 + 1 ≤ s125 268 9 := fun hv => by
        obtain ⟨g1, g2, g3, g4, -⟩ := G91.resolve_left (fun q => hv q.1)
        have g5 := g4.seg (by omega)
        have g6 := g4.f
        exact ⟨⟨g5.1, by omega, by omega, g5.2⟩, g4.2.old, by omega⟩
      refine x_if_ne (tgt := 99) hx hb rx124 dX11_readsClause_94 (by decide) (fun c128 => ?_) (fun c128 => ?_)
      · skip
        exact J99 s125 H locs ls hF127 hp126.1.1 hp126.1.2.1 hp126.1.2.2.1 hp126.1.2.2.2.1 (hp126.1.2.2.2.2.1.trans q67) (hp126.1.2.2.2.2.2.1.trans q68) (hp126.1.2.2.2.2.2.2.1.trans q69) (hp126.1.2.2.2.2.2.2.2.1.trans q72) (by first | exact (P91 (by omega)).1 | (refine ⟨?_, by omega, by omega, by omega⟩; rw [show s125 268 14 = s0 268 14 from by omega]; exact segOK_0 _ (by omega))) (by first | exact (P91 (by omega)).2.1 | exact fun k _ _ => by rw [A81.1]) (by omega) (by first | exact T91 | exact A81.2) hW (lv_sub hl [1] rfl)
      refine x_iconst hx hb dX11_readsClause_97 ?_
      rw [eQ]
      exact x_zret hx hb hr hlk hW (by omega) ⟨hF127, ⟨hp126.1.1, hp126.1.2.1, hp126.1.2.2.1, hp126.1.2.2.2.1, (hp126.1.2.2.2.2.1.trans q67), (hp126.1.2.2.2.2.2.1.trans q68), (hp126.1.2.2.2.2.2.2.1.trans q69), trivial⟩, Or.inl ⟨by omega, by omega⟩⟩ dX11_readsClause_98
    refine x_aload_n hx hb hl 1 rfl dX11_readsClause_31 rfl ?_
    refine x_iconst hx hb dX11_readsClause_32 ?_
    refine x_aload_n hx hb hl 1 rfl dX11_readsClause_33 rfl ?_
    refine x_get (j := 9) (v := .int (xJ (s0 268 9))) hx hb hown hT hE hW cls_X11 (Or.inl (by decide)) (so_268 h0 g _) (by decide) rfl wq1194 dX11_readsClause_34 ?_
    refine x_rd hW (fun x129 ex129 rx129 => ?_)
    have bx129 : 0 ≤ x129 ∧ x129 ≤ s0 268 10 ∧ s0 268 10 ≤ 240 := by rw [ex129]; exact p3
    have fx129 : x129 = s0 268 9 := ex129.trans k268_9
    refine x_goi (x_runV (As := [.int (xJ 4), .int (xJ x129)]) hx hb hml hown hT hE hW hl.1 (Or.inl (by decide)) (so_268 h0 g _) rfl cf_X11_wrongAt wq1401 wq107 wq1399 (c_X11_wrongAt l D g T h0 s0 hW.2.1 4 (by decide) x129 rx129 p0 p1 p2 p3) ⟨rfl, rfl, ⟨by decide, by decide⟩, ⟨by decide, by decide⟩⟩ rfl rfl (Nat.le_of_ble_eq_true rfl) dX11_readsClause_37) hW (fun x130 s131 H locs rx130 hp132 hW => ?_)
    obtain ⟨fs131, hp132⟩ := hp132
    have hF133 := hF.call fs131 (fun k h => by omega)
    have ghp132 := hp132.2
    rw [eQ]
    exact x_zret hx hb hr hlk hW (by omega) ⟨hF133, ⟨hp132.1.1, hp132.1.2.1, hp132.1.2.2.1, hp132.1.2.2.2.1, (hp132.1.2.2.2.2.1.trans k268_8), (hp132.1.2.2.2.2.2.1.trans k268_58), (hp132.1.2.2.2.2.2.2.2.1.trans k268_10), trivial⟩, Or.inl ⟨by omega, by omega⟩⟩ dX11_readsClause_40
  refine x_aload_n hx hb hl 1 rfl dX11_readsClause_12 rfl ?_
  refine x_iconst hx hb dX11_readsClause_13 ?_
  refine x_aload_n hx hb hl 1 rfl dX11_readsClause_14 rfl ?_
  refine x_get (j := 9) (v := .int (xJ (s0 268 9))) hx hb hown hT hE hW cls_X11 (Or.inl (by decide)) (so_268 h0 g _) (by decide) rfl wq1194 dX11_readsClause_15 ?_
  refine x_rd hW (fun x134 ex134 rx134 => ?_)
  have bx134 : 0 ≤ x134 ∧ x134 ≤ s0 268 10 ∧ s0 268 10 ≤ 240 := by rw [ex134]; exact p3
  have fx134 : x134 = s0 268 9 := ex134.trans k268_9
  refine x_goi (x_runV (As := [.int (xJ 1), .int (xJ x134)]) hx hb hml hown hT hE hW hl.1 (Or.inl (by decide)) (so_268 h0 g _) rfl cf_X11_wrongAt wq1401 wq107 wq1399 (c_X11_wrongAt l D g T h0 s0 hW.2.1 1 (by decide) x134 rx134 p0 p1 p2 p3) ⟨rfl, rfl, ⟨by decide, by decide⟩, ⟨by decide, by decide⟩⟩ rfl rfl (Nat.le_of_ble_eq_true rfl) dX11_readsClause_18) hW (fun x135 s136 H locs rx135 hp137 hW => ?_)
  obtain ⟨fs136, hp137⟩ := hp137
  have hF138 := hF.call fs136 (fun k h => by omega)
  have ghp137 := hp137.2
  rw [eQ]
  exact x_zret hx hb hr hlk hW (by omega) ⟨hF138, ⟨hp137.1.1, hp137.1.2.1, hp137.1.2.2.1, hp137.1.2.2.2.1, (hp137.1.2.2.2.2.1.trans k268_8), (hp137.1.2.2.2.2.2.1.trans k268_58), (hp137.1.2.2.2.2.2.2.2.1.trans k268_10), trivial⟩, Or.inl ⟨by omega, by omega⟩⟩ dX11_readsClause_21
set_option maxHeartbeats 4000000 in
set_option maxRecDepth 100000 in
theorem c_X11_law (l : Launch) (D : va_G) (g : xG) (T : Nat × Nat × Nat) (h0 : Nat) (s0 : xS) (hσ : xRR s0) (n : Int) (rn : xR n) (p0 : IMn s0) (p1 : IMk s0) (p2 : IMo s0) : Met l yX11_law (xws yX11_law cX11_law 4 (some .int)) { frames := 8, cells := 0, slots := 0, locals := 166 } (xP [.ref (h0 + 268), .int (xJ n)] D g T h0 s0) (xQi D g h0 (fun r τ => xFr (fun k => k = 268 ∨ k = 277 ∨ k = 278 ∨ k = 279 ∨ k = 280 ∨ k = 281 ∨ k = 282 ∨ k = 283 ∨ k = 284 ∨ k = 285 ∨ k = 286 ∨ k = 287) s0 τ ∧ (((IMn τ) ∧ (IMk τ) ∧ (IMo τ) ∧ (τ 268 58 = s0 268 58) ∧ True) ∧ (((n < 1 ∨ 240 < n ∨ s0 268 8 < n) ∧ τ 268 8 = s0 268 8 ∧ r = -1) ∨ (¬ (n < 1 ∨ 240 < n ∨ s0 268 8 < n) ∧ τ 268 8 = 0))))) 0 0 (xA h0) := by
  refine x_met hσ (by decide) (Nat.le_of_ble_eq_true rfl) ?_
  intro p e s m args below meth c hx hb hr hml hown hT hlk hnm hE hW ls hl
  have hl : lv_has ls 4 [(0, .ref (h0 + 268)), (1, .int (xJ n))] := hl
  obtain ⟨Q, eQ⟩ : ∃ Q, Q = MQ below (xQi D g h0 (fun r τ => xFr (fun k => k = 268 ∨ k = 277 ∨ k = 278 ∨ k = 279 ∨ k = 280 ∨ k = 281 ∨ k = 282 ∨ k = 283 ∨ k = 284 ∨ k = 285 ∨ k = 286 ∨ k = 287) s0 τ ∧ (((IMn τ) ∧ (IMk τ) ∧ (IMo τ) ∧ (τ 268 58 = s0 268 58) ∧ True) ∧ (((n < 1 ∨ 240 < n ∨ s0 268 8 < n) ∧ τ 268 8 = s0 268 8 ∧ r = -1) ∨ (¬ (n < 1 ∨ 240 < n ∨ s0 268 8 < n) ∧ τ 268 8 = 0))))) args s 0 0 (xA h0) := ⟨_, rfl⟩
  rw [← eQ]
  generalize hHe : ([] : List Loc) = locs at hW ⊢
  obtain ⟨H, eH⟩ : ∃ H, H = s.heap := ⟨_, rfl⟩
  rw [← eH] at hW ⊢
  have hF : xFr (fun k => k = 268 ∨ k = 277 ∨ k = 278 ∨ k = 279 ∨ k = 280 ∨ k = 281 ∨ k = 282 ∨ k = 283 ∨ k = 284 ∨ k = 285 ∨ k = 286 ∨ k = 287) s0 s0 := xFr.rf
  have k268_58 : s0 268 58 = s0 268 58 := rfl
  have k268_8 : s0 268 8 = s0 268 8 := rfl
  refine x_iload_n hx hb hl 1 rfl dX11_law_0 rfl ?_
  refine x_iconst hx hb dX11_law_1 ?_
  refine x_sipush hx hb dX11_law_2 (by decide) ?_
  refine x_goi (x_runS (As := [.int (xJ n), .int (xJ 1), .int (xJ 240)]) hx hb hml hown hT hE hW hl.1 cf_X11_in wq1383 wq1382 (c_X11_in l D g T h0 s0 hW.2.1 n rn 1 (by decide) 240 (by decide)) ⟨rfl, rfl, ⟨by decide, by decide⟩, ⟨by decide, by decide⟩⟩ rfl rfl (Nat.le_of_ble_eq_true rfl) dX11_law_5) hW (fun x1 s2 H locs rx1 hp3 hW => ?_)
  obtain ⟨es2, hp3⟩ := hp3
  subst es2
  have ghp3 := hp3
  refine x_if_eq (tgt := 19) hx hb rx1 dX11_law_8 (by decide) (fun c4 => ?_) (fun c4 => ?_)
  · skip
    refine x_iconst hx hb dX11_law_19 ?_
    rw [eQ]
    exact x_iret hx hb hr hlk hW (by decide) ⟨hF, ⟨p0, p1, p2, k268_58, trivial⟩, by omega⟩ dX11_law_20
  refine x_iload_n hx hb hl 1 rfl dX11_law_11 rfl ?_
  refine x_aload_n hx hb hl 0 rfl dX11_law_12 rfl ?_
  refine x_get (j := 8) (v := .int (xJ (s0 268 8))) hx hb hown hT hE hW cls_X11 (Or.inl (by decide)) (so_268 h0 g _) (by decide) rfl wq1193 dX11_law_13 ?_
  refine x_rd hW (fun x5 ex5 rx5 => ?_)
  have bx5 : 0 ≤ x5 ∧ x5 ≤ 260 := by rw [ex5]; exact IMn.t p0
  have fx5 : x5 = s0 268 8 := ex5.trans k268_8
  refine x_icmp_le (tgt := 21) hx hb rn rx5 dX11_law_16 (by decide) (fun c6 => ?_) (fun c6 => ?_)
  · skip
    refine x_aload_n hx hb hl 0 rfl dX11_law_21 rfl ?_
    refine x_iconst hx hb dX11_law_22 ?_
    refine x_put (j := 9) hx hb hown hT hE hW cls_X11 (by decide) (fun σ => so_268 h0 g σ) (by decide) (st_X11_9 h0 s0 268 0) (ln_X11_9 h0 _ _) wq1194 rfl rfl rfl (by decide) dX11_law_23 (fun H locs s7 es7 hW => ?_)
    have q8 : IMn s7 := by rw [es7]; exact IMn_268 p0 (by omega)
    have q9 : IMk s7 := by rw [es7]; exact IMk_268 p1 (by omega)
    have q10 : IMo s7 := by rw [es7]; exact IMo_o (by unfold suIMo; omega) p2
    have q11 : s7 268 58 = s0 268 58 := (show s7 268 58 = s0 268 58 from by rw [es7, xU_j _ _ (by decide)]).trans k268_58
    have q12 : s7 268 8 = s0 268 8 := (show s7 268 8 = s0 268 8 from by rw [es7, xU_j _ _ (by decide)]).trans k268_8
    have q13 : s7 268 9 = 0 := by rw [es7, xU_s]
    have hF14 := hF.put es7 (by omega)
    refine x_aload_n hx hb hl 0 rfl dX11_law_26 rfl ?_
    refine x_iload_n hx hb hl 1 rfl dX11_law_27 rfl ?_
    refine x_put (j := 10) hx hb hown hT hE hW cls_X11 (by decide) (fun σ => so_268 h0 g σ) (by decide) (st_X11_10 h0 s7 268 n) (ln_X11_10 h0 _ _) wq1195 rfl rfl rfl rn dX11_law_28 (fun H locs s15 es15 hW => ?_)
    have q16 : IMn s15 := by rw [es15]; exact IMn_268 q8 (by omega)
    have q17 : IMk s15 := by rw [es15]; exact IMk_268 q9 (by omega)
    have q18 : IMo s15 := by rw [es15]; exact IMo_o (by unfold suIMo; omega) q10
    have q19 : s15 268 58 = s0 268 58 := (show s15 268 58 = s7 268 58 from by rw [es15, xU_j _ _ (by decide)]).trans q11
    have q20 : s15 268 8 = s0 268 8 := (show s15 268 8 = s7 268 8 from by rw [es15, xU_j _ _ (by decide)]).trans q12
    have q21 : s15 268 9 = 0 := (show s15 268 9 = s7 268 9 from by rw [es15, xU_j _ _ (by decide)]).trans q13
    have q22 : s15 268 10 = n := by rw [es15, xU_s]
    have hF23 := hF14.put es15 (by omega)
    have q24 : IR s15 := by unfold IR; omega
    refine x_aload_n hx hb hl 0 rfl dX11_law_31 rfl ?_
    refine x_iconst hx hb dX11_law_32 ?_
    refine x_put (j := 14) hx hb hown hT hE hW cls_X11 (by decide) (fun σ => so_268 h0 g σ) (by decide) (st_X11_14 h0 s15 268 0) (ln_X11_14 h0 _ _) wq1199 rfl rfl rfl (by decide) dX11_law_33 (fun H locs s25 es25 hW => ?_)
    have q26 : IMn s25 := by rw [es25]; exact IMn_268 q16 (by omega)
    have q27 : IMk s25 := by rw [es25]; exact IMk_268 q17 (by omega)
    have q28 : IMo s25 := by rw [es25]; exact IMo_o (by unfold suIMo; omega) q18
    have q29 : s25 268 58 = s0 268 58 := (show s25 268 58 = s15 268 58 from by rw [es25, xU_j _ _ (by decide)]).trans q19
    have q30 : s25 268 8 = s0 268 8 := (show s25 268 8 = s15 268 8 from by rw [es25, xU_j _ _ (by decide)]).trans q20
    have q31 : s25 268 9 = 0 := (show s25 268 9 = s15 268 9 from by rw [es25, xU_j _ _ (by decide)]).trans q21
    have q32 : s25 268 10 = n := (show s25 268 10 = s15 268 10 from by rw [es25, xU_j _ _ (by decide)]).trans q22
    have q33 : IR s25 := by rw [es25]; exact IR_268 q24 (by omega)
    have q34 : s25 268 14 = 0 := by rw [es25, xU_s]
    have hF35 := hF23.put es25 (by omega)
    refine x_aload_n hx hb hl 0 rfl dX11_law_36 rfl ?_
    refine x_iconst hx hb dX11_law_37 ?_
    refine x_put (j := 16) hx hb hown hT hE hW cls_X11 (by decide) (fun σ => so_268 h0 g σ) (by decide) (st_X11_16 h0 s25 268 0) (ln_X11_16 h0 _ _) wq1201 rfl rfl rfl (by decide) dX11_law_38 (fun H locs s36 es36 hW => ?_)
    have q37 : IMn s36 := by rw [es36]; exact IMn_268 q26 (by omega)
    have q38 : IMk s36 := by rw [es36]; exact IMk_268 q27 (by omega)
    have q39 : IMo s36 := by rw [es36]; exact IMo_o (by unfold suIMo; omega) q28
    have q40 : s36 268 58 = s0 268 58 := (show s36 268 58 = s25 268 58 from by rw [es36, xU_j _ _ (by decide)]).trans q29
    have q41 : s36 268 8 = s0 268 8 := (show s36 268 8 = s25 268 8 from by rw [es36, xU_j _ _ (by decide)]).trans q30
    have q42 : s36 268 9 = 0 := (show s36 268 9 = s25 268 9 from by rw [es36, xU_j _ _ (by decide)]).trans q31
    have q43 : s36 268 10 = n := (show s36 268 10 = s25 268 10 from by rw [es36, xU_j _ _ (by decide)]).trans q32
    have q44 : IR s36 := by rw [es36]; exact IR_268 q33 (by omega)
    have q45 : s36 268 14 = 0 := (show s36 268 14 = s25 268 14 from by rw [es36, xU_j _ _ (by decide)]).trans q34
    have q46 : s36 268 16 = 0 := by rw [es36, xU_s]
    have hF47 := hF35.put es36 (by omega)
    refine x_aload_n hx hb hl 0 rfl dX11_law_41 rfl ?_
    refine x_goi (x_runV (As := []) hx hb hml hown hT hE hW hl.1 (Or.inl (by decide)) (so_268 h0 g _) rfl cf_X11_readsClause wq1465 wq115 wq1463 (c_X11_readsClause l D g T h0 s36 hW.2.1 (zLW.new (by omega) (by omega) (by omega)) q37 q38 q39 q44) ⟨rfl, rfl, ⟨by decide, by decide⟩, ⟨by decide, by decide⟩⟩ rfl rfl (Nat.le_of_ble_eq_true rfl) dX11_law_42) hW (fun x48 s49 H locs rx48 hp50 hW => ?_)
    obtain ⟨fs49, hp50⟩ := hp50
    have hF51 := hF47.call fs49 (fun k h => by omega)
    have ghp50 := hp50.2
    have W42 : x48 = 0 ∨ zLW s49 := ghp50.elim (fun q => Or.inl q.1) (fun q => Or.inr q.2.2)
    refine lv_istore_n (lv' := [(2, .int (xJ x48)), (0, .ref (h0 + 268)), (1, .int (xJ n))]) hx hb dX11_law_45 rfl hl (by decide) rfl (fun ls hl => ?_)
    have L46 : ∀ (fu : Nat) (i2_46 : Int) (s_46 : xS) (H : Heap) (locs : List Loc) (ls : Array Slot), (xR i2_46) → (xFr (fun k => k = 268 ∨ k = 277 ∨ k = 278 ∨ k = 279 ∨ k = 280 ∨ k = 281 ∨ k = 282 ∨ k = 283 ∨ k = 284 ∨ k = 285 ∨ k = 286 ∨ k = 287) s0 s_46) → (IMn s_46) → (IMk s_46) → (IMo s_46) → (IR s_46) → (s_46 268 8 = s0 268 8) → (s_46 268 58 = s0 268 58) → (s_46 268 10 = n) → (i2_46 = 0 ∨ i2_46 = 1) → (i2_46 = 0 ∨ zLW s_46) → (241 - s_46 268 9 + i2_46).toNat < fu → xW D g h0 s H locs s_46 → lv_has ls 4 [(0, .ref (h0 + 268)), (2, .int (xJ i2_46))] → W p l e { frames := 8, cells := 0, slots := 0, locals := 166 } s m args below meth c H locs 0 0 Q (F0 m 46 ls []) := by
      intro fu
      induction fu with
      | zero => intro i2_46 s_46 H locs ls ri2_46 hF_46 q46_0 q46_1 q46_2 q46_3 q46_4 q46_5 q46_6 v46_0 v46_1 hm; exact absurd hm (Nat.not_lt_zero _)
      | succ fu ih46 =>
        intro i2_46 s_46 H locs ls ri2_46 hF_46 q46_0 q46_1 q46_2 q46_3 q46_4 q46_5 q46_6 v46_0 v46_1 hm hW hl
        have r46 : 0 ≤ s_46 268 9 ∧ s_46 268 9 ≤ s_46 268 10 ∧ s_46 268 10 ≤ 240 := q46_3
        refine x_iload_n hx hb hl 1 rfl dX11_law_46 rfl ?_
        have J86 : ∀ (ls : Array Slot), lv_has ls 4 [(0, .ref (h0 + 268)), (2, .int (xJ i2_46))] → W p l e { frames := 8, cells := 0, slots := 0, locals := 166 } s m args below meth c H locs 0 0 Q (F0 m 86 ls []) := by
          intro ls   hl
          refine x_aload_n hx hb hl 0 rfl dX11_law_86 rfl ?_
          refine x_iconst hx hb dX11_law_87 ?_
          refine x_put (j := 8) hx hb hown hT hE hW cls_X11 (by decide) (fun σ => so_268 h0 g σ) (by decide) (st_X11_8 h0 s_46 268 0) (ln_X11_8 h0 _ _) wq1193 rfl rfl rfl (by decide) dX11_law_88 (fun H locs s52 es52 hW => ?_)
          have q53 : IMn s52 := by rw [es52]; exact IMn_268 q46_0 (by omega)
          have q54 : IMk s52 := by rw [es52]; exact IMk_268 q46_1 (by omega)
          have q55 : IMo s52 := by rw [es52]; exact IMo_o (by unfold suIMo; omega) q46_2
          have q56 : IR s52 := by rw [es52]; exact IR_268 q46_3 (by omega)
          have q57 : s52 268 8 = 0 := by rw [es52, xU_s]
          have q58 : s52 268 58 = s0 268 58 := (show s52 268 58 = s_46 268 58 from by rw [es52, xU_j _ _ (by decide)]).trans q46_5
          have q59 : s52 268 10 = n := (show s52 268 10 = s_46 268 10 from by rw [es52, xU_j _ _ (by decide)]).trans q46_6
          have hF60 := hF_46.put es52 (by omega)
          have W88 : i2_46 = 0 ∨ zLW s52 := v46_1.elim Or.inl (fun q => Or.inr (q.place (Int.le_of_eq (by rw [es52, xU_j _ _ (by decide)])) (by rw [es52, xU_j _ _ (by decide)]) (by rw [es52, xU_j _ _ (by decide)]) (by rw [es52, xU_k _ _ _ (by omega)]) (by rw [es52, xU_k _ _ _ (by omega)]) (by rw [es52, xU_k _ _ _ (by omega)]) (by rw [es52, xU_k _ _ _ (by omega)])))
          have r88 : 0 ≤ s52 268 9 ∧ s52 268 9 ≤ s52 268 10 ∧ s52 268 10 ≤ 240 := q56
          refine x_iload_n hx hb hl 1 rfl dX11_law_91 rfl ?_
          refine x_if_ne (tgt := 100) hx hb ri2_46 dX11_law_92 (by decide) (fun c61 => ?_) (fun c61 => ?_)
          · skip
            refine x_aload_n hx hb hl 0 rfl dX11_law_100 rfl ?_
            refine x_aload_n hx hb hl 0 rfl dX11_law_101 rfl ?_
            refine x_get (j := 16) (v := .int (xJ (s52 268 16))) hx hb hown hT hE hW cls_X11 (Or.inl (by decide)) (so_268 h0 g _) (by decide) rfl wq1201 dX11_law_102 ?_
            refine x_rd hW (fun x62 ex62 rx62 => ?_)
            refine x_put (j := 17) hx hb hown hT hE hW cls_X11 (by decide) (fun σ => so_268 h0 g σ) (by decide) (st_X11_17 h0 s52 268 x62) (ln_X11_17 h0 _ _) wq1202 rfl rfl rfl rx62 dX11_law_105 (fun H locs s63 es63 hW => ?_)
            have q64 : IMn s63 := by rw [es63]; exact IMn_268 q53 (by omega)
            have q65 : IMo s63 := by rw [es63]; exact IMo_o (by unfold suIMo; omega) q55
            have q66 : IR s63 := by rw [es63]; exact IR_268 q56 (by omega)
            have q67 : s63 268 8 = 0 := (show s63 268 8 = s52 268 8 from by rw [es63, xU_j _ _ (by decide)]).trans q57
            have q68 : s63 268 58 = s0 268 58 := (show s63 268 58 = s52 268 58 from by rw [es63, xU_j _ _ (by decide)]).trans q58
            have q69 : s63 268 10 = n := (show s63 268 10 = s52 268 10 from by rw [es63, xU_j _ _ (by decide)]).trans q59
            have hF70 := hF60.put es63 (by omega)
            have W105 : zLW s63 := (W88.resolve_left (by omega)).place (Int.le_of_eq (by rw [es63, xU_j _ _ (by decide)])) (by rw [es63, xU_j _ _ (by decide)]) (by rw [es63, xU_j _ _ (by decide)]) (by rw [es63, xU_k _ _ _ (by omega)]) (by rw [es63, xU_k _ _ _ (by omega)]) (by rw [es63, xU_k _ _ _ (by omega)]) (by rw [es63, xU_k _ _ _ (by omega)])
            have C105 : s63 268 17 = s63 268 16 := by rw [es63, xU_s, xU_j _ _ (by decide)]; omega
            refine x_iconst hx hb dX11_law_108 ?_
            refine lv_istore_n (lv' := [(3, .int (xJ 0)), (0, .ref (h0 + 268)), (2, .int (xJ i2_46))]) hx hb dX11_law_109 rfl hl (by decide) rfl (fun ls hl => ?_)
            have L110 : ∀ (fu : Nat) (i3_110 : Int) (s_110 : xS) (H : Heap) (locs : List Loc) (ls : Array Slot), (xR i3_110) → (xFr (fun k => k = 268 ∨ k = 277 ∨ k = 278 ∨ k = 279 ∨ k = 280 ∨ k = 281 ∨ k = 282 ∨ k = 283 ∨ k = 284 ∨ k = 285 ∨ k = 286 ∨ k = 287) s0 s_110) → (IMn s_110) → (IMo s_110) → (IR s_110) → (s_110 268 8 = 0) → (s_110 268 58 = s0 268 58) → (s_110 268 10 = n) → (0 ≤ i3_110) → (zLW s_110) → (s_110 268 17 = s_110 268 16) → (∀ q : Int, 0 ≤ q → q < i3_110 → s_110 283 q = s_110 277 q) → (241 - i3_110).toNat < fu → xW D g h0 s H locs s_110 → lv_has ls 4 [(0, .ref (h0 + 268)), (3, .int (xJ i3_110))] → W p l e { frames := 8, cells := 0, slots := 0, locals := 166 } s m args below meth c H locs 0 0 Q (F0 m 110 ls []) := by
              intro fu
              induction fu with
              | zero => intro i3_110 s_110 H locs ls ri3_110 hF_110 q110_0 q110_1 q110_2 q110_3 q110_4 q110_5 v110_0 v110_1 v110_2 v110_3 hm; exact absurd hm (Nat.not_lt_zero _)
              | succ fu ih110 =>
                intro i3_110 s_110 H locs ls ri3_110 hF_110 q110_0 q110_1 q110_2 q110_3 q110_4 q110_5 v110_0 v110_1 v110_2 v110_3 hm hW hl
                have w110 := v110_1.1
                have r110 : 0 ≤ s_110 268 9 ∧ s_110 268 9 ≤ s_110 268 10 ∧ s_110 268 10 ≤ 240 := q110_2
                refine x_iload_n hx hb hl 1 rfl dX11_law_110 rfl ?_
                refine x_aload_n hx hb hl 0 rfl dX11_law_111 rfl ?_
                refine x_get (j := 14) (v := .int (xJ (s_110 268 14))) hx hb hown hT hE hW cls_X11 (Or.inl (by decide)) (so_268 h0 g _) (by decide) rfl wq1199 dX11_law_112 ?_
                refine x_rd hW (fun x71 ex71 rx71 => ?_)
                refine x_icmp_ge (tgt := 136) hx hb ri3_110 rx71 dX11_law_115 (by decide) (fun c72 => ?_) (fun c72 => ?_)
                · skip
                  refine x_iconst hx hb dX11_law_136 ?_
                  refine lv_istore_n (lv' := [(3, .int (xJ 0)), (0, .ref (h0 + 268))]) hx hb dX11_law_137 rfl hl (by decide) rfl (fun ls hl => ?_)
                  have L138 : ∀ (fu : Nat) (i3_138 : Int) (s_138 : xS) (H : Heap) (locs : List Loc) (ls : Array Slot), (xR i3_138) → (xFr (fun k => k = 268 ∨ k = 277 ∨ k = 278 ∨ k = 279 ∨ k = 280 ∨ k = 281 ∨ k = 282 ∨ k = 283 ∨ k = 284 ∨ k = 285 ∨ k = 286 ∨ k = 287) s0 s_138) → (IMn s_138) → (IMo s_138) → (IR s_138) → (s_138 268 8 = 0) → (s_138 268 58 = s0 268 58) → (s_138 268 10 = n) → (0 ≤ i3_138) → (zLW s_138) → (s_138 268 17 = s_138 268 16) → (∀ q : Int, 0 ≤ q → q < s_138 268 14 → s_138 283 q = s_138 277 q) → (∀ q : Int, 0 ≤ q → q < i3_138 → s_138 285 q = s_138 280 q ∧ s_138 286 q = s_138 281 q ∧ s_138 287 q = s_138 282 q) → (17 - i3_138).toNat < fu → xW D g h0 s H locs s_138 → lv_has ls 4 [(0, .ref (h0 + 268)), (3, .int (xJ i3_138))] → W p l e { frames := 8, cells := 0, slots := 0, locals := 166 } s m args below meth c H locs 0 0 Q (F0 m 138 ls []) := by
                    intro fu
                    induction fu with
                    | zero => intro i3_138 s_138 H locs ls ri3_138 hF_138 q138_0 q138_1 q138_2 q138_3 q138_4 q138_5 v138_0 v138_1 v138_2 v138_3 v138_4 hm; exact absurd hm (Nat.not_lt_zero _)
                    | succ fu ih138 =>
                      intro i3_138 s_138 H locs ls ri3_138 hF_138 q138_0 q138_1 q138_2 q138_3 q138_4 q138_5 v138_0 v138_1 v138_2 v138_3 v138_4 hm hW hl
                      have w138 := v138_1.2.1
                      refine x_iload_n hx hb hl 1 rfl dX11_law_138 rfl ?_
                      refine x_aload_n hx hb hl 0 rfl dX11_law_139 rfl ?_
                      refine x_get (j := 16) (v := .int (xJ (s_138 268 16))) hx hb hown hT hE hW cls_X11 (Or.inl (by decide)) (so_268 h0 g _) (by decide) rfl wq1201 dX11_law_140 ?_
                      refine x_rd hW (fun x73 ex73 rx73 => ?_)
                      refine x_icmp_ge (tgt := 200) hx hb ri3_138 rx73 dX11_law_143 (by decide) (fun c74 => ?_) (fun c74 => ?_)
                      · skip
                        refine x_aload_n hx hb hl 0 rfl dX11_law_200 rfl ?_
                        refine x_get (j := 16) (v := .int (xJ (s_138 268 16))) hx hb hown hT hE hW cls_X11 (Or.inl (by decide)) (so_268 h0 g _) (by decide) rfl wq1201 dX11_law_201 ?_
                        refine x_rd hW (fun x75 ex75 rx75 => ?_)
                        rw [eQ]
                        exact x_iret hx hb hr hlk hW rx75 ⟨hF_138, ⟨q138_0, (zLW.code v138_1 v138_2 v138_3 (fun j j1 j2 => v138_4 j j1 (by omega))), q138_1, q138_4, trivial⟩, by omega⟩ dX11_law_204
                      refine x_aload_n hx hb hl 0 rfl dX11_law_146 rfl ?_
                      refine x_get (j := 25) (v := .ref (h0 + 284)) hx hb hown hT hE hW cls_X11 (Or.inl (by decide)) (so_268 h0 g _) (by decide) rfl wq1210 dX11_law_147 ?_
                      refine x_iload_n hx hb hl 1 rfl dX11_law_150 rfl ?_
                      refine x_aload_n hx hb hl 0 rfl dX11_law_151 rfl ?_
                      refine x_get (j := 20) (v := .ref (h0 + 279)) hx hb hown hT hE hW cls_X11 (Or.inl (by decide)) (so_268 h0 g _) (by decide) rfl wq1205 dX11_law_152 ?_
                      refine x_iload_n hx hb hl 1 rfl dX11_law_155 rfl ?_
                      refine x_iald hx hb hE hW (Or.inl (by decide)) (sa_279 h0 g _) (by omega) (by decide) dX11_law_156 ?_
                      refine x_rd hW (fun x76 ex76 rx76 => ?_)
                      refine x_iast hx hb hE hW (by decide) (fun σ => sa_284 h0 g σ) (by omega) (by decide) rx76 dX11_law_157 (fun H locs s77 es77 hW => ?_)
                      have q78 : IMn s77 := by rw [es77]; exact IMn_o (by unfold suIMn; omega) q138_0
                      have q79 : IMo s77 := by rw [es77]; exact IMo_o (by unfold suIMo; omega) q138_1
                      have q80 : IR s77 := by rw [es77]; exact IR_o (by unfold suIR; omega) q138_2
                      have q81 : s77 268 8 = 0 := (show s77 268 8 = s_138 268 8 from by rw [es77, xU_k _ _ _ (by omega)]).trans q138_3
                      have q82 : s77 268 58 = s0 268 58 := (show s77 268 58 = s_138 268 58 from by rw [es77, xU_k _ _ _ (by omega)]).trans q138_4
                      have q83 : s77 268 10 = n := (show s77 268 10 = s_138 268 10 from by rw [es77, xU_k _ _ _ (by omega)]).trans q138_5
                      have hF84 := hF_138.put es77 (by omega)
                      have E157 := es77
                      refine x_aload_n hx hb hl 0 rfl dX11_law_158 rfl ?_
                      refine x_get (j := 26) (v := .ref (h0 + 285)) hx hb hown hT hE hW cls_X11 (Or.inl (by decide)) (so_268 h0 g _) (by decide) rfl wq1211 dX11_law_159 ?_
                      refine x_iload_n hx hb hl 1 rfl dX11_law_162 rfl ?_
                      refine x_aload_n hx hb hl 0 rfl dX11_law_163 rfl ?_
                      refine x_get (j := 21) (v := .ref (h0 + 280)) hx hb hown hT hE hW cls_X11 (Or.inl (by decide)) (so_268 h0 g _) (by decide) rfl wq1206 dX11_law_164 ?_
                      refine x_iload_n hx hb hl 1 rfl dX11_law_167 rfl ?_
                      refine x_iald hx hb hE hW (Or.inl (by decide)) (sa_280 h0 g _) (by omega) (by decide) dX11_law_168 ?_
                      refine x_rd hW (fun x85 ex85 rx85 => ?_)
                      have R168 := ex85
                      rw [E157, xU_k _ _ _ (by omega)] at R168
                      refine x_iast hx hb hE hW (by decide) (fun σ => sa_285 h0 g σ) (by omega) (by decide) rx85 dX11_law_169 (fun H locs s86 es86 hW => ?_)
                      have q87 : IMn s86 := by rw [es86]; exact IMn_o (by unfold suIMn; omega) q78
                      have q88 : IMo s86 := by rw [es86]; exact IMo_o (by unfold suIMo; omega) q79
                      have q89 : IR s86 := by rw [es86]; exact IR_o (by unfold suIR; omega) q80
                      have q90 : s86 268 8 = 0 := (show s86 268 8 = s77 268 8 from by rw [es86, xU_k _ _ _ (by omega)]).trans q81
                      have q91 : s86 268 58 = s0 268 58 := (show s86 268 58 = s77 268 58 from by rw [es86, xU_k _ _ _ (by omega)]).trans q82
                      have q92 : s86 268 10 = n := (show s86 268 10 = s77 268 10 from by rw [es86, xU_k _ _ _ (by omega)]).trans q83
                      have hF93 := hF84.put es86 (by omega)
                      have E169 := es86
                      refine x_aload_n hx hb hl 0 rfl dX11_law_170 rfl ?_
                      refine x_get (j := 27) (v := .ref (h0 + 286)) hx hb hown hT hE hW cls_X11 (Or.inl (by decide)) (so_268 h0 g _) (by decide) rfl wq1212 dX11_law_171 ?_
                      refine x_iload_n hx hb hl 1 rfl dX11_law_174 rfl ?_
                      refine x_aload_n hx hb hl 0 rfl dX11_law_175 rfl ?_
                      refine x_get (j := 22) (v := .ref (h0 + 281)) hx hb hown hT hE hW cls_X11 (Or.inl (by decide)) (so_268 h0 g _) (by decide) rfl wq1207 dX11_law_176 ?_
                      refine x_iload_n hx hb hl 1 rfl dX11_law_179 rfl ?_
                      refine x_iald hx hb hE hW (Or.inl (by decide)) (sa_281 h0 g _) (by omega) (by decide) dX11_law_180 ?_
                      refine x_rd hW (fun x94 ex94 rx94 => ?_)
                      have R180 := ex94
                      rw [E169, xU_k _ _ _ (by omega), E157, xU_k _ _ _ (by omega)] at R180
                      refine x_iast hx hb hE hW (by decide) (fun σ => sa_286 h0 g σ) (by omega) (by decide) rx94 dX11_law_181 (fun H locs s95 es95 hW => ?_)
                      have q96 : IMn s95 := by rw [es95]; exact IMn_o (by unfold suIMn; omega) q87
                      have q97 : IMo s95 := by rw [es95]; exact IMo_o (by unfold suIMo; omega) q88
                      have q98 : IR s95 := by rw [es95]; exact IR_o (by unfold suIR; omega) q89
                      have q99 : s95 268 8 = 0 := (show s95 268 8 = s86 268 8 from by rw [es95, xU_k _ _ _ (by omega)]).trans q90
                      have q100 : s95 268 58 = s0 268 58 := (show s95 268 58 = s86 268 58 from by rw [es95, xU_k _ _ _ (by omega)]).trans q91
                      have q101 : s95 268 10 = n := (show s95 268 10 = s86 268 10 from by rw [es95, xU_k _ _ _ (by omega)]).trans q92
                      have hF102 := hF93.put es95 (by omega)
                      have E181 := es95
                      refine x_aload_n hx hb hl 0 rfl dX11_law_182 rfl ?_
                      refine x_get (j := 28) (v := .ref (h0 + 287)) hx hb hown hT hE hW cls_X11 (Or.inl (by decide)) (so_268 h0 g _) (by decide) rfl wq1213 dX11_law_183 ?_
                      refine x_iload_n hx hb hl 1 rfl dX11_law_186 rfl ?_
                      refine x_aload_n hx hb hl 0 rfl dX11_law_187 rfl ?_
                      refine x_get (j := 23) (v := .ref (h0 + 282)) hx hb hown hT hE hW cls_X11 (Or.inl (by decide)) (so_268 h0 g _) (by decide) rfl wq1208 dX11_law_188 ?_
                      refine x_iload_n hx hb hl 1 rfl dX11_law_191 rfl ?_
                      refine x_iald hx hb hE hW (Or.inl (by decide)) (sa_282 h0 g _) (by omega) (by decide) dX11_law_192 ?_
                      refine x_rd hW (fun x103 ex103 rx103 => ?_)
                      have R192 := ex103
                      rw [E181, xU_k _ _ _ (by omega), E169, xU_k _ _ _ (by omega), E157, xU_k _ _ _ (by omega)] at R192
                      refine x_iast hx hb hE hW (by decide) (fun σ => sa_287 h0 g σ) (by omega) (by decide) rx103 dX11_law_193 (fun H locs s104 es104 hW => ?_)
                      have q105 : IMn s104 := by rw [es104]; exact IMn_o (by unfold suIMn; omega) q96
                      have q106 : IMo s104 := by rw [es104]; exact IMo_o (by unfold suIMo; omega) q97
                      have q107 : IR s104 := by rw [es104]; exact IR_o (by unfold suIR; omega) q98
                      have q108 : s104 268 8 = 0 := (show s104 268 8 = s95 268 8 from by rw [es104, xU_k _ _ _ (by omega)]).trans q99
                      have q109 : s104 268 58 = s0 268 58 := (show s104 268 58 = s95 268 58 from by rw [es104, xU_k _ _ _ (by omega)]).trans q100
                      have q110 : s104 268 10 = n := (show s104 268 10 = s95 268 10 from by rw [es104, xU_k _ _ _ (by omega)]).trans q101
                      have hF111 := hF102.put es104 (by omega)
                      have E193 := es104
                      have K193 : ∀ k : Nat, k ≠ 284 → k ≠ 285 → k ≠ 286 → k ≠ 287 → s104 k = s_138 k := fun k a b c d => by rw [E193, xU_k _ _ _ d, E181, xU_k _ _ _ c, E169, xU_k _ _ _ b, E157, xU_k _ _ _ a]
                      have N285 : s104 285 = xud (s_138 285) i3_138 (s_138 280 i3_138) := by rw [E193, xU_k _ _ _ (by omega), E181, xU_k _ _ _ (by omega), E169, xU_xud, E157, xU_k _ _ _ (by omega), R168]
                      have N286 : s104 286 = xud (s_138 286) i3_138 (s_138 281 i3_138) := by rw [E193, xU_k _ _ _ (by omega), E181, xU_xud, E169, xU_k _ _ _ (by omega), E157, xU_k _ _ _ (by omega), R180]
                      have N287 : s104 287 = xud (s_138 287) i3_138 (s_138 282 i3_138) := by rw [E193, xU_xud, E181, xU_k _ _ _ (by omega), E169, xU_k _ _ _ (by omega), E157, xU_k _ _ _ (by omega), R192]
                      refine x_iinc (lv' := [(3, .int (xJ (i3_138 + 1))), (0, .ref (h0 + 268))]) hx hb hl 1 rfl dX11_law_194 (by decide) rfl (fun ls hl => ?_)
                      refine lv_goto (tgt := 138) hx hb dX11_law_197 (by decide) ?_
                      exact ih138 (i3_138 + 1) s104 H locs ls (by omega) hF111 q105 q106 q107 q108 q109 q110 (by omega) (v138_1.place (Int.le_of_eq (by rw [K193 268 (by decide) (by decide) (by decide) (by decide)])) (by rw [K193 268 (by decide) (by decide) (by decide) (by decide)]) (by rw [K193 268 (by decide) (by decide) (by decide) (by decide)]) (K193 277 (by decide) (by decide) (by decide) (by decide)) (K193 280 (by decide) (by decide) (by decide) (by decide)) (K193 281 (by decide) (by decide) (by decide) (by decide)) (K193 282 (by decide) (by decide) (by decide) (by decide))) (by rw [K193 268 (by decide) (by decide) (by decide) (by decide)]; exact v138_2) (by rw [K193 268 (by decide) (by decide) (by decide) (by decide), K193 283 (by decide) (by decide) (by decide) (by decide), K193 277 (by decide) (by decide) (by decide) (by decide)]; exact v138_3) (fun q q1 q2 => by
                  rw [N285, N286, N287, K193 280 (by decide) (by decide) (by decide) (by decide), K193 281 (by decide) (by decide) (by decide) (by decide), K193 282 (by decide) (by decide) (by decide) (by decide)]
                  by_cases h : q = i3_138
                  · subst h; rw [xud_s, xud_s, xud_s]; exact ⟨rfl, rfl, rfl⟩
                  · rw [xud_o _ _ h, xud_o _ _ h, xud_o _ _ h]; exact v138_4 q q1 (by omega)) (by omega) hW (lv_sub hl [1, 0] rfl)
                  exact L138 ((17 - 0 : Int).toNat + 1) 0 s_110 H locs ls (by decide) hF_110 q110_0 q110_1 q110_2 q110_3 q110_4 q110_5 (by omega) (v110_1) (v110_2) (fun q q1 q2 => v110_3 q q1 (by omega)) (fun q q1 q2 => absurd q2 (by omega)) (Nat.lt_succ_self _) hW (lv_sub hl [1, 0] rfl)
                refine x_aload_n hx hb hl 0 rfl dX11_law_118 rfl ?_
                refine x_get (j := 24) (v := .ref (h0 + 283)) hx hb hown hT hE hW cls_X11 (Or.inl (by decide)) (so_268 h0 g _) (by decide) rfl wq1209 dX11_law_119 ?_
                refine x_iload_n hx hb hl 1 rfl dX11_law_122 rfl ?_
                refine x_aload_n hx hb hl 0 rfl dX11_law_123 rfl ?_
                refine x_get (j := 18) (v := .ref (h0 + 277)) hx hb hown hT hE hW cls_X11 (Or.inl (by decide)) (so_268 h0 g _) (by decide) rfl wq1203 dX11_law_124 ?_
                refine x_iload_n hx hb hl 1 rfl dX11_law_127 rfl ?_
                refine x_iald hx hb hE hW (Or.inl (by decide)) (sa_277 h0 g _) (by omega) (by decide) dX11_law_128 ?_
                refine x_rd hW (fun x112 ex112 rx112 => ?_)
                have R128 := ex112
                refine x_iast hx hb hE hW (by decide) (fun σ => sa_283 h0 g σ) (by omega) (by decide) rx112 dX11_law_129 (fun H locs s113 es113 hW => ?_)
                have q114 : IMn s113 := by rw [es113]; exact IMn_o (by unfold suIMn; omega) q110_0
                have q115 : IMo s113 := by rw [es113]; exact IMo_o (by unfold suIMo; omega) q110_1
                have q116 : IR s113 := by rw [es113]; exact IR_o (by unfold suIR; omega) q110_2
                have q117 : s113 268 8 = 0 := (show s113 268 8 = s_110 268 8 from by rw [es113, xU_k _ _ _ (by omega)]).trans q110_3
                have q118 : s113 268 58 = s0 268 58 := (show s113 268 58 = s_110 268 58 from by rw [es113, xU_k _ _ _ (by omega)]).trans q110_4
                have q119 : s113 268 10 = n := (show s113 268 10 = s_110 268 10 from by rw [es113, xU_k _ _ _ (by omega)]).trans q110_5
                have hF120 := hF_110.put es113 (by omega)
                have E129 := es113
                refine x_iinc (lv' := [(3, .int (xJ (i3_110 + 1))), (0, .ref (h0 + 268))]) hx hb hl 1 rfl dX11_law_130 (by decide) rfl (fun ls hl => ?_)
                refine lv_goto (tgt := 110) hx hb dX11_law_133 (by decide) ?_
                exact ih110 (i3_110 + 1) s113 H locs ls (by omega) hF120 q114 q115 q116 q117 q118 q119 (by omega) (v110_1.place (Int.le_of_eq (by rw [E129, xU_k _ _ _ (by omega)])) (by rw [E129, xU_k _ _ _ (by omega)]) (by rw [E129, xU_k _ _ _ (by omega)]) (by rw [E129, xU_k _ _ _ (by omega)]) (by rw [E129, xU_k _ _ _ (by omega)]) (by rw [E129, xU_k _ _ _ (by omega)]) (by rw [E129, xU_k _ _ _ (by omega)])) (by rw [E129, xU_k _ _ _ (by omega)]; exact v110_2) (fun q q1 q2 => (Classical.em (q < i3_110)).elim (fun h => by rw [E129, xU_j _ _ (by omega), xU_k _ _ _ (by omega)]; exact v110_3 q q1 h) (fun h => by rw [show q = i3_110 from by omega, E129, xU_s, xU_k _ _ _ (by omega)]; exact R128)) (by omega) hW (lv_sub hl [1, 0] rfl)
            exact L110 ((241 - 0 : Int).toNat + 1) 0 s63 H locs ls (by decide) hF70 q64 q65 q66 q67 q68 q69 (by omega) (W105) (C105) (fun q q1 q2 => absurd q2 (by omega)) (Nat.lt_succ_self _) hW (lv_sub hl [1, 0] rfl)
          refine x_aload_n hx hb hl 0 rfl dX11_law_95 rfl ?_
          refine x_get (j := 11) (v := .int (xJ (s52 268 11))) hx hb hown hT hE hW cls_X11 (Or.inl (by decide)) (so_268 h0 g _) (by decide) rfl wq1196 dX11_law_96 ?_
          refine x_rd hW (fun x121 ex121 rx121 => ?_)
          rw [eQ]
          exact x_iret hx hb hr hlk hW rx121 ⟨hF60, ⟨q53, q54, q55, q58, trivial⟩, by omega⟩ dX11_law_99
        refine x_if_eq (tgt := 86) hx hb ri2_46 dX11_law_47 (by decide) (fun c122 => ?_) (fun c122 => ?_)
        · skip
          exact J86 ls   (lv_sub hl [0, 1] rfl)
        refine x_aload_n hx hb hl 0 rfl dX11_law_50 rfl ?_
        refine x_get (j := 9) (v := .int (xJ (s_46 268 9))) hx hb hown hT hE hW cls_X11 (Or.inl (by decide)) (so_268 h0 g _) (by decide) rfl wq1194 dX11_law_51 ?_
        refine x_rd hW (fun x123 ex123 rx123 => ?_)
        have bx123 : 0 ≤ x123 ∧ x123 ≤ s_46 268 10 ∧ s_46 268 10 ≤ 240 := by rw [ex123]; exact q46_3
        refine x_aload_n hx hb hl 0 rfl dX11_law_54 rfl ?_
        refine x_get (j := 10) (v := .int (xJ (s_46 268 10))) hx hb hown hT hE hW cls_X11 (Or.inl (by decide)) (so_268 h0 g _) (by decide) rfl wq1195 dX11_law_55 ?_
        refine x_rd hW (fun x124 ex124 rx124 => ?_)
        have fx124 : x124 = n := ex124.trans q46_6
        refine x_icmp_ge (tgt := 86) hx hb rx123 rx124 dX11_law_58 (by decide) (fun c125 => ?_) (fun c125 => ?_)
        · skip
          exact J86 ls   (lv_sub hl [0, 1] rfl)
        refine x_aload_n hx hb hl 0 rfl dX11_law_61 rfl ?_
        refine x_bipush hx hb dX11_law_62 (by decide) ?_
        refine x_goi (x_runV (As := [.int (xJ 59)]) hx hb hml hown hT hE hW hl.1 (Or.inl (by decide)) (so_268 h0 g _) rfl cf_X11_takes wq1405 wq108 wq1403 (c_X11_takes l D g T h0 s_46 hW.2.1 59 (by decide) (by omega) q46_0 q46_1 q46_2 q46_3) ⟨rfl, rfl, ⟨by decide, by decide⟩, ⟨by decide, by decide⟩⟩ rfl rfl (Nat.le_of_ble_eq_true rfl) dX11_law_64) hW (fun x126 s127 H locs rx126 hp128 hW => ?_)
        obtain ⟨fs127, hp128⟩ := hp128
        have hF129 := hF_46.call fs127 (fun k h => by omega)
        have ghp128 := hp128.2
        have W64 : zLW s127 := (v46_1.resolve_left (by omega)).place (by omega) (by omega) (by omega) (fs127 277 (by omega)) (fs127 280 (by omega)) (fs127 281 (by omega)) (fs127 282 (by omega))
        have H64 := ghp128
        refine x_if_eq (tgt := 81) hx hb rx126 dX11_law_67 (by decide) (fun c130 => ?_) (fun c130 => ?_)
        · skip
          refine x_iconst hx hb dX11_law_81 ?_
          refine lv_istore_n (lv' := [(2, .int (xJ 0)), (0, .ref (h0 + 268))]) hx hb dX11_law_82 rfl hl (by decide) rfl (fun ls hl => ?_)
          refine lv_goto (tgt := 46) hx hb dX11_law_83 (by decide) ?_
          exact ih46 0 s127 H locs ls (by decide) hF129 hp128.1.1 hp128.1.2.1 hp128.1.2.2.1 hp128.1.2.2.2.1 (hp128.1.2.2.2.2.1.trans q46_4) (hp128.1.2.2.2.2.2.1.trans q46_5) (hp128.1.2.2.2.2.2.2.1.trans q46_6) (by omega) (by first | exact Or.inl rfl | exact W42 | exact W71) (by omega) hW (lv_sub hl [1, 0] rfl)
        refine x_aload_n hx hb hl 0 rfl dX11_law_70 rfl ?_
        refine x_goi (x_runV (As := []) hx hb hml hown hT hE hW hl.1 (Or.inl (by decide)) (so_268 h0 g _) rfl cf_X11_readsClause wq1465 wq115 wq1463 (c_X11_readsClause l D g T h0 s127 hW.2.1 (W64) hp128.1.1 hp128.1.2.1 hp128.1.2.2.1 hp128.1.2.2.2.1) ⟨rfl, rfl, ⟨by decide, by decide⟩, ⟨by decide, by decide⟩⟩ rfl rfl (Nat.le_of_ble_eq_true rfl) dX11_law_71) hW (fun x131 s132 H locs rx131 hp133 hW => ?_)
        obtain ⟨fs132, hp133⟩ := hp133
        have hF134 := hF129.call fs132 (fun k h => by omega)
        have ghp133 := hp133.2
        have W71z : x131 = 0 ∨ zLW s132 := ghp133.elim (fun q => Or.inl q.1) (fun q => Or.inr q.2.2)
        have H71 : s132 268 9 ≥ s_46 268 9 + 1 := by rcases ghp133 with q | q <;> omega
        refine x_if_eq (tgt := 81) hx hb rx131 dX11_law_74 (by decide) (fun c135 => ?_) (fun c135 => ?_)
        · skip
          refine x_iconst hx hb dX11_law_81 ?_
          refine lv_istore_n (lv' := [(2, .int (xJ 0)), (0, .ref (h0 + 268))]) hx hb dX11_law_82 rfl hl (by decide) rfl (fun ls hl => ?_)
          refine lv_goto (tgt := 46) hx hb dX11_law_83 (by decide) ?_
          exact ih46 0 s132 H locs ls (by decide) hF134 hp133.1.1 hp133.1.2.1 hp133.1.2.2.1 hp133.1.2.2.2.1 (hp133.1.2.2.2.2.1.trans (hp128.1.2.2.2.2.1.trans q46_4)) (hp133.1.2.2.2.2.2.1.trans (hp128.1.2.2.2.2.2.1.trans q46_5)) (hp133.1.2.2.2.2.2.2.1.trans (hp128.1.2.2.2.2.2.2.1.trans q46_6)) (by omega) (by first | exact Or.inl rfl | exact W42 | exact W71) (by omega) hW (lv_sub hl [1, 0] rfl)
        refine x_iconst hx hb dX11_law_77 ?_
        have W71 : (1 : Int) = 0 ∨ zLW s132 := Or.inr (W71z.resolve_left (by omega))
        refine lv_goto (tgt := 82) hx hb dX11_law_78 (by decide) ?_
        refine lv_istore_n (lv' := [(2, .int (xJ 1)), (0, .ref (h0 + 268))]) hx hb dX11_law_82 rfl hl (by decide) rfl (fun ls hl => ?_)
        refine lv_goto (tgt := 46) hx hb dX11_law_83 (by decide) ?_
        exact ih46 1 s132 H locs ls (by decide) hF134 hp133.1.1 hp133.1.2.1 hp133.1.2.2.1 hp133.1.2.2.2.1 (hp133.1.2.2.2.2.1.trans (hp128.1.2.2.2.2.1.trans q46_4)) (hp133.1.2.2.2.2.2.1.trans (hp128.1.2.2.2.2.2.1.trans q46_5)) (hp133.1.2.2.2.2.2.2.1.trans (hp128.1.2.2.2.2.2.2.1.trans q46_6)) (by omega) (by first | exact Or.inl rfl | exact W42 | exact W71) (by omega) hW (lv_sub hl [1, 0] rfl)
    exact L46 ((241 - s49 268 9 + x48 : Int).toNat + 1) x48 s49 H locs ls rx48 hF51 hp50.1.1 hp50.1.2.1 hp50.1.2.2.1 hp50.1.2.2.2.1 (hp50.1.2.2.2.2.1.trans q41) (hp50.1.2.2.2.2.2.1.trans q40) (hp50.1.2.2.2.2.2.2.1.trans q43) (by omega) (by first | exact Or.inl rfl | exact W42 | exact W71) (Nat.lt_succ_self _) hW (lv_sub hl [1, 0] rfl)
  refine x_iconst hx hb dX11_law_19 ?_
  rw [eQ]
  exact x_iret hx hb hr hlk hW (by decide) ⟨hF, ⟨p0, p1, p2, k268_58, trivial⟩, by omega⟩ dX11_law_20

