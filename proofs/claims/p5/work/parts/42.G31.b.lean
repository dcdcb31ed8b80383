set_option maxHeartbeats 4000000 in
set_option maxRecDepth 100000 in
theorem c_X11_wayOfW (l : Launch) (D : va_G) (g : xG) (T : Nat × Nat × Nat) (h0 : Nat) (s0 : xS) (hσ : xRR s0) (x : Int) (rx : xR x) : Met l yX11_wayOf (xws yX11_wayOf cX11_wayOf 1 (some .int)) { frames := 0, cells := 0, slots := 0, locals := 0 } (xP [.int (xJ x)] D g T h0 s0) (xQi D g h0 (fun r τ => s0 = τ ∧ ((x = 110 ∧ r = 0) ∨ (x = 101 ∧ r = 2) ∨ (x = 115 ∧ r = 4) ∨ (x = 119 ∧ r = 6) ∨ (x = 46 ∧ r = 8) ∨ (x ≠ 110 ∧ x ≠ 101 ∧ x ≠ 115 ∧ x ≠ 119 ∧ x ≠ 46 ∧ r = -1)))) 0 0 (xA h0) := by
  refine x_met hσ (by decide) (Nat.le_of_ble_eq_true rfl) ?_
  intro p e s m args below meth c hx hb hr hml hown hT hlk hnm hE hW ls hl
  have hl : lv_has ls 1 [(0, .int (xJ x))] := hl
  obtain ⟨Q, eQ⟩ : ∃ Q, Q = MQ below (xQi D g h0 (fun r τ => s0 = τ ∧ ((x = 110 ∧ r = 0) ∨ (x = 101 ∧ r = 2) ∨ (x = 115 ∧ r = 4) ∨ (x = 119 ∧ r = 6) ∨ (x = 46 ∧ r = 8) ∨ (x ≠ 110 ∧ x ≠ 101 ∧ x ≠ 115 ∧ x ≠ 119 ∧ x ≠ 46 ∧ r = -1)))) args s 0 0 (xA h0) := ⟨_, rfl⟩
  rw [← eQ]
  generalize hHe : ([] : List Loc) = locs at hW ⊢
  obtain ⟨H, eH⟩ : ∃ H, H = s.heap := ⟨_, rfl⟩
  rw [← eH] at hW ⊢
  refine x_iload_n hx hb hl 0 rfl dX11_wayOf_0 rfl ?_
  rcases (show (x ≠ 46 ∧ x ≠ 101 ∧ x ≠ 110 ∧ x ≠ 115 ∧ x ≠ 119) ∨ x = 46 ∨ x = 101 ∨ x = 110 ∨ x = 115 ∨ x = 119 from by omega) with c1 | c1 | c1 | c1 | c1 | c1
  · refine x_look (tgt := 64) (off := 63) hx hb rx dX11_wayOf_1 rfl (xlk_n (by simp; omega)) (by decide) ?_
    refine x_iconst hx hb dX11_wayOf_64 ?_
    rw [eQ]
    exact x_iret hx hb hr hlk hW (by decide) ⟨rfl, by omega⟩ dX11_wayOf_65
  · refine x_look (tgt := 61) (off := 60) hx hb rx dX11_wayOf_1 rfl (by rw [c1]; rfl) (by decide) ?_
    refine x_bipush hx hb dX11_wayOf_61 (by decide) ?_
    rw [eQ]
    exact x_iret hx hb hr hlk hW (by decide) ⟨rfl, by omega⟩ dX11_wayOf_63
  · refine x_look (tgt := 54) (off := 53) hx hb rx dX11_wayOf_1 rfl (by rw [c1]; rfl) (by decide) ?_
    refine x_iconst hx hb dX11_wayOf_54 ?_
    rw [eQ]
    exact x_iret hx hb hr hlk hW (by decide) ⟨rfl, by omega⟩ dX11_wayOf_55
  · refine x_look (tgt := 52) (off := 51) hx hb rx dX11_wayOf_1 rfl (by rw [c1]; rfl) (by decide) ?_
    refine x_iconst hx hb dX11_wayOf_52 ?_
    rw [eQ]
    exact x_iret hx hb hr hlk hW (by decide) ⟨rfl, by omega⟩ dX11_wayOf_53
  · refine x_look (tgt := 56) (off := 55) hx hb rx dX11_wayOf_1 rfl (by rw [c1]; rfl) (by decide) ?_
    refine x_iconst hx hb dX11_wayOf_56 ?_
    rw [eQ]
    exact x_iret hx hb hr hlk hW (by decide) ⟨rfl, by omega⟩ dX11_wayOf_57
  · refine x_look (tgt := 58) (off := 57) hx hb rx dX11_wayOf_1 rfl (by rw [c1]; rfl) (by decide) ?_
    refine x_bipush hx hb dX11_wayOf_58 (by decide) ?_
    rw [eQ]
    exact x_iret hx hb hr hlk hW (by decide) ⟨rfl, by omega⟩ dX11_wayOf_60
set_option maxHeartbeats 4000000 in
set_option maxRecDepth 100000 in
theorem c_X11_wrongAtW (l : Launch) (D : va_G) (g : xG) (T : Nat × Nat × Nat) (h0 : Nat) (s0 : xS) (hσ : xRR s0) (a : Int) (ra : xR a) (b : Int) (rb : xR b) (hab : 0 ≤ a ∧ a ≤ 9 ∧ 0 ≤ b ∧ b ≤ 300) (p0 : IMn s0) (p1 : IMk s0) (p2 : IMo s0) (p3 : IR s0) : Met l yX11_wrongAt (xws yX11_wrongAt cX11_wrongAt 3 (some .boolean)) { frames := 0, cells := 0, slots := 0, locals := 0 } (xP [.ref (h0 + 268), .int (xJ a), .int (xJ b)] D g T h0 s0) (xQi D g h0 (fun r τ => xFr (fun k => k = 268) s0 τ ∧ (((IMn τ) ∧ (IMk τ) ∧ (IMo τ) ∧ (IR τ) ∧ (τ 268 8 = s0 268 8) ∧ (τ 268 58 = s0 268 58) ∧ (τ 268 10 = s0 268 10) ∧ (τ 268 9 = s0 268 9) ∧ (τ 268 34 = s0 268 34) ∧ (τ 268 35 = s0 268 35) ∧ (τ 268 36 = s0 268 36) ∧ (τ 268 37 = s0 268 37) ∧ True) ∧ (r = 0 ∧ τ 268 11 = -1000 * a - b)))) 0 0 (xA h0) := by
  refine x_met hσ (by decide) (Nat.le_of_ble_eq_true rfl) ?_
  intro p e s m args below meth c hx hb hr hml hown hT hlk hnm hE hW ls hl
  have hl : lv_has ls 3 [(0, .ref (h0 + 268)), (1, .int (xJ a)), (2, .int (xJ b))] := hl
  obtain ⟨Q, eQ⟩ : ∃ Q, Q = MQ below (xQi D g h0 (fun r τ => xFr (fun k => k = 268) s0 τ ∧ (((IMn τ) ∧ (IMk τ) ∧ (IMo τ) ∧ (IR τ) ∧ (τ 268 8 = s0 268 8) ∧ (τ 268 58 = s0 268 58) ∧ (τ 268 10 = s0 268 10) ∧ (τ 268 9 = s0 268 9) ∧ (τ 268 34 = s0 268 34) ∧ (τ 268 35 = s0 268 35) ∧ (τ 268 36 = s0 268 36) ∧ (τ 268 37 = s0 268 37) ∧ True) ∧ (r = 0 ∧ τ 268 11 = -1000 * a - b)))) args s 0 0 (xA h0) := ⟨_, rfl⟩
  rw [← eQ]
  generalize hHe : ([] : List Loc) = locs at hW ⊢
  obtain ⟨H, eH⟩ : ∃ H, H = s.heap := ⟨_, rfl⟩
  rw [← eH] at hW ⊢
  have hF : xFr (fun k => k = 268) s0 s0 := xFr.rf
  have k268_8 : s0 268 8 = s0 268 8 := rfl
  have k268_58 : s0 268 58 = s0 268 58 := rfl
  have k268_10 : s0 268 10 = s0 268 10 := rfl
  have k268_9 : s0 268 9 = s0 268 9 := rfl
  have k268_34 : s0 268 34 = s0 268 34 := rfl
  have k268_35 : s0 268 35 = s0 268 35 := rfl
  have k268_36 : s0 268 36 = s0 268 36 := rfl
  have k268_37 : s0 268 37 = s0 268 37 := rfl
  refine x_aload_n hx hb hl 0 rfl dX11_wrongAt_0 rfl ?_
  refine x_sipush hx hb dX11_wrongAt_1 (by decide) ?_
  refine x_iload_n hx hb hl 1 rfl dX11_wrongAt_4 rfl ?_
  refine x_imul hx hb dX11_wrongAt_5 ?_
  refine x_iload_n hx hb hl 2 rfl dX11_wrongAt_6 rfl ?_
  refine x_isub hx hb dX11_wrongAt_7 ?_
  refine x_put (j := 11) hx hb hown hT hE hW cls_X11 (by decide) (fun σ => so_268 h0 g σ) (by decide) (st_X11_11 h0 s0 268 (((-1000) * a) - b)) (ln_X11_11 h0 _ _) wq1196 rfl rfl rfl (by omega) dX11_wrongAt_8 (fun H locs s1 es1 hW => ?_)
  have q2 : IMn s1 := by rw [es1]; exact IMn_268 p0 (by omega)
  have q3 : IMk s1 := by rw [es1]; exact IMk_268 p1 (by omega)
  have q4 : IMo s1 := by rw [es1]; exact IMo_o (by unfold suIMo; omega) p2
  have q5 : IR s1 := by rw [es1]; exact IR_268 p3 (by omega)
  have q6 : s1 268 8 = s0 268 8 := (show s1 268 8 = s0 268 8 from by rw [es1, xU_j _ _ (by decide)]).trans k268_8
  have q7 : s1 268 58 = s0 268 58 := (show s1 268 58 = s0 268 58 from by rw [es1, xU_j _ _ (by decide)]).trans k268_58
  have q8 : s1 268 10 = s0 268 10 := (show s1 268 10 = s0 268 10 from by rw [es1, xU_j _ _ (by decide)]).trans k268_10
  have q9 : s1 268 9 = s0 268 9 := (show s1 268 9 = s0 268 9 from by rw [es1, xU_j _ _ (by decide)]).trans k268_9
  have q10 : s1 268 34 = s0 268 34 := (show s1 268 34 = s0 268 34 from by rw [es1, xU_j _ _ (by decide)]).trans k268_34
  have q11 : s1 268 35 = s0 268 35 := (show s1 268 35 = s0 268 35 from by rw [es1, xU_j _ _ (by decide)]).trans k268_35
  have q12 : s1 268 36 = s0 268 36 := (show s1 268 36 = s0 268 36 from by rw [es1, xU_j _ _ (by decide)]).trans k268_36
  have q13 : s1 268 37 = s0 268 37 := (show s1 268 37 = s0 268 37 from by rw [es1, xU_j _ _ (by decide)]).trans k268_37
  have q14 : s1 268 11 = (((-1000) * a) - b) := by rw [es1, xU_s]
  have hF15 := hF.put es1 (by omega)
  refine x_iconst hx hb dX11_wrongAt_11 ?_
  rw [eQ]
  exact x_zret hx hb hr hlk hW (by omega) ⟨hF15, ⟨q2, q3, q4, q5, q6, q7, q8, q9, q10, q11, q12, q13, trivial⟩, by omega⟩ dX11_wrongAt_12
set_option maxHeartbeats 4000000 in
set_option maxRecDepth 100000 in
theorem c_X11_readsTimesW (l : Launch) (D : va_G) (g : xG) (T : Nat × Nat × Nat) (h0 : Nat) (s0 : xS) (hσ : xRR s0) (p0 : IMn s0) (p1 : IMk s0) (p2 : IMo s0) (p3 : IR s0) : Met l yX11_readsTimes (xws yX11_readsTimes cX11_readsTimes 1 none) { frames := 1, cells := 0, slots := 0, locals := 22 } (xP [.ref (h0 + 268)] D g T h0 s0) (xQv D g h0 (fun τ => xFr (fun k => k = 268) s0 τ ∧ (((IMn τ) ∧ (IMk τ) ∧ (IMo τ) ∧ (IR τ) ∧ (τ 268 8 = s0 268 8) ∧ (τ 268 58 = s0 268 58) ∧ (τ 268 10 = s0 268 10) ∧ (τ 268 34 = s0 268 34) ∧ (τ 268 35 = s0 268 35) ∧ True) ∧ (τ 268 36 = s0 268 9 ∧ τ 268 37 = wtm (zch (xm8 (s0 276)) (s0 268 10) (s0 268 9)) ∧ τ 268 9 = wp1 (xm8 (s0 276)) (s0 268 10) (s0 268 9))))) 0 0 (xA h0) := by
  refine x_met hσ (by decide) (Nat.le_of_ble_eq_true rfl) ?_
  intro p e s m args below meth c hx hb hr hml hown hT hlk hnm hE hW ls hl
  have hl : lv_has ls 1 [(0, .ref (h0 + 268))] := hl
  obtain ⟨Q, eQ⟩ : ∃ Q, Q = MQ below (xQv D g h0 (fun τ => xFr (fun k => k = 268) s0 τ ∧ (((IMn τ) ∧ (IMk τ) ∧ (IMo τ) ∧ (IR τ) ∧ (τ 268 8 = s0 268 8) ∧ (τ 268 58 = s0 268 58) ∧ (τ 268 10 = s0 268 10) ∧ (τ 268 34 = s0 268 34) ∧ (τ 268 35 = s0 268 35) ∧ True) ∧ (τ 268 36 = s0 268 9 ∧ τ 268 37 = wtm (zch (xm8 (s0 276)) (s0 268 10) (s0 268 9)) ∧ τ 268 9 = wp1 (xm8 (s0 276)) (s0 268 10) (s0 268 9))))) args s 0 0 (xA h0) := ⟨_, rfl⟩
  rw [← eQ]
  generalize hHe : ([] : List Loc) = locs at hW ⊢
  obtain ⟨H, eH⟩ : ∃ H, H = s.heap := ⟨_, rfl⟩
  rw [← eH] at hW ⊢
  have hF : xFr (fun k => k = 268) s0 s0 := xFr.rf
  have k268_8 : s0 268 8 = s0 268 8 := rfl
  have k268_58 : s0 268 58 = s0 268 58 := rfl
  have k268_10 : s0 268 10 = s0 268 10 := rfl
  have k268_34 : s0 268 34 = s0 268 34 := rfl
  have k268_35 : s0 268 35 = s0 268 35 := rfl
  have k268_9 : s0 268 9 = s0 268 9 := rfl
  refine x_aload_n hx hb hl 0 rfl dX11_readsTimes_0 rfl ?_
  refine x_aload_n hx hb hl 0 rfl dX11_readsTimes_1 rfl ?_
  refine x_get (j := 9) (v := .int (xJ (s0 268 9))) hx hb hown hT hE hW cls_X11 (Or.inl (by decide)) (so_268 h0 g _) (by decide) rfl wq1194 dX11_readsTimes_2 ?_
  refine x_rd hW (fun x1 ex1 rx1 => ?_)
  have bx1 : 0 ≤ x1 ∧ x1 ≤ s0 268 10 ∧ s0 268 10 ≤ 240 := by rw [ex1]; exact p3
  have fx1 : x1 = s0 268 9 := ex1.trans k268_9
  refine x_put (j := 36) hx hb hown hT hE hW cls_X11 (by decide) (fun σ => so_268 h0 g σ) (by decide) (st_X11_36 h0 s0 268 x1) (ln_X11_36 h0 _ _) wq1221 rfl rfl rfl rx1 dX11_readsTimes_5 (fun H locs s2 es2 hW => ?_)
  have q3 : IMn s2 := by rw [es2]; exact IMn_268 p0 (by omega)
  have q4 : IMk s2 := by rw [es2]; exact IMk_268 p1 (by omega)
  have q5 : IMo s2 := by rw [es2]; exact IMo_o (by unfold suIMo; omega) p2
  have q6 : IR s2 := by rw [es2]; exact IR_268 p3 (by omega)
  have q7 : s2 268 8 = s0 268 8 := (show s2 268 8 = s0 268 8 from by rw [es2, xU_j _ _ (by decide)]).trans k268_8
  have q8 : s2 268 58 = s0 268 58 := (show s2 268 58 = s0 268 58 from by rw [es2, xU_j _ _ (by decide)]).trans k268_58
  have q9 : s2 268 10 = s0 268 10 := (show s2 268 10 = s0 268 10 from by rw [es2, xU_j _ _ (by decide)]).trans k268_10
  have q10 : s2 268 34 = s0 268 34 := (show s2 268 34 = s0 268 34 from by rw [es2, xU_j _ _ (by decide)]).trans k268_34
  have q11 : s2 268 35 = s0 268 35 := (show s2 268 35 = s0 268 35 from by rw [es2, xU_j _ _ (by decide)]).trans k268_35
  have q12 : s2 268 9 = s0 268 9 := (show s2 268 9 = s0 268 9 from by rw [es2, xU_j _ _ (by decide)]).trans k268_9
  have q13 : s2 268 36 = x1 := by rw [es2, xU_s]
  have hF14 := hF.put es2 (by omega)
  refine x_aload_n hx hb hl 0 rfl dX11_readsTimes_8 rfl ?_
  refine x_iconst hx hb dX11_readsTimes_9 ?_
  refine x_put (j := 37) hx hb hown hT hE hW cls_X11 (by decide) (fun σ => so_268 h0 g σ) (by decide) (st_X11_37 h0 s2 268 1) (ln_X11_37 h0 _ _) wq1222 rfl rfl rfl (by decide) dX11_readsTimes_10 (fun H locs s15 es15 hW => ?_)
  have q16 : IMn s15 := by rw [es15]; exact IMn_268 q3 (by omega)
  have q17 : IMk s15 := by rw [es15]; exact IMk_268 q4 (by omega)
  have q18 : IMo s15 := by rw [es15]; exact IMo_o (by unfold suIMo; omega) q5
  have q19 : IR s15 := by rw [es15]; exact IR_268 q6 (by omega)
  have q20 : s15 268 8 = s0 268 8 := (show s15 268 8 = s2 268 8 from by rw [es15, xU_j _ _ (by decide)]).trans q7
  have q21 : s15 268 58 = s0 268 58 := (show s15 268 58 = s2 268 58 from by rw [es15, xU_j _ _ (by decide)]).trans q8
  have q22 : s15 268 10 = s0 268 10 := (show s15 268 10 = s2 268 10 from by rw [es15, xU_j _ _ (by decide)]).trans q9
  have q23 : s15 268 34 = s0 268 34 := (show s15 268 34 = s2 268 34 from by rw [es15, xU_j _ _ (by decide)]).trans q10
  have q24 : s15 268 35 = s0 268 35 := (show s15 268 35 = s2 268 35 from by rw [es15, xU_j _ _ (by decide)]).trans q11
  have q25 : s15 268 9 = s0 268 9 := (show s15 268 9 = s2 268 9 from by rw [es15, xU_j _ _ (by decide)]).trans q12
  have q26 : s15 268 36 = x1 := (show s15 268 36 = s2 268 36 from by rw [es15, xU_j _ _ (by decide)]).trans q13
  have q27 : s15 268 37 = 1 := by rw [es15, xU_s]
  have hF28 := hF14.put es15 (by omega)
  refine x_aload_n hx hb hl 0 rfl dX11_readsTimes_13 rfl ?_
  refine x_goi (x_runV (As := []) hx hb hml hown hT hE hW hl.1 (Or.inl (by decide)) (so_268 h0 g _) rfl cf_X11_here wq1391 wq106 wq1389 (c_X11_here l D g T h0 s15 hW.2.1 q16 q17 q18 q19) ⟨rfl, rfl, ⟨by decide, by decide⟩, ⟨by decide, by decide⟩⟩ rfl rfl (Nat.le_of_ble_eq_true rfl) dX11_readsTimes_14) hW (fun x29 s30 H locs rx29 hp31 hW => ?_)
  obtain ⟨es30, hp31⟩ := hp31
  subst es30
  have ghp31 := hp31
  obtain ⟨c14, ec14⟩ : ∃ c : Int, c = x29 := ⟨_, rfl⟩
  have C14 : c14 = zch (xm8 (s0 276)) (s0 268 10) (s15 268 9) := by rw [ec14, ← hF28 276 (by omega), ← q22]; exact ghp31.1
  have B14 := ghp31.2
  have T14 := wtm_cs c14
  have P14 := wp1_cs (xm8 (s0 276)) (s0 268 10) (s0 268 9)
  have Q14 : s15 268 9 = s0 268 9 := q25
  rw [Q14] at C14
  rw [← C14] at P14
  refine x_bipush hx hb dX11_readsTimes_17 (by decide) ?_
  refine x_bipush hx hb dX11_readsTimes_19 (by decide) ?_
  refine x_goi (x_runS (As := [.int (xJ x29), .int (xJ 50), .int (xJ 57)]) hx hb hml hown hT hE hW hl.1 cf_X11_in wq1383 wq1382 (c_X11_in l D g T h0 s15 hW.2.1 x29 rx29 50 (by decide) 57 (by decide)) ⟨rfl, rfl, ⟨by decide, by decide⟩, ⟨by decide, by decide⟩⟩ rfl rfl (Nat.le_of_ble_eq_true rfl) dX11_readsTimes_21) hW (fun x32 s33 H locs rx32 hp34 hW => ?_)
  obtain ⟨es33, hp34⟩ := hp34
  subst es33
  have ghp34 := hp34
  refine x_if_ne (tgt := 28) hx hb rx32 dX11_readsTimes_24 (by decide) (fun c35 => ?_) (fun c35 => ?_)
  · skip
    refine x_aload_n hx hb hl 0 rfl dX11_readsTimes_28 rfl ?_
    refine x_aload_n hx hb hl 0 rfl dX11_readsTimes_29 rfl ?_
    refine x_goi (x_runV (As := []) hx hb hml hown hT hE hW hl.1 (Or.inl (by decide)) (so_268 h0 g _) rfl cf_X11_here wq1391 wq106 wq1389 (c_X11_here l D g T h0 s15 hW.2.1 q16 q17 q18 q19) ⟨rfl, rfl, ⟨by decide, by decide⟩, ⟨by decide, by decide⟩⟩ rfl rfl (Nat.le_of_ble_eq_true rfl) dX11_readsTimes_30) hW (fun x36 s37 H locs rx36 hp38 hW => ?_)
    obtain ⟨es37, hp38⟩ := hp38
    subst es37
    have ghp38 := hp38
    obtain ⟨c30, ec30⟩ : ∃ c : Int, c = x36 := ⟨_, rfl⟩
    have C30 : c30 = zch (xm8 (s0 276)) (s0 268 10) (s15 268 9) := by rw [ec30, ← hF28 276 (by omega), ← q22]; exact ghp38.1
    have B30 := ghp38.2
    refine x_bipush hx hb dX11_readsTimes_33 (by decide) ?_
    refine x_isub hx hb dX11_readsTimes_35 ?_
    refine x_put (j := 37) hx hb hown hT hE hW cls_X11 (by decide) (fun σ => so_268 h0 g σ) (by decide) (st_X11_37 h0 s15 268 (x36 - 48)) (ln_X11_37 h0 _ _) wq1222 rfl rfl rfl (by omega) dX11_readsTimes_36 (fun H locs s39 es39 hW => ?_)
    have q40 : IMn s39 := by rw [es39]; exact IMn_268 q16 (by omega)
    have q41 : IMk s39 := by rw [es39]; exact IMk_268 q17 (by omega)
    have q42 : IMo s39 := by rw [es39]; exact IMo_o (by unfold suIMo; omega) q18
    have q43 : IR s39 := by rw [es39]; exact IR_268 q19 (by omega)
    have q44 : s39 268 8 = s0 268 8 := (show s39 268 8 = s15 268 8 from by rw [es39, xU_j _ _ (by decide)]).trans q20
    have q45 : s39 268 58 = s0 268 58 := (show s39 268 58 = s15 268 58 from by rw [es39, xU_j _ _ (by decide)]).trans q21
    have q46 : s39 268 10 = s0 268 10 := (show s39 268 10 = s15 268 10 from by rw [es39, xU_j _ _ (by decide)]).trans q22
    have q47 : s39 268 34 = s0 268 34 := (show s39 268 34 = s15 268 34 from by rw [es39, xU_j _ _ (by decide)]).trans q23
    have q48 : s39 268 35 = s0 268 35 := (show s39 268 35 = s15 268 35 from by rw [es39, xU_j _ _ (by decide)]).trans q24
    have q49 : s39 268 9 = s0 268 9 := (show s39 268 9 = s15 268 9 from by rw [es39, xU_j _ _ (by decide)]).trans q25
    have q50 : s39 268 36 = x1 := (show s39 268 36 = s15 268 36 from by rw [es39, xU_j _ _ (by decide)]).trans q26
    have q51 : s39 268 37 = (x36 - 48) := by rw [es39, xU_s]
    have hF52 := hF28.put es39 (by omega)
    refine x_aload_n hx hb hl 0 rfl dX11_readsTimes_39 rfl ?_
    refine x_aload_n hx hb hl 0 rfl dX11_readsTimes_40 rfl ?_
    refine x_get (j := 9) (v := .int (xJ (s39 268 9))) hx hb hown hT hE hW cls_X11 (Or.inl (by decide)) (so_268 h0 g _) (by decide) rfl wq1194 dX11_readsTimes_41 ?_
    refine x_rd hW (fun x53 ex53 rx53 => ?_)
    have bx53 : 0 ≤ x53 ∧ x53 ≤ s39 268 10 ∧ s39 268 10 ≤ 240 := by rw [ex53]; exact q43
    have fx53 : x53 = s0 268 9 := ex53.trans q49
    refine x_iconst hx hb dX11_readsTimes_44 ?_
    refine x_iadd hx hb dX11_readsTimes_45 ?_
    refine x_put (j := 9) hx hb hown hT hE hW cls_X11 (by decide) (fun σ => so_268 h0 g σ) (by decide) (st_X11_9 h0 s39 268 (x53 + 1)) (ln_X11_9 h0 _ _) wq1194 rfl rfl rfl (by omega) dX11_readsTimes_46 (fun H locs s54 es54 hW => ?_)
    have q55 : IMn s54 := by rw [es54]; exact IMn_268 q40 (by omega)
    have q56 : IMk s54 := by rw [es54]; exact IMk_268 q41 (by omega)
    have q57 : IMo s54 := by rw [es54]; exact IMo_o (by unfold suIMo; omega) q42
    have q58 : IR s54 := by rw [es54]; exact IR_268 q43 (by omega)
    have q59 : s54 268 8 = s0 268 8 := (show s54 268 8 = s39 268 8 from by rw [es54, xU_j _ _ (by decide)]).trans q44
    have q60 : s54 268 58 = s0 268 58 := (show s54 268 58 = s39 268 58 from by rw [es54, xU_j _ _ (by decide)]).trans q45
    have q61 : s54 268 10 = s0 268 10 := (show s54 268 10 = s39 268 10 from by rw [es54, xU_j _ _ (by decide)]).trans q46
    have q62 : s54 268 34 = s0 268 34 := (show s54 268 34 = s39 268 34 from by rw [es54, xU_j _ _ (by decide)]).trans q47
    have q63 : s54 268 35 = s0 268 35 := (show s54 268 35 = s39 268 35 from by rw [es54, xU_j _ _ (by decide)]).trans q48
    have q64 : s54 268 9 = (x53 + 1) := by rw [es54, xU_s]
    have q65 : s54 268 36 = x1 := (show s54 268 36 = s39 268 36 from by rw [es54, xU_j _ _ (by decide)]).trans q50
    have q66 : s54 268 37 = (x36 - 48) := (show s54 268 37 = s39 268 37 from by rw [es54, xU_j _ _ (by decide)]).trans q51
    have hF67 := hF52.put es54 (by omega)
    rw [eQ]
    exact x_vret hx hb hr hlk hW ⟨hF67, ⟨q55, q56, q57, q58, q59, q60, q61, q62, q63, trivial⟩, ⟨by omega, by rw [← C14]; omega, by omega⟩⟩ dX11_readsTimes_49
  rw [eQ]
  exact x_vret hx hb hr hlk hW ⟨hF28, ⟨q16, q17, q18, q19, q20, q21, q22, q23, q24, trivial⟩, ⟨by omega, by rw [← C14]; omega, by omega⟩⟩ dX11_readsTimes_27
set_option maxHeartbeats 4000000 in
set_option maxRecDepth 100000 in
theorem c_X11_repeatsW (l : Launch) (D : va_G) (g : xG) (T : Nat × Nat × Nat) (h0 : Nat) (s0 : xS) (hσ : xRR s0) (a : Int) (ra : xR a) (b : Int) (rb : xR b) (q : Int) (rq : xR q) (ha0 : 0 ≤ a ∧ a ≤ s0 268 34 ∧ s0 268 34 ≤ 60) (hb0 : 1 ≤ b ∧ b ≤ 9) (hq0 : 0 ≤ q ∧ q ≤ 300) (p0 : IMn s0) (p1 : IMk s0) (p2 : IMo s0) (p3 : IR s0) : Met l yX11_repeats (xws yX11_repeats cX11_repeats 6 (some .boolean)) { frames := 1, cells := 0, slots := 0, locals := 22 } (xP [.ref (h0 + 268), .int (xJ a), .int (xJ b), .int (xJ q)] D g T h0 s0) (xQi D g h0 (fun r τ => xFr (fun k => k = 268 ∨ k = 289) s0 τ ∧ (((IMn τ) ∧ (IMk τ) ∧ (IMo τ) ∧ (IR τ) ∧ (τ 268 8 = s0 268 8) ∧ (τ 268 58 = s0 268 58) ∧ (τ 268 10 = s0 268 10) ∧ (τ 268 9 = s0 268 9) ∧ (τ 268 35 = s0 268 35) ∧ (τ 268 36 = s0 268 36) ∧ (τ 268 37 = s0 268 37) ∧ True) ∧ ((r = 1 ∧ s0 268 34 + (b - 1) * (s0 268 34 - a) ≤ 60 ∧ τ 268 34 = s0 268 34 + (b - 1) * (s0 268 34 - a)) ∨ (r = 0 ∧ 60 < s0 268 34 + (b - 1) * (s0 268 34 - a) ∧ τ 268 34 = s0 268 34 ∧ τ 268 11 = -6000 - q))))) 0 0 (xA h0) := by
  refine x_met hσ (by decide) (Nat.le_of_ble_eq_true rfl) ?_
  intro p e s m args below meth c hx hb hr hml hown hT hlk hnm hE hW ls hl
  have hl : lv_has ls 6 [(0, .ref (h0 + 268)), (1, .int (xJ a)), (2, .int (xJ b)), (3, .int (xJ q))] := hl
  obtain ⟨Q, eQ⟩ : ∃ Q, Q = MQ below (xQi D g h0 (fun r τ => xFr (fun k => k = 268 ∨ k = 289) s0 τ ∧ (((IMn τ) ∧ (IMk τ) ∧ (IMo τ) ∧ (IR τ) ∧ (τ 268 8 = s0 268 8) ∧ (τ 268 58 = s0 268 58) ∧ (τ 268 10 = s0 268 10) ∧ (τ 268 9 = s0 268 9) ∧ (τ 268 35 = s0 268 35) ∧ (τ 268 36 = s0 268 36) ∧ (τ 268 37 = s0 268 37) ∧ True) ∧ ((r = 1 ∧ s0 268 34 + (b - 1) * (s0 268 34 - a) ≤ 60 ∧ τ 268 34 = s0 268 34 + (b - 1) * (s0 268 34 - a)) ∨ (r = 0 ∧ 60 < s0 268 34 + (b - 1) * (s0 268 34 - a) ∧ τ 268 34 = s0 268 34 ∧ τ 268 11 = -6000 - q))))) args s 0 0 (xA h0) := ⟨_, rfl⟩
  rw [← eQ]
  generalize hHe : ([] : List Loc) = locs at hW ⊢
  obtain ⟨H, eH⟩ : ∃ H, H = s.heap := ⟨_, rfl⟩
  rw [← eH] at hW ⊢
  have hF : xFr (fun k => k = 268 ∨ k = 289) s0 s0 := xFr.rf
  have k268_8 : s0 268 8 = s0 268 8 := rfl
  have k268_58 : s0 268 58 = s0 268 58 := rfl
  have k268_10 : s0 268 10 = s0 268 10 := rfl
  have k268_9 : s0 268 9 = s0 268 9 := rfl
  have k268_35 : s0 268 35 = s0 268 35 := rfl
  have k268_36 : s0 268 36 = s0 268 36 := rfl
  have k268_37 : s0 268 37 = s0 268 37 := rfl
  have k268_34 : s0 268 34 = s0 268 34 := rfl
  refine x_aload_n hx hb hl 0 rfl dX11_repeats_0 rfl ?_
  refine x_get (j := 34) (v := .int (xJ (s0 268 34))) hx hb hown hT hE hW cls_X11 (Or.inl (by decide)) (so_268 h0 g _) (by decide) rfl wq1219 dX11_repeats_1 ?_
  refine x_rd hW (fun x1 ex1 rx1 => ?_)
  have fx1 : x1 = s0 268 34 := ex1.trans k268_34
  refine x_iload_n hx hb hl 1 rfl dX11_repeats_4 rfl ?_
  refine x_isub hx hb dX11_repeats_5 ?_
  refine x_nm (fun x2 ex2 => ?_)
  refine lv_istore (lv' := [(4, .int (xJ x2)), (0, .ref (h0 + 268)), (1, .int (xJ a)), (2, .int (xJ b)), (3, .int (xJ q))]) hx hb dX11_repeats_6 hl (by decide) rfl (fun ls hl => ?_)
  have X6 : x2 = s0 268 34 - a := by omega
  have Y6 : x2 * b = (b - 1) * (s0 268 34 - a) + (s0 268 34 - a) := by rw [X6]; exact wmul2 _ _ _
  have m6 := xmulb (by omega : -1 ≤ b ∧ b ≤ 9) (by omega : -60 ≤ x2 ∧ x2 ≤ 60)
  rw [Int.mul_comm] at m6
  refine x_iload_n hx hb hl 2 rfl dX11_repeats_8 rfl ?_
  refine x_iload hx hb hl 0 rfl dX11_repeats_9 ?_
  refine x_iload_n hx hb hl 3 rfl dX11_repeats_11 rfl ?_
  refine x_imul hx hb dX11_repeats_12 ?_
  refine x_iadd hx hb dX11_repeats_13 ?_
  refine x_bipush hx hb dX11_repeats_14 (by decide) ?_
  refine x_icmp_le (tgt := 27) hx hb (by omega) (by decide) dX11_repeats_16 (by decide) (fun c3 => ?_) (fun c3 => ?_)
  · skip
    refine x_iload hx hb hl 0 rfl dX11_repeats_27 ?_
    refine lv_istore (lv' := [(5, .int (xJ x2)), (4, .int (xJ x2)), (0, .ref (h0 + 268)), (1, .int (xJ a)), (2, .int (xJ b)), (3, .int (xJ q))]) hx hb dX11_repeats_29 hl (by decide) rfl (fun ls hl => ?_)
    have L31 : ∀ (fu : Nat) (i5_31 : Int) (s_31 : xS) (H : Heap) (locs : List Loc) (ls : Array Slot), (xR i5_31) → (xFr (fun k => k = 268 ∨ k = 289) s0 s_31) → (IMn s_31) → (IMk s_31) → (IMo s_31) → (IR s_31) → (s_31 268 8 = s0 268 8) → (s_31 268 58 = s0 268 58) → (s_31 268 10 = s0 268 10) → (s_31 268 9 = s0 268 9) → (s_31 268 35 = s0 268 35) → (s_31 268 36 = s0 268 36) → (s_31 268 37 = s0 268 37) → (s_31 268 34 = s0 268 34) → (x2 ≤ i5_31) → (x2 * b - i5_31).toNat < fu → xW D g h0 s H locs s_31 → lv_has ls 6 [(0, .ref (h0 + 268)), (1, .int (xJ a)), (2, .int (xJ b)), (4, .int (xJ x2)), (5, .int (xJ i5_31))] → W p l e { frames := 1, cells := 0, slots := 0, locals := 22 } s m args below meth c H locs 0 0 Q (F0 m 31 ls []) := by
      intro fu
      induction fu with
      | zero => intro i5_31 s_31 H locs ls ri5_31 hF_31 q31_0 q31_1 q31_2 q31_3 q31_4 q31_5 q31_6 q31_7 q31_8 q31_9 q31_10 q31_11 v31_0 hm; exact absurd hm (Nat.not_lt_zero _)
      | succ fu ih31 =>
        intro i5_31 s_31 H locs ls ri5_31 hF_31 q31_0 q31_1 q31_2 q31_3 q31_4 q31_5 q31_6 q31_7 q31_8 q31_9 q31_10 q31_11 v31_0 hm hW hl
        refine x_iload hx hb hl 4 rfl dX11_repeats_31 ?_
        refine x_iload hx hb hl 3 rfl dX11_repeats_33 ?_
        refine x_iload_n hx hb hl 2 rfl dX11_repeats_35 rfl ?_
        refine x_imul hx hb dX11_repeats_36 ?_
        refine x_icmp_ge (tgt := 67) hx hb ri5_31 (by omega) dX11_repeats_37 (by decide) (fun c4 => ?_) (fun c4 => ?_)
        · skip
          refine x_aload_n hx hb hl 0 rfl dX11_repeats_67 rfl ?_
          refine x_iload_n hx hb hl 1 rfl dX11_repeats_68 rfl ?_
          refine x_iload hx hb hl 3 rfl dX11_repeats_69 ?_
          refine x_iload_n hx hb hl 2 rfl dX11_repeats_71 rfl ?_
          refine x_imul hx hb dX11_repeats_72 ?_
          refine x_iadd hx hb dX11_repeats_73 ?_
          refine x_put (j := 34) hx hb hown hT hE hW cls_X11 (by decide) (fun σ => so_268 h0 g σ) (by decide) (st_X11_34 h0 s_31 268 (a + (x2 * b))) (ln_X11_34 h0 _ _) wq1219 rfl rfl rfl (by omega) dX11_repeats_74 (fun H locs s5 es5 hW => ?_)
          have q6 : IMn s5 := by rw [es5]; exact IMn_268 q31_0 (by omega)
          have q7 : IMk s5 := by rw [es5]; exact IMk_268 q31_1 (by omega)
          have q8 : IMo s5 := by rw [es5]; exact IMo_o (by unfold suIMo; omega) q31_2
          have q9 : IR s5 := by rw [es5]; exact IR_268 q31_3 (by omega)
          have q10 : s5 268 8 = s0 268 8 := (show s5 268 8 = s_31 268 8 from by rw [es5, xU_j _ _ (by decide)]).trans q31_4
          have q11 : s5 268 58 = s0 268 58 := (show s5 268 58 = s_31 268 58 from by rw [es5, xU_j _ _ (by decide)]).trans q31_5
          have q12 : s5 268 10 = s0 268 10 := (show s5 268 10 = s_31 268 10 from by rw [es5, xU_j _ _ (by decide)]).trans q31_6
          have q13 : s5 268 9 = s0 268 9 := (show s5 268 9 = s_31 268 9 from by rw [es5, xU_j _ _ (by decide)]).trans q31_7
          have q14 : s5 268 35 = s0 268 35 := (show s5 268 35 = s_31 268 35 from by rw [es5, xU_j _ _ (by decide)]).trans q31_8
          have q15 : s5 268 36 = s0 268 36 := (show s5 268 36 = s_31 268 36 from by rw [es5, xU_j _ _ (by decide)]).trans q31_9
          have q16 : s5 268 37 = s0 268 37 := (show s5 268 37 = s_31 268 37 from by rw [es5, xU_j _ _ (by decide)]).trans q31_10
          have q17 : s5 268 34 = (a + (x2 * b)) := by rw [es5, xU_s]
          have hF18 := hF_31.put es5 (by omega)
          refine x_iconst hx hb dX11_repeats_77 ?_
          rw [eQ]
          exact x_zret hx hb hr hlk hW (by omega) ⟨hF18, ⟨q6, q7, q8, q9, q10, q11, q12, q13, q14, q15, q16, trivial⟩, by omega⟩ dX11_repeats_78
        refine x_aload_n hx hb hl 0 rfl dX11_repeats_40 rfl ?_
        refine x_get (j := 30) (v := .ref (h0 + 289)) hx hb hown hT hE hW cls_X11 (Or.inl (by decide)) (so_268 h0 g _) (by decide) rfl wq1215 dX11_repeats_41 ?_
        refine x_iload_n hx hb hl 1 rfl dX11_repeats_44 rfl ?_
        refine x_iload hx hb hl 4 rfl dX11_repeats_45 ?_
        refine x_iadd hx hb dX11_repeats_47 ?_
        refine x_aload_n hx hb hl 0 rfl dX11_repeats_48 rfl ?_
        refine x_get (j := 30) (v := .ref (h0 + 289)) hx hb hown hT hE hW cls_X11 (Or.inl (by decide)) (so_268 h0 g _) (by decide) rfl wq1215 dX11_repeats_49 ?_
        refine x_iload_n hx hb hl 1 rfl dX11_repeats_52 rfl ?_
        refine x_iload hx hb hl 4 rfl dX11_repeats_53 ?_
        refine x_iadd hx hb dX11_repeats_55 ?_
        refine x_iload hx hb hl 3 rfl dX11_repeats_56 ?_
        refine x_isub hx hb dX11_repeats_58 ?_
        refine x_bald hx hb hE hW (Or.inl (by decide)) (sa_289 h0 g _) (by omega) (by decide) dX11_repeats_59 ?_
        refine x_rd hW (fun x19 ex19 rx19 => ?_)
        obtain ⟨y21, ey21, ry21⟩ := xnb x19
        refine x_bast (w := y21) hx hb hE hW (by decide) (fun σ => sa_289 h0 g σ) (by omega) (by decide) ey21 ry21 dX11_repeats_60 (fun H locs s20 es20 hW => ?_)
        have q22 : IMn s20 := by rw [es20]; exact IMn_o (by unfold suIMn; omega) q31_0
        have q23 : IMk s20 := by rw [es20]; exact IMk_o (by unfold suIMk; omega) q31_1
        have q24 : IMo s20 := by rw [es20]; exact IMo_o (by unfold suIMo; omega) q31_2
        have q25 : IR s20 := by rw [es20]; exact IR_o (by unfold suIR; omega) q31_3
        have q26 : s20 268 8 = s0 268 8 := (show s20 268 8 = s_31 268 8 from by rw [es20, xU_k _ _ _ (by omega)]).trans q31_4
        have q27 : s20 268 58 = s0 268 58 := (show s20 268 58 = s_31 268 58 from by rw [es20, xU_k _ _ _ (by omega)]).trans q31_5
        have q28 : s20 268 10 = s0 268 10 := (show s20 268 10 = s_31 268 10 from by rw [es20, xU_k _ _ _ (by omega)]).trans q31_6
        have q29 : s20 268 9 = s0 268 9 := (show s20 268 9 = s_31 268 9 from by rw [es20, xU_k _ _ _ (by omega)]).trans q31_7
        have q30 : s20 268 35 = s0 268 35 := (show s20 268 35 = s_31 268 35 from by rw [es20, xU_k _ _ _ (by omega)]).trans q31_8
        have q31 : s20 268 36 = s0 268 36 := (show s20 268 36 = s_31 268 36 from by rw [es20, xU_k _ _ _ (by omega)]).trans q31_9
        have q32 : s20 268 37 = s0 268 37 := (show s20 268 37 = s_31 268 37 from by rw [es20, xU_k _ _ _ (by omega)]).trans q31_10
        have q33 : s20 268 34 = s0 268 34 := (show s20 268 34 = s_31 268 34 from by rw [es20, xU_k _ _ _ (by omega)]).trans q31_11
        have hF34 := hF_31.put es20 (by omega)
        refine x_iinc (lv' := [(5, .int (xJ (i5_31 + 1))), (0, .ref (h0 + 268)), (1, .int (xJ a)), (2, .int (xJ b)), (4, .int (xJ x2))]) hx hb hl 4 rfl dX11_repeats_61 (by decide) rfl (fun ls hl => ?_)
        refine lv_goto (tgt := 31) hx hb dX11_repeats_64 (by decide) ?_
        exact ih31 (i5_31 + 1) s20 H locs ls (by omega) hF34 q22 q23 q24 q25 q26 q27 q28 q29 q30 q31 q32 q33 (by omega) (by omega) hW (lv_sub hl [1, 2, 3, 4, 0] rfl)
    exact L31 ((x2 * b - x2 : Int).toNat + 1) x2 s0 H locs ls (by omega) hF p0 p1 p2 p3 k268_8 k268_58 k268_10 k268_9 k268_35 k268_36 k268_37 k268_34 (by omega) (Nat.lt_succ_self _) hW (lv_sub hl [2, 3, 4, 1, 0] rfl)
  refine x_aload_n hx hb hl 1 rfl dX11_repeats_19 rfl ?_
  refine x_bipush hx hb dX11_repeats_20 (by decide) ?_
  refine x_iload_n hx hb hl 4 rfl dX11_repeats_22 rfl ?_
  refine x_goi (x_runV (As := [.int (xJ 6), .int (xJ q)]) hx hb hml hown hT hE hW hl.1 (Or.inl (by decide)) (so_268 h0 g _) rfl cf_X11_wrongAt wq1401 wq107 wq1399 (c_X11_wrongAtW l D g T h0 s0 hW.2.1 6 (by decide) q rq (by omega) p0 p1 p2 p3) ⟨rfl, rfl, ⟨by decide, by decide⟩, ⟨by decide, by decide⟩⟩ rfl rfl (Nat.le_of_ble_eq_true rfl) dX11_repeats_23) hW (fun x35 s36 H locs rx35 hp37 hW => ?_)
  obtain ⟨fs36, hp37⟩ := hp37
  have hF38 := hF.call fs36 (fun k h => by omega)
  have ghp37 := hp37.2
  rw [eQ]
  exact x_zret hx hb hr hlk hW (by omega) ⟨hF38, ⟨hp37.1.1, hp37.1.2.1, hp37.1.2.2.1, hp37.1.2.2.2.1, (hp37.1.2.2.2.2.1.trans k268_8), (hp37.1.2.2.2.2.2.1.trans k268_58), (hp37.1.2.2.2.2.2.2.1.trans k268_10), (hp37.1.2.2.2.2.2.2.2.1.trans k268_9), (hp37.1.2.2.2.2.2.2.2.2.2.1.trans k268_35), (hp37.1.2.2.2.2.2.2.2.2.2.2.1.trans k268_36), (hp37.1.2.2.2.2.2.2.2.2.2.2.2.1.trans k268_37), trivial⟩, by omega⟩ dX11_repeats_26
