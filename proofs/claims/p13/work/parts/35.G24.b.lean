theorem zhC_ch (σ : xS) : zhC σ = zch (xm8 (σ 276)) (σ 268 10) (σ 268 9) := rfl
set_option maxHeartbeats 4000000 in
set_option maxRecDepth 100000 in
theorem c_X11_wrongAtM (l : Launch) (D : va_G) (g : xG) (T : Nat × Nat × Nat) (h0 : Nat) (s0 : xS) (hσ : xRR s0) (a : Int) (ra : xR a) (b : Int) (rb : xR b) (hab : 0 ≤ a ∧ a ≤ 9 ∧ 0 ≤ b ∧ b ≤ 300) (p0 : IMn s0) (p1 : IMk s0) (p2 : IMo s0) (p3 : IR s0) : Met l yX11_wrongAt (xws yX11_wrongAt cX11_wrongAt 3 (some .boolean)) { frames := 0, cells := 0, slots := 0, locals := 0 } (xP [.ref (h0 + 268), .int (xJ a), .int (xJ b)] D g T h0 s0) (xQi D g h0 (fun r τ => xFr (fun k => k = 268) s0 τ ∧ (((IMn τ) ∧ (IMk τ) ∧ (IMo τ) ∧ (IR τ) ∧ (τ 268 8 = s0 268 8) ∧ (τ 268 58 = s0 268 58) ∧ (τ 268 10 = s0 268 10) ∧ (τ 268 9 = s0 268 9) ∧ (τ 268 17 = s0 268 17) ∧ (τ 268 48 = s0 268 48) ∧ True) ∧ (r = 0 ∧ τ 268 11 = -1000 * a - b)))) 0 0 (xA h0) := by
  refine x_met hσ (by decide) (Nat.le_of_ble_eq_true rfl) ?_
  intro p e s m args below meth c hx hb hr hml hown hT hlk hnm hE hW ls hl
  have hl : lv_has ls 3 [(0, .ref (h0 + 268)), (1, .int (xJ a)), (2, .int (xJ b))] := hl
  obtain ⟨Q, eQ⟩ : ∃ Q, Q = MQ below (xQi D g h0 (fun r τ => xFr (fun k => k = 268) s0 τ ∧ (((IMn τ) ∧ (IMk τ) ∧ (IMo τ) ∧ (IR τ) ∧ (τ 268 8 = s0 268 8) ∧ (τ 268 58 = s0 268 58) ∧ (τ 268 10 = s0 268 10) ∧ (τ 268 9 = s0 268 9) ∧ (τ 268 17 = s0 268 17) ∧ (τ 268 48 = s0 268 48) ∧ True) ∧ (r = 0 ∧ τ 268 11 = -1000 * a - b)))) args s 0 0 (xA h0) := ⟨_, rfl⟩
  rw [← eQ]
  generalize hHe : ([] : List Loc) = locs at hW ⊢
  obtain ⟨H, eH⟩ : ∃ H, H = s.heap := ⟨_, rfl⟩
  rw [← eH] at hW ⊢
  have hF : xFr (fun k => k = 268) s0 s0 := xFr.rf
  have k268_8 : s0 268 8 = s0 268 8 := rfl
  have k268_58 : s0 268 58 = s0 268 58 := rfl
  have k268_10 : s0 268 10 = s0 268 10 := rfl
  have k268_9 : s0 268 9 = s0 268 9 := rfl
  have k268_17 : s0 268 17 = s0 268 17 := rfl
  have k268_48 : s0 268 48 = s0 268 48 := rfl
  refine x_aload_n hx hb hl 0 rfl dX11_wrongAt_0 rfl ?_
  refine x_sipush hx hb dX11_wrongAt_1 (by decide) ?_
  refine x_iload_n hx hb hl 1 rfl dX11_wrongAt_4 rfl ?_
  refine x_imul hx hb dX11_wrongAt_5 ?_
  refine x_iload_n hx hb hl 2 rfl dX11_wrongAt_6 rfl ?_
  refine x_isub hx hb dX11_wrongAt_7 ?_
  refine x_put (j := 11) hx hb hown hT hE hW cls_X11 (by decide) (fun σ => so_268 h0 g σ) (by decide) (st_X11_11 h0 s0 268 (((-1000) * a) - b)) (ln_X11_11 h0 _ _) wq1196 rfl rfl rfl (by omega) dX11_wrongAt_8 (fun H locs s1 es1 hW => ?_)
  have q2 : IMn s1 := by rw [es1]; exact IMn_268 p0 (by omega)
  have q3 : IMk s1 := by rw [es1]; exact IMk_268 p1 (by omega)
  have q4 : IMo s1 := by rw [es1]; exact IMo_o (by unfold suIMo; omega) p2
  have q5 : IR s1 := by rw [es1]; exact IR_268 p3 (by omega)
  have q6 : s1 268 8 = s0 268 8 := (show s1 268 8 = s0 268 8 from by rw [es1, xU_j _ _ (by decide)]).trans k268_8
  have q7 : s1 268 58 = s0 268 58 := (show s1 268 58 = s0 268 58 from by rw [es1, xU_j _ _ (by decide)]).trans k268_58
  have q8 : s1 268 10 = s0 268 10 := (show s1 268 10 = s0 268 10 from by rw [es1, xU_j _ _ (by decide)]).trans k268_10
  have q9 : s1 268 9 = s0 268 9 := (show s1 268 9 = s0 268 9 from by rw [es1, xU_j _ _ (by decide)]).trans k268_9
  have q10 : s1 268 17 = s0 268 17 := (show s1 268 17 = s0 268 17 from by rw [es1, xU_j _ _ (by decide)]).trans k268_17
  have q11 : s1 268 48 = s0 268 48 := (show s1 268 48 = s0 268 48 from by rw [es1, xU_j _ _ (by decide)]).trans k268_48
  have q12 : s1 268 11 = (((-1000) * a) - b) := by rw [es1, xU_s]
  have hF13 := hF.put es1 (by omega)
  refine x_iconst hx hb dX11_wrongAt_11 ?_
  rw [eQ]
  exact x_zret hx hb hr hlk hW (by omega) ⟨hF13, ⟨q2, q3, q4, q5, q6, q7, q8, q9, q10, q11, trivial⟩, by omega⟩ dX11_wrongAt_12
set_option maxHeartbeats 4000000 in
set_option maxRecDepth 100000 in
theorem c_X11_takesM (l : Launch) (D : va_G) (g : xG) (T : Nat × Nat × Nat) (h0 : Nat) (s0 : xS) (hσ : xRR s0) (v : Int) (rv : xR v) (hc : 0 ≤ v) (p0 : IMn s0) (p1 : IMk s0) (p2 : IMo s0) (p3 : IR s0) : Met l yX11_takes (xws yX11_takes cX11_takes 2 (some .boolean)) { frames := 1, cells := 0, slots := 0, locals := 22 } (xP [.ref (h0 + 268), .int (xJ v)] D g T h0 s0) (xQi D g h0 (fun r τ => xFr (fun k => k = 268) s0 τ ∧ (((IMn τ) ∧ (IMk τ) ∧ (IMo τ) ∧ (IR τ) ∧ (τ 268 8 = s0 268 8) ∧ (τ 268 58 = s0 268 58) ∧ (τ 268 10 = s0 268 10) ∧ (τ 268 17 = s0 268 17) ∧ (τ 268 48 = s0 268 48) ∧ True) ∧ ((r = 1 ∧ zhC s0 = v ∧ τ 268 9 = s0 268 9 + 1) ∨ (r = 0 ∧ zhC s0 ≠ v ∧ τ 268 9 = s0 268 9 ∧ τ 268 11 = -1000 - s0 268 9))))) 0 0 (xA h0) := by
  refine x_met hσ (by decide) (Nat.le_of_ble_eq_true rfl) ?_
  intro p e s m args below meth c hx hb hr hml hown hT hlk hnm hE hW ls hl
  have hl : lv_has ls 2 [(0, .ref (h0 + 268)), (1, .int (xJ v))] := hl
  obtain ⟨Q, eQ⟩ : ∃ Q, Q = MQ below (xQi D g h0 (fun r τ => xFr (fun k => k = 268) s0 τ ∧ (((IMn τ) ∧ (IMk τ) ∧ (IMo τ) ∧ (IR τ) ∧ (τ 268 8 = s0 268 8) ∧ (τ 268 58 = s0 268 58) ∧ (τ 268 10 = s0 268 10) ∧ (τ 268 17 = s0 268 17) ∧ (τ 268 48 = s0 268 48) ∧ True) ∧ ((r = 1 ∧ zhC s0 = v ∧ τ 268 9 = s0 268 9 + 1) ∨ (r = 0 ∧ zhC s0 ≠ v ∧ τ 268 9 = s0 268 9 ∧ τ 268 11 = -1000 - s0 268 9))))) args s 0 0 (xA h0) := ⟨_, rfl⟩
  rw [← eQ]
  generalize hHe : ([] : List Loc) = locs at hW ⊢
  obtain ⟨H, eH⟩ : ∃ H, H = s.heap := ⟨_, rfl⟩
  rw [← eH] at hW ⊢
  have hF : xFr (fun k => k = 268) s0 s0 := xFr.rf
  have k268_8 : s0 268 8 = s0 268 8 := rfl
  have k268_58 : s0 268 58 = s0 268 58 := rfl
  have k268_10 : s0 268 10 = s0 268 10 := rfl
  have k268_17 : s0 268 17 = s0 268 17 := rfl
  have k268_48 : s0 268 48 = s0 268 48 := rfl
  have k268_9 : s0 268 9 = s0 268 9 := rfl
  refine x_aload_n hx hb hl 0 rfl dX11_takes_0 rfl ?_
  refine x_goi (x_runV (As := []) hx hb hml hown hT hE hW hl.1 (Or.inl (by decide)) (so_268 h0 g _) rfl cf_X11_here wq1391 wq106 wq1389 (c_X11_here l D g T h0 s0 hW.2.1 p0 p1 p2 p3) ⟨rfl, rfl, ⟨by decide, by decide⟩, ⟨by decide, by decide⟩⟩ rfl rfl (Nat.le_of_ble_eq_true rfl) dX11_takes_1) hW (fun x1 s2 H locs rx1 hp3 hW => ?_)
  obtain ⟨es2, hp3⟩ := hp3
  subst es2
  have ghp3 := hp3
  refine x_iload_n hx hb hl 1 rfl dX11_takes_4 rfl ?_
  refine x_icmp_eq (tgt := 18) hx hb rx1 rv dX11_takes_5 (by decide) (fun c4 => ?_) (fun c4 => ?_)
  · skip
    refine x_aload_n hx hb hl 0 rfl dX11_takes_18 rfl ?_
    refine x_aload_n hx hb hl 0 rfl dX11_takes_19 rfl ?_
    refine x_get (j := 9) (v := .int (xJ (s0 268 9))) hx hb hown hT hE hW cls_X11 (Or.inl (by decide)) (so_268 h0 g _) (by decide) rfl wq1194 dX11_takes_20 ?_
    refine x_rd hW (fun x5 ex5 rx5 => ?_)
    have bx5 : 0 ≤ x5 ∧ x5 ≤ s0 268 10 ∧ s0 268 10 ≤ 240 := by rw [ex5]; exact p3
    have fx5 : x5 = s0 268 9 := ex5.trans k268_9
    refine x_iconst hx hb dX11_takes_23 ?_
    refine x_iadd hx hb dX11_takes_24 ?_
    refine x_put (j := 9) hx hb hown hT hE hW cls_X11 (by decide) (fun σ => so_268 h0 g σ) (by decide) (st_X11_9 h0 s0 268 (x5 + 1)) (ln_X11_9 h0 _ _) wq1194 rfl rfl rfl (by omega) dX11_takes_25 (fun H locs s6 es6 hW => ?_)
    have q7 : IMn s6 := by rw [es6]; exact IMn_268 p0 (by omega)
    have q8 : IMk s6 := by rw [es6]; exact IMk_268 p1 (by omega)
    have q9 : IMo s6 := by rw [es6]; exact IMo_o (by unfold suIMo; omega) p2
    have q10 : IR s6 := by rw [es6]; exact IR_268 p3 (by omega)
    have q11 : s6 268 8 = s0 268 8 := (show s6 268 8 = s0 268 8 from by rw [es6, xU_j _ _ (by decide)]).trans k268_8
    have q12 : s6 268 58 = s0 268 58 := (show s6 268 58 = s0 268 58 from by rw [es6, xU_j _ _ (by decide)]).trans k268_58
    have q13 : s6 268 10 = s0 268 10 := (show s6 268 10 = s0 268 10 from by rw [es6, xU_j _ _ (by decide)]).trans k268_10
    have q14 : s6 268 17 = s0 268 17 := (show s6 268 17 = s0 268 17 from by rw [es6, xU_j _ _ (by decide)]).trans k268_17
    have q15 : s6 268 48 = s0 268 48 := (show s6 268 48 = s0 268 48 from by rw [es6, xU_j _ _ (by decide)]).trans k268_48
    have q16 : s6 268 9 = (x5 + 1) := by rw [es6, xU_s]
    have hF17 := hF.put es6 (by omega)
    refine x_iconst hx hb dX11_takes_28 ?_
    rw [eQ]
    exact x_zret hx hb hr hlk hW (by omega) ⟨hF17, ⟨q7, q8, q9, q10, q11, q12, q13, q14, q15, trivial⟩, by omega⟩ dX11_takes_29
  refine x_aload_n hx hb hl 0 rfl dX11_takes_8 rfl ?_
  refine x_iconst hx hb dX11_takes_9 ?_
  refine x_aload_n hx hb hl 0 rfl dX11_takes_10 rfl ?_
  refine x_get (j := 9) (v := .int (xJ (s0 268 9))) hx hb hown hT hE hW cls_X11 (Or.inl (by decide)) (so_268 h0 g _) (by decide) rfl wq1194 dX11_takes_11 ?_
  refine x_rd hW (fun x18 ex18 rx18 => ?_)
  have bx18 : 0 ≤ x18 ∧ x18 ≤ s0 268 10 ∧ s0 268 10 ≤ 240 := by rw [ex18]; exact p3
  have fx18 : x18 = s0 268 9 := ex18.trans k268_9
  refine x_goi (x_runV (As := [.int (xJ 1), .int (xJ x18)]) hx hb hml hown hT hE hW hl.1 (Or.inl (by decide)) (so_268 h0 g _) rfl cf_X11_wrongAt wq1401 wq107 wq1399 (c_X11_wrongAtM l D g T h0 s0 hW.2.1 1 (by decide) x18 rx18 (by omega) p0 p1 p2 p3) ⟨rfl, rfl, ⟨by decide, by decide⟩, ⟨by decide, by decide⟩⟩ rfl rfl (Nat.le_of_ble_eq_true rfl) dX11_takes_14) hW (fun x19 s20 H locs rx19 hp21 hW => ?_)
  obtain ⟨fs20, hp21⟩ := hp21
  have hF22 := hF.call fs20 (fun k h => by omega)
  have ghp21 := hp21.2
  rw [eQ]
  exact x_zret hx hb hr hlk hW (by omega) ⟨hF22, ⟨hp21.1.1, hp21.1.2.1, hp21.1.2.2.1, hp21.1.2.2.2.1, (hp21.1.2.2.2.2.1.trans k268_8), (hp21.1.2.2.2.2.2.1.trans k268_58), (hp21.1.2.2.2.2.2.2.1.trans k268_10), (hp21.1.2.2.2.2.2.2.2.2.1.trans k268_17), (hp21.1.2.2.2.2.2.2.2.2.2.1.trans k268_48), trivial⟩, by omega⟩ dX11_takes_17
set_option maxHeartbeats 4000000 in
set_option maxRecDepth 100000 in
theorem c_X11_isSpotSignM (l : Launch) (D : va_G) (g : xG) (T : Nat × Nat × Nat) (h0 : Nat) (s0 : xS) (hσ : xRR s0) (x : Int) (rx : xR x) : Met l yX11_isSpotSign (xws yX11_isSpotSign cX11_isSpotSign 1 (some .boolean)) { frames := 0, cells := 0, slots := 0, locals := 0 } (xP [.int (xJ x)] D g T h0 s0) (xQi D g h0 (fun r τ => s0 = τ ∧ ((r = 1 ∧ (x = 46 ∨ x = 35 ∨ x = 115 ∨ x = 114)) ∨ (r = 0 ∧ ¬ (x = 46 ∨ x = 35 ∨ x = 115 ∨ x = 114))))) 0 0 (xA h0) := by
  refine x_met hσ (by decide) (Nat.le_of_ble_eq_true rfl) ?_
  intro p e s m args below meth c hx hb hr hml hown hT hlk hnm hE hW ls hl
  have hl : lv_has ls 1 [(0, .int (xJ x))] := hl
  obtain ⟨Q, eQ⟩ : ∃ Q, Q = MQ below (xQi D g h0 (fun r τ => s0 = τ ∧ ((r = 1 ∧ (x = 46 ∨ x = 35 ∨ x = 115 ∨ x = 114)) ∨ (r = 0 ∧ ¬ (x = 46 ∨ x = 35 ∨ x = 115 ∨ x = 114))))) args s 0 0 (xA h0) := ⟨_, rfl⟩
  rw [← eQ]
  generalize hHe : ([] : List Loc) = locs at hW ⊢
  obtain ⟨H, eH⟩ : ∃ H, H = s.heap := ⟨_, rfl⟩
  rw [← eH] at hW ⊢
  refine x_iload_n hx hb hl 0 rfl dX11_isSpotSign_0 rfl ?_
  refine x_bipush hx hb dX11_isSpotSign_1 (by decide) ?_
  refine x_icmp_eq (tgt := 24) hx hb rx (by decide) dX11_isSpotSign_3 (by decide) (fun c1 => ?_) (fun c1 => ?_)
  · skip
    refine x_iconst hx hb dX11_isSpotSign_24 ?_
    refine lv_goto (tgt := 29) hx hb dX11_isSpotSign_25 (by decide) ?_
    rw [eQ]
    exact x_zret hx hb hr hlk hW (by omega) ⟨rfl, by omega⟩ dX11_isSpotSign_29
  refine x_iload_n hx hb hl 0 rfl dX11_isSpotSign_6 rfl ?_
  refine x_bipush hx hb dX11_isSpotSign_7 (by decide) ?_
  refine x_icmp_eq (tgt := 24) hx hb rx (by decide) dX11_isSpotSign_9 (by decide) (fun c2 => ?_) (fun c2 => ?_)
  · skip
    refine x_iconst hx hb dX11_isSpotSign_24 ?_
    refine lv_goto (tgt := 29) hx hb dX11_isSpotSign_25 (by decide) ?_
    rw [eQ]
    exact x_zret hx hb hr hlk hW (by omega) ⟨rfl, by omega⟩ dX11_isSpotSign_29
  refine x_iload_n hx hb hl 0 rfl dX11_isSpotSign_12 rfl ?_
  refine x_bipush hx hb dX11_isSpotSign_13 (by decide) ?_
  refine x_icmp_eq (tgt := 24) hx hb rx (by decide) dX11_isSpotSign_15 (by decide) (fun c3 => ?_) (fun c3 => ?_)
  · skip
    refine x_iconst hx hb dX11_isSpotSign_24 ?_
    refine lv_goto (tgt := 29) hx hb dX11_isSpotSign_25 (by decide) ?_
    rw [eQ]
    exact x_zret hx hb hr hlk hW (by omega) ⟨rfl, by omega⟩ dX11_isSpotSign_29
  refine x_iload_n hx hb hl 0 rfl dX11_isSpotSign_18 rfl ?_
  refine x_bipush hx hb dX11_isSpotSign_19 (by decide) ?_
  refine x_icmp_ne (tgt := 28) hx hb rx (by decide) dX11_isSpotSign_21 (by decide) (fun c4 => ?_) (fun c4 => ?_)
  · skip
    refine x_iconst hx hb dX11_isSpotSign_28 ?_
    rw [eQ]
    exact x_zret hx hb hr hlk hW (by omega) ⟨rfl, by omega⟩ dX11_isSpotSign_29
  refine x_iconst hx hb dX11_isSpotSign_24 ?_
  refine lv_goto (tgt := 29) hx hb dX11_isSpotSign_25 (by decide) ?_
  rw [eQ]
  exact x_zret hx hb hr hlk hW (by omega) ⟨rfl, by omega⟩ dX11_isSpotSign_29
set_option maxHeartbeats 4000000 in
set_option maxRecDepth 100000 in
theorem c_X11_isTimesM (l : Launch) (D : va_G) (g : xG) (T : Nat × Nat × Nat) (h0 : Nat) (s0 : xS) (hσ : xRR s0) (x : Int) (rx : xR x) : Met l yX11_isTimes (xws yX11_isTimes cX11_isTimes 1 (some .boolean)) { frames := 1, cells := 0, slots := 0, locals := 22 } (xP [.int (xJ x)] D g T h0 s0) (xQi D g h0 (fun r τ => s0 = τ ∧ ((r = 1 ∧ (x = 48 ∨ (50 ≤ x ∧ x ≤ 57))) ∨ (r = 0 ∧ ¬ (x = 48 ∨ (50 ≤ x ∧ x ≤ 57)))))) 0 0 (xA h0) := by
  refine x_met hσ (by decide) (Nat.le_of_ble_eq_true rfl) ?_
  intro p e s m args below meth c hx hb hr hml hown hT hlk hnm hE hW ls hl
  have hl : lv_has ls 1 [(0, .int (xJ x))] := hl
  obtain ⟨Q, eQ⟩ : ∃ Q, Q = MQ below (xQi D g h0 (fun r τ => s0 = τ ∧ ((r = 1 ∧ (x = 48 ∨ (50 ≤ x ∧ x ≤ 57))) ∨ (r = 0 ∧ ¬ (x = 48 ∨ (50 ≤ x ∧ x ≤ 57)))))) args s 0 0 (xA h0) := ⟨_, rfl⟩
  rw [← eQ]
  generalize hHe : ([] : List Loc) = locs at hW ⊢
  obtain ⟨H, eH⟩ : ∃ H, H = s.heap := ⟨_, rfl⟩
  rw [← eH] at hW ⊢
  refine x_iload_n hx hb hl 0 rfl dX11_isTimes_0 rfl ?_
  refine x_bipush hx hb dX11_isTimes_1 (by decide) ?_
  refine x_icmp_eq (tgt := 17) hx hb rx (by decide) dX11_isTimes_3 (by decide) (fun c1 => ?_) (fun c1 => ?_)
  · skip
    refine x_iconst hx hb dX11_isTimes_17 ?_
    refine lv_goto (tgt := 22) hx hb dX11_isTimes_18 (by decide) ?_
    rw [eQ]
    exact x_zret hx hb hr hlk hW (by omega) ⟨rfl, by omega⟩ dX11_isTimes_22
  refine x_iload_n hx hb hl 0 rfl dX11_isTimes_6 rfl ?_
  refine x_bipush hx hb dX11_isTimes_7 (by decide) ?_
  refine x_bipush hx hb dX11_isTimes_9 (by decide) ?_
  refine x_goi (x_runS (As := [.int (xJ x), .int (xJ 50), .int (xJ 57)]) hx hb hml hown hT hE hW hl.1 cf_X11_in wq1383 wq1382 (c_X11_in l D g T h0 s0 hW.2.1 x rx 50 (by decide) 57 (by decide)) ⟨rfl, rfl, ⟨by decide, by decide⟩, ⟨by decide, by decide⟩⟩ rfl rfl (Nat.le_of_ble_eq_true rfl) dX11_isTimes_11) hW (fun x2 s3 H locs rx2 hp4 hW => ?_)
  obtain ⟨es3, hp4⟩ := hp4
  subst es3
  have ghp4 := hp4
  refine x_if_eq (tgt := 21) hx hb rx2 dX11_isTimes_14 (by decide) (fun c5 => ?_) (fun c5 => ?_)
  · skip
    refine x_iconst hx hb dX11_isTimes_21 ?_
    rw [eQ]
    exact x_zret hx hb hr hlk hW (by omega) ⟨rfl, by omega⟩ dX11_isTimes_22
  refine x_iconst hx hb dX11_isTimes_17 ?_
  refine lv_goto (tgt := 22) hx hb dX11_isTimes_18 (by decide) ?_
  rw [eQ]
  exact x_zret hx hb hr hlk hW (by omega) ⟨rfl, by omega⟩ dX11_isTimes_22
set_option maxHeartbeats 4000000 in
set_option maxRecDepth 100000 in
theorem c_X11_readsRowM (l : Launch) (D : va_G) (g : xG) (T : Nat × Nat × Nat) (h0 : Nat) (s0 : xS) (hσ : xRR s0) (y : Int) (ry : xR y) (hy : 0 ≤ y ∧ y < 10) (p0 : IMn s0) (p1 : IMk s0) (p2 : IMo s0) (p3 : IR s0) : Met l yX11_readsRow (xws yX11_readsRow cX11_readsRow 6 (some .boolean)) { frames := 2, cells := 0, slots := 0, locals := 42 } (xP [.ref (h0 + 268), .int (xJ y)] D g T h0 s0) (xQi D g h0 (fun r τ => xFr (fun k => k = 268 ∨ k = 288) s0 τ ∧ (((IMn τ) ∧ (IMk τ) ∧ (IMo τ) ∧ (IR τ) ∧ (τ 268 8 = s0 268 8) ∧ (τ 268 58 = s0 268 58) ∧ (τ 268 10 = s0 268 10) ∧ (τ 268 17 = s0 268 17) ∧ (τ 268 48 = s0 268 48) ∧ True) ∧ (Zpost (zR (xm8 (s0 276)) (s0 268 10) y (s0 268 9) (s0 288)) r (τ 288) (τ 268 9) (τ 268 11))))) 0 0 (xA h0) := by
  refine x_met hσ (by decide) (Nat.le_of_ble_eq_true rfl) ?_
  intro p e s m args below meth c hx hb hr hml hown hT hlk hnm hE hW ls hl
  have hl : lv_has ls 6 [(0, .ref (h0 + 268)), (1, .int (xJ y))] := hl
  obtain ⟨Q, eQ⟩ : ∃ Q, Q = MQ below (xQi D g h0 (fun r τ => xFr (fun k => k = 268 ∨ k = 288) s0 τ ∧ (((IMn τ) ∧ (IMk τ) ∧ (IMo τ) ∧ (IR τ) ∧ (τ 268 8 = s0 268 8) ∧ (τ 268 58 = s0 268 58) ∧ (τ 268 10 = s0 268 10) ∧ (τ 268 17 = s0 268 17) ∧ (τ 268 48 = s0 268 48) ∧ True) ∧ (Zpost (zR (xm8 (s0 276)) (s0 268 10) y (s0 268 9) (s0 288)) r (τ 288) (τ 268 9) (τ 268 11))))) args s 0 0 (xA h0) := ⟨_, rfl⟩
  rw [← eQ]
  generalize hHe : ([] : List Loc) = locs at hW ⊢
  obtain ⟨H, eH⟩ : ∃ H, H = s.heap := ⟨_, rfl⟩
  rw [← eH] at hW ⊢
  have hF : xFr (fun k => k = 268 ∨ k = 288) s0 s0 := xFr.rf
  have k268_8 : s0 268 8 = s0 268 8 := rfl
  have k268_58 : s0 268 58 = s0 268 58 := rfl
  have k268_10 : s0 268 10 = s0 268 10 := rfl
  have k268_17 : s0 268 17 = s0 268 17 := rfl
  have k268_48 : s0 268 48 = s0 268 48 := rfl
  refine x_iconst hx hb dX11_readsRow_0 ?_
  refine lv_istore_n (lv' := [(2, .int (xJ 0)), (0, .ref (h0 + 268)), (1, .int (xJ y))]) hx hb dX11_readsRow_1 rfl hl (by decide) rfl (fun ls hl => ?_)
  have L2 : ∀ (fu : Nat) (i2_2 : Int) (s_2 : xS) (H : Heap) (locs : List Loc) (ls : Array Slot), (xR i2_2) → (xFr (fun k => k = 268 ∨ k = 288) s0 s_2) → (IMn s_2) → (IMk s_2) → (IMo s_2) → (IR s_2) → (s_2 268 8 = s0 268 8) → (s_2 268 58 = s0 268 58) → (s_2 268 10 = s0 268 10) → (s_2 268 17 = s0 268 17) → (s_2 268 48 = s0 268 48) → (0 ≤ i2_2 ∧ i2_2 ≤ 10) → (zRS (xm8 (s0 276)) (s0 268 10) y (zrow (xm8 (s0 276)) (s0 268 10) y 10 (s0 268 9) 0 (s0 288)) (s_2 268 9) i2_2 (s_2 288)) → (10 - i2_2).toNat < fu → xW D g h0 s H locs s_2 → lv_has ls 6 [(0, .ref (h0 + 268)), (1, .int (xJ y)), (2, .int (xJ i2_2))] → W p l e { frames := 2, cells := 0, slots := 0, locals := 42 } s m args below meth c H locs 0 0 Q (F0 m 2 ls []) := by
    intro fu
    induction fu with
    | zero => intro i2_2 s_2 H locs ls ri2_2 hF_2 q2_0 q2_1 q2_2 q2_3 q2_4 q2_5 q2_6 q2_7 q2_8 v2_0 v2_1 hm; exact absurd hm (Nat.not_lt_zero _)
    | succ fu ih2 =>
      intro i2_2 s_2 H locs ls ri2_2 hF_2 q2_0 q2_1 q2_2 q2_3 q2_4 q2_5 q2_6 q2_7 q2_8 v2_0 v2_1 hm hW hl
      refine x_iload_n hx hb hl 2 rfl dX11_readsRow_2 rfl ?_
      refine x_bipush hx hb dX11_readsRow_3 (by decide) ?_
      refine x_icmp_ge (tgt := 202) hx hb ri2_2 (by decide) dX11_readsRow_5 (by decide) (fun c1 => ?_) (fun c1 => ?_)
      · skip
        refine x_aload_n hx hb hl 0 rfl dX11_readsRow_202 rfl ?_
        refine x_goi (x_runV (As := []) hx hb hml hown hT hE hW hl.1 (Or.inl (by decide)) (so_268 h0 g _) rfl cf_X11_here wq1391 wq106 wq1389 (c_X11_here l D g T h0 s_2 hW.2.1 q2_0 q2_1 q2_2 q2_3) ⟨rfl, rfl, ⟨by decide, by decide⟩, ⟨by decide, by decide⟩⟩ rfl rfl (Nat.le_of_ble_eq_true rfl) dX11_readsRow_203) hW (fun x2 s3 H locs rx2 hp4 hW => ?_)
        obtain ⟨es3, hp4⟩ := hp4
        subst es3
        have ghp4 := hp4
        obtain ⟨c203, ec203⟩ : ∃ c : Int, c = x2 := ⟨_, rfl⟩
        have C203 : c203 = zch (xm8 (s0 276)) (s0 268 10) (s_2 268 9) := by rw [ec203, ← hF_2 276 (by omega), ← q2_6]; exact ghp4.1
        have Y203 := zkd_cs c203
        have Z203 := ztm_cs c203
        refine x_goi (x_runS (As := [.int (xJ x2)]) hx hb hml hown hT hE hW hl.1 cf_X11_isSpotSign wq1394 wq1393 (c_X11_isSpotSignM l D g T h0 s_2 hW.2.1 x2 rx2) ⟨rfl, rfl, ⟨by decide, by decide⟩, ⟨by decide, by decide⟩⟩ rfl rfl (Nat.le_of_ble_eq_true rfl) dX11_readsRow_206) hW (fun x5 s6 H locs rx5 hp7 hW => ?_)
        obtain ⟨es6, hp7⟩ := hp7
        subst es6
        have ghp7 := hp7
        refine x_if_ne (tgt := 222) hx hb rx5 dX11_readsRow_209 (by decide) (fun c8 => ?_) (fun c8 => ?_)
        · skip
          refine x_aload_n hx hb hl 0 rfl dX11_readsRow_222 rfl ?_
          refine x_bipush hx hb dX11_readsRow_223 (by decide) ?_
          refine x_aload_n hx hb hl 0 rfl dX11_readsRow_225 rfl ?_
          refine x_get (j := 9) (v := .int (xJ (s_2 268 9))) hx hb hown hT hE hW cls_X11 (Or.inl (by decide)) (so_268 h0 g _) (by decide) rfl wq1194 dX11_readsRow_226 ?_
          refine x_rd hW (fun x9 ex9 rx9 => ?_)
          have bx9 : 0 ≤ x9 ∧ x9 ≤ s_2 268 10 ∧ s_2 268 10 ≤ 240 := by rw [ex9]; exact q2_3
          refine x_goi (x_runV (As := [.int (xJ 6), .int (xJ x9)]) hx hb hml hown hT hE hW hl.1 (Or.inl (by decide)) (so_268 h0 g _) rfl cf_X11_wrongAt wq1401 wq107 wq1399 (c_X11_wrongAtM l D g T h0 s_2 hW.2.1 6 (by decide) x9 rx9 (by omega) q2_0 q2_1 q2_2 q2_3) ⟨rfl, rfl, ⟨by decide, by decide⟩, ⟨by decide, by decide⟩⟩ rfl rfl (Nat.le_of_ble_eq_true rfl) dX11_readsRow_229) hW (fun x10 s11 H locs rx10 hp12 hW => ?_)
          obtain ⟨fs11, hp12⟩ := hp12
          have hF13 := hF_2.call fs11 (fun k h => by omega)
          have ghp12 := hp12.2
          refine x_if_eq (tgt := 239) hx hb rx10 dX11_readsRow_232 (by decide) (fun c14 => ?_) (fun c14 => False.elim (by omega))
          refine x_iconst hx hb dX11_readsRow_239 ?_
          rw [eQ]
          exact x_zret hx hb hr hlk hW (by omega) ⟨hF13, ⟨hp12.1.1, hp12.1.2.1, hp12.1.2.2.1, hp12.1.2.2.2.1, (hp12.1.2.2.2.2.1.trans q2_4), (hp12.1.2.2.2.2.2.1.trans q2_5), (hp12.1.2.2.2.2.2.2.1.trans q2_6), (hp12.1.2.2.2.2.2.2.2.2.1.trans q2_7), (hp12.1.2.2.2.2.2.2.2.2.2.1.trans q2_8), trivial⟩, by first | exact Zpost.good (zR_ok (v2_1.fin (by omega)) ⟨by rw [← C203]; omega, by rw [← C203]; omega⟩) rfl (by omega) rfl | exact Zpost.bad (zR_six (v2_1.fin (by omega)) (by rw [← C203]; omega)) (fs11 288 (by omega)) (by omega) (by omega) (by omega)⟩ dX11_readsRow_240
        refine x_aload_n hx hb hl 0 rfl dX11_readsRow_212 rfl ?_
        refine x_goi (x_runV (As := []) hx hb hml hown hT hE hW hl.1 (Or.inl (by decide)) (so_268 h0 g _) rfl cf_X11_here wq1391 wq106 wq1389 (c_X11_here l D g T h0 s_2 hW.2.1 q2_0 q2_1 q2_2 q2_3) ⟨rfl, rfl, ⟨by decide, by decide⟩, ⟨by decide, by decide⟩⟩ rfl rfl (Nat.le_of_ble_eq_true rfl) dX11_readsRow_213) hW (fun x15 s16 H locs rx15 hp17 hW => ?_)
        obtain ⟨es16, hp17⟩ := hp17
        subst es16
        have ghp17 := hp17
        obtain ⟨c213, ec213⟩ : ∃ c : Int, c = x15 := ⟨_, rfl⟩
        have C213 : c213 = zch (xm8 (s0 276)) (s0 268 10) (s_2 268 9) := by rw [ec213, ← hF_2 276 (by omega), ← q2_6]; exact ghp17.1
        refine x_goi (x_runS (As := [.int (xJ x15)]) hx hb hml hown hT hE hW hl.1 cf_X11_isTimes wq1397 wq1396 (c_X11_isTimesM l D g T h0 s_2 hW.2.1 x15 rx15) ⟨rfl, rfl, ⟨by decide, by decide⟩, ⟨by decide, by decide⟩⟩ rfl rfl (Nat.le_of_ble_eq_true rfl) dX11_readsRow_216) hW (fun x18 s19 H locs rx18 hp20 hW => ?_)
        obtain ⟨es19, hp20⟩ := hp20
        subst es19
        have ghp20 := hp20
        refine x_if_eq (tgt := 235) hx hb rx18 dX11_readsRow_219 (by decide) (fun c21 => ?_) (fun c21 => ?_)
        · skip
          refine x_iconst hx hb dX11_readsRow_235 ?_
          refine lv_goto (tgt := 240) hx hb dX11_readsRow_236 (by decide) ?_
          rw [eQ]
          exact x_zret hx hb hr hlk hW (by omega) ⟨hF_2, ⟨q2_0, q2_1, q2_2, q2_3, q2_4, q2_5, q2_6, q2_7, q2_8, trivial⟩, by first | exact Zpost.good (zR_ok (v2_1.fin (by omega)) ⟨by rw [← C203]; omega, by rw [← C203]; omega⟩) rfl (by omega) rfl | exact Zpost.bad (zR_six (v2_1.fin (by omega)) (by rw [← C203]; omega)) (fs_2 288 (by omega)) (by omega) (by omega) (by omega)⟩ dX11_readsRow_240
        refine x_aload_n hx hb hl 0 rfl dX11_readsRow_222 rfl ?_
        refine x_bipush hx hb dX11_readsRow_223 (by decide) ?_
        refine x_aload_n hx hb hl 0 rfl dX11_readsRow_225 rfl ?_
        refine x_get (j := 9) (v := .int (xJ (s_2 268 9))) hx hb hown hT hE hW cls_X11 (Or.inl (by decide)) (so_268 h0 g _) (by decide) rfl wq1194 dX11_readsRow_226 ?_
        refine x_rd hW (fun x22 ex22 rx22 => ?_)
        have bx22 : 0 ≤ x22 ∧ x22 ≤ s_2 268 10 ∧ s_2 268 10 ≤ 240 := by rw [ex22]; exact q2_3
        refine x_goi (x_runV (As := [.int (xJ 6), .int (xJ x22)]) hx hb hml hown hT hE hW hl.1 (Or.inl (by decide)) (so_268 h0 g _) rfl cf_X11_wrongAt wq1401 wq107 wq1399 (c_X11_wrongAtM l D g T h0 s_2 hW.2.1 6 (by decide) x22 rx22 (by omega) q2_0 q2_1 q2_2 q2_3) ⟨rfl, rfl, ⟨by decide, by decide⟩, ⟨by decide, by decide⟩⟩ rfl rfl (Nat.le_of_ble_eq_true rfl) dX11_readsRow_229) hW (fun x23 s24 H locs rx23 hp25 hW => ?_)
        obtain ⟨fs24, hp25⟩ := hp25
        have hF26 := hF_2.call fs24 (fun k h => by omega)
        have ghp25 := hp25.2
        refine x_if_eq (tgt := 239) hx hb rx23 dX11_readsRow_232 (by decide) (fun c27 => ?_) (fun c27 => False.elim (by omega))
        refine x_iconst hx hb dX11_readsRow_239 ?_
        rw [eQ]
        exact x_zret hx hb hr hlk hW (by omega) ⟨hF26, ⟨hp25.1.1, hp25.1.2.1, hp25.1.2.2.1, hp25.1.2.2.2.1, (hp25.1.2.2.2.2.1.trans q2_4), (hp25.1.2.2.2.2.2.1.trans q2_5), (hp25.1.2.2.2.2.2.2.1.trans q2_6), (hp25.1.2.2.2.2.2.2.2.2.1.trans q2_7), (hp25.1.2.2.2.2.2.2.2.2.2.1.trans q2_8), trivial⟩, by first | exact Zpost.good (zR_ok (v2_1.fin (by omega)) ⟨by rw [← C203]; omega, by rw [← C203]; omega⟩) rfl (by omega) rfl | exact Zpost.bad (zR_six (v2_1.fin (by omega)) (by rw [← C203]; omega)) (fs24 288 (by omega)) (by omega) (by omega) (by omega)⟩ dX11_readsRow_240
      refine x_aload_n hx hb hl 0 rfl dX11_readsRow_8 rfl ?_
      refine x_goi (x_runV (As := []) hx hb hml hown hT hE hW hl.1 (Or.inl (by decide)) (so_268 h0 g _) rfl cf_X11_here wq1391 wq106 wq1389 (c_X11_here l D g T h0 s_2 hW.2.1 q2_0 q2_1 q2_2 q2_3) ⟨rfl, rfl, ⟨by decide, by decide⟩, ⟨by decide, by decide⟩⟩ rfl rfl (Nat.le_of_ble_eq_true rfl) dX11_readsRow_9) hW (fun x28 s29 H locs rx28 hp30 hW => ?_)
      obtain ⟨es29, hp30⟩ := hp30
      subst es29
      have ghp30 := hp30
      obtain ⟨c9, ec9⟩ : ∃ c : Int, c = x28 := ⟨_, rfl⟩
      have C9 : c9 = zch (xm8 (s0 276)) (s0 268 10) (s_2 268 9) := by rw [ec9, ← hF_2 276 (by omega), ← q2_6]; exact ghp30.1
      have T9 : ztm c9 = ztm (zch (xm8 (s0 276)) (s0 268 10) (s_2 268 9)) := by rw [← C9]
      have Z9 := ztm_cs c9
      have Y9 := zkd_cs c9
      have H9 := ghp30
      refine lv_istore_n (lv' := [(3, .int (xJ x28)), (0, .ref (h0 + 268)), (1, .int (xJ y)), (2, .int (xJ i2_2))]) hx hb dX11_readsRow_12 rfl hl (by decide) rfl (fun ls hl => ?_)
      refine x_iload_n hx hb hl 0 rfl dX11_readsRow_13 rfl ?_
      refine x_goi (x_runS (As := [.int (xJ x28)]) hx hb hml hown hT hE hW hl.1 cf_X11_isSpotSign wq1394 wq1393 (c_X11_isSpotSignM l D g T h0 s_2 hW.2.1 x28 rx28) ⟨rfl, rfl, ⟨by decide, by decide⟩, ⟨by decide, by decide⟩⟩ rfl rfl (Nat.le_of_ble_eq_true rfl) dX11_readsRow_14) hW (fun x31 s32 H locs rx31 hp33 hW => ?_)
      obtain ⟨es32, hp33⟩ := hp33
      subst es32
      have ghp33 := hp33
      have J37 : ∀ (H : Heap) (locs : List Loc) (ls : Array Slot), xW D g h0 s H locs s_2 → lv_has ls 6 [(0, .ref (h0 + 268)), (1, .int (xJ y)), (2, .int (xJ i2_2)), (3, .int (xJ x28))] → W p l e { frames := 2, cells := 0, slots := 0, locals := 42 } s m args below meth c H locs 0 0 Q (F0 m 37 ls []) := by
        intro H locs ls  hW hl
        refine x_iload_n hx hb hl 3 rfl dX11_readsRow_37 rfl ?_
        refine x_bipush hx hb dX11_readsRow_38 (by decide) ?_
        have J63 : ∀ (t0_63 : Int) (H : Heap) (locs : List Loc) (ls : Array Slot), (xR t0_63) → (1 ≤ t0_63 ∧ t0_63 ≤ 10) → ((0 < ztm c9 ∧ t0_63 = ztm c9) ∨ (ztm c9 ≤ 0 ∧ t0_63 = 1)) → xW D g h0 s H locs s_2 → lv_has ls 6 [(0, .ref (h0 + 268)), (1, .int (xJ y)), (2, .int (xJ i2_2))] → W p l e { frames := 2, cells := 0, slots := 0, locals := 42 } s m args below meth c H locs 0 0 Q (F0 m 63 ls [.int (xJ t0_63)]) := by
          intro t0_63 H locs ls rt0_63 v63_0 v63_1 hW hl
          refine lv_istore (lv' := [(4, .int (xJ t0_63)), (0, .ref (h0 + 268)), (1, .int (xJ y)), (2, .int (xJ i2_2))]) hx hb dX11_readsRow_63 hl (by decide) rfl (fun ls hl => ?_)
          refine x_iload_n hx hb hl 3 rfl dX11_readsRow_65 rfl ?_
          refine x_iload hx hb hl 0 rfl dX11_readsRow_66 ?_
          refine x_iadd hx hb dX11_readsRow_68 ?_
          refine x_bipush hx hb dX11_readsRow_69 (by decide) ?_
          refine x_icmp_le (tgt := 85) hx hb (by omega) (by decide) dX11_readsRow_71 (by decide) (fun c34 => ?_) (fun c34 => ?_)
          · skip
            refine x_iload hx hb hl 0 rfl dX11_readsRow_85 ?_
            refine x_iconst hx hb dX11_readsRow_87 ?_
            have J101 : ∀ (s_101 : xS) (H : Heap) (locs : List Loc) (ls : Array Slot), (xFr (fun k => k = 268 ∨ k = 288) s0 s_101) → (IMn s_101) → (IMk s_101) → (IMo s_101) → (IR s_101) → (s_101 268 8 = s0 268 8) → (s_101 268 58 = s0 268 58) → (s_101 268 10 = s0 268 10) → (s_101 268 17 = s0 268 17) → (s_101 268 48 = s0 268 48) → ((t0_63 > 1 ∧ s_101 268 9 = s_2 268 9 + 1) ∨ (t0_63 ≤ 1 ∧ s_101 268 9 = s_2 268 9)) → (s_101 288 = s_2 288) → xW D g h0 s H locs s_101 → lv_has ls 6 [(0, .ref (h0 + 268)), (1, .int (xJ y)), (2, .int (xJ i2_2)), (4, .int (xJ t0_63))] → W p l e { frames := 2, cells := 0, slots := 0, locals := 42 } s m args below meth c H locs 0 0 Q (F0 m 101 ls []) := by
              intro s_101 H locs ls hF_101 q101_0 q101_1 q101_2 q101_3 q101_4 q101_5 q101_6 q101_7 q101_8 v101_0 v101_1 hW hl
              refine x_aload_n hx hb hl 0 rfl dX11_readsRow_101 rfl ?_
              refine x_goi (x_runV (As := []) hx hb hml hown hT hE hW hl.1 (Or.inl (by decide)) (so_268 h0 g _) rfl cf_X11_here wq1391 wq106 wq1389 (c_X11_here l D g T h0 s_101 hW.2.1 q101_0 q101_1 q101_2 q101_3) ⟨rfl, rfl, ⟨by decide, by decide⟩, ⟨by decide, by decide⟩⟩ rfl rfl (Nat.le_of_ble_eq_true rfl) dX11_readsRow_102) hW (fun x35 s36 H locs rx35 hp37 hW => ?_)
              obtain ⟨es36, hp37⟩ := hp37
              subst es36
              have ghp37 := hp37
              obtain ⟨c102, ec102⟩ : ∃ c : Int, c = x35 := ⟨_, rfl⟩
              have C102 : c102 = zch (xm8 (s0 276)) (s0 268 10) (s_101 268 9) := by rw [ec102, ← hF_101 276 (by omega), ← q101_6]; exact ghp37.1
              have Y102 := zkd_cs c102
              refine lv_istore_n (lv' := [(3, .int (xJ x35)), (0, .ref (h0 + 268)), (1, .int (xJ y)), (2, .int (xJ i2_2)), (4, .int (xJ t0_63))]) hx hb dX11_readsRow_105 rfl hl (by decide) rfl (fun ls hl => ?_)
              refine x_iload_n hx hb hl 0 rfl dX11_readsRow_106 rfl ?_
              refine x_goi (x_runS (As := [.int (xJ x35)]) hx hb hml hown hT hE hW hl.1 cf_X11_isSpotSign wq1394 wq1393 (c_X11_isSpotSignM l D g T h0 s_101 hW.2.1 x35 rx35) ⟨rfl, rfl, ⟨by decide, by decide⟩, ⟨by decide, by decide⟩⟩ rfl rfl (Nat.le_of_ble_eq_true rfl) dX11_readsRow_107) hW (fun x38 s39 H locs rx38 hp40 hW => ?_)
              obtain ⟨es39, hp40⟩ := hp40
              subst es39
              have ghp40 := hp40
              refine x_if_ne (tgt := 123) hx hb rx38 dX11_readsRow_110 (by decide) (fun c41 => ?_) (fun c41 => ?_)
              · skip
                refine x_iconst hx hb dX11_readsRow_123 ?_
                refine lv_istore (lv' := [(5, .int (xJ 0)), (3, .int (xJ x35)), (0, .ref (h0 + 268)), (1, .int (xJ y)), (2, .int (xJ i2_2)), (4, .int (xJ t0_63))]) hx hb dX11_readsRow_124 hl (by decide) rfl (fun ls hl => ?_)
                have L126 : ∀ (fu : Nat) (i5_126 : Int) (s_126 : xS) (H : Heap) (locs : List Loc) (ls : Array Slot), (xR i5_126) → (xFr (fun k => k = 268 ∨ k = 288) s0 s_126) → (IMn s_126) → (IMk s_126) → (IMo s_126) → (IR s_126) → (s_126 268 8 = s0 268 8) → (s_126 268 58 = s0 268 58) → (s_126 268 10 = s0 268 10) → (s_126 268 17 = s0 268 17) → (s_126 268 48 = s0 268 48) → (0 ≤ i5_126 ∧ i5_126 ≤ t0_63) → (s_126 288 = zfill (s_2 288) (10 * y + i2_2) i5_126 (zkd c102)) → (s_126 268 9 = s_101 268 9) → (t0_63 - i5_126).toNat < fu → xW D g h0 s H locs s_126 → lv_has ls 6 [(0, .ref (h0 + 268)), (1, .int (xJ y)), (2, .int (xJ i2_2)), (3, .int (xJ x35)), (4, .int (xJ t0_63)), (5, .int (xJ i5_126))] → W p l e { frames := 2, cells := 0, slots := 0, locals := 42 } s m args below meth c H locs 0 0 Q (F0 m 126 ls []) := by
                  intro fu
                  induction fu with
                  | zero => intro i5_126 s_126 H locs ls ri5_126 hF_126 q126_0 q126_1 q126_2 q126_3 q126_4 q126_5 q126_6 q126_7 q126_8 v126_0 v126_1 v126_2 hm; exact absurd hm (Nat.not_lt_zero _)
                  | succ fu ih126 =>
                    intro i5_126 s_126 H locs ls ri5_126 hF_126 q126_0 q126_1 q126_2 q126_3 q126_4 q126_5 q126_6 q126_7 q126_8 v126_0 v126_1 v126_2 hm hW hl
                    refine x_iload hx hb hl 5 rfl dX11_readsRow_126 ?_
                    refine x_iload hx hb hl 4 rfl dX11_readsRow_128 ?_
                    refine x_icmp_ge (tgt := 184) hx hb ri5_126 rt0_63 dX11_readsRow_130 (by decide) (fun c42 => ?_) (fun c42 => ?_)
                    · skip
                      refine x_iload_n hx hb hl 2 rfl dX11_readsRow_184 rfl ?_
                      refine x_iload hx hb hl 4 rfl dX11_readsRow_185 ?_
                      refine x_iadd hx hb dX11_readsRow_187 ?_
                      refine x_nm (fun x43 ex43 => ?_)
                      refine lv_istore_n (lv' := [(2, .int (xJ x43)), (0, .ref (h0 + 268)), (1, .int (xJ y)), (3, .int (xJ x35)), (4, .int (xJ t0_63)), (5, .int (xJ i5_126))]) hx hb dX11_readsRow_188 rfl hl (by decide) rfl (fun ls hl => ?_)
                      refine x_aload_n hx hb hl 1 rfl dX11_readsRow_189 rfl ?_
                      refine x_aload_n hx hb hl 1 rfl dX11_readsRow_190 rfl ?_
                      refine x_get (j := 9) (v := .int (xJ (s_126 268 9))) hx hb hown hT hE hW cls_X11 (Or.inl (by decide)) (so_268 h0 g _) (by decide) rfl wq1194 dX11_readsRow_191 ?_
                      refine x_rd hW (fun x44 ex44 rx44 => ?_)
                      have bx44 : 0 ≤ x44 ∧ x44 ≤ s_126 268 10 ∧ s_126 268 10 ≤ 240 := by rw [ex44]; exact q126_3
                      refine x_iconst hx hb dX11_readsRow_194 ?_
                      refine x_iadd hx hb dX11_readsRow_195 ?_
                      refine x_put (j := 9) hx hb hown hT hE hW cls_X11 (by decide) (fun σ => so_268 h0 g σ) (by decide) (st_X11_9 h0 s_126 268 (x44 + 1)) (ln_X11_9 h0 _ _) wq1194 rfl rfl rfl (by omega) dX11_readsRow_196 (fun H locs s45 es45 hW => ?_)
                      have q46 : IMn s45 := by rw [es45]; exact IMn_268 q126_0 (by omega)
                      have q47 : IMk s45 := by rw [es45]; exact IMk_268 q126_1 (by omega)
                      have q48 : IMo s45 := by rw [es45]; exact IMo_o (by unfold suIMo; omega) q126_2
                      have q49 : IR s45 := by rw [es45]; exact IR_268 q126_3 (by omega)
                      have q50 : s45 268 8 = s0 268 8 := (show s45 268 8 = s_126 268 8 from by rw [es45, xU_j _ _ (by decide)]).trans q126_4
                      have q51 : s45 268 58 = s0 268 58 := (show s45 268 58 = s_126 268 58 from by rw [es45, xU_j _ _ (by decide)]).trans q126_5
                      have q52 : s45 268 10 = s0 268 10 := (show s45 268 10 = s_126 268 10 from by rw [es45, xU_j _ _ (by decide)]).trans q126_6
                      have q53 : s45 268 17 = s0 268 17 := (show s45 268 17 = s_126 268 17 from by rw [es45, xU_j _ _ (by decide)]).trans q126_7
                      have q54 : s45 268 48 = s0 268 48 := (show s45 268 48 = s_126 268 48 from by rw [es45, xU_j _ _ (by decide)]).trans q126_8
                      have q55 : s45 268 9 = (x44 + 1) := by rw [es45, xU_s]
                      have hF56 := hF_126.put es45 (by omega)
                      refine lv_goto (tgt := 2) hx hb dX11_readsRow_199 (by decide) ?_
                      exact ih2 x43 s45 H locs ls (by omega) hF56 q46 q47 q48 q49 q50 q51 q52 q53 q54 (by omega) (v2_1.step (t := ztm c9) (p1 := s_101 268 9) (v := zkd c102) (by omega) T9 (by omega) (by omega) (by rw [← C102]) (by omega) (by omega) (by omega) (by rw [es45, xU_k _ _ _ (by omega)]; exact v126_1.trans (zfill_c rfl (by omega) rfl))) (by omega) hW (lv_sub hl [1, 2, 0] rfl)
                    refine x_aload_n hx hb hl 0 rfl dX11_readsRow_133 rfl ?_
                    refine x_get (j := 29) (v := .ref (h0 + 288)) hx hb hown hT hE hW cls_X11 (Or.inl (by decide)) (so_268 h0 g _) (by decide) rfl wq1214 dX11_readsRow_134 ?_
                    refine x_bipush hx hb dX11_readsRow_137 (by decide) ?_
                    refine x_iload_n hx hb hl 1 rfl dX11_readsRow_139 rfl ?_
                    refine x_imul hx hb dX11_readsRow_140 ?_
                    refine x_iload_n hx hb hl 2 rfl dX11_readsRow_141 rfl ?_
                    refine x_iadd hx hb dX11_readsRow_142 ?_
                    refine x_iload hx hb hl 5 rfl dX11_readsRow_143 ?_
                    refine x_iadd hx hb dX11_readsRow_145 ?_
                    refine x_iload_n hx hb hl 3 rfl dX11_readsRow_146 rfl ?_
                    refine x_bipush hx hb dX11_readsRow_147 (by decide) ?_
                    refine x_icmp_ne (tgt := 156) hx hb rx35 (by decide) dX11_readsRow_149 (by decide) (fun c57 => ?_) (fun c57 => ?_)
                    · skip
                      refine x_iload_n hx hb hl 3 rfl dX11_readsRow_156 rfl ?_
                      refine x_bipush hx hb dX11_readsRow_157 (by decide) ?_
                      refine x_icmp_ne (tgt := 166) hx hb rx35 (by decide) dX11_readsRow_159 (by decide) (fun c58 => ?_) (fun c58 => ?_)
                      · skip
                        refine x_iload_n hx hb hl 3 rfl dX11_readsRow_166 rfl ?_
                        refine x_bipush hx hb dX11_readsRow_167 (by decide) ?_
                        refine x_icmp_ne (tgt := 176) hx hb rx35 (by decide) dX11_readsRow_169 (by decide) (fun c59 => ?_) (fun c59 => ?_)
                        · skip
                          refine x_iconst hx hb dX11_readsRow_176 ?_
                          refine x_iast hx hb hE hW (by decide) (fun σ => sa_288 h0 g σ) (by omega) (by decide) (by decide) dX11_readsRow_177 (fun H locs s60 es60 hW => ?_)
                          have q61 : IMn s60 := by rw [es60]; exact IMn_o (by unfold suIMn; omega) q126_0
                          have q62 : IMk s60 := by rw [es60]; exact IMk_o (by unfold suIMk; omega) q126_1
                          have q63 : IMo s60 := by rw [es60]; exact IMo_o (by unfold suIMo; omega) q126_2
                          have q64 : IR s60 := by rw [es60]; exact IR_o (by unfold suIR; omega) q126_3
                          have q65 : s60 268 8 = s0 268 8 := (show s60 268 8 = s_126 268 8 from by rw [es60, xU_k _ _ _ (by omega)]).trans q126_4
                          have q66 : s60 268 58 = s0 268 58 := (show s60 268 58 = s_126 268 58 from by rw [es60, xU_k _ _ _ (by omega)]).trans q126_5
                          have q67 : s60 268 10 = s0 268 10 := (show s60 268 10 = s_126 268 10 from by rw [es60, xU_k _ _ _ (by omega)]).trans q126_6
                          have q68 : s60 268 17 = s0 268 17 := (show s60 268 17 = s_126 268 17 from by rw [es60, xU_k _ _ _ (by omega)]).trans q126_7
                          have q69 : s60 268 48 = s0 268 48 := (show s60 268 48 = s_126 268 48 from by rw [es60, xU_k _ _ _ (by omega)]).trans q126_8
                          have hF70 := hF_126.put es60 (by omega)
                          have A177 : s60 288 = zfill (s_2 288) (10 * y + i2_2) (i5_126 + 1) (zkd c102) := by rw [es60, xU_xud]; exact zfill_s v126_1 (by omega) (by omega) rfl (by omega)
                          refine x_iinc (lv' := [(5, .int (xJ (i5_126 + 1))), (0, .ref (h0 + 268)), (1, .int (xJ y)), (2, .int (xJ i2_2)), (3, .int (xJ x35)), (4, .int (xJ t0_63))]) hx hb hl 5 rfl dX11_readsRow_178 (by decide) rfl (fun ls hl => ?_)
                          refine lv_goto (tgt := 126) hx hb dX11_readsRow_181 (by decide) ?_
                          exact ih126 (i5_126 + 1) s60 H locs ls (by omega) hF70 q61 q62 q63 q64 q65 q66 q67 q68 q69 (by omega) (A177) (by rw [es60, xU_k _ _ _ (by omega)]; exact v126_2) (by omega) hW (lv_sub hl [1, 2, 3, 4, 5, 0] rfl)
                        refine x_iconst hx hb dX11_readsRow_172 ?_
                        refine lv_goto (tgt := 177) hx hb dX11_readsRow_173 (by decide) ?_
                        refine x_iast hx hb hE hW (by decide) (fun σ => sa_288 h0 g σ) (by omega) (by decide) (by decide) dX11_readsRow_177 (fun H locs s71 es71 hW => ?_)
                        have q72 : IMn s71 := by rw [es71]; exact IMn_o (by unfold suIMn; omega) q126_0
                        have q73 : IMk s71 := by rw [es71]; exact IMk_o (by unfold suIMk; omega) q126_1
                        have q74 : IMo s71 := by rw [es71]; exact IMo_o (by unfold suIMo; omega) q126_2
                        have q75 : IR s71 := by rw [es71]; exact IR_o (by unfold suIR; omega) q126_3
                        have q76 : s71 268 8 = s0 268 8 := (show s71 268 8 = s_126 268 8 from by rw [es71, xU_k _ _ _ (by omega)]).trans q126_4
                        have q77 : s71 268 58 = s0 268 58 := (show s71 268 58 = s_126 268 58 from by rw [es71, xU_k _ _ _ (by omega)]).trans q126_5
                        have q78 : s71 268 10 = s0 268 10 := (show s71 268 10 = s_126 268 10 from by rw [es71, xU_k _ _ _ (by omega)]).trans q126_6
                        have q79 : s71 268 17 = s0 268 17 := (show s71 268 17 = s_126 268 17 from by rw [es71, xU_k _ _ _ (by omega)]).trans q126_7
                        have q80 : s71 268 48 = s0 268 48 := (show s71 268 48 = s_126 268 48 from by rw [es71, xU_k _ _ _ (by omega)]).trans q126_8
                        have hF81 := hF_126.put es71 (by omega)
                        have A177 : s71 288 = zfill (s_2 288) (10 * y + i2_2) (i5_126 + 1) (zkd c102) := by rw [es71, xU_xud]; exact zfill_s v126_1 (by omega) (by omega) rfl (by omega)
                        refine x_iinc (lv' := [(5, .int (xJ (i5_126 + 1))), (0, .ref (h0 + 268)), (1, .int (xJ y)), (2, .int (xJ i2_2)), (3, .int (xJ x35)), (4, .int (xJ t0_63))]) hx hb hl 5 rfl dX11_readsRow_178 (by decide) rfl (fun ls hl => ?_)
                        refine lv_goto (tgt := 126) hx hb dX11_readsRow_181 (by decide) ?_
                        exact ih126 (i5_126 + 1) s71 H locs ls (by omega) hF81 q72 q73 q74 q75 q76 q77 q78 q79 q80 (by omega) (A177) (by rw [es71, xU_k _ _ _ (by omega)]; exact v126_2) (by omega) hW (lv_sub hl [1, 2, 3, 4, 5, 0] rfl)
                      refine x_iconst hx hb dX11_readsRow_162 ?_
                      refine lv_goto (tgt := 177) hx hb dX11_readsRow_163 (by decide) ?_
                      refine x_iast hx hb hE hW (by decide) (fun σ => sa_288 h0 g σ) (by omega) (by decide) (by decide) dX11_readsRow_177 (fun H locs s82 es82 hW => ?_)
                      have q83 : IMn s82 := by rw [es82]; exact IMn_o (by unfold suIMn; omega) q126_0
                      have q84 : IMk s82 := by rw [es82]; exact IMk_o (by unfold suIMk; omega) q126_1
                      have q85 : IMo s82 := by rw [es82]; exact IMo_o (by unfold suIMo; omega) q126_2
                      have q86 : IR s82 := by rw [es82]; exact IR_o (by unfold suIR; omega) q126_3
                      have q87 : s82 268 8 = s0 268 8 := (show s82 268 8 = s_126 268 8 from by rw [es82, xU_k _ _ _ (by omega)]).trans q126_4
                      have q88 : s82 268 58 = s0 268 58 := (show s82 268 58 = s_126 268 58 from by rw [es82, xU_k _ _ _ (by omega)]).trans q126_5
                      have q89 : s82 268 10 = s0 268 10 := (show s82 268 10 = s_126 268 10 from by rw [es82, xU_k _ _ _ (by omega)]).trans q126_6
                      have q90 : s82 268 17 = s0 268 17 := (show s82 268 17 = s_126 268 17 from by rw [es82, xU_k _ _ _ (by omega)]).trans q126_7
                      have q91 : s82 268 48 = s0 268 48 := (show s82 268 48 = s_126 268 48 from by rw [es82, xU_k _ _ _ (by omega)]).trans q126_8
                      have hF92 := hF_126.put es82 (by omega)
                      have A177 : s82 288 = zfill (s_2 288) (10 * y + i2_2) (i5_126 + 1) (zkd c102) := by rw [es82, xU_xud]; exact zfill_s v126_1 (by omega) (by omega) rfl (by omega)
                      refine x_iinc (lv' := [(5, .int (xJ (i5_126 + 1))), (0, .ref (h0 + 268)), (1, .int (xJ y)), (2, .int (xJ i2_2)), (3, .int (xJ x35)), (4, .int (xJ t0_63))]) hx hb hl 5 rfl dX11_readsRow_178 (by decide) rfl (fun ls hl => ?_)
                      refine lv_goto (tgt := 126) hx hb dX11_readsRow_181 (by decide) ?_
                      exact ih126 (i5_126 + 1) s82 H locs ls (by omega) hF92 q83 q84 q85 q86 q87 q88 q89 q90 q91 (by omega) (A177) (by rw [es82, xU_k _ _ _ (by omega)]; exact v126_2) (by omega) hW (lv_sub hl [1, 2, 3, 4, 5, 0] rfl)
                    refine x_iconst hx hb dX11_readsRow_152 ?_
                    refine lv_goto (tgt := 177) hx hb dX11_readsRow_153 (by decide) ?_
                    refine x_iast hx hb hE hW (by decide) (fun σ => sa_288 h0 g σ) (by omega) (by decide) (by decide) dX11_readsRow_177 (fun H locs s93 es93 hW => ?_)
                    have q94 : IMn s93 := by rw [es93]; exact IMn_o (by unfold suIMn; omega) q126_0
                    have q95 : IMk s93 := by rw [es93]; exact IMk_o (by unfold suIMk; omega) q126_1
                    have q96 : IMo s93 := by rw [es93]; exact IMo_o (by unfold suIMo; omega) q126_2
                    have q97 : IR s93 := by rw [es93]; exact IR_o (by unfold suIR; omega) q126_3
                    have q98 : s93 268 8 = s0 268 8 := (show s93 268 8 = s_126 268 8 from by rw [es93, xU_k _ _ _ (by omega)]).trans q126_4
                    have q99 : s93 268 58 = s0 268 58 := (show s93 268 58 = s_126 268 58 from by rw [es93, xU_k _ _ _ (by omega)]).trans q126_5
                    have q100 : s93 268 10 = s0 268 10 := (show s93 268 10 = s_126 268 10 from by rw [es93, xU_k _ _ _ (by omega)]).trans q126_6
                    have q101 : s93 268 17 = s0 268 17 := (show s93 268 17 = s_126 268 17 from by rw [es93, xU_k _ _ _ (by omega)]).trans q126_7
                    have q102 : s93 268 48 = s0 268 48 := (show s93 268 48 = s_126 268 48 from by rw [es93, xU_k _ _ _ (by omega)]).trans q126_8
                    have hF103 := hF_126.put es93 (by omega)
                    have A177 : s93 288 = zfill (s_2 288) (10 * y + i2_2) (i5_126 + 1) (zkd c102) := by rw [es93, xU_xud]; exact zfill_s v126_1 (by omega) (by omega) rfl (by omega)
                    refine x_iinc (lv' := [(5, .int (xJ (i5_126 + 1))), (0, .ref (h0 + 268)), (1, .int (xJ y)), (2, .int (xJ i2_2)), (3, .int (xJ x35)), (4, .int (xJ t0_63))]) hx hb hl 5 rfl dX11_readsRow_178 (by decide) rfl (fun ls hl => ?_)
                    refine lv_goto (tgt := 126) hx hb dX11_readsRow_181 (by decide) ?_
                    exact ih126 (i5_126 + 1) s93 H locs ls (by omega) hF103 q94 q95 q96 q97 q98 q99 q100 q101 q102 (by omega) (A177) (by rw [es93, xU_k _ _ _ (by omega)]; exact v126_2) (by omega) hW (lv_sub hl [1, 2, 3, 4, 5, 0] rfl)
                exact L126 ((t0_63 - 0 : Int).toNat + 1) 0 s_101 H locs ls (by decide) hF_101 q101_0 q101_1 q101_2 q101_3 q101_4 q101_5 q101_6 q101_7 q101_8 (by omega) (by rw [v101_1]; exact zfill_0 _ _ _ rfl) (rfl) (Nat.lt_succ_self _) hW (lv_sub hl [2, 3, 4, 1, 5, 0] rfl)
              refine x_aload_n hx hb hl 1 rfl dX11_readsRow_113 rfl ?_
              refine x_iconst hx hb dX11_readsRow_114 ?_
              refine x_aload_n hx hb hl 1 rfl dX11_readsRow_115 rfl ?_
              refine x_get (j := 9) (v := .int (xJ (s_101 268 9))) hx hb hown hT hE hW cls_X11 (Or.inl (by decide)) (so_268 h0 g _) (by decide) rfl wq1194 dX11_readsRow_116 ?_
              refine x_rd hW (fun x104 ex104 rx104 => ?_)
              have bx104 : 0 ≤ x104 ∧ x104 ≤ s_101 268 10 ∧ s_101 268 10 ≤ 240 := by rw [ex104]; exact q101_3
              refine x_goi (x_runV (As := [.int (xJ 1), .int (xJ x104)]) hx hb hml hown hT hE hW hl.1 (Or.inl (by decide)) (so_268 h0 g _) rfl cf_X11_wrongAt wq1401 wq107 wq1399 (c_X11_wrongAtM l D g T h0 s_101 hW.2.1 1 (by decide) x104 rx104 (by omega) q101_0 q101_1 q101_2 q101_3) ⟨rfl, rfl, ⟨by decide, by decide⟩, ⟨by decide, by decide⟩⟩ rfl rfl (Nat.le_of_ble_eq_true rfl) dX11_readsRow_119) hW (fun x105 s106 H locs rx105 hp107 hW => ?_)
              obtain ⟨fs106, hp107⟩ := hp107
              have hF108 := hF_101.call fs106 (fun k h => by omega)
              have ghp107 := hp107.2
              rw [eQ]
              exact x_zret hx hb hr hlk hW (by omega) ⟨hF108, ⟨hp107.1.1, hp107.1.2.1, hp107.1.2.2.1, hp107.1.2.2.2.1, (hp107.1.2.2.2.2.1.trans q101_4), (hp107.1.2.2.2.2.2.1.trans q101_5), (hp107.1.2.2.2.2.2.2.1.trans q101_6), (hp107.1.2.2.2.2.2.2.2.2.1.trans q101_7), (hp107.1.2.2.2.2.2.2.2.2.2.1.trans q101_8), trivial⟩, Zpost.rbad (v2_1.one (t := ztm c9) (p1 := s_101 268 9) (by omega) T9 (by omega) (by omega) (by rw [← C102]; omega)) ((fs106 288 (by omega)).trans v101_1) (by omega) (by omega) (by omega)⟩ dX11_readsRow_122
            refine x_icmp_le (tgt := 101) hx hb rt0_63 (by decide) dX11_readsRow_88 (by decide) (fun c109 => ?_) (fun c109 => ?_)
            · skip
              exact J101 s_2 H locs ls hF_2 q2_0 q2_1 q2_2 q2_3 q2_4 q2_5 q2_6 q2_7 q2_8 (by omega) (by first | rfl | rw [es_2, xU_k _ _ _ (by omega)]) hW (lv_sub hl [1, 2, 3, 0] rfl)
            refine x_aload_n hx hb hl 1 rfl dX11_readsRow_91 rfl ?_
            refine x_aload_n hx hb hl 1 rfl dX11_readsRow_92 rfl ?_
            refine x_get (j := 9) (v := .int (xJ (s_2 268 9))) hx hb hown hT hE hW cls_X11 (Or.inl (by decide)) (so_268 h0 g _) (by decide) rfl wq1194 dX11_readsRow_93 ?_
            refine x_rd hW (fun x110 ex110 rx110 => ?_)
            have bx110 : 0 ≤ x110 ∧ x110 ≤ s_2 268 10 ∧ s_2 268 10 ≤ 240 := by rw [ex110]; exact q2_3
            refine x_iconst hx hb dX11_readsRow_96 ?_
            refine x_iadd hx hb dX11_readsRow_97 ?_
            refine x_put (j := 9) hx hb hown hT hE hW cls_X11 (by decide) (fun σ => so_268 h0 g σ) (by decide) (st_X11_9 h0 s_2 268 (x110 + 1)) (ln_X11_9 h0 _ _) wq1194 rfl rfl rfl (by omega) dX11_readsRow_98 (fun H locs s111 es111 hW => ?_)
            have q112 : IMn s111 := by rw [es111]; exact IMn_268 q2_0 (by omega)
            have q113 : IMk s111 := by rw [es111]; exact IMk_268 q2_1 (by omega)
            have q114 : IMo s111 := by rw [es111]; exact IMo_o (by unfold suIMo; omega) q2_2
            have q115 : IR s111 := by rw [es111]; exact IR_268 q2_3 (by omega)
            have q116 : s111 268 8 = s0 268 8 := (show s111 268 8 = s_2 268 8 from by rw [es111, xU_j _ _ (by decide)]).trans q2_4
            have q117 : s111 268 58 = s0 268 58 := (show s111 268 58 = s_2 268 58 from by rw [es111, xU_j _ _ (by decide)]).trans q2_5
            have q118 : s111 268 10 = s0 268 10 := (show s111 268 10 = s_2 268 10 from by rw [es111, xU_j _ _ (by decide)]).trans q2_6
            have q119 : s111 268 17 = s0 268 17 := (show s111 268 17 = s_2 268 17 from by rw [es111, xU_j _ _ (by decide)]).trans q2_7
            have q120 : s111 268 48 = s0 268 48 := (show s111 268 48 = s_2 268 48 from by rw [es111, xU_j _ _ (by decide)]).trans q2_8
            have q121 : s111 268 9 = (x110 + 1) := by rw [es111, xU_s]
            have hF122 := hF_2.put es111 (by omega)
            exact J101 s111 H locs ls hF122 q112 q113 q114 q115 q116 q117 q118 q119 q120 (by omega) (by first | rfl | rw [es111, xU_k _ _ _ (by omega)]) hW (lv_sub hl [1, 2, 3, 0] rfl)
          refine x_aload_n hx hb hl 1 rfl dX11_readsRow_74 rfl ?_
          refine x_bipush hx hb dX11_readsRow_75 (by decide) ?_
          refine x_aload_n hx hb hl 1 rfl dX11_readsRow_77 rfl ?_
          refine x_get (j := 9) (v := .int (xJ (s_2 268 9))) hx hb hown hT hE hW cls_X11 (Or.inl (by decide)) (so_268 h0 g _) (by decide) rfl wq1194 dX11_readsRow_78 ?_
          refine x_rd hW (fun x123 ex123 rx123 => ?_)
          have bx123 : 0 ≤ x123 ∧ x123 ≤ s_2 268 10 ∧ s_2 268 10 ≤ 240 := by rw [ex123]; exact q2_3
          refine x_goi (x_runV (As := [.int (xJ 6), .int (xJ x123)]) hx hb hml hown hT hE hW hl.1 (Or.inl (by decide)) (so_268 h0 g _) rfl cf_X11_wrongAt wq1401 wq107 wq1399 (c_X11_wrongAtM l D g T h0 s_2 hW.2.1 6 (by decide) x123 rx123 (by omega) q2_0 q2_1 q2_2 q2_3) ⟨rfl, rfl, ⟨by decide, by decide⟩, ⟨by decide, by decide⟩⟩ rfl rfl (Nat.le_of_ble_eq_true rfl) dX11_readsRow_81) hW (fun x124 s125 H locs rx124 hp126 hW => ?_)
          obtain ⟨fs125, hp126⟩ := hp126
          have hF127 := hF_2.call fs125 (fun k h => by omega)
          have ghp126 := hp126.2
          rw [eQ]
          exact x_zret hx hb hr hlk hW (by omega) ⟨hF127, ⟨hp126.1.1, hp126.1.2.1, hp126.1.2.2.1, hp126.1.2.2.2.1, (hp126.1.2.2.2.2.1.trans q2_4), (hp126.1.2.2.2.2.2.1.trans q2_5), (hp126.1.2.2.2.2.2.2.1.trans q2_6), (hp126.1.2.2.2.2.2.2.2.2.1.trans q2_7), (hp126.1.2.2.2.2.2.2.2.2.2.1.trans q2_8), trivial⟩, Zpost.rbad (v2_1.six (by omega) (by rw [← C9]; omega)) (fs125 288 (by omega)) (by omega) (by omega) (by omega)⟩ dX11_readsRow_84
        refine x_icmp_ne (tgt := 48) hx hb rx28 (by decide) dX11_readsRow_40 (by decide) (fun c128 => ?_) (fun c128 => ?_)
        · skip
          refine x_iload_n hx hb hl 3 rfl dX11_readsRow_48 rfl ?_
          refine x_goi (x_runS (As := [.int (xJ x28)]) hx hb hml hown hT hE hW hl.1 cf_X11_isTimes wq1397 wq1396 (c_X11_isTimesM l D g T h0 s_2 hW.2.1 x28 rx28) ⟨rfl, rfl, ⟨by decide, by decide⟩, ⟨by decide, by decide⟩⟩ rfl rfl (Nat.le_of_ble_eq_true rfl) dX11_readsRow_49) hW (fun x129 s130 H locs rx129 hp131 hW => ?_)
          obtain ⟨es130, hp131⟩ := hp131
          subst es130
          have ghp131 := hp131
          refine x_if_eq (tgt := 62) hx hb rx129 dX11_readsRow_52 (by decide) (fun c132 => ?_) (fun c132 => ?_)
          · skip
            refine x_iconst hx hb dX11_readsRow_62 ?_
            exact J63 1 H locs ls (by decide) (by omega) (by omega) hW (lv_sub hl [0, 1, 2] rfl)
          refine x_iload_n hx hb hl 3 rfl dX11_readsRow_55 rfl ?_
          refine x_bipush hx hb dX11_readsRow_56 (by decide) ?_
          refine x_isub hx hb dX11_readsRow_58 ?_
          refine lv_goto (tgt := 63) hx hb dX11_readsRow_59 (by decide) ?_
          exact J63 (x28 - 48) H locs ls (by omega) (by omega) (by omega) hW (lv_sub hl [0, 1, 2] rfl)
        refine x_bipush hx hb dX11_readsRow_43 (by decide) ?_
        refine lv_goto (tgt := 63) hx hb dX11_readsRow_45 (by decide) ?_
        exact J63 10 H locs ls (by decide) (by omega) (by omega) hW (lv_sub hl [0, 1, 2] rfl)
      refine x_if_ne (tgt := 37) hx hb rx31 dX11_readsRow_17 (by decide) (fun c133 => ?_) (fun c133 => ?_)
      · skip
        exact J37 H locs ls  hW (lv_sub hl [1, 2, 3, 0] rfl)
      refine x_iload_n hx hb hl 0 rfl dX11_readsRow_20 rfl ?_
      refine x_goi (x_runS (As := [.int (xJ x28)]) hx hb hml hown hT hE hW hl.1 cf_X11_isTimes wq1397 wq1396 (c_X11_isTimesM l D g T h0 s_2 hW.2.1 x28 rx28) ⟨rfl, rfl, ⟨by decide, by decide⟩, ⟨by decide, by decide⟩⟩ rfl rfl (Nat.le_of_ble_eq_true rfl) dX11_readsRow_21) hW (fun x134 s135 H locs rx134 hp136 hW => ?_)
      obtain ⟨es135, hp136⟩ := hp136
      subst es135
      have ghp136 := hp136
      refine x_if_ne (tgt := 37) hx hb rx134 dX11_readsRow_24 (by decide) (fun c137 => ?_) (fun c137 => ?_)
      · skip
        exact J37 H locs ls  hW (lv_sub hl [1, 2, 3, 0] rfl)
      refine x_aload_n hx hb hl 1 rfl dX11_readsRow_27 rfl ?_
      refine x_iconst hx hb dX11_readsRow_28 ?_
      refine x_aload_n hx hb hl 1 rfl dX11_readsRow_29 rfl ?_
      refine x_get (j := 9) (v := .int (xJ (s_2 268 9))) hx hb hown hT hE hW cls_X11 (Or.inl (by decide)) (so_268 h0 g _) (by decide) rfl wq1194 dX11_readsRow_30 ?_
      refine x_rd hW (fun x138 ex138 rx138 => ?_)
      have bx138 : 0 ≤ x138 ∧ x138 ≤ s_2 268 10 ∧ s_2 268 10 ≤ 240 := by rw [ex138]; exact q2_3
      refine x_goi (x_runV (As := [.int (xJ 1), .int (xJ x138)]) hx hb hml hown hT hE hW hl.1 (Or.inl (by decide)) (so_268 h0 g _) rfl cf_X11_wrongAt wq1401 wq107 wq1399 (c_X11_wrongAtM l D g T h0 s_2 hW.2.1 1 (by decide) x138 rx138 (by omega) q2_0 q2_1 q2_2 q2_3) ⟨rfl, rfl, ⟨by decide, by decide⟩, ⟨by decide, by decide⟩⟩ rfl rfl (Nat.le_of_ble_eq_true rfl) dX11_readsRow_33) hW (fun x139 s140 H locs rx139 hp141 hW => ?_)
      obtain ⟨fs140, hp141⟩ := hp141
      have hF142 := hF_2.call fs140 (fun k h => by omega)
      have ghp141 := hp141.2
      rw [eQ]
      exact x_zret hx hb hr hlk hW (by omega) ⟨hF142, ⟨hp141.1.1, hp141.1.2.1, hp141.1.2.2.1, hp141.1.2.2.2.1, (hp141.1.2.2.2.2.1.trans q2_4), (hp141.1.2.2.2.2.2.1.trans q2_5), (hp141.1.2.2.2.2.2.2.1.trans q2_6), (hp141.1.2.2.2.2.2.2.2.2.1.trans q2_7), (hp141.1.2.2.2.2.2.2.2.2.2.1.trans q2_8), trivial⟩, Zpost.rbad (v2_1.one (t := ztm c9) (p1 := s_2 268 9) (by omega) T9 (by omega) (by omega) (by rw [← C9]; omega)) (fs140 288 (by omega)) (by omega) (by omega) (by omega)⟩ dX11_readsRow_36
  exact L2 ((10 - 0 : Int).toNat + 1) 0 s0 H locs ls (by decide) hF p0 p1 p2 p3 k268_8 k268_58 k268_10 k268_17 k268_48 (by omega) (zRS.new) (Nat.lt_succ_self _) hW (lv_sub hl [1, 2, 0] rfl)
