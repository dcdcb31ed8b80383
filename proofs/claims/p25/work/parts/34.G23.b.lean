set_option maxHeartbeats 4000000 in
set_option maxRecDepth 100000 in
theorem c_X8_failsM (l : Launch) (D : va_G) (g : xG) (T : Nat × Nat × Nat) (h0 : Nat) (s0 : xS) (hσ : xRR s0) (a : Int) (ra : xR a) (b : Int) (rb : xR b) (hab : 0 ≤ a ∧ a ≤ 9 ∧ 0 ≤ b ∧ b ≤ 300) (p0 : IC s0) : Met l yX8_fails (xws yX8_fails cX8_fails 3 (some .boolean)) { frames := 0, cells := 0, slots := 0, locals := 0 } (xP [.ref (h0 + 1), .int (xJ a), .int (xJ b)] D g T h0 s0) (xQi D g h0 (fun r τ => xFr (fun k => k = 1) s0 τ ∧ (((IC τ) ∧ (τ 1 1 = s0 1 1) ∧ (τ 1 2 = s0 1 2) ∧ (τ 1 3 = s0 1 3) ∧ True) ∧ (r = 0 ∧ τ 1 4 = -1000 * a - b)))) 0 0 (xA h0) := by
  refine x_met hσ (by decide) (Nat.le_of_ble_eq_true rfl) ?_
  intro p e s m args below meth c hx hb hr hml hown hT hlk hnm hE hW ls hl
  have hl : lv_has ls 3 [(0, .ref (h0 + 1)), (1, .int (xJ a)), (2, .int (xJ b))] := hl
  obtain ⟨Q, eQ⟩ : ∃ Q, Q = MQ below (xQi D g h0 (fun r τ => xFr (fun k => k = 1) s0 τ ∧ (((IC τ) ∧ (τ 1 1 = s0 1 1) ∧ (τ 1 2 = s0 1 2) ∧ (τ 1 3 = s0 1 3) ∧ True) ∧ (r = 0 ∧ τ 1 4 = -1000 * a - b)))) args s 0 0 (xA h0) := ⟨_, rfl⟩
  rw [← eQ]
  generalize hHe : ([] : List Loc) = locs at hW ⊢
  obtain ⟨H, eH⟩ : ∃ H, H = s.heap := ⟨_, rfl⟩
  rw [← eH] at hW ⊢
  have hF : xFr (fun k => k = 1) s0 s0 := xFr.rf
  have k1_1 : s0 1 1 = s0 1 1 := rfl
  have k1_2 : s0 1 2 = s0 1 2 := rfl
  have k1_3 : s0 1 3 = s0 1 3 := rfl
  refine x_aload_n hx hb hl 0 rfl dX8_fails_0 rfl ?_
  refine x_sipush hx hb dX8_fails_1 (by decide) ?_
  refine x_iload_n hx hb hl 1 rfl dX8_fails_4 rfl ?_
  refine x_imul hx hb dX8_fails_5 ?_
  refine x_iload_n hx hb hl 2 rfl dX8_fails_6 rfl ?_
  refine x_isub hx hb dX8_fails_7 ?_
  refine x_put (j := 4) hx hb hown hT hE hW cls_X8 (by decide) (fun σ => so_1 h0 g σ) (by decide) (st_X8_4 h0 s0 1 (((-1000) * a) - b)) (ln_X8_4 h0 _ _) wq204 rfl rfl rfl (by omega) dX8_fails_8 (fun H locs s1 es1 hW => ?_)
  have q2 : IC s1 := by rw [es1]; exact IC_1 p0 (by omega)
  have q3 : s1 1 1 = s0 1 1 := (show s1 1 1 = s0 1 1 from by rw [es1, xU_j _ _ (by decide)]).trans k1_1
  have q4 : s1 1 2 = s0 1 2 := (show s1 1 2 = s0 1 2 from by rw [es1, xU_j _ _ (by decide)]).trans k1_2
  have q5 : s1 1 3 = s0 1 3 := (show s1 1 3 = s0 1 3 from by rw [es1, xU_j _ _ (by decide)]).trans k1_3
  have q6 : s1 1 4 = (((-1000) * a) - b) := by rw [es1, xU_s]
  have hF7 := hF.put es1 (by omega)
  refine x_iconst hx hb dX8_fails_11 ?_
  rw [eQ]
  exact x_zret hx hb hr hlk hW (by omega) ⟨hF7, ⟨q2, q3, q4, q5, trivial⟩, by omega⟩ dX8_fails_12
set_option maxHeartbeats 4000000 in
set_option maxRecDepth 100000 in
theorem c_X8_passesM (l : Launch) (D : va_G) (g : xG) (T : Nat × Nat × Nat) (h0 : Nat) (s0 : xS) (hσ : xRR s0) (a : Int) (ra : xR a) (ha : -1 ≤ a ∧ a ≤ 255) (hat : 0 ≤ s0 1 3 ∧ s0 1 3 ≤ 260 ∧ s0 1 2 ≤ 260) (p0 : IC s0) : Met l yX8_passes (xws yX8_passes cX8_passes 2 (some .boolean)) { frames := 1, cells := 0, slots := 0, locals := 22 } (xP [.ref (h0 + 1), .int (xJ a)] D g T h0 s0) (xQi D g h0 (fun r τ => xFr (fun k => k = 1) s0 τ ∧ (((IC τ) ∧ (τ 1 1 = s0 1 1) ∧ (τ 1 2 = s0 1 2) ∧ True) ∧ ((r = 1 ∧ zch (s0 2) (s0 1 2) (s0 1 3) = a ∧ τ 1 3 = s0 1 3 + 1) ∨ (r = 0 ∧ zch (s0 2) (s0 1 2) (s0 1 3) ≠ a ∧ τ 1 3 = s0 1 3 ∧ τ 1 4 = -1000 - s0 1 3))))) 0 0 (xA h0) := by
  refine x_met hσ (by decide) (Nat.le_of_ble_eq_true rfl) ?_
  intro p e s m args below meth c hx hb hr hml hown hT hlk hnm hE hW ls hl
  have hl : lv_has ls 2 [(0, .ref (h0 + 1)), (1, .int (xJ a))] := hl
  obtain ⟨Q, eQ⟩ : ∃ Q, Q = MQ below (xQi D g h0 (fun r τ => xFr (fun k => k = 1) s0 τ ∧ (((IC τ) ∧ (τ 1 1 = s0 1 1) ∧ (τ 1 2 = s0 1 2) ∧ True) ∧ ((r = 1 ∧ zch (s0 2) (s0 1 2) (s0 1 3) = a ∧ τ 1 3 = s0 1 3 + 1) ∨ (r = 0 ∧ zch (s0 2) (s0 1 2) (s0 1 3) ≠ a ∧ τ 1 3 = s0 1 3 ∧ τ 1 4 = -1000 - s0 1 3))))) args s 0 0 (xA h0) := ⟨_, rfl⟩
  rw [← eQ]
  generalize hHe : ([] : List Loc) = locs at hW ⊢
  obtain ⟨H, eH⟩ : ∃ H, H = s.heap := ⟨_, rfl⟩
  rw [← eH] at hW ⊢
  have hF : xFr (fun k => k = 1) s0 s0 := xFr.rf
  have k1_1 : s0 1 1 = s0 1 1 := rfl
  have k1_2 : s0 1 2 = s0 1 2 := rfl
  have k1_3 : s0 1 3 = s0 1 3 := rfl
  refine x_aload_n hx hb hl 0 rfl dX8_passes_0 rfl ?_
  refine x_goi (x_runV (As := []) hx hb hml hown hT hE hW hl.1 (Or.inl (by decide)) (so_1 h0 g _) rfl cf_X8_sign wq581 wq4 wq600 (c_X8_sign l D g T h0 s0 hW.2.1 p0) ⟨rfl, rfl, ⟨by decide, by decide⟩, ⟨by decide, by decide⟩⟩ rfl rfl (Nat.le_of_ble_eq_true rfl) dX8_passes_1) hW (fun x1 s2 H locs rx1 hp3 hW => ?_)
  obtain ⟨es2, hp3⟩ := hp3
  subst es2
  have ghp3 := hp3
  have C1 : x1 = zch (s0 2) (s0 1 2) (s0 1 3) := zch_i (by omega)
  refine x_iload_n hx hb hl 1 rfl dX8_passes_4 rfl ?_
  refine x_icmp_eq (tgt := 18) hx hb rx1 ra dX8_passes_5 (by decide) (fun c4 => ?_) (fun c4 => ?_)
  · skip
    refine x_aload_n hx hb hl 0 rfl dX8_passes_18 rfl ?_
    refine lv_dup hx hb dX8_passes_19 rfl ?_
    refine x_get (j := 3) (v := .int (xJ (s0 1 3))) hx hb hown hT hE hW cls_X8 (Or.inl (by decide)) (so_1 h0 g _) (by decide) rfl wq200 dX8_passes_20 ?_
    refine x_rd hW (fun x5 ex5 rx5 => ?_)
    have fx5 : x5 = s0 1 3 := ex5.trans k1_3
    refine x_iconst hx hb dX8_passes_23 ?_
    refine x_iadd hx hb dX8_passes_24 ?_
    refine x_put (j := 3) hx hb hown hT hE hW cls_X8 (by decide) (fun σ => so_1 h0 g σ) (by decide) (st_X8_3 h0 s0 1 (x5 + 1)) (ln_X8_3 h0 _ _) wq200 rfl rfl rfl (by omega) dX8_passes_25 (fun H locs s6 es6 hW => ?_)
    have q7 : IC s6 := by rw [es6]; exact IC_1 p0 (by omega)
    have q8 : s6 1 1 = s0 1 1 := (show s6 1 1 = s0 1 1 from by rw [es6, xU_j _ _ (by decide)]).trans k1_1
    have q9 : s6 1 2 = s0 1 2 := (show s6 1 2 = s0 1 2 from by rw [es6, xU_j _ _ (by decide)]).trans k1_2
    have q10 : s6 1 3 = (x5 + 1) := by rw [es6, xU_s]
    have hF11 := hF.put es6 (by omega)
    refine x_iconst hx hb dX8_passes_28 ?_
    rw [eQ]
    exact x_zret hx hb hr hlk hW (by omega) ⟨hF11, ⟨q7, q8, q9, trivial⟩, by omega⟩ dX8_passes_29
  refine x_aload_n hx hb hl 0 rfl dX8_passes_8 rfl ?_
  refine x_iconst hx hb dX8_passes_9 ?_
  refine x_aload_n hx hb hl 0 rfl dX8_passes_10 rfl ?_
  refine x_get (j := 3) (v := .int (xJ (s0 1 3))) hx hb hown hT hE hW cls_X8 (Or.inl (by decide)) (so_1 h0 g _) (by decide) rfl wq200 dX8_passes_11 ?_
  refine x_rd hW (fun x12 ex12 rx12 => ?_)
  have fx12 : x12 = s0 1 3 := ex12.trans k1_3
  refine x_goi (x_runV (As := [.int (xJ 1), .int (xJ x12)]) hx hb hml hown hT hE hW hl.1 (Or.inl (by decide)) (so_1 h0 g _) rfl cf_X8_fails wq588 wq5 wq601 (c_X8_failsM l D g T h0 s0 hW.2.1 1 (by decide) x12 rx12 (by omega) p0) ⟨rfl, rfl, ⟨by decide, by decide⟩, ⟨by decide, by decide⟩⟩ rfl rfl (Nat.le_of_ble_eq_true rfl) dX8_passes_14) hW (fun x13 s14 H locs rx13 hp15 hW => ?_)
  obtain ⟨fs14, hp15⟩ := hp15
  have hF16 := hF.call fs14 (fun k h => by omega)
  have ghp15 := hp15.2
  rw [eQ]
  exact x_zret hx hb hr hlk hW (by omega) ⟨hF16, ⟨hp15.1.1, (hp15.1.2.1.trans k1_1), (hp15.1.2.2.1.trans k1_2), trivial⟩, by omega⟩ dX8_passes_17
set_option maxHeartbeats 4000000 in
set_option maxRecDepth 100000 in
theorem c_X8_openM (l : Launch) (D : va_G) (g : xG) (T : Nat × Nat × Nat) (h0 : Nat) (s0 : xS) (hσ : xRR s0) (n : Int) (rn : xR n) (hn : 0 ≤ n ∧ n ≤ s0 1 1) (p0 : IC s0) : Met l yX8_open (xws yX8_open cX8_open 2 none) { frames := 1, cells := 0, slots := 0, locals := 14 } (xP [.ref (h0 + 1), .int (xJ n)] D g T h0 s0) (xQv D g h0 (fun τ => xFr (fun k => k = 1) s0 τ ∧ (((IC τ) ∧ (τ 1 1 = s0 1 1) ∧ True) ∧ (τ 1 2 = n ∧ τ 1 3 = 0)))) 0 0 (xA h0) := by
  refine x_met hσ (by decide) (Nat.le_of_ble_eq_true rfl) ?_
  intro p e s m args below meth c hx hb hr hml hown hT hlk hnm hE hW ls hl
  have hl : lv_has ls 2 [(0, .ref (h0 + 1)), (1, .int (xJ n))] := hl
  obtain ⟨Q, eQ⟩ : ∃ Q, Q = MQ below (xQv D g h0 (fun τ => xFr (fun k => k = 1) s0 τ ∧ (((IC τ) ∧ (τ 1 1 = s0 1 1) ∧ True) ∧ (τ 1 2 = n ∧ τ 1 3 = 0)))) args s 0 0 (xA h0) := ⟨_, rfl⟩
  rw [← eQ]
  generalize hHe : ([] : List Loc) = locs at hW ⊢
  obtain ⟨H, eH⟩ : ∃ H, H = s.heap := ⟨_, rfl⟩
  rw [← eH] at hW ⊢
  have hF : xFr (fun k => k = 1) s0 s0 := xFr.rf
  have k1_1 : s0 1 1 = s0 1 1 := rfl
  refine x_aload_n hx hb hl 0 rfl dX8_open_0 rfl ?_
  refine x_iload_n hx hb hl 1 rfl dX8_open_1 rfl ?_
  refine x_aload_n hx hb hl 0 rfl dX8_open_2 rfl ?_
  refine x_get (j := 1) (v := .int (xJ (s0 1 1))) hx hb hown hT hE hW cls_X8 (Or.inl (by decide)) (so_1 h0 g _) (by decide) rfl wq197 dX8_open_3 ?_
  refine x_rd hW (fun x1 ex1 rx1 => ?_)
  have bx1 : 0 ≤ x1 ∧ x1 ≤ 260 := by rw [ex1]; exact IC.t p0
  have fx1 : x1 = s0 1 1 := ex1.trans k1_1
  refine x_mmin hx hb hml hl.1 hown hT wq568 wq569 wq180 wq570 ⟨by decide, Nat.le_of_ble_eq_true rfl, by decide, by decide⟩ rn rx1 dX8_open_6 ?_
  refine x_nm (fun x2 ex2 => ?_)
  have fx2 : (x2 = n ∧ n ≤ x1) ∨ (x2 = x1 ∧ x1 ≤ n) := by rw [ex2]; split <;> omega
  refine x_put (j := 2) hx hb hown hT hE hW cls_X8 (by decide) (fun σ => so_1 h0 g σ) (by decide) (st_X8_2 h0 s0 1 x2) (ln_X8_2 h0 _ _) wq199 rfl rfl rfl (by omega) dX8_open_9 (fun H locs s3 es3 hW => ?_)
  have q4 : IC s3 := by rw [es3]; exact IC_1 p0 (by omega)
  have q5 : s3 1 1 = s0 1 1 := (show s3 1 1 = s0 1 1 from by rw [es3, xU_j _ _ (by decide)]).trans k1_1
  have q6 : s3 1 2 = x2 := by rw [es3, xU_s]
  have hF7 := hF.put es3 (by omega)
  refine x_aload_n hx hb hl 0 rfl dX8_open_12 rfl ?_
  refine x_iconst hx hb dX8_open_13 ?_
  refine x_put (j := 3) hx hb hown hT hE hW cls_X8 (by decide) (fun σ => so_1 h0 g σ) (by decide) (st_X8_3 h0 s3 1 0) (ln_X8_3 h0 _ _) wq200 rfl rfl rfl (by decide) dX8_open_14 (fun H locs s8 es8 hW => ?_)
  have q9 : IC s8 := by rw [es8]; exact IC_1 q4 (by omega)
  have q10 : s8 1 1 = s0 1 1 := (show s8 1 1 = s3 1 1 from by rw [es8, xU_j _ _ (by decide)]).trans q5
  have q11 : s8 1 2 = x2 := (show s8 1 2 = s3 1 2 from by rw [es8, xU_j _ _ (by decide)]).trans q6
  have q12 : s8 1 3 = 0 := by rw [es8, xU_s]
  have hF13 := hF7.put es8 (by omega)
  refine x_aload_n hx hb hl 0 rfl dX8_open_17 rfl ?_
  refine x_iconst hx hb dX8_open_18 ?_
  refine x_put (j := 4) hx hb hown hT hE hW cls_X8 (by decide) (fun σ => so_1 h0 g σ) (by decide) (st_X8_4 h0 s8 1 0) (ln_X8_4 h0 _ _) wq204 rfl rfl rfl (by decide) dX8_open_19 (fun H locs s14 es14 hW => ?_)
  have q15 : IC s14 := by rw [es14]; exact IC_1 q9 (by omega)
  have q16 : s14 1 1 = s0 1 1 := (show s14 1 1 = s8 1 1 from by rw [es14, xU_j _ _ (by decide)]).trans q10
  have q17 : s14 1 2 = x2 := (show s14 1 2 = s8 1 2 from by rw [es14, xU_j _ _ (by decide)]).trans q11
  have q18 : s14 1 3 = 0 := (show s14 1 3 = s8 1 3 from by rw [es14, xU_j _ _ (by decide)]).trans q12
  have hF19 := hF13.put es14 (by omega)
  rw [eQ]
  exact x_vret hx hb hr hlk hW ⟨hF19, ⟨q15, q16, trivial⟩, by omega⟩ dX8_open_22
set_option maxHeartbeats 4000000 in
set_option maxRecDepth 100000 in
theorem c_X8_dropM (l : Launch) (D : va_G) (g : xG) (T : Nat × Nat × Nat) (h0 : Nat) (s0 : xS) (hσ : xRR s0) (p0 : IC s0) : Met l yX8_drop (xws yX8_drop cX8_drop 1 none) { frames := 0, cells := 0, slots := 0, locals := 0 } (xP [.ref (h0 + 1)] D g T h0 s0) (xQv D g h0 (fun τ => xFr (fun k => k = 1) s0 τ ∧ (((IC τ) ∧ (τ 1 1 = 0) ∧ (τ 1 4 = s0 1 4) ∧ True) ∧ (True)))) 0 0 (xA h0) := by
  refine x_met hσ (by decide) (Nat.le_of_ble_eq_true rfl) ?_
  intro p e s m args below meth c hx hb hr hml hown hT hlk hnm hE hW ls hl
  have hl : lv_has ls 1 [(0, .ref (h0 + 1))] := hl
  obtain ⟨Q, eQ⟩ : ∃ Q, Q = MQ below (xQv D g h0 (fun τ => xFr (fun k => k = 1) s0 τ ∧ (((IC τ) ∧ (τ 1 1 = 0) ∧ (τ 1 4 = s0 1 4) ∧ True) ∧ (True)))) args s 0 0 (xA h0) := ⟨_, rfl⟩
  rw [← eQ]
  generalize hHe : ([] : List Loc) = locs at hW ⊢
  obtain ⟨H, eH⟩ : ∃ H, H = s.heap := ⟨_, rfl⟩
  rw [← eH] at hW ⊢
  have hF : xFr (fun k => k = 1) s0 s0 := xFr.rf
  have k1_4 : s0 1 4 = s0 1 4 := rfl
  refine x_aload_n hx hb hl 0 rfl dX8_drop_0 rfl ?_
  refine x_iconst hx hb dX8_drop_1 ?_
  refine x_put (j := 1) hx hb hown hT hE hW cls_X8 (by decide) (fun σ => so_1 h0 g σ) (by decide) (st_X8_1 h0 s0 1 0) (ln_X8_1 h0 _ _) wq197 rfl rfl rfl (by decide) dX8_drop_2 (fun H locs s1 es1 hW => ?_)
  have q2 : IC s1 := by rw [es1]; exact IC_1 p0 (by omega)
  have q3 : s1 1 4 = s0 1 4 := (show s1 1 4 = s0 1 4 from by rw [es1, xU_j _ _ (by decide)]).trans k1_4
  have q4 : s1 1 1 = 0 := by rw [es1, xU_s]
  have hF5 := hF.put es1 (by omega)
  rw [eQ]
  exact x_vret hx hb hr hlk hW ⟨hF5, ⟨q2, q4, q3, trivial⟩, trivial⟩ dX8_drop_5
set_option maxHeartbeats 4000000 in
set_option maxRecDepth 100000 in
theorem c_X6_readRowM (l : Launch) (D : va_G) (g : xG) (T : Nat × Nat × Nat) (h0 : Nat) (s0 : xS) (hσ : xRR s0) (y : Int) (ry : xR y) (hy : 0 ≤ y ∧ y < 10) (hat : 0 ≤ s0 1 3 ∧ s0 1 3 ≤ s0 1 2 ∧ s0 1 2 ≤ 260) (p0 : IC s0) : Met l yX6_readRow (xws yX6_readRow cX6_readRow 8 (some .boolean)) { frames := 1, cells := 0, slots := 0, locals := 22 } (xP [.ref (h0 + 3), .ref (h0 + 1), .int (xJ y)] D g T h0 s0) (xQi D g h0 (fun r τ => xFr (fun k => k = 1 ∨ k = 5) s0 τ ∧ (((IC τ) ∧ (τ 1 1 = s0 1 1) ∧ (τ 1 2 = s0 1 2) ∧ True) ∧ (Zpost (zrow (s0 2) (s0 1 2) y 10 (s0 1 3) 0 (s0 5)) r (τ 5) (τ 1 3) (τ 1 4) ∧ 0 ≤ τ 1 3 ∧ τ 1 3 ≤ s0 1 2)))) 0 0 (xA h0) := by
  refine x_met hσ (by decide) (Nat.le_of_ble_eq_true rfl) ?_
  intro p e s m args below meth c hx hb hr hml hown hT hlk hnm hE hW ls hl
  have hl : lv_has ls 8 [(0, .ref (h0 + 3)), (1, .ref (h0 + 1)), (2, .int (xJ y))] := hl
  obtain ⟨Q, eQ⟩ : ∃ Q, Q = MQ below (xQi D g h0 (fun r τ => xFr (fun k => k = 1 ∨ k = 5) s0 τ ∧ (((IC τ) ∧ (τ 1 1 = s0 1 1) ∧ (τ 1 2 = s0 1 2) ∧ True) ∧ (Zpost (zrow (s0 2) (s0 1 2) y 10 (s0 1 3) 0 (s0 5)) r (τ 5) (τ 1 3) (τ 1 4) ∧ 0 ≤ τ 1 3 ∧ τ 1 3 ≤ s0 1 2)))) args s 0 0 (xA h0) := ⟨_, rfl⟩
  rw [← eQ]
  generalize hHe : ([] : List Loc) = locs at hW ⊢
  obtain ⟨H, eH⟩ : ∃ H, H = s.heap := ⟨_, rfl⟩
  rw [← eH] at hW ⊢
  have hF : xFr (fun k => k = 1 ∨ k = 5) s0 s0 := xFr.rf
  have k1_1 : s0 1 1 = s0 1 1 := rfl
  have k1_2 : s0 1 2 = s0 1 2 := rfl
  refine x_iconst hx hb dX6_readRow_0 ?_
  refine lv_istore_n (lv' := [(3, .int (xJ 0)), (0, .ref (h0 + 3)), (1, .ref (h0 + 1)), (2, .int (xJ y))]) hx hb dX6_readRow_1 rfl hl (by decide) rfl (fun ls hl => ?_)
  refine x_iconst hx hb dX6_readRow_2 ?_
  refine lv_istore (lv' := [(4, .int (xJ 0)), (3, .int (xJ 0)), (0, .ref (h0 + 3)), (1, .ref (h0 + 1)), (2, .int (xJ y))]) hx hb dX6_readRow_3 hl (by decide) rfl (fun ls hl => ?_)
  have L5 : ∀ (fu : Nat) (i3_5 : Int) (i4_5 : Int) (s_5 : xS) (H : Heap) (locs : List Loc) (ls : Array Slot), (xR i3_5) → (xR i4_5) → (xFr (fun k => k = 1 ∨ k = 5) s0 s_5) → (IC s_5) → (s_5 1 1 = s0 1 1) → (s_5 1 2 = s0 1 2) → (0 ≤ i4_5 ∧ i4_5 ≤ i3_5 ∧ i3_5 ≤ 10) → (0 ≤ s_5 1 3 ∧ s_5 1 3 ≤ s0 1 2) → (zRS (s0 2) (s0 1 2) y (zrow (s0 2) (s0 1 2) y 10 (s0 1 3) 0 (s0 5)) (s_5 1 3) i3_5 (s_5 5)) → (10 - i4_5).toNat < fu → xW D g h0 s H locs s_5 → lv_has ls 8 [(0, .ref (h0 + 3)), (1, .ref (h0 + 1)), (2, .int (xJ y)), (3, .int (xJ i3_5)), (4, .int (xJ i4_5))] → W p l e { frames := 1, cells := 0, slots := 0, locals := 22 } s m args below meth c H locs 0 0 Q (F0 m 5 ls []) := by
    intro fu
    induction fu with
    | zero => intro i3_5 i4_5 s_5 H locs ls ri3_5 ri4_5 hF_5 q5_0 q5_1 q5_2 v5_0 v5_1 v5_2 hm; exact absurd hm (Nat.not_lt_zero _)
    | succ fu ih5 =>
      intro i3_5 i4_5 s_5 H locs ls ri3_5 ri4_5 hF_5 q5_0 q5_1 q5_2 v5_0 v5_1 v5_2 hm hW hl
      refine x_iload hx hb hl 4 rfl dX6_readRow_5 ?_
      refine x_bipush hx hb dX6_readRow_7 (by decide) ?_
      refine x_icmp_ge (tgt := 144) hx hb ri4_5 (by decide) dX6_readRow_9 (by decide) (fun c1 => ?_) (fun c1 => ?_)
      · skip
        refine x_iconst hx hb dX6_readRow_144 ?_
        rw [eQ]
        exact x_zret hx hb hr hlk hW (by omega) ⟨hF_5, ⟨q5_0, q5_1, q5_2, trivial⟩, ⟨Zpost.good (v5_2.fin (by omega)) rfl (by omega) rfl, by omega, by omega⟩⟩ dX6_readRow_145
      refine x_iload_n hx hb hl 3 rfl dX6_readRow_12 rfl ?_
      refine x_bipush hx hb dX6_readRow_13 (by decide) ?_
      refine x_icmp_ge (tgt := 144) hx hb ri3_5 (by decide) dX6_readRow_15 (by decide) (fun c2 => ?_) (fun c2 => ?_)
      · skip
        refine x_iconst hx hb dX6_readRow_144 ?_
        rw [eQ]
        exact x_zret hx hb hr hlk hW (by omega) ⟨hF_5, ⟨q5_0, q5_1, q5_2, trivial⟩, ⟨Zpost.good (v5_2.fin (by omega)) rfl (by omega) rfl, by omega, by omega⟩⟩ dX6_readRow_145
      refine x_aload_n hx hb hl 1 rfl dX6_readRow_18 rfl ?_
      refine x_goi (x_runVN (As := []) hx hb hml hown hT hE hW hl.1 (Or.inl (by decide)) (so_1 h0 g _) rfl cf_X8_sign wq581 wq4 wn579 (c_X8_sign l D g T h0 s_5 hW.2.1 q5_0) ⟨rfl, rfl, ⟨by decide, by decide⟩, ⟨by decide, by decide⟩⟩ rfl rfl (Nat.le_of_ble_eq_true rfl) dX6_readRow_19) hW (fun x3 s4 H locs rx3 hp5 hW => ?_)
      obtain ⟨es4, hp5⟩ := hp5
      subst es4
      have ghp5 := hp5
      have C19 : x3 = zch (s0 2) (s0 1 2) (s_5 1 3) := zch_i (by have q := congrFun (hF_5 2 (by omega)) (s_5 1 3); omega)
      refine x_goi (x_runS (As := [.int (xJ x3)]) hx hb hml hown hT hE hW hl.1 cf_X6_timesOf wq584 wq583 (c_X6_timesOf l D g T h0 s_5 hW.2.1 x3 rx3) ⟨rfl, rfl, ⟨by decide, by decide⟩, ⟨by decide, by decide⟩⟩ rfl rfl (Nat.le_of_ble_eq_true rfl) dX6_readRow_22) hW (fun x6 s7 H locs rx6 hp8 hW => ?_)
      obtain ⟨es7, hp8⟩ := hp8
      subst es7
      have ghp8 := hp8
      have T22 := ztm_i ghp8
      rw [C19] at T22
      refine lv_istore (lv' := [(5, .int (xJ x6)), (0, .ref (h0 + 3)), (1, .ref (h0 + 1)), (2, .int (xJ y)), (3, .int (xJ i3_5)), (4, .int (xJ i4_5))]) hx hb dX6_readRow_25 hl (by decide) rfl (fun ls hl => ?_)
      refine x_iload_n hx hb hl 4 rfl dX6_readRow_27 rfl ?_
      refine x_iload hx hb hl 0 rfl dX6_readRow_28 ?_
      refine x_iadd hx hb dX6_readRow_30 ?_
      refine x_bipush hx hb dX6_readRow_31 (by decide) ?_
      refine x_icmp_le (tgt := 47) hx hb (by omega) (by decide) dX6_readRow_33 (by decide) (fun c9 => ?_) (fun c9 => ?_)
      · skip
        refine x_iload hx hb hl 0 rfl dX6_readRow_47 ?_
        have J62 : ∀ (s_62 : xS) (H : Heap) (locs : List Loc) (ls : Array Slot), (xFr (fun k => k = 1 ∨ k = 5) s0 s_62) → (IC s_62) → (s_62 1 1 = s0 1 1) → (s_62 1 2 = s0 1 2) → ((x6 > 0 ∧ s_62 1 3 = s_5 1 3 + 1 ∧ s_5 1 3 < s0 1 2) ∨ (x6 ≤ 0 ∧ s_62 1 3 = s_5 1 3)) → (s_62 5 = s_5 5) → xW D g h0 s H locs s_62 → lv_has ls 8 [(0, .ref (h0 + 3)), (1, .ref (h0 + 1)), (2, .int (xJ y)), (3, .int (xJ i3_5)), (4, .int (xJ i4_5)), (5, .int (xJ x6))] → W p l e { frames := 1, cells := 0, slots := 0, locals := 22 } s m args below meth c H locs 0 0 Q (F0 m 62 ls []) := by
          intro s_62 H locs ls hF_62 q62_0 q62_1 q62_2 v62_0 v62_1 hW hl
          refine x_aload_n hx hb hl 1 rfl dX6_readRow_62 rfl ?_
          refine x_goi (x_runVN (As := []) hx hb hml hown hT hE hW hl.1 (Or.inl (by decide)) (so_1 h0 g _) rfl cf_X8_sign wq581 wq4 wn579 (c_X8_sign l D g T h0 s_62 hW.2.1 q62_0) ⟨rfl, rfl, ⟨by decide, by decide⟩, ⟨by decide, by decide⟩⟩ rfl rfl (Nat.le_of_ble_eq_true rfl) dX6_readRow_63) hW (fun x10 s11 H locs rx10 hp12 hW => ?_)
          obtain ⟨es11, hp12⟩ := hp12
          subst es11
          have ghp12 := hp12
          have C63 : x10 = zch (s0 2) (s0 1 2) (s_62 1 3) := zch_i (by have q := congrFun (hF_62 2 (by omega)) (s_62 1 3); omega)
          refine x_goi (x_runS (As := [.int (xJ x10)]) hx hb hml hown hT hE hW hl.1 cf_X6_kindOf wq591 wq590 (c_X6_kindOf l D g T h0 s_62 hW.2.1 x10 rx10) ⟨rfl, rfl, ⟨by decide, by decide⟩, ⟨by decide, by decide⟩⟩ rfl rfl (Nat.le_of_ble_eq_true rfl) dX6_readRow_66) hW (fun x13 s14 H locs rx13 hp15 hW => ?_)
          obtain ⟨es14, hp15⟩ := hp15
          subst es14
          have ghp15 := hp15
          have T66 := zkd_i ghp15
          rw [C63] at T66
          refine lv_istore (lv' := [(6, .int (xJ x13)), (0, .ref (h0 + 3)), (1, .ref (h0 + 1)), (2, .int (xJ y)), (3, .int (xJ i3_5)), (4, .int (xJ i4_5)), (5, .int (xJ x6))]) hx hb dX6_readRow_69 hl (by decide) rfl (fun ls hl => ?_)
          refine x_iload hx hb hl 0 rfl dX6_readRow_71 ?_
          refine x_iconst hx hb dX6_readRow_73 ?_
          refine x_icmp_ne (tgt := 87) hx hb rx13 (by decide) dX6_readRow_74 (by decide) (fun c16 => ?_) (fun c16 => ?_)
          · skip
            refine x_aload_n hx hb hl 2 rfl dX6_readRow_87 rfl ?_
            refine lv_dup hx hb dX6_readRow_88 rfl ?_
            refine x_getN (j := 3) (v := .int (xJ (s_62 1 3))) hx hb hown hT hE hW cls_X8 (Or.inl (by decide)) (so_1 h0 g _) (by decide) rfl wn203 dX6_readRow_89 ?_
            refine x_rd hW (fun x17 ex17 rx17 => ?_)
            refine x_iconst hx hb dX6_readRow_92 ?_
            refine x_iadd hx hb dX6_readRow_93 ?_
            refine x_putN (j := 3) hx hb hown hT hE hW cls_X8 (by decide) (fun σ => so_1 h0 g σ) (by decide) (st_X8_3 h0 s_62 1 (x17 + 1)) (ln_X8_3 h0 _ _) wn203 rfl rfl rfl (by omega) dX6_readRow_94 (fun H locs s18 es18 hW => ?_)
            have q19 : IC s18 := by rw [es18]; exact IC_1 q62_0 (by omega)
            have q20 : s18 1 1 = s0 1 1 := (show s18 1 1 = s_62 1 1 from by rw [es18, xU_j _ _ (by decide)]).trans q62_1
            have q21 : s18 1 2 = s0 1 2 := (show s18 1 2 = s_62 1 2 from by rw [es18, xU_j _ _ (by decide)]).trans q62_2
            have q22 : s18 1 3 = (x17 + 1) := by rw [es18, xU_s]
            have hF23 := hF_62.put es18 (by omega)
            refine x_iload_n hx hb hl 4 rfl dX6_readRow_97 rfl ?_
            refine x_iload hx hb hl 6 rfl dX6_readRow_98 ?_
            refine x_iconst hx hb dX6_readRow_100 ?_
            refine x_mmax hx hb hml hl.1 hown hT wq593 wq594 wq180 wq595 ⟨by decide, Nat.le_of_ble_eq_true rfl, by decide, by decide⟩ rx6 (by decide) dX6_readRow_101 ?_
            refine x_nm (fun x24 ex24 => ?_)
            have fx24 : (x24 = x6 ∧ 1 ≤ x6) ∨ (x24 = 1 ∧ x6 ≤ 1) := by rw [ex24]; split <;> omega
            refine x_iadd hx hb dX6_readRow_104 ?_
            refine x_nm (fun x25 ex25 => ?_)
            refine lv_istore (lv' := [(7, .int (xJ x25)), (6, .int (xJ x13)), (0, .ref (h0 + 3)), (1, .ref (h0 + 1)), (2, .int (xJ y)), (3, .int (xJ i3_5)), (4, .int (xJ i4_5)), (5, .int (xJ x6))]) hx hb dX6_readRow_105 hl (by decide) rfl (fun ls hl => ?_)
            have L107 : ∀ (fu : Nat) (i3_107 : Int) (s_107 : xS) (H : Heap) (locs : List Loc) (ls : Array Slot), (xR i3_107) → (xFr (fun k => k = 1 ∨ k = 5) s0 s_107) → (IC s_107) → (s_107 1 1 = s0 1 1) → (s_107 1 2 = s0 1 2) → (s_107 1 3 = (x17 + 1)) → (i3_5 ≤ i3_107 ∧ i3_107 ≤ x25 ∧ i3_107 ≤ 10) → (s_107 5 = zfill (s_5 5) (10 * y + i3_5) (i3_107 - i3_5) x13) → (x25 - i3_107).toNat < fu → xW D g h0 s H locs s_107 → lv_has ls 8 [(0, .ref (h0 + 3)), (1, .ref (h0 + 1)), (2, .int (xJ y)), (3, .int (xJ i3_107)), (4, .int (xJ i4_5)), (6, .int (xJ x13)), (7, .int (xJ x25))] → W p l e { frames := 1, cells := 0, slots := 0, locals := 22 } s m args below meth c H locs 0 0 Q (F0 m 107 ls []) := by
              intro fu
              induction fu with
              | zero => intro i3_107 s_107 H locs ls ri3_107 hF_107 q107_0 q107_1 q107_2 q107_3 v107_0 v107_1 hm; exact absurd hm (Nat.not_lt_zero _)
              | succ fu ih107 =>
                intro i3_107 s_107 H locs ls ri3_107 hF_107 q107_0 q107_1 q107_2 q107_3 v107_0 v107_1 hm hW hl
                refine x_iload_n hx hb hl 3 rfl dX6_readRow_107 rfl ?_
                refine x_iload hx hb hl 6 rfl dX6_readRow_108 ?_
                refine x_icmp_ge (tgt := 138) hx hb ri3_107 (by omega) dX6_readRow_110 (by decide) (fun c26 => ?_) (fun c26 => ?_)
                · skip
                  refine x_iinc (lv' := [(4, .int (xJ (i4_5 + 1))), (0, .ref (h0 + 3)), (1, .ref (h0 + 1)), (2, .int (xJ y)), (3, .int (xJ i3_107)), (6, .int (xJ x13)), (7, .int (xJ x25))]) hx hb hl 4 rfl dX6_readRow_138 (by decide) rfl (fun ls hl => ?_)
                  refine lv_goto (tgt := 5) hx hb dX6_readRow_141 (by decide) ?_
                  exact ih5 i3_107 (i4_5 + 1) s_107 H locs ls ri3_107 (by omega) hF_107 q107_0 q107_1 q107_2 (by omega) (by omega) (v5_2.step (p1 := s_62 1 3) (v := x13) (by omega) T22 (by omega) (by omega) T66 (by omega) (by omega) (by omega) v107_1) (by omega) hW (lv_sub hl [1, 2, 3, 4, 0] rfl)
                refine x_iload_n hx hb hl 3 rfl dX6_readRow_113 rfl ?_
                refine x_bipush hx hb dX6_readRow_114 (by decide) ?_
                refine x_icmp_ge (tgt := 138) hx hb ri3_107 (by decide) dX6_readRow_116 (by decide) (fun c27 => ?_) (fun c27 => ?_)
                · skip
                  refine x_iinc (lv' := [(4, .int (xJ (i4_5 + 1))), (0, .ref (h0 + 3)), (1, .ref (h0 + 1)), (2, .int (xJ y)), (3, .int (xJ i3_107)), (6, .int (xJ x13)), (7, .int (xJ x25))]) hx hb hl 4 rfl dX6_readRow_138 (by decide) rfl (fun ls hl => ?_)
                  refine lv_goto (tgt := 5) hx hb dX6_readRow_141 (by decide) ?_
                  exact ih5 i3_107 (i4_5 + 1) s_107 H locs ls ri3_107 (by omega) hF_107 q107_0 q107_1 q107_2 (by omega) (by omega) (v5_2.step (p1 := s_62 1 3) (v := x13) (by omega) T22 (by omega) (by omega) T66 (by omega) (by omega) (by omega) v107_1) (by omega) hW (lv_sub hl [1, 2, 3, 4, 0] rfl)
                refine x_aload_n hx hb hl 0 rfl dX6_readRow_119 rfl ?_
                refine x_get (j := 1) (v := .ref (h0 + 5)) hx hb hown hT hE hW cls_X6 (Or.inl (by decide)) (so_3 h0 g _) (by decide) rfl wq227 dX6_readRow_120 ?_
                refine x_bipush hx hb dX6_readRow_123 (by decide) ?_
                refine x_iload_n hx hb hl 2 rfl dX6_readRow_125 rfl ?_
                refine x_imul hx hb dX6_readRow_126 ?_
                refine x_iload_n hx hb hl 3 rfl dX6_readRow_127 rfl ?_
                refine x_iadd hx hb dX6_readRow_128 ?_
                refine x_iload hx hb hl 5 rfl dX6_readRow_129 ?_
                refine x_iast hx hb hE hW (by decide) (fun σ => sa_5 h0 g σ) (by omega) (by decide) rx13 dX6_readRow_131 (fun H locs s28 es28 hW => ?_)
                have q29 : IC s28 := by rw [es28]; exact IC_o (by decide) q107_0
                have q30 : s28 1 1 = s0 1 1 := (show s28 1 1 = s_107 1 1 from by rw [es28, xU_k _ _ _ (by omega)]).trans q107_1
                have q31 : s28 1 2 = s0 1 2 := (show s28 1 2 = s_107 1 2 from by rw [es28, xU_k _ _ _ (by omega)]).trans q107_2
                have q32 : s28 1 3 = (x17 + 1) := (show s28 1 3 = s_107 1 3 from by rw [es28, xU_k _ _ _ (by omega)]).trans q107_3
                have hF33 := hF_107.put es28 (by omega)
                have A131 : s28 5 = zfill (s_5 5) (10 * y + i3_5) (i3_107 + 1 - i3_5) x13 := by rw [es28, xU_xud]; exact zfill_s v107_1 (by omega) (by omega) (by omega) rfl
                refine x_iinc (lv' := [(3, .int (xJ (i3_107 + 1))), (0, .ref (h0 + 3)), (1, .ref (h0 + 1)), (2, .int (xJ y)), (4, .int (xJ i4_5)), (6, .int (xJ x13)), (7, .int (xJ x25))]) hx hb hl 3 rfl dX6_readRow_132 (by decide) rfl (fun ls hl => ?_)
                refine lv_goto (tgt := 107) hx hb dX6_readRow_135 (by decide) ?_
                exact ih107 (i3_107 + 1) s28 H locs ls (by omega) hF33 q29 q30 q31 q32 (by omega) (A131) (by omega) hW (lv_sub hl [1, 2, 3, 0, 4, 5, 6] rfl)
            exact L107 ((x25 - i3_5 : Int).toNat + 1) i3_5 s18 H locs ls ri3_5 hF23 q19 q20 q21 q22 (by omega) (by rw [es18, xU_k _ _ _ (by omega), v62_1]; exact zfill_0 _ _ _ (by omega)) (Nat.lt_succ_self _) hW (lv_sub hl [2, 3, 4, 5, 6, 1, 0] rfl)
          refine x_aload_n hx hb hl 2 rfl dX6_readRow_77 rfl ?_
          refine x_iconst hx hb dX6_readRow_78 ?_
          refine x_aload_n hx hb hl 2 rfl dX6_readRow_79 rfl ?_
          refine x_getN (j := 3) (v := .int (xJ (s_62 1 3))) hx hb hown hT hE hW cls_X8 (Or.inl (by decide)) (so_1 h0 g _) (by decide) rfl wn203 dX6_readRow_80 ?_
          refine x_rd hW (fun x34 ex34 rx34 => ?_)
          refine x_goi (x_runVN (As := [.int (xJ 1), .int (xJ x34)]) hx hb hml hown hT hE hW hl.1 (Or.inl (by decide)) (so_1 h0 g _) rfl cf_X8_fails wq588 wq5 wn586 (c_X8_failsM l D g T h0 s_62 hW.2.1 1 (by decide) x34 rx34 (by omega) q62_0) ⟨rfl, rfl, ⟨by decide, by decide⟩, ⟨by decide, by decide⟩⟩ rfl rfl (Nat.le_of_ble_eq_true rfl) dX6_readRow_83) hW (fun x35 s36 H locs rx35 hp37 hW => ?_)
          obtain ⟨fs36, hp37⟩ := hp37
          have hF38 := hF_62.call fs36 (fun k h => by omega)
          have ghp37 := hp37.2
          rw [eQ]
          exact x_zret hx hb hr hlk hW (by omega) ⟨hF38, ⟨hp37.1.1, (hp37.1.2.1.trans q62_1), (hp37.1.2.2.1.trans q62_2), trivial⟩, ⟨Zpost.bad (v5_2.one (p1 := s_62 1 3) (by omega) T22 (by omega) (by omega) (by omega)) ((fs36 5 (by omega)).trans v62_1) (by omega) (by omega) (by omega), by omega, by omega⟩⟩ dX6_readRow_86
        refine x_if_le (tgt := 62) hx hb rx6 dX6_readRow_49 (by decide) (fun c39 => ?_) (fun c39 => ?_)
        · skip
          exact J62 s_5 H locs ls hF_5 q5_0 q5_1 q5_2 (by omega) (by first | rfl | rw [es_5, xU_k _ _ _ (by omega)]) hW (lv_sub hl [1, 2, 3, 4, 5, 0] rfl)
        refine x_aload_n hx hb hl 2 rfl dX6_readRow_52 rfl ?_
        refine lv_dup hx hb dX6_readRow_53 rfl ?_
        refine x_getN (j := 3) (v := .int (xJ (s_5 1 3))) hx hb hown hT hE hW cls_X8 (Or.inl (by decide)) (so_1 h0 g _) (by decide) rfl wn203 dX6_readRow_54 ?_
        refine x_rd hW (fun x40 ex40 rx40 => ?_)
        refine x_iconst hx hb dX6_readRow_57 ?_
        refine x_iadd hx hb dX6_readRow_58 ?_
        refine x_putN (j := 3) hx hb hown hT hE hW cls_X8 (by decide) (fun σ => so_1 h0 g σ) (by decide) (st_X8_3 h0 s_5 1 (x40 + 1)) (ln_X8_3 h0 _ _) wn203 rfl rfl rfl (by omega) dX6_readRow_59 (fun H locs s41 es41 hW => ?_)
        have q42 : IC s41 := by rw [es41]; exact IC_1 q5_0 (by omega)
        have q43 : s41 1 1 = s0 1 1 := (show s41 1 1 = s_5 1 1 from by rw [es41, xU_j _ _ (by decide)]).trans q5_1
        have q44 : s41 1 2 = s0 1 2 := (show s41 1 2 = s_5 1 2 from by rw [es41, xU_j _ _ (by decide)]).trans q5_2
        have q45 : s41 1 3 = (x40 + 1) := by rw [es41, xU_s]
        have hF46 := hF_5.put es41 (by omega)
        exact J62 s41 H locs ls hF46 q42 q43 q44 (by omega) (by first | rfl | rw [es41, xU_k _ _ _ (by omega)]) hW (lv_sub hl [1, 2, 3, 4, 5, 0] rfl)
      refine x_aload_n hx hb hl 2 rfl dX6_readRow_36 rfl ?_
      refine x_bipush hx hb dX6_readRow_37 (by decide) ?_
      refine x_aload_n hx hb hl 2 rfl dX6_readRow_39 rfl ?_
      refine x_getN (j := 3) (v := .int (xJ (s_5 1 3))) hx hb hown hT hE hW cls_X8 (Or.inl (by decide)) (so_1 h0 g _) (by decide) rfl wn203 dX6_readRow_40 ?_
      refine x_rd hW (fun x47 ex47 rx47 => ?_)
      refine x_goi (x_runVN (As := [.int (xJ 6), .int (xJ x47)]) hx hb hml hown hT hE hW hl.1 (Or.inl (by decide)) (so_1 h0 g _) rfl cf_X8_fails wq588 wq5 wn586 (c_X8_failsM l D g T h0 s_5 hW.2.1 6 (by decide) x47 rx47 (by omega) q5_0) ⟨rfl, rfl, ⟨by decide, by decide⟩, ⟨by decide, by decide⟩⟩ rfl rfl (Nat.le_of_ble_eq_true rfl) dX6_readRow_43) hW (fun x48 s49 H locs rx48 hp50 hW => ?_)
      obtain ⟨fs49, hp50⟩ := hp50
      have hF51 := hF_5.call fs49 (fun k h => by omega)
      have ghp50 := hp50.2
      rw [eQ]
      exact x_zret hx hb hr hlk hW (by omega) ⟨hF51, ⟨hp50.1.1, (hp50.1.2.1.trans q5_1), (hp50.1.2.2.1.trans q5_2), trivial⟩, ⟨Zpost.bad (v5_2.six (by omega) (by omega)) (fs49 5 (by omega)) (by omega) (by omega) (by omega), by omega, by omega⟩⟩ dX6_readRow_46
  exact L5 ((10 - 0 : Int).toNat + 1) 0 0 s0 H locs ls (by decide) (by decide) hF p0 k1_1 k1_2 (by omega) (by omega) (zRS.new) (Nat.lt_succ_self _) hW (lv_sub hl [2, 3, 4, 1, 0] rfl)
set_option maxHeartbeats 4000000 in
set_option maxRecDepth 100000 in
theorem c_X6_readFromM (l : Launch) (D : va_G) (g : xG) (T : Nat × Nat × Nat) (h0 : Nat) (s0 : xS) (hσ : xRR s0) (hat : s0 1 3 = 0 ∧ 0 ≤ s0 1 2 ∧ s0 1 2 ≤ 260) (p0 : IC s0) : Met l yX6_readFrom (xws yX6_readFrom cX6_readFrom 3 (some .boolean)) { frames := 2, cells := 0, slots := 0, locals := 49 } (xP [.ref (h0 + 3), .ref (h0 + 1)] D g T h0 s0) (xQi D g h0 (fun r τ => xFr (fun k => k = 1 ∨ k = 107 ∨ k = 4 ∨ k = 5) s0 τ ∧ (((IC τ) ∧ (τ 1 1 = s0 1 1) ∧ (τ 1 2 = s0 1 2) ∧ True) ∧ (τ 5 = (zMk (s0 2) (s0 1 2) (s0 5)).2.2 ∧ ((r = 1 ∧ (zMk (s0 2) (s0 1 2) (s0 5)).1 = 0 ∧ ∀ j, 0 ≤ j → j < 100 → τ 4 j = (zMk (s0 2) (s0 1 2) (s0 5)).2.2 j) ∨ (r = 0 ∧ (zMk (s0 2) (s0 1 2) (s0 5)).1 ≠ 0 ∧ τ 1 4 = (zMk (s0 2) (s0 1 2) (s0 5)).1 ∧ τ 4 = s0 4)))))) 0 0 (xA h0) := by
  refine x_met hσ (by decide) (Nat.le_of_ble_eq_true rfl) ?_
  intro p e s m args below meth c hx hb hr hml hown hT hlk hnm hE hW ls hl
  have hl : lv_has ls 3 [(0, .ref (h0 + 3)), (1, .ref (h0 + 1))] := hl
  obtain ⟨Q, eQ⟩ : ∃ Q, Q = MQ below (xQi D g h0 (fun r τ => xFr (fun k => k = 1 ∨ k = 107 ∨ k = 4 ∨ k = 5) s0 τ ∧ (((IC τ) ∧ (τ 1 1 = s0 1 1) ∧ (τ 1 2 = s0 1 2) ∧ True) ∧ (τ 5 = (zMk (s0 2) (s0 1 2) (s0 5)).2.2 ∧ ((r = 1 ∧ (zMk (s0 2) (s0 1 2) (s0 5)).1 = 0 ∧ ∀ j, 0 ≤ j → j < 100 → τ 4 j = (zMk (s0 2) (s0 1 2) (s0 5)).2.2 j) ∨ (r = 0 ∧ (zMk (s0 2) (s0 1 2) (s0 5)).1 ≠ 0 ∧ τ 1 4 = (zMk (s0 2) (s0 1 2) (s0 5)).1 ∧ τ 4 = s0 4)))))) args s 0 0 (xA h0) := ⟨_, rfl⟩
  rw [← eQ]
  generalize hHe : ([] : List Loc) = locs at hW ⊢
  obtain ⟨H, eH⟩ : ∃ H, H = s.heap := ⟨_, rfl⟩
  rw [← eH] at hW ⊢
  have hF : xFr (fun k => k = 1 ∨ k = 107 ∨ k = 4 ∨ k = 5) s0 s0 := xFr.rf
  have k1_1 : s0 1 1 = s0 1 1 := rfl
  have k1_2 : s0 1 2 = s0 1 2 := rfl
  refine x_iconst hx hb dX6_readFrom_0 ?_
  refine lv_istore_n (lv' := [(2, .int (xJ 0)), (0, .ref (h0 + 3)), (1, .ref (h0 + 1))]) hx hb dX6_readFrom_1 rfl hl (by decide) rfl (fun ls hl => ?_)
  have L2 : ∀ (fu : Nat) (i2_2 : Int) (s_2 : xS) (H : Heap) (locs : List Loc) (ls : Array Slot), (xR i2_2) → (xFr (fun k => k = 1 ∨ k = 107 ∨ k = 4 ∨ k = 5) s0 s_2) → (IC s_2) → (s_2 1 1 = s0 1 1) → (s_2 1 2 = s0 1 2) → (0 ≤ i2_2 ∧ i2_2 ≤ 10) → (0 ≤ s_2 1 3 ∧ (i2_2 < 10 → s_2 1 3 ≤ s0 1 2)) → ((i2_2 < 10 ∧ zMk (s0 2) (s0 1 2) (s0 5) = zN (s0 2) (s0 1 2) (9 - i2_2).toNat i2_2 (s_2 1 3) (s_2 5)) ∨ (i2_2 = 10 ∧ (zMk (s0 2) (s0 1 2) (s0 5)).1 = 0 ∧ (zMk (s0 2) (s0 1 2) (s0 5)).2.2 = s_2 5)) → (s_2 4 = s0 4) → (10 - i2_2).toNat < fu → xW D g h0 s H locs s_2 → lv_has ls 3 [(0, .ref (h0 + 3)), (1, .ref (h0 + 1)), (2, .int (xJ i2_2))] → W p l e { frames := 2, cells := 0, slots := 0, locals := 49 } s m args below meth c H locs 0 0 Q (F0 m 2 ls []) := by
    intro fu
    induction fu with
    | zero => intro i2_2 s_2 H locs ls ri2_2 hF_2 q2_0 q2_1 q2_2 v2_0 v2_1 v2_2 v2_3 hm; exact absurd hm (Nat.not_lt_zero _)
    | succ fu ih2 =>
      intro i2_2 s_2 H locs ls ri2_2 hF_2 q2_0 q2_1 q2_2 v2_0 v2_1 v2_2 v2_3 hm hW hl
      refine x_iload_n hx hb hl 2 rfl dX6_readFrom_2 rfl ?_
      refine x_bipush hx hb dX6_readFrom_3 (by decide) ?_
      refine x_icmp_ge (tgt := 78) hx hb ri2_2 (by decide) dX6_readFrom_5 (by decide) (fun c1 => ?_) (fun c1 => ?_)
      · skip
        refine x_aload_n hx hb hl 0 rfl dX6_readFrom_78 rfl ?_
        refine x_get (j := 1) (v := .ref (h0 + 5)) hx hb hown hT hE hW cls_X6 (Or.inl (by decide)) (so_3 h0 g _) (by decide) rfl wq227 dX6_readFrom_79 ?_
        refine x_iconst hx hb dX6_readFrom_82 ?_
        refine x_aload_n hx hb hl 0 rfl dX6_readFrom_83 rfl ?_
        refine x_get (j := 0) (v := .ref (h0 + 4)) hx hb hown hT hE hW cls_X6 (Or.inl (by decide)) (so_3 h0 g _) (by decide) rfl wq226 dX6_readFrom_84 ?_
        refine x_iconst hx hb dX6_readFrom_87 ?_
        refine x_bipush hx hb dX6_readFrom_88 (by decide) ?_
        refine x_copyi (ns := 100) (nd := 100) hx hb hml hl.1 hown hT hE hW wq602 wq604 wq603 wq181 (Or.inl (by decide)) (sa_5 h0 g _) (by decide) (fun σ => sa_4 h0 g σ) (by omega) ⟨by decide, Nat.le_of_ble_eq_true rfl⟩ dX6_readFrom_90 (fun H locs s2 es2 hW => ?_)
        have q3 : IC s2 := IC_f (fun k hk => by rw [es2]; exact xC_k _ _ _ (fun q => hk (q ▸ (by decide)))) q2_0
        have q4 : s2 1 1 = s0 1 1 := (show s2 1 1 = s_2 1 1 from by rw [es2, xC_k _ _ _ (by omega)]).trans q2_1
        have q5 : s2 1 2 = s0 1 2 := (show s2 1 2 = s_2 1 2 from by rw [es2, xC_k _ _ _ (by omega)]).trans q2_2
        have hF6 := hF_2.cpy es2 (by omega)
        have E90 : ∀ j, 0 ≤ j → j < 100 → s2 4 j = s_2 5 j := fun j a b => by rw [es2, xC_j, if_pos ⟨a, b⟩]
        have E91 : s2 5 = s_2 5 := by rw [es2, xC_k _ _ _ (by omega)]
        refine x_iconst hx hb dX6_readFrom_93 ?_
        refine lv_istore_n (lv' := [(2, .int (xJ 0)), (0, .ref (h0 + 3)), (1, .ref (h0 + 1))]) hx hb dX6_readFrom_94 rfl hl (by decide) rfl (fun ls hl => ?_)
        have L95 : ∀ (fu : Nat) (i2_95 : Int) (s_95 : xS) (H : Heap) (locs : List Loc) (ls : Array Slot), (xR i2_95) → (xFr (fun k => k = 1 ∨ k = 107 ∨ k = 4 ∨ k = 5) s0 s_95) → (IC s_95) → (s_95 1 1 = s0 1 1) → (s_95 1 2 = s0 1 2) → (0 ≤ i2_95) → (∀ j, 0 ≤ j → j < 100 → s_95 4 j = s_2 5 j) → (s_95 5 = s_2 5) → (100 - i2_95).toNat < fu → xW D g h0 s H locs s_95 → lv_has ls 3 [(0, .ref (h0 + 3)), (2, .int (xJ i2_95))] → W p l e { frames := 2, cells := 0, slots := 0, locals := 49 } s m args below meth c H locs 0 0 Q (F0 m 95 ls []) := by
          intro fu
          induction fu with
          | zero => intro i2_95 s_95 H locs ls ri2_95 hF_95 q95_0 q95_1 q95_2 v95_0 v95_1 v95_2 hm; exact absurd hm (Nat.not_lt_zero _)
          | succ fu ih95 =>
            intro i2_95 s_95 H locs ls ri2_95 hF_95 q95_0 q95_1 q95_2 v95_0 v95_1 v95_2 hm hW hl
            refine x_iload_n hx hb hl 1 rfl dX6_readFrom_95 rfl ?_
            refine x_aload_n hx hb hl 0 rfl dX6_readFrom_96 rfl ?_
            refine x_get (j := 3) (v := .ref (h0 + 107)) hx hb hown hT hE hW cls_X6 (Or.inl (by decide)) (so_3 h0 g _) (by decide) rfl wq229 dX6_readFrom_97 ?_
            refine x_alen (n := 100) (t0 := 1) hx hb hE hW (Or.inl (by decide)) (sa_107 h0 g _) rfl rfl dX6_readFrom_100 ?_
            refine x_icmp_ge (tgt := 117) hx hb ri2_95 (by decide) dX6_readFrom_101 (by decide) (fun c7 => ?_) (fun c7 => ?_)
            · skip
              refine x_iconst hx hb dX6_readFrom_117 ?_
              rw [eQ]
              exact x_zret hx hb hr hlk hW (by omega) ⟨hF_95, ⟨q95_0, q95_1, q95_2, trivial⟩, by
    have z := v2_2.resolve_left (fun q => by omega)
    exact ⟨v95_2.trans z.2.2.symm, Or.inl ⟨by omega, z.2.1, fun j a b => by rw [z.2.2]; exact v95_1 j a b⟩⟩⟩ dX6_readFrom_118
            refine x_aload_n hx hb hl 0 rfl dX6_readFrom_104 rfl ?_
            refine x_get (j := 3) (v := .ref (h0 + 107)) hx hb hown hT hE hW cls_X6 (Or.inl (by decide)) (so_3 h0 g _) (by decide) rfl wq229 dX6_readFrom_105 ?_
            refine x_iload_n hx hb hl 1 rfl dX6_readFrom_108 rfl ?_
            refine x_iconst hx hb dX6_readFrom_109 ?_
            refine x_zast hx hb hE hW (by decide) (fun σ => sa_107 h0 g σ) (by omega) (by decide) (by omega) dX6_readFrom_110 (fun H locs s8 es8 hW => ?_)
            have q9 : IC s8 := by rw [es8]; exact IC_o (by decide) q95_0
            have q10 : s8 1 1 = s0 1 1 := (show s8 1 1 = s_95 1 1 from by rw [es8, xU_k _ _ _ (by omega)]).trans q95_1
            have q11 : s8 1 2 = s0 1 2 := (show s8 1 2 = s_95 1 2 from by rw [es8, xU_k _ _ _ (by omega)]).trans q95_2
            have hF12 := hF_95.put es8 (by omega)
            refine x_iinc (lv' := [(2, .int (xJ (i2_95 + 1))), (0, .ref (h0 + 3))]) hx hb hl 1 rfl dX6_readFrom_111 (by decide) rfl (fun ls hl => ?_)
            refine lv_goto (tgt := 95) hx hb dX6_readFrom_114 (by decide) ?_
            exact ih95 (i2_95 + 1) s8 H locs ls (by omega) hF12 q9 q10 q11 (by omega) (by rw [es8, xU_k _ _ _ (by omega)]; exact v95_1) (by rw [es8, xU_k _ _ _ (by omega)]; exact v95_2) (by omega) hW (lv_sub hl [1, 0] rfl)
        exact L95 ((100 - 0 : Int).toNat + 1) 0 s2 H locs ls (by decide) hF6 q3 q4 q5 (by omega) (E90) (E91) (Nat.lt_succ_self _) hW (lv_sub hl [1, 0] rfl)
      refine x_aload_n hx hb hl 0 rfl dX6_readFrom_8 rfl ?_
      refine x_aload_n hx hb hl 1 rfl dX6_readFrom_9 rfl ?_
      refine x_iload_n hx hb hl 2 rfl dX6_readFrom_10 rfl ?_
      refine x_goi (x_runV (As := [.ref (h0 + 1), .int (xJ i2_2)]) hx hb hml hown hT hE hW hl.1 (Or.inl (by decide)) (so_3 h0 g _) rfl cf_X6_readRow wq577 wq3 wq575 (c_X6_readRowM l D g T h0 s_2 hW.2.1 i2_2 ri2_2 (by omega) (by omega) q2_0) ⟨rfl, rfl, ⟨by decide, by decide⟩, ⟨by decide, by decide⟩⟩ rfl rfl (Nat.le_of_ble_eq_true rfl) dX6_readFrom_11) hW (fun x13 s14 H locs rx13 hp15 hW => ?_)
      obtain ⟨fs14, hp15⟩ := hp15
      have hF16 := hF_2.call fs14 (fun k h => by omega)
      have ghp15 := hp15.2
      have R11 := ghp15.1
      rw [hF_2 2 (by omega), show s_2 1 2 = s0 1 2 from by omega] at R11
      have D11 := R11.cs
      have B11 := ghp15.2
      have K11 : s14 4 = s0 4 := (fs14 4 (by omega)).trans v2_3
      have G11 : s14 2 = s0 2 := hF16 2 (by omega)
      have N11 : s14 1 2 = s0 1 2 := (hp15.1.2.2.1.trans q2_2)
      have X11 : zch (s0 2) (s0 1 2) (s14 1 3) ≠ -1 → s14 1 3 < s0 1 2 := zch_lt
      have Y11 : s14 1 3 < s0 1 2 → 0 ≤ zch (s0 2) (s0 1 2) (s14 1 3) := fun h => by
        have b := (IC.by_ hp15.1.1) (s14 1 3) (by omega) (by omega)
        rw [G11] at b
        rw [← zch_i (Or.inl ⟨h, rfl⟩)]
        exact b.1
      refine x_if_ne (tgt := 19) hx hb rx13 dX6_readFrom_14 (by decide) (fun c17 => ?_) (fun c17 => ?_)
      · skip
        refine x_aload_n hx hb hl 1 rfl dX6_readFrom_19 rfl ?_
        refine x_goi (x_runVN (As := []) hx hb hml hown hT hE hW hl.1 (Or.inl (by decide)) (so_1 h0 g _) rfl cf_X8_sign wq581 wq4 wn579 (c_X8_sign l D g T h0 s14 hW.2.1 hp15.1.1) ⟨rfl, rfl, ⟨by decide, by decide⟩, ⟨by decide, by decide⟩⟩ rfl rfl (Nat.le_of_ble_eq_true rfl) dX6_readFrom_20) hW (fun x18 s19 H locs rx18 hp20 hW => ?_)
        obtain ⟨es19, hp20⟩ := hp20
        subst es19
        have ghp20 := hp20
        have C20 : x18 = zch (s0 2) (s0 1 2) (s14 1 3) := zch_i (by have q := congrFun (hF16 2 (by omega)) (s14 1 3); omega)
        refine x_goi (x_runS (As := [.int (xJ x18)]) hx hb hml hown hT hE hW hl.1 cf_X6_kindOf wq591 wq590 (c_X6_kindOf l D g T h0 s14 hW.2.1 x18 rx18) ⟨rfl, rfl, ⟨by decide, by decide⟩, ⟨by decide, by decide⟩⟩ rfl rfl (Nat.le_of_ble_eq_true rfl) dX6_readFrom_23) hW (fun x21 s22 H locs rx21 hp23 hW => ?_)
        obtain ⟨es22, hp23⟩ := hp23
        subst es22
        have ghp23 := hp23
        have T23 := zkd_i ghp23
        rw [C20] at T23
        refine x_iconst hx hb dX6_readFrom_26 ?_
        refine x_icmp_ne (tgt := 40) hx hb rx21 (by decide) dX6_readFrom_27 (by decide) (fun c24 => ?_) (fun c24 => ?_)
        · skip
          refine x_aload_n hx hb hl 1 rfl dX6_readFrom_40 rfl ?_
          refine x_bipush hx hb dX6_readFrom_41 (by decide) ?_
          refine x_aload_n hx hb hl 1 rfl dX6_readFrom_43 rfl ?_
          refine x_getN (j := 3) (v := .int (xJ (s14 1 3))) hx hb hown hT hE hW cls_X8 (Or.inl (by decide)) (so_1 h0 g _) (by decide) rfl wn203 dX6_readFrom_44 ?_
          refine x_rd hW (fun x25 ex25 rx25 => ?_)
          refine x_goi (x_runVN (As := [.int (xJ 6), .int (xJ x25)]) hx hb hml hown hT hE hW hl.1 (Or.inl (by decide)) (so_1 h0 g _) rfl cf_X8_fails wq588 wq5 wn586 (c_X8_failsM l D g T h0 s14 hW.2.1 6 (by decide) x25 rx25 (by omega) hp15.1.1) ⟨rfl, rfl, ⟨by decide, by decide⟩, ⟨by decide, by decide⟩⟩ rfl rfl (Nat.le_of_ble_eq_true rfl) dX6_readFrom_47) hW (fun x26 s27 H locs rx26 hp28 hW => ?_)
          obtain ⟨fs27, hp28⟩ := hp28
          have hF29 := hF16.call fs27 (fun k h => by omega)
          have ghp28 := hp28.2
          rw [eQ]
          exact x_zret hx hb hr hlk hW (by omega) ⟨hF29, ⟨hp28.1.1, (hp28.1.2.1.trans (hp15.1.2.1.trans q2_1)), (hp28.1.2.2.1.trans (hp15.1.2.2.1.trans q2_2)), trivial⟩, by
    rw [(v2_2.resolve_right (fun q => by omega)).2.trans (zN_row_six (D11.resolve_right (fun q => by omega)).2 (by first | exact Or.inl (by omega) | exact Or.inr (by omega)) (by omega))]
    exact ⟨fs27 5 (by omega), Or.inr ⟨by omega, (by show (-6000 - _ : Int) ≠ 0; omega), (by show _ = (-6000 - _ : Int); omega), (fs27 4 (by omega)).trans K11⟩⟩⟩ dX6_readFrom_50
        refine x_aload_n hx hb hl 1 rfl dX6_readFrom_30 rfl ?_
        refine x_goi (x_runVN (As := []) hx hb hml hown hT hE hW hl.1 (Or.inl (by decide)) (so_1 h0 g _) rfl cf_X8_sign wq581 wq4 wn579 (c_X8_sign l D g T h0 s14 hW.2.1 hp15.1.1) ⟨rfl, rfl, ⟨by decide, by decide⟩, ⟨by decide, by decide⟩⟩ rfl rfl (Nat.le_of_ble_eq_true rfl) dX6_readFrom_31) hW (fun x30 s31 H locs rx30 hp32 hW => ?_)
        obtain ⟨es31, hp32⟩ := hp32
        subst es31
        have ghp32 := hp32
        have C31 : x30 = zch (s0 2) (s0 1 2) (s14 1 3) := zch_i (by have q := congrFun (hF16 2 (by omega)) (s14 1 3); omega)
        refine x_goi (x_runS (As := [.int (xJ x30)]) hx hb hml hown hT hE hW hl.1 cf_X6_timesOf wq584 wq583 (c_X6_timesOf l D g T h0 s14 hW.2.1 x30 rx30) ⟨rfl, rfl, ⟨by decide, by decide⟩, ⟨by decide, by decide⟩⟩ rfl rfl (Nat.le_of_ble_eq_true rfl) dX6_readFrom_34) hW (fun x33 s34 H locs rx33 hp35 hW => ?_)
        obtain ⟨es34, hp35⟩ := hp35
        subst es34
        have ghp35 := hp35
        have T34 := ztm_i ghp35
        rw [C31] at T34
        refine x_if_le (tgt := 51) hx hb rx33 dX6_readFrom_37 (by decide) (fun c36 => ?_) (fun c36 => ?_)
        · skip
          refine x_aload_n hx hb hl 1 rfl dX6_readFrom_51 rfl ?_
          refine x_iload_n hx hb hl 2 rfl dX6_readFrom_52 rfl ?_
          refine x_bipush hx hb dX6_readFrom_53 (by decide) ?_
          refine x_icmp_ge (tgt := 63) hx hb ri2_2 (by decide) dX6_readFrom_55 (by decide) (fun c37 => ?_) (fun c37 => ?_)
          · skip
            refine x_iconst hx hb dX6_readFrom_63 ?_
            refine x_goi (x_runVN (As := [.int (xJ (-1))]) hx hb hml hown hT hE hW hl.1 (Or.inl (by decide)) (so_1 h0 g _) rfl cf_X8_passes wq598 wq6 wn596 (c_X8_passesM l D g T h0 s14 hW.2.1 (-1) (by decide) (by omega) (by omega) hp15.1.1) ⟨rfl, rfl, ⟨by decide, by decide⟩, ⟨by decide, by decide⟩⟩ rfl rfl (Nat.le_of_ble_eq_true rfl) dX6_readFrom_64) hW (fun x38 s39 H locs rx38 hp40 hW => ?_)
            obtain ⟨fs39, hp40⟩ := hp40
            have hF41 := hF16.call fs39 (fun k h => by omega)
            have ghp40 := hp40.2
            have P64 := ghp40
            rw [G11, N11] at P64
            refine x_if_ne (tgt := 72) hx hb rx38 dX6_readFrom_67 (by decide) (fun c42 => ?_) (fun c42 => ?_)
            · skip
              refine x_iinc (lv' := [(2, .int (xJ (i2_2 + 1))), (0, .ref (h0 + 3)), (1, .ref (h0 + 1))]) hx hb hl 2 rfl dX6_readFrom_72 (by decide) rfl (fun ls hl => ?_)
              refine lv_goto (tgt := 2) hx hb dX6_readFrom_75 (by decide) ?_
              exact ih2 (i2_2 + 1) s39 H locs ls (by omega) hF41 hp40.1.1 (hp40.1.2.1.trans (hp15.1.2.1.trans q2_1)) (hp40.1.2.2.1.trans (hp15.1.2.2.1.trans q2_2)) (by omega) (by omega) (by first | exact Or.inl ⟨by omega, (v2_2.resolve_right (fun q => by omega)).2.trans (zN_row_go (D11.resolve_right (fun q => by omega)).2 ⟨by omega, by omega⟩ (by omega) (by omega) (by omega) rfl (by omega) (fs39 5 (by omega)))⟩ | exact Or.inr ⟨by omega, by rw [(v2_2.resolve_right (fun q => by omega)).2.trans (zN_row_end (D11.resolve_right (fun q => by omega)).2 ⟨by omega, by omega⟩ (by omega) (by omega))]; exact ⟨rfl, (fs39 5 (by omega)).symm⟩⟩) ((fs39 4 (by omega)).trans K11) (by omega) hW (lv_sub hl [1, 2, 0] rfl)
            refine x_iconst hx hb dX6_readFrom_70 ?_
            rw [eQ]
            exact x_zret hx hb hr hlk hW (by omega) ⟨hF41, ⟨hp40.1.1, (hp40.1.2.1.trans (hp15.1.2.1.trans q2_1)), (hp40.1.2.2.1.trans (hp15.1.2.2.1.trans q2_2)), trivial⟩, by
    rw [(v2_2.resolve_right (fun q => by omega)).2.trans (zN_row_no (D11.resolve_right (fun q => by omega)).2 ⟨by omega, by omega⟩ (by omega))]
    exact ⟨fs39 5 (by omega), Or.inr ⟨by omega, (by show (-1000 - _ : Int) ≠ 0; omega), (by show _ = (-1000 - _ : Int); omega), (fs39 4 (by omega)).trans K11⟩⟩⟩ dX6_readFrom_71
          refine x_bipush hx hb dX6_readFrom_58 (by decide) ?_
          refine lv_goto (tgt := 64) hx hb dX6_readFrom_60 (by decide) ?_
          refine x_goi (x_runVN (As := [.int (xJ 47)]) hx hb hml hown hT hE hW hl.1 (Or.inl (by decide)) (so_1 h0 g _) rfl cf_X8_passes wq598 wq6 wn596 (c_X8_passesM l D g T h0 s14 hW.2.1 47 (by decide) (by omega) (by omega) hp15.1.1) ⟨rfl, rfl, ⟨by decide, by decide⟩, ⟨by decide, by decide⟩⟩ rfl rfl (Nat.le_of_ble_eq_true rfl) dX6_readFrom_64) hW (fun x43 s44 H locs rx43 hp45 hW => ?_)
          obtain ⟨fs44, hp45⟩ := hp45
          have hF46 := hF16.call fs44 (fun k h => by omega)
          have ghp45 := hp45.2
          have P64 := ghp45
          rw [G11, N11] at P64
          refine x_if_ne (tgt := 72) hx hb rx43 dX6_readFrom_67 (by decide) (fun c47 => ?_) (fun c47 => ?_)
          · skip
            refine x_iinc (lv' := [(2, .int (xJ (i2_2 + 1))), (0, .ref (h0 + 3)), (1, .ref (h0 + 1))]) hx hb hl 2 rfl dX6_readFrom_72 (by decide) rfl (fun ls hl => ?_)
            refine lv_goto (tgt := 2) hx hb dX6_readFrom_75 (by decide) ?_
            exact ih2 (i2_2 + 1) s44 H locs ls (by omega) hF46 hp45.1.1 (hp45.1.2.1.trans (hp15.1.2.1.trans q2_1)) (hp45.1.2.2.1.trans (hp15.1.2.2.1.trans q2_2)) (by omega) (by omega) (by first | exact Or.inl ⟨by omega, (v2_2.resolve_right (fun q => by omega)).2.trans (zN_row_go (D11.resolve_right (fun q => by omega)).2 ⟨by omega, by omega⟩ (by omega) (by omega) (by omega) rfl (by omega) (fs44 5 (by omega)))⟩ | exact Or.inr ⟨by omega, by rw [(v2_2.resolve_right (fun q => by omega)).2.trans (zN_row_end (D11.resolve_right (fun q => by omega)).2 ⟨by omega, by omega⟩ (by omega) (by omega))]; exact ⟨rfl, (fs44 5 (by omega)).symm⟩⟩) ((fs44 4 (by omega)).trans K11) (by omega) hW (lv_sub hl [1, 2, 0] rfl)
          refine x_iconst hx hb dX6_readFrom_70 ?_
          rw [eQ]
          exact x_zret hx hb hr hlk hW (by omega) ⟨hF46, ⟨hp45.1.1, (hp45.1.2.1.trans (hp15.1.2.1.trans q2_1)), (hp45.1.2.2.1.trans (hp15.1.2.2.1.trans q2_2)), trivial⟩, by
    rw [(v2_2.resolve_right (fun q => by omega)).2.trans (zN_row_no (D11.resolve_right (fun q => by omega)).2 ⟨by omega, by omega⟩ (by omega))]
    exact ⟨fs44 5 (by omega), Or.inr ⟨by omega, (by show (-1000 - _ : Int) ≠ 0; omega), (by show _ = (-1000 - _ : Int); omega), (fs44 4 (by omega)).trans K11⟩⟩⟩ dX6_readFrom_71
        refine x_aload_n hx hb hl 1 rfl dX6_readFrom_40 rfl ?_
        refine x_bipush hx hb dX6_readFrom_41 (by decide) ?_
        refine x_aload_n hx hb hl 1 rfl dX6_readFrom_43 rfl ?_
        refine x_getN (j := 3) (v := .int (xJ (s14 1 3))) hx hb hown hT hE hW cls_X8 (Or.inl (by decide)) (so_1 h0 g _) (by decide) rfl wn203 dX6_readFrom_44 ?_
        refine x_rd hW (fun x48 ex48 rx48 => ?_)
        refine x_goi (x_runVN (As := [.int (xJ 6), .int (xJ x48)]) hx hb hml hown hT hE hW hl.1 (Or.inl (by decide)) (so_1 h0 g _) rfl cf_X8_fails wq588 wq5 wn586 (c_X8_failsM l D g T h0 s14 hW.2.1 6 (by decide) x48 rx48 (by omega) hp15.1.1) ⟨rfl, rfl, ⟨by decide, by decide⟩, ⟨by decide, by decide⟩⟩ rfl rfl (Nat.le_of_ble_eq_true rfl) dX6_readFrom_47) hW (fun x49 s50 H locs rx49 hp51 hW => ?_)
        obtain ⟨fs50, hp51⟩ := hp51
        have hF52 := hF16.call fs50 (fun k h => by omega)
        have ghp51 := hp51.2
        rw [eQ]
        exact x_zret hx hb hr hlk hW (by omega) ⟨hF52, ⟨hp51.1.1, (hp51.1.2.1.trans (hp15.1.2.1.trans q2_1)), (hp51.1.2.2.1.trans (hp15.1.2.2.1.trans q2_2)), trivial⟩, by
    rw [(v2_2.resolve_right (fun q => by omega)).2.trans (zN_row_six (D11.resolve_right (fun q => by omega)).2 (by first | exact Or.inl (by omega) | exact Or.inr (by omega)) (by omega))]
    exact ⟨fs50 5 (by omega), Or.inr ⟨by omega, (by show (-6000 - _ : Int) ≠ 0; omega), (by show _ = (-6000 - _ : Int); omega), (fs50 4 (by omega)).trans K11⟩⟩⟩ dX6_readFrom_50
      refine x_iconst hx hb dX6_readFrom_17 ?_
      rw [eQ]
      exact x_zret hx hb hr hlk hW (by omega) ⟨hF16, ⟨hp15.1.1, (hp15.1.2.1.trans q2_1), (hp15.1.2.2.1.trans q2_2), trivial⟩, by
    obtain ⟨d1, d2, d3, d4⟩ := D11.resolve_left (fun q => by omega)
    rw [(v2_2.resolve_right (fun q => by omega)).2.trans (zN_row_bad d2)]
    exact ⟨d4.symm, Or.inr ⟨by omega, d2, d3, K11⟩⟩⟩ dX6_readFrom_18
  exact L2 ((10 - 0 : Int).toNat + 1) 0 s0 H locs ls (by decide) hF p0 k1_1 k1_2 (by omega) (by omega) (Or.inl ⟨by omega, by rw [hat.1]; rfl⟩) (rfl) (Nat.lt_succ_self _) hW (lv_sub hl [1, 2, 0] rfl)
set_option maxHeartbeats 4000000 in
set_option maxRecDepth 100000 in
theorem c_X6_howManyM (l : Launch) (D : va_G) (g : xG) (T : Nat × Nat × Nat) (h0 : Nat) (s0 : xS) (hσ : xRR s0) (x : Int) (rx : xR x) (p0 : IC s0) : Met l yX6_howMany (xws yX6_howMany cX6_howMany 4 (some .int)) { frames := 0, cells := 0, slots := 0, locals := 0 } (xP [.ref (h0 + 3), .int (xJ x)] D g T h0 s0) (xQi D g h0 (fun r τ => s0 = τ ∧ (0 ≤ r ∧ r ≤ 100 ∧ r = zct (s0 4) x 100))) 0 0 (xA h0) := by
  refine x_met hσ (by decide) (Nat.le_of_ble_eq_true rfl) ?_
  intro p e s m args below meth c hx hb hr hml hown hT hlk hnm hE hW ls hl
  have hl : lv_has ls 4 [(0, .ref (h0 + 3)), (1, .int (xJ x))] := hl
  obtain ⟨Q, eQ⟩ : ∃ Q, Q = MQ below (xQi D g h0 (fun r τ => s0 = τ ∧ (0 ≤ r ∧ r ≤ 100 ∧ r = zct (s0 4) x 100))) args s 0 0 (xA h0) := ⟨_, rfl⟩
  rw [← eQ]
  generalize hHe : ([] : List Loc) = locs at hW ⊢
  obtain ⟨H, eH⟩ : ∃ H, H = s.heap := ⟨_, rfl⟩
  rw [← eH] at hW ⊢
  have k1_1 : s0 1 1 = s0 1 1 := rfl
  refine x_iconst hx hb dX6_howMany_0 ?_
  refine lv_istore_n (lv' := [(2, .int (xJ 0)), (0, .ref (h0 + 3)), (1, .int (xJ x))]) hx hb dX6_howMany_1 rfl hl (by decide) rfl (fun ls hl => ?_)
  refine x_iconst hx hb dX6_howMany_2 ?_
  refine lv_istore_n (lv' := [(3, .int (xJ 0)), (2, .int (xJ 0)), (0, .ref (h0 + 3)), (1, .int (xJ x))]) hx hb dX6_howMany_3 rfl hl (by decide) rfl (fun ls hl => ?_)
  have L4 : ∀ (fu : Nat) (i2_4 : Int) (i3_4 : Int) (ls : Array Slot), (xR i2_4) → (xR i3_4) → (0 ≤ i3_4 ∧ i3_4 ≤ 100) → (0 ≤ i2_4 ∧ i2_4 ≤ i3_4) → (i2_4 = zct (s0 4) x (i3_4).toNat) → (100 - i3_4).toNat < fu → lv_has ls 4 [(0, .ref (h0 + 3)), (1, .int (xJ x)), (2, .int (xJ i2_4)), (3, .int (xJ i3_4))] → W p l e { frames := 0, cells := 0, slots := 0, locals := 0 } s m args below meth c H locs 0 0 Q (F0 m 4 ls []) := by
    intro fu
    induction fu with
    | zero => intro i2_4 i3_4 ls ri2_4 ri3_4 v4_0 v4_1 v4_2 hm; exact absurd hm (Nat.not_lt_zero _)
    | succ fu ih4 =>
      intro i2_4 i3_4 ls ri2_4 ri3_4 v4_0 v4_1 v4_2 hm  hl
      refine x_iload_n hx hb hl 3 rfl dX6_howMany_4 rfl ?_
      refine x_bipush hx hb dX6_howMany_5 (by decide) ?_
      refine x_icmp_ge (tgt := 29) hx hb ri3_4 (by decide) dX6_howMany_7 (by decide) (fun c1 => ?_) (fun c1 => ?_)
      · skip
        refine x_iload_n hx hb hl 2 rfl dX6_howMany_29 rfl ?_
        rw [eQ]
        exact x_iret hx hb hr hlk hW ri2_4 ⟨rfl, ⟨by omega, by omega, by rw [show (100 : Nat) = (i3_4).toNat from by omega]; exact v4_2⟩⟩ dX6_howMany_30
      refine x_aload_n hx hb hl 0 rfl dX6_howMany_10 rfl ?_
      refine x_get (j := 0) (v := .ref (h0 + 4)) hx hb hown hT hE hW cls_X6 (Or.inl (by decide)) (so_3 h0 g _) (by decide) rfl wq226 dX6_howMany_11 ?_
      refine x_iload_n hx hb hl 3 rfl dX6_howMany_14 rfl ?_
      refine x_iald hx hb hE hW (Or.inl (by decide)) (sa_4 h0 g _) (by omega) (by decide) dX6_howMany_15 ?_
      refine x_rd hW (fun x2 ex2 rx2 => ?_)
      refine x_iload_n hx hb hl 1 rfl dX6_howMany_16 rfl ?_
      refine x_icmp_ne (tgt := 23) hx hb rx2 rx dX6_howMany_17 (by decide) (fun c3 => ?_) (fun c3 => ?_)
      · skip
        refine x_iinc (lv' := [(3, .int (xJ (i3_4 + 1))), (0, .ref (h0 + 3)), (1, .int (xJ x)), (2, .int (xJ i2_4))]) hx hb hl 3 rfl dX6_howMany_23 (by decide) rfl (fun ls hl => ?_)
        refine lv_goto (tgt := 4) hx hb dX6_howMany_26 (by decide) ?_
        exact ih4 i2_4 (i3_4 + 1) ls ri2_4 (by omega) (by omega) (by omega) (by first | (rw [zct_y (by omega) (by omega)]; omega) | (rw [zct_n (by omega) (by omega)]; omega)) (by omega)  (lv_sub hl [1, 2, 3, 0] rfl)
      refine x_iinc (lv' := [(2, .int (xJ (i2_4 + 1))), (0, .ref (h0 + 3)), (1, .int (xJ x)), (3, .int (xJ i3_4))]) hx hb hl 2 rfl dX6_howMany_20 (by decide) rfl (fun ls hl => ?_)
      refine x_iinc (lv' := [(3, .int (xJ (i3_4 + 1))), (2, .int (xJ (i2_4 + 1))), (0, .ref (h0 + 3)), (1, .int (xJ x))]) hx hb hl 3 rfl dX6_howMany_23 (by decide) rfl (fun ls hl => ?_)
      refine lv_goto (tgt := 4) hx hb dX6_howMany_26 (by decide) ?_
      exact ih4 (i2_4 + 1) (i3_4 + 1) ls (by omega) (by omega) (by omega) (by omega) (by first | (rw [zct_y (by omega) (by omega)]; omega) | (rw [zct_n (by omega) (by omega)]; omega)) (by omega)  (lv_sub hl [2, 3, 1, 0] rfl)
  exact L4 ((100 - 0 : Int).toNat + 1) 0 0 ls (by decide) (by decide) (by omega) (by omega) (rfl) (Nat.lt_succ_self _)  (lv_sub hl [2, 3, 1, 0] rfl)
set_option maxHeartbeats 4000000 in
set_option maxRecDepth 100000 in
theorem c_X10_marketM (l : Launch) (D : va_G) (g : xG) (T : Nat × Nat × Nat) (h0 : Nat) (s0 : xS) (hσ : xRR s0) (n : Int) (rn : xR n) (p0 : IC s0) : Met l yX10_market (xws yX10_market cX10_market 3 (some .int)) { frames := 3, cells := 0, slots := 0, locals := 71 } (xP [.ref (h0 + 0), .int (xJ n)] D g T h0 s0) (xQi D g h0 (fun r τ => xFr (fun k => k = 0 ∨ k = 1 ∨ k = 107 ∨ k = 129 ∨ k = 137 ∨ k = 142 ∨ k = 143 ∨ k = 144 ∨ k = 145 ∨ k = 4 ∨ k = 5) s0 τ ∧ (((IC τ) ∧ True) ∧ (((n < 1 ∨ 140 < n ∨ s0 1 1 < n) ∧ τ 1 1 = s0 1 1 ∧ r = -1 ∧ τ 5 = s0 5 ∧ τ 4 = s0 4 ∧ τ 0 11 = s0 0 11) ∨ (¬ (n < 1 ∨ 140 < n ∨ s0 1 1 < n) ∧ τ 1 1 = 0 ∧ τ 5 = (zMk (s0 2) n (s0 5)).2.2 ∧ (((zMk (s0 2) n (s0 5)).1 ≠ 0 ∧ r = (zMk (s0 2) n (s0 5)).1 ∧ τ 4 = s0 4 ∧ τ 0 11 = s0 0 11) ∨ ((zMk (s0 2) n (s0 5)).1 = 0 ∧ (∀ j, 0 ≤ j → j < 100 → τ 4 j = (zMk (s0 2) n (s0 5)).2.2 j) ∧ r = 100 - zct (zMk (s0 2) n (s0 5)).2.2 0 100 ∧ τ 0 11 = 0))))))) 0 0 (xA h0) := by
  refine x_met hσ (by decide) (Nat.le_of_ble_eq_true rfl) ?_
  intro p e s m args below meth c hx hb hr hml hown hT hlk hnm hE hW ls hl
  have hl : lv_has ls 3 [(0, .ref (h0 + 0)), (1, .int (xJ n))] := hl
  obtain ⟨Q, eQ⟩ : ∃ Q, Q = MQ below (xQi D g h0 (fun r τ => xFr (fun k => k = 0 ∨ k = 1 ∨ k = 107 ∨ k = 129 ∨ k = 137 ∨ k = 142 ∨ k = 143 ∨ k = 144 ∨ k = 145 ∨ k = 4 ∨ k = 5) s0 τ ∧ (((IC τ) ∧ True) ∧ (((n < 1 ∨ 140 < n ∨ s0 1 1 < n) ∧ τ 1 1 = s0 1 1 ∧ r = -1 ∧ τ 5 = s0 5 ∧ τ 4 = s0 4 ∧ τ 0 11 = s0 0 11) ∨ (¬ (n < 1 ∨ 140 < n ∨ s0 1 1 < n) ∧ τ 1 1 = 0 ∧ τ 5 = (zMk (s0 2) n (s0 5)).2.2 ∧ (((zMk (s0 2) n (s0 5)).1 ≠ 0 ∧ r = (zMk (s0 2) n (s0 5)).1 ∧ τ 4 = s0 4 ∧ τ 0 11 = s0 0 11) ∨ ((zMk (s0 2) n (s0 5)).1 = 0 ∧ (∀ j, 0 ≤ j → j < 100 → τ 4 j = (zMk (s0 2) n (s0 5)).2.2 j) ∧ r = 100 - zct (zMk (s0 2) n (s0 5)).2.2 0 100 ∧ τ 0 11 = 0))))))) args s 0 0 (xA h0) := ⟨_, rfl⟩
  rw [← eQ]
  generalize hHe : ([] : List Loc) = locs at hW ⊢
  obtain ⟨H, eH⟩ : ∃ H, H = s.heap := ⟨_, rfl⟩
  rw [← eH] at hW ⊢
  have hF : xFr (fun k => k = 0 ∨ k = 1 ∨ k = 107 ∨ k = 129 ∨ k = 137 ∨ k = 142 ∨ k = 143 ∨ k = 144 ∨ k = 145 ∨ k = 4 ∨ k = 5) s0 s0 := xFr.rf
  have k1_1 : s0 1 1 = s0 1 1 := rfl
  have k0_11 : s0 0 11 = s0 0 11 := rfl
  refine x_iload_n hx hb hl 1 rfl dX10_market_0 rfl ?_
  refine x_iconst hx hb dX10_market_1 ?_
  refine x_sipush hx hb dX10_market_2 (by decide) ?_
  refine x_goi (x_runS (As := [.int (xJ n), .int (xJ 1), .int (xJ 140)]) hx hb hml hown hT hE hW hl.1 cf_X10_isIn wq562 wq561 (c_X10_isIn l D g T h0 s0 hW.2.1 n rn 1 (by decide) 140 (by decide)) ⟨rfl, rfl, ⟨by decide, by decide⟩, ⟨by decide, by decide⟩⟩ rfl rfl (Nat.le_of_ble_eq_true rfl) dX10_market_5) hW (fun x1 s2 H locs rx1 hp3 hW => ?_)
  obtain ⟨es2, hp3⟩ := hp3
  subst es2
  have ghp3 := hp3
  refine x_if_eq (tgt := 22) hx hb rx1 dX10_market_8 (by decide) (fun c4 => ?_) (fun c4 => ?_)
  · skip
    refine x_iconst hx hb dX10_market_22 ?_
    rw [eQ]
    exact x_iret hx hb hr hlk hW (by decide) ⟨hF, ⟨p0, trivial⟩, Or.inl ⟨by omega, by omega, by omega, rfl, rfl, rfl⟩⟩ dX10_market_23
  refine x_iload_n hx hb hl 1 rfl dX10_market_11 rfl ?_
  refine x_aload_n hx hb hl 0 rfl dX10_market_12 rfl ?_
  refine x_get (j := 0) (v := .ref (h0 + 1)) hx hb hown hT hE hW cls_X10 (Or.inl (by decide)) (so_0 h0 g _) (by decide) rfl wq512 dX10_market_13 ?_
  refine x_getN (j := 1) (v := .int (xJ (s0 1 1))) hx hb hown hT hE hW cls_X8 (Or.inl (by decide)) (so_1 h0 g _) (by decide) rfl wn198 dX10_market_16 ?_
  refine x_rd hW (fun x5 ex5 rx5 => ?_)
  have bx5 : 0 ≤ x5 ∧ x5 ≤ 260 := by rw [ex5]; exact IC.t p0
  have fx5 : x5 = s0 1 1 := ex5.trans k1_1
  refine x_icmp_le (tgt := 24) hx hb rn rx5 dX10_market_19 (by decide) (fun c6 => ?_) (fun c6 => ?_)
  · skip
    refine x_aload_n hx hb hl 0 rfl dX10_market_24 rfl ?_
    refine x_get (j := 0) (v := .ref (h0 + 1)) hx hb hown hT hE hW cls_X10 (Or.inl (by decide)) (so_0 h0 g _) (by decide) rfl wq512 dX10_market_25 ?_
    refine x_iload_n hx hb hl 1 rfl dX10_market_28 rfl ?_
    refine x_gov (x_runVN (As := [.int (xJ n)]) hx hb hml hown hT hE hW hl.1 (Or.inl (by decide)) (so_1 h0 g _) rfl cf_X8_open wq566 wq1 wn564 (c_X8_openM l D g T h0 s0 hW.2.1 n rn (by omega) p0) ⟨rfl, rfl, ⟨by decide, by decide⟩, ⟨by decide, by decide⟩⟩ rfl rfl (Nat.le_of_ble_eq_true rfl) dX10_market_29) hW (fun s8 H locs hp9 hW => ?_)
    obtain ⟨fs8, hp9⟩ := hp9
    have hF10 := hF.call fs8 (fun k h => by omega)
    have q11 : s8 0 11 = s0 0 11 := (congrFun (fs8 _ (by omega)) _).trans k0_11
    have ghp9 := hp9.2
    have O29 := ghp9
    have Q29 : s8 5 = s0 5 ∧ s8 4 = s0 4 ∧ s8 2 = s0 2 := ⟨fs8 5 (by omega), fs8 4 (by omega), fs8 2 (by omega)⟩
    refine x_aload_n hx hb hl 0 rfl dX10_market_32 rfl ?_
    refine x_get (j := 1) (v := .ref (h0 + 3)) hx hb hown hT hE hW cls_X10 (Or.inl (by decide)) (so_0 h0 g _) (by decide) rfl wq513 dX10_market_33 ?_
    refine x_aload_n hx hb hl 0 rfl dX10_market_36 rfl ?_
    refine x_get (j := 0) (v := .ref (h0 + 1)) hx hb hown hT hE hW cls_X10 (Or.inl (by decide)) (so_0 h0 g _) (by decide) rfl wq512 dX10_market_37 ?_
    refine x_goi (x_runVN (As := [.ref (h0 + 1)]) hx hb hml hown hT hE hW hl.1 (Or.inl (by decide)) (so_3 h0 g _) rfl cf_X6_readFrom wq573 wq2 wn571 (c_X6_readFromM l D g T h0 s8 hW.2.1 (by omega) hp9.1.1) ⟨rfl, rfl, ⟨by decide, by decide⟩, ⟨by decide, by decide⟩⟩ rfl rfl (Nat.le_of_ble_eq_true rfl) dX10_market_40) hW (fun x12 s13 H locs rx12 hp14 hW => ?_)
    obtain ⟨fs13, hp14⟩ := hp14
    have hF15 := hF10.call fs13 (fun k h => by omega)
    have q16 : s13 0 11 = s0 0 11 := (congrFun (fs13 _ (by omega)) _).trans q11
    have ghp14 := hp14.2
    have R40 := ghp14
    rw [Q29.2.2, O29.1, Q29.1, Q29.2.1] at R40
    refine lv_istore_n (lv' := [(2, .int (xJ x12)), (0, .ref (h0 + 0)), (1, .int (xJ n))]) hx hb dX10_market_43 rfl hl (by decide) rfl (fun ls hl => ?_)
    refine x_aload_n hx hb hl 1 rfl dX10_market_44 rfl ?_
    refine x_get (j := 0) (v := .ref (h0 + 1)) hx hb hown hT hE hW cls_X10 (Or.inl (by decide)) (so_0 h0 g _) (by decide) rfl wq512 dX10_market_45 ?_
    refine x_gov (x_runVN (As := []) hx hb hml hown hT hE hW hl.1 (Or.inl (by decide)) (so_1 h0 g _) rfl cf_X8_drop wq607 wq7 wn605 (c_X8_dropM l D g T h0 s13 hW.2.1 hp14.1.1) ⟨rfl, rfl, ⟨by decide, by decide⟩, ⟨by decide, by decide⟩⟩ rfl rfl (Nat.le_of_ble_eq_true rfl) dX10_market_48) hW (fun s18 H locs hp19 hW => ?_)
    obtain ⟨fs18, hp19⟩ := hp19
    have hF20 := hF15.call fs18 (fun k h => by omega)
    have q21 : s18 0 11 = s0 0 11 := (congrFun (fs18 _ (by omega)) _).trans q16
    have ghp19 := hp19.2
    have R48 : s18 5 = (zMk (s0 2) n (s0 5)).2.2 ∧ ((x12 = 1 ∧ (zMk (s0 2) n (s0 5)).1 = 0 ∧ ∀ j, 0 ≤ j → j < 100 → s18 4 j = (zMk (s0 2) n (s0 5)).2.2 j) ∨ (x12 = 0 ∧ (zMk (s0 2) n (s0 5)).1 ≠ 0 ∧ s18 1 4 = (zMk (s0 2) n (s0 5)).1 ∧ s18 4 = s0 4)) := by rw [fs18 5 (by omega), fs18 4 (by omega), hp19.1.2.2.1]; exact R40
    refine x_iload_n hx hb hl 0 rfl dX10_market_51 rfl ?_
    refine x_if_ne (tgt := 63) hx hb rx12 dX10_market_52 (by decide) (fun c22 => ?_) (fun c22 => ?_)
    · skip
      refine x_aload_n hx hb hl 1 rfl dX10_market_63 rfl ?_
      refine x_gov (x_runV (As := []) hx hb hml hown hT hE hW hl.1 (Or.inl (by decide)) (so_0 h0 g _) rfl cf_X10_sendAwayWhoCannotStand wq611 wq8 wq609 (c_X10_sendAwayWhoCannotStand l D g T h0 s18 hW.2.1 hp19.1.1) ⟨rfl, rfl, ⟨by decide, by decide⟩, ⟨by decide, by decide⟩⟩ rfl rfl (Nat.le_of_ble_eq_true rfl) dX10_market_64) hW (fun s24 H locs hp25 hW => ?_)
      obtain ⟨fs24, hp25⟩ := hp25
      have hF26 := hF20.call fs24 (fun k h => by omega)
      have q27 : s24 0 11 = s0 0 11 := (congrFun (fs24 _ (by omega)) _).trans q21
      have q28 : s24 1 1 = 0 := (congrFun (fs24 _ (by omega)) _).trans hp19.1.2.1
      have q29 : s24 1 4 = s13 1 4 := (congrFun (fs24 _ (by omega)) _).trans hp19.1.2.2.1
      have ghp25 := hp25.2
      have S64 : s24 5 = (zMk (s0 2) n (s0 5)).2.2 ∧ ∀ j, 0 ≤ j → j < 100 → s24 4 j = (zMk (s0 2) n (s0 5)).2.2 j := by rw [fs24 5 (by omega), fs24 4 (by omega)]; exact ⟨R48.1, (R48.2.resolve_right (fun q => by omega)).2.2⟩
      refine x_aload_n hx hb hl 1 rfl dX10_market_67 rfl ?_
      refine x_iconst hx hb dX10_market_68 ?_
      refine x_put (j := 11) hx hb hown hT hE hW cls_X10 (by decide) (fun σ => so_0 h0 g σ) (by decide) (st_X10_11 h0 s24 0 0) (ln_X10_11 h0 _ _) wq523 rfl rfl rfl (by decide) dX10_market_69 (fun H locs s30 es30 hW => ?_)
      have q31 : s30 0 11 = 0 := by rw [es30, xU_s]
      have q32 : s30 1 1 = 0 := (show s30 1 1 = s24 1 1 from by rw [es30, xU_k _ _ _ (by omega)]).trans q28
      have q33 : s30 1 4 = s13 1 4 := (show s30 1 4 = s24 1 4 from by rw [es30, xU_k _ _ _ (by omega)]).trans q29
      have q34 : IC s30 := by rw [es30]; exact IC_o (by decide) hp25.1.1
      have hF35 := hF26.put es30 (by omega)
      have S69 : s30 5 = (zMk (s0 2) n (s0 5)).2.2 ∧ ∀ j, 0 ≤ j → j < 100 → s30 4 j = (zMk (s0 2) n (s0 5)).2.2 j := by rw [es30, xU_k _ _ _ (by omega), xU_k _ _ _ (by omega)]; exact S64
      refine x_bipush hx hb dX10_market_72 (by decide) ?_
      refine x_aload_n hx hb hl 1 rfl dX10_market_74 rfl ?_
      refine x_get (j := 1) (v := .ref (h0 + 3)) hx hb hown hT hE hW cls_X10 (Or.inl (by decide)) (so_0 h0 g _) (by decide) rfl wq513 dX10_market_75 ?_
      refine x_iconst hx hb dX10_market_78 ?_
      refine x_goi (x_runVN (As := [.int (xJ 0)]) hx hb hml hown hT hE hW hl.1 (Or.inl (by decide)) (so_3 h0 g _) rfl cf_X6_howMany wq627 wq12 wn625 (c_X6_howManyM l D g T h0 s30 hW.2.1 0 (by decide) q34) ⟨rfl, rfl, ⟨by decide, by decide⟩, ⟨by decide, by decide⟩⟩ rfl rfl (Nat.le_of_ble_eq_true rfl) dX10_market_79) hW (fun x36 s37 H locs rx36 hp38 hW => ?_)
      obtain ⟨es37, hp38⟩ := hp38
      subst es37
      have ghp38 := hp38
      have H79 := ghp38
      rw [zct_g 100 (fun i a b => S69.2 i a (by omega))] at H79
      refine x_isub hx hb dX10_market_82 ?_
      rw [eQ]
      exact x_iret hx hb hr hlk hW (by omega) ⟨hF35, ⟨q34, trivial⟩, Or.inr ⟨by omega, by omega, S69.1, Or.inr ⟨(R48.2.resolve_right (fun q => by omega)).2.1, S69.2, by omega, by omega⟩⟩⟩ dX10_market_83
    refine x_aload_n hx hb hl 1 rfl dX10_market_55 rfl ?_
    refine x_get (j := 0) (v := .ref (h0 + 1)) hx hb hown hT hE hW cls_X10 (Or.inl (by decide)) (so_0 h0 g _) (by decide) rfl wq512 dX10_market_56 ?_
    refine x_getN (j := 4) (v := .int (xJ (s18 1 4))) hx hb hown hT hE hW cls_X8 (Or.inl (by decide)) (so_1 h0 g _) (by decide) rfl wn205 dX10_market_59 ?_
    refine x_rd hW (fun x39 ex39 rx39 => ?_)
    have fx39 : x39 = s13 1 4 := ex39.trans hp19.1.2.2.1
    rw [eQ]
    exact x_iret hx hb hr hlk hW rx39 ⟨hF20, ⟨hp19.1.1, trivial⟩, by
    have z := (R48.2.resolve_left (fun q => by omega))
    exact Or.inr ⟨by omega, by omega, R48.1, Or.inl ⟨z.2.1, by omega, z.2.2.2, by omega⟩⟩⟩ dX10_market_62
  refine x_iconst hx hb dX10_market_22 ?_
  rw [eQ]
  exact x_iret hx hb hr hlk hW (by decide) ⟨hF, ⟨p0, trivial⟩, Or.inl ⟨by omega, by omega, by omega, rfl, rfl, rfl⟩⟩ dX10_market_23
set_option maxHeartbeats 4000000 in
set_option maxRecDepth 100000 in
theorem c_X6_isOpenM (l : Launch) (D : va_G) (g : xG) (T : Nat × Nat × Nat) (h0 : Nat) (s0 : xS) (hσ : xRR s0) (x : Int) (rx : xR x) (p0 : IC s0) : Met l yX6_isOpen (xws yX6_isOpen cX6_isOpen 3 (some .boolean)) { frames := 1, cells := 0, slots := 0, locals := 21 } (xP [.ref (h0 + 3), .int (xJ x)] D g T h0 s0) (xQi D g h0 (fun r τ => s0 = τ ∧ ((r = 1 ∧ 0 ≤ x ∧ x < 100 ∧ s0 4 x ≠ 1 ∧ s0 4 x ≠ 3) ∨ (r = 0 ∧ ¬ (0 ≤ x ∧ x < 100 ∧ s0 4 x ≠ 1 ∧ s0 4 x ≠ 3))))) 0 0 (xA h0) := by
  refine x_met hσ (by decide) (Nat.le_of_ble_eq_true rfl) ?_
  intro p e s m args below meth c hx hb hr hml hown hT hlk hnm hE hW ls hl
  have hl : lv_has ls 3 [(0, .ref (h0 + 3)), (1, .int (xJ x))] := hl
  obtain ⟨Q, eQ⟩ : ∃ Q, Q = MQ below (xQi D g h0 (fun r τ => s0 = τ ∧ ((r = 1 ∧ 0 ≤ x ∧ x < 100 ∧ s0 4 x ≠ 1 ∧ s0 4 x ≠ 3) ∨ (r = 0 ∧ ¬ (0 ≤ x ∧ x < 100 ∧ s0 4 x ≠ 1 ∧ s0 4 x ≠ 3))))) args s 0 0 (xA h0) := ⟨_, rfl⟩
  rw [← eQ]
  generalize hHe : ([] : List Loc) = locs at hW ⊢
  obtain ⟨H, eH⟩ : ∃ H, H = s.heap := ⟨_, rfl⟩
  rw [← eH] at hW ⊢
  have k1_1 : s0 1 1 = s0 1 1 := rfl
  refine x_aload_n hx hb hl 0 rfl dX6_isOpen_0 rfl ?_
  refine x_iload_n hx hb hl 1 rfl dX6_isOpen_1 rfl ?_
  refine x_goi (x_runV (As := [.int (xJ x)]) hx hb hml hown hT hE hW hl.1 (Or.inl (by decide)) (so_3 h0 g _) rfl cf_X6_kindAt wq619 wq10 wq617 (c_X6_kindAt l D g T h0 s0 hW.2.1 x rx p0) ⟨rfl, rfl, ⟨by decide, by decide⟩, ⟨by decide, by decide⟩⟩ rfl rfl (Nat.le_of_ble_eq_true rfl) dX6_isOpen_2) hW (fun x1 s2 H locs rx1 hp3 hW => ?_)
  obtain ⟨es2, hp3⟩ := hp3
  subst es2
  have ghp3 := hp3
  refine lv_istore_n (lv' := [(2, .int (xJ x1)), (0, .ref (h0 + 3)), (1, .int (xJ x))]) hx hb dX6_isOpen_5 rfl hl (by decide) rfl (fun ls hl => ?_)
  refine x_iload_n hx hb hl 0 rfl dX6_isOpen_6 rfl ?_
  refine x_iconst hx hb dX6_isOpen_7 ?_
  refine x_icmp_eq (tgt := 20) hx hb rx1 (by decide) dX6_isOpen_8 (by decide) (fun c4 => ?_) (fun c4 => ?_)
  · skip
    refine x_iconst hx hb dX6_isOpen_20 ?_
    rw [eQ]
    exact x_zret hx hb hr hlk hW (by omega) ⟨rfl, by omega⟩ dX6_isOpen_21
  refine x_iload_n hx hb hl 0 rfl dX6_isOpen_11 rfl ?_
  refine x_iconst hx hb dX6_isOpen_12 ?_
  refine x_icmp_eq (tgt := 20) hx hb rx1 (by decide) dX6_isOpen_13 (by decide) (fun c5 => ?_) (fun c5 => ?_)
  · skip
    refine x_iconst hx hb dX6_isOpen_20 ?_
    rw [eQ]
    exact x_zret hx hb hr hlk hW (by omega) ⟨rfl, by omega⟩ dX6_isOpen_21
  refine x_iconst hx hb dX6_isOpen_16 ?_
  refine lv_goto (tgt := 21) hx hb dX6_isOpen_17 (by decide) ?_
  rw [eQ]
  exact x_zret hx hb hr hlk hW (by omega) ⟨rfl, by omega⟩ dX6_isOpen_21
set_option maxHeartbeats 4000000 in
set_option maxRecDepth 100000 in
theorem c_X6_openSpotM (l : Launch) (D : va_G) (g : xG) (T : Nat × Nat × Nat) (h0 : Nat) (s0 : xS) (hσ : xRR s0) (x : Int) (rx : xR x) (y : Int) (ry : xR y) (p0 : IC s0) : Met l yX6_openSpot (xws yX6_openSpot cX6_openSpot 4 (some .int)) { frames := 2, cells := 0, slots := 0, locals := 43 } (xP [.ref (h0 + 3), .int (xJ x), .int (xJ y)] D g T h0 s0) (xQi D g h0 (fun r τ => s0 = τ ∧ ((r = 10 * y + x ∧ (0 ≤ x ∧ x < 10 ∧ 0 ≤ y ∧ y < 10 ∧ s0 4 (10 * y + x) ≠ 1 ∧ s0 4 (10 * y + x) ≠ 3)) ∨ (r = -1 ∧ ¬ (0 ≤ x ∧ x < 10 ∧ 0 ≤ y ∧ y < 10 ∧ s0 4 (10 * y + x) ≠ 1 ∧ s0 4 (10 * y + x) ≠ 3))))) 0 0 (xA h0) := by
  refine x_met hσ (by decide) (Nat.le_of_ble_eq_true rfl) ?_
  intro p e s m args below meth c hx hb hr hml hown hT hlk hnm hE hW ls hl
  have hl : lv_has ls 4 [(0, .ref (h0 + 3)), (1, .int (xJ x)), (2, .int (xJ y))] := hl
  obtain ⟨Q, eQ⟩ : ∃ Q, Q = MQ below (xQi D g h0 (fun r τ => s0 = τ ∧ ((r = 10 * y + x ∧ (0 ≤ x ∧ x < 10 ∧ 0 ≤ y ∧ y < 10 ∧ s0 4 (10 * y + x) ≠ 1 ∧ s0 4 (10 * y + x) ≠ 3)) ∨ (r = -1 ∧ ¬ (0 ≤ x ∧ x < 10 ∧ 0 ≤ y ∧ y < 10 ∧ s0 4 (10 * y + x) ≠ 1 ∧ s0 4 (10 * y + x) ≠ 3))))) args s 0 0 (xA h0) := ⟨_, rfl⟩
  rw [← eQ]
  generalize hHe : ([] : List Loc) = locs at hW ⊢
  obtain ⟨H, eH⟩ : ∃ H, H = s.heap := ⟨_, rfl⟩
  rw [← eH] at hW ⊢
  have k1_1 : s0 1 1 = s0 1 1 := rfl
  refine x_iload_n hx hb hl 1 rfl dX6_openSpot_0 rfl ?_
  refine x_iload_n hx hb hl 2 rfl dX6_openSpot_1 rfl ?_
  refine x_goi (x_runS (As := [.int (xJ x), .int (xJ y)]) hx hb hml hown hT hE hW hl.1 cf_X6_spotAt wq708 wq707 (c_X6_spotAt l D g T h0 s0 hW.2.1 x rx y ry) ⟨rfl, rfl, ⟨by decide, by decide⟩, ⟨by decide, by decide⟩⟩ rfl rfl (Nat.le_of_ble_eq_true rfl) dX6_openSpot_2) hW (fun x1 s2 H locs rx1 hp3 hW => ?_)
  obtain ⟨es2, hp3⟩ := hp3
  subst es2
  have ghp3 := hp3
  refine lv_istore_n (lv' := [(3, .int (xJ x1)), (0, .ref (h0 + 3)), (1, .int (xJ x)), (2, .int (xJ y))]) hx hb dX6_openSpot_5 rfl hl (by decide) rfl (fun ls hl => ?_)
  refine x_aload_n hx hb hl 1 rfl dX6_openSpot_6 rfl ?_
  refine x_iload_n hx hb hl 0 rfl dX6_openSpot_7 rfl ?_
  refine x_goi (x_runV (As := [.int (xJ x1)]) hx hb hml hown hT hE hW hl.1 (Or.inl (by decide)) (so_3 h0 g _) rfl cf_X6_isOpen wq615 wq9 wq710 (c_X6_isOpenM l D g T h0 s0 hW.2.1 x1 rx1 p0) ⟨rfl, rfl, ⟨by decide, by decide⟩, ⟨by decide, by decide⟩⟩ rfl rfl (Nat.le_of_ble_eq_true rfl) dX6_openSpot_8) hW (fun x4 s5 H locs rx4 hp6 hW => ?_)
  obtain ⟨es5, hp6⟩ := hp6
  subst es5
  have ghp6 := hp6
  have W8 : x1 = 10 * y + x → s0 4 x1 = s0 4 (10 * y + x) := fun h => by rw [h]
  refine x_if_eq (tgt := 18) hx hb rx4 dX6_openSpot_11 (by decide) (fun c7 => ?_) (fun c7 => ?_)
  · skip
    refine x_iconst hx hb dX6_openSpot_18 ?_
    rw [eQ]
    exact x_iret hx hb hr hlk hW (by decide) ⟨rfl, by omega⟩ dX6_openSpot_19
  refine x_iload_n hx hb hl 0 rfl dX6_openSpot_14 rfl ?_
  refine lv_goto (tgt := 19) hx hb dX6_openSpot_15 (by decide) ?_
  rw [eQ]
  exact x_iret hx hb hr hlk hW rx1 ⟨rfl, by omega⟩ dX6_openSpot_19
set_option maxHeartbeats 4000000 in
set_option maxRecDepth 100000 in
theorem c_X10_felonM (l : Launch) (D : va_G) (g : xG) (T : Nat × Nat × Nat) (h0 : Nat) (s0 : xS) (hσ : xRR s0) (f : Int) (rf : xR f) (x : Int) (rx : xR x) (y : Int) (ry : xR y) (w : Int) (rw : xR w) (p0 : IC s0) : Met l yX10_felon (xws yX10_felon cX10_felon 6 (some .boolean)) { frames := 3, cells := 0, slots := 0, locals := 66 } (xP [.ref (h0 + 0), .int (xJ f), .int (xJ x), .int (xJ y), .int (xJ w)] D g T h0 s0) (xQi D g h0 (fun r τ => xFr (fun k => k = 142 ∨ k = 143 ∨ k = 144 ∨ k = 145) s0 τ ∧ (((IC τ) ∧ True) ∧ ((r = 1 ∧ 0 ≤ f ∧ f ≤ 9 ∧ (0 ≤ x ∧ x < 10 ∧ 0 ≤ y ∧ y < 10 ∧ s0 4 (10 * y + x) ≠ 1 ∧ s0 4 (10 * y + x) ≠ 3) ∧ 0 ≤ w ∧ w ≤ 999) ∨ (r = 0 ∧ ¬ (0 ≤ f ∧ f ≤ 9 ∧ (0 ≤ x ∧ x < 10 ∧ 0 ≤ y ∧ y < 10 ∧ s0 4 (10 * y + x) ≠ 1 ∧ s0 4 (10 * y + x) ≠ 3) ∧ 0 ≤ w ∧ w ≤ 999)))))) 0 0 (xA h0) := by
  refine x_met hσ (by decide) (Nat.le_of_ble_eq_true rfl) ?_
  intro p e s m args below meth c hx hb hr hml hown hT hlk hnm hE hW ls hl
  have hl : lv_has ls 6 [(0, .ref (h0 + 0)), (1, .int (xJ f)), (2, .int (xJ x)), (3, .int (xJ y)), (4, .int (xJ w))] := hl
  obtain ⟨Q, eQ⟩ : ∃ Q, Q = MQ below (xQi D g h0 (fun r τ => xFr (fun k => k = 142 ∨ k = 143 ∨ k = 144 ∨ k = 145) s0 τ ∧ (((IC τ) ∧ True) ∧ ((r = 1 ∧ 0 ≤ f ∧ f ≤ 9 ∧ (0 ≤ x ∧ x < 10 ∧ 0 ≤ y ∧ y < 10 ∧ s0 4 (10 * y + x) ≠ 1 ∧ s0 4 (10 * y + x) ≠ 3) ∧ 0 ≤ w ∧ w ≤ 999) ∨ (r = 0 ∧ ¬ (0 ≤ f ∧ f ≤ 9 ∧ (0 ≤ x ∧ x < 10 ∧ 0 ≤ y ∧ y < 10 ∧ s0 4 (10 * y + x) ≠ 1 ∧ s0 4 (10 * y + x) ≠ 3) ∧ 0 ≤ w ∧ w ≤ 999)))))) args s 0 0 (xA h0) := ⟨_, rfl⟩
  rw [← eQ]
  generalize hHe : ([] : List Loc) = locs at hW ⊢
  obtain ⟨H, eH⟩ : ∃ H, H = s.heap := ⟨_, rfl⟩
  rw [← eH] at hW ⊢
  have hF : xFr (fun k => k = 142 ∨ k = 143 ∨ k = 144 ∨ k = 145) s0 s0 := xFr.rf
  have k1_1 : s0 1 1 = s0 1 1 := rfl
  refine x_aload_n hx hb hl 0 rfl dX10_felon_0 rfl ?_
  refine x_get (j := 1) (v := .ref (h0 + 3)) hx hb hown hT hE hW cls_X10 (Or.inl (by decide)) (so_0 h0 g _) (by decide) rfl wq513 dX10_felon_1 ?_
  refine x_iload_n hx hb hl 2 rfl dX10_felon_4 rfl ?_
  refine x_iload_n hx hb hl 3 rfl dX10_felon_5 rfl ?_
  refine x_goi (x_runVN (As := [.int (xJ x), .int (xJ y)]) hx hb hml hown hT hE hW hl.1 (Or.inl (by decide)) (so_3 h0 g _) rfl cf_X6_openSpot wq705 wq27 wn703 (c_X6_openSpotM l D g T h0 s0 hW.2.1 x rx y ry p0) ⟨rfl, rfl, ⟨by decide, by decide⟩, ⟨by decide, by decide⟩⟩ rfl rfl (Nat.le_of_ble_eq_true rfl) dX10_felon_6) hW (fun x1 s2 H locs rx1 hp3 hW => ?_)
  obtain ⟨es2, hp3⟩ := hp3
  subst es2
  have ghp3 := hp3
  refine lv_istore (lv' := [(5, .int (xJ x1)), (0, .ref (h0 + 0)), (1, .int (xJ f)), (2, .int (xJ x)), (3, .int (xJ y)), (4, .int (xJ w))]) hx hb dX10_felon_9 hl (by decide) rfl (fun ls hl => ?_)
  refine x_iload_n hx hb hl 2 rfl dX10_felon_11 rfl ?_
  refine x_iconst hx hb dX10_felon_12 ?_
  refine x_bipush hx hb dX10_felon_13 (by decide) ?_
  refine x_goi (x_runS (As := [.int (xJ f), .int (xJ 0), .int (xJ 9)]) hx hb hml hown hT hE hW hl.1 cf_X10_isIn wq562 wq561 (c_X10_isIn l D g T h0 s0 hW.2.1 f rf 0 (by decide) 9 (by decide)) ⟨rfl, rfl, ⟨by decide, by decide⟩, ⟨by decide, by decide⟩⟩ rfl rfl (Nat.le_of_ble_eq_true rfl) dX10_felon_15) hW (fun x4 s5 H locs rx4 hp6 hW => ?_)
  obtain ⟨es5, hp6⟩ := hp6
  subst es5
  have ghp6 := hp6
  refine x_if_eq (tgt := 39) hx hb rx4 dX10_felon_18 (by decide) (fun c7 => ?_) (fun c7 => ?_)
  · skip
    refine x_iconst hx hb dX10_felon_39 ?_
    rw [eQ]
    exact x_zret hx hb hr hlk hW (by omega) ⟨hF, ⟨p0, trivial⟩, by omega⟩ dX10_felon_40
  refine x_iload hx hb hl 0 rfl dX10_felon_21 ?_
  refine x_iconst hx hb dX10_felon_23 ?_
  refine x_icmp_eq (tgt := 39) hx hb rx1 (by decide) dX10_felon_24 (by decide) (fun c8 => ?_) (fun c8 => ?_)
  · skip
    refine x_iconst hx hb dX10_felon_39 ?_
    rw [eQ]
    exact x_zret hx hb hr hlk hW (by omega) ⟨hF, ⟨p0, trivial⟩, by omega⟩ dX10_felon_40
  refine x_iload hx hb hl 5 rfl dX10_felon_27 ?_
  refine x_iconst hx hb dX10_felon_29 ?_
  refine x_sipush hx hb dX10_felon_30 (by decide) ?_
  refine x_goi (x_runS (As := [.int (xJ w), .int (xJ 0), .int (xJ 999)]) hx hb hml hown hT hE hW hl.1 cf_X10_isIn wq562 wq561 (c_X10_isIn l D g T h0 s0 hW.2.1 w rw 0 (by decide) 999 (by decide)) ⟨rfl, rfl, ⟨by decide, by decide⟩, ⟨by decide, by decide⟩⟩ rfl rfl (Nat.le_of_ble_eq_true rfl) dX10_felon_33) hW (fun x9 s10 H locs rx9 hp11 hW => ?_)
  obtain ⟨es10, hp11⟩ := hp11
  subst es10
  have ghp11 := hp11
  refine x_if_ne (tgt := 41) hx hb rx9 dX10_felon_36 (by decide) (fun c12 => ?_) (fun c12 => ?_)
  · skip
    refine x_aload_n hx hb hl 1 rfl dX10_felon_41 rfl ?_
    refine x_get (j := 8) (v := .ref (h0 + 136)) hx hb hown hT hE hW cls_X10 (Or.inl (by decide)) (so_0 h0 g _) (by decide) rfl wq520 dX10_felon_42 ?_
    refine x_iload_n hx hb hl 2 rfl dX10_felon_45 rfl ?_
    refine x_iload hx hb hl 0 rfl dX10_felon_46 ?_
    refine x_iload hx hb hl 5 rfl dX10_felon_48 ?_
    refine x_gov (x_runVN (As := [.int (xJ f), .int (xJ x1), .int (xJ w)]) hx hb hml hown hT hE hW hl.1 (Or.inl (by decide)) (so_136 h0 g _) rfl cf_X2_setFelon wq623 wq11 wn621 (c_X2_setFelon l D g T h0 s0 hW.2.1 136 xd_136 f rf x1 rx1 w rw p0) ⟨rfl, rfl, ⟨by decide, by decide⟩, ⟨by decide, by decide⟩⟩ rfl rfl (Nat.le_of_ble_eq_true rfl) dX10_felon_50) hW (fun s14 H locs hp15 hW => ?_)
    obtain ⟨fs14, hp15⟩ := hp15
    have hF16 := hF.call fs14 (fun k h => by omega)
    have q17 : s14 1 1 = s0 1 1 := (congrFun (fs14 _ (by omega)) _).trans k1_1
    have ghp15 := hp15.2
    refine x_iconst hx hb dX10_felon_53 ?_
    rw [eQ]
    exact x_zret hx hb hr hlk hW (by omega) ⟨hF16, ⟨hp15.1.1, trivial⟩, by omega⟩ dX10_felon_54
  refine x_iconst hx hb dX10_felon_39 ?_
  rw [eQ]
  exact x_zret hx hb hr hlk hW (by omega) ⟨hF, ⟨p0, trivial⟩, by omega⟩ dX10_felon_40
set_option maxHeartbeats 4000000 in
set_option maxRecDepth 100000 in
theorem c_X10_lampM (l : Launch) (D : va_G) (g : xG) (T : Nat × Nat × Nat) (h0 : Nat) (s0 : xS) (hσ : xRR s0) (i : Int) (ri : xR i) (x : Int) (rx : xR x) (y : Int) (ry : xR y) (p0 : IC s0) : Met l yX10_lamp (xws yX10_lamp cX10_lamp 5 (some .boolean)) { frames := 3, cells := 0, slots := 0, locals := 66 } (xP [.ref (h0 + 0), .int (xJ i), .int (xJ x), .int (xJ y)] D g T h0 s0) (xQi D g h0 (fun r τ => xFr (fun k => k = 129) s0 τ ∧ (((IC τ) ∧ True) ∧ ((r = 1 ∧ 0 ≤ i ∧ i ≤ 3 ∧ (x = -1 ∨ (0 ≤ x ∧ x < 10 ∧ 0 ≤ y ∧ y < 10 ∧ s0 4 (10 * y + x) ≠ 1 ∧ s0 4 (10 * y + x) ≠ 3))) ∨ (r = 0 ∧ ¬ (0 ≤ i ∧ i ≤ 3 ∧ (x = -1 ∨ (0 ≤ x ∧ x < 10 ∧ 0 ≤ y ∧ y < 10 ∧ s0 4 (10 * y + x) ≠ 1 ∧ s0 4 (10 * y + x) ≠ 3)))))))) 0 0 (xA h0) := by
  refine x_met hσ (by decide) (Nat.le_of_ble_eq_true rfl) ?_
  intro p e s m args below meth c hx hb hr hml hown hT hlk hnm hE hW ls hl
  have hl : lv_has ls 5 [(0, .ref (h0 + 0)), (1, .int (xJ i)), (2, .int (xJ x)), (3, .int (xJ y))] := hl
  obtain ⟨Q, eQ⟩ : ∃ Q, Q = MQ below (xQi D g h0 (fun r τ => xFr (fun k => k = 129) s0 τ ∧ (((IC τ) ∧ True) ∧ ((r = 1 ∧ 0 ≤ i ∧ i ≤ 3 ∧ (x = -1 ∨ (0 ≤ x ∧ x < 10 ∧ 0 ≤ y ∧ y < 10 ∧ s0 4 (10 * y + x) ≠ 1 ∧ s0 4 (10 * y + x) ≠ 3))) ∨ (r = 0 ∧ ¬ (0 ≤ i ∧ i ≤ 3 ∧ (x = -1 ∨ (0 ≤ x ∧ x < 10 ∧ 0 ≤ y ∧ y < 10 ∧ s0 4 (10 * y + x) ≠ 1 ∧ s0 4 (10 * y + x) ≠ 3)))))))) args s 0 0 (xA h0) := ⟨_, rfl⟩
  rw [← eQ]
  generalize hHe : ([] : List Loc) = locs at hW ⊢
  obtain ⟨H, eH⟩ : ∃ H, H = s.heap := ⟨_, rfl⟩
  rw [← eH] at hW ⊢
  have hF : xFr (fun k => k = 129) s0 s0 := xFr.rf
  have k1_1 : s0 1 1 = s0 1 1 := rfl
  refine x_iload_n hx hb hl 1 rfl dX10_lamp_0 rfl ?_
  refine x_iconst hx hb dX10_lamp_1 ?_
  refine x_iconst hx hb dX10_lamp_2 ?_
  refine x_goi (x_runS (As := [.int (xJ i), .int (xJ 0), .int (xJ 3)]) hx hb hml hown hT hE hW hl.1 cf_X10_isIn wq562 wq561 (c_X10_isIn l D g T h0 s0 hW.2.1 i ri 0 (by decide) 3 (by decide)) ⟨rfl, rfl, ⟨by decide, by decide⟩, ⟨by decide, by decide⟩⟩ rfl rfl (Nat.le_of_ble_eq_true rfl) dX10_lamp_3) hW (fun x1 s2 H locs rx1 hp3 hW => ?_)
  obtain ⟨es2, hp3⟩ := hp3
  subst es2
  have ghp3 := hp3
  refine x_if_ne (tgt := 11) hx hb rx1 dX10_lamp_6 (by decide) (fun c4 => ?_) (fun c4 => ?_)
  · skip
    refine x_aload_n hx hb hl 0 rfl dX10_lamp_11 rfl ?_
    refine x_get (j := 1) (v := .ref (h0 + 3)) hx hb hown hT hE hW cls_X10 (Or.inl (by decide)) (so_0 h0 g _) (by decide) rfl wq513 dX10_lamp_12 ?_
    refine x_iload_n hx hb hl 2 rfl dX10_lamp_15 rfl ?_
    refine x_iload_n hx hb hl 3 rfl dX10_lamp_16 rfl ?_
    refine x_goi (x_runVN (As := [.int (xJ x), .int (xJ y)]) hx hb hml hown hT hE hW hl.1 (Or.inl (by decide)) (so_3 h0 g _) rfl cf_X6_openSpot wq705 wq27 wn703 (c_X6_openSpotM l D g T h0 s0 hW.2.1 x rx y ry p0) ⟨rfl, rfl, ⟨by decide, by decide⟩, ⟨by decide, by decide⟩⟩ rfl rfl (Nat.le_of_ble_eq_true rfl) dX10_lamp_17) hW (fun x5 s6 H locs rx5 hp7 hW => ?_)
    obtain ⟨es6, hp7⟩ := hp7
    subst es6
    have ghp7 := hp7
    refine lv_istore (lv' := [(4, .int (xJ x5)), (0, .ref (h0 + 0)), (1, .int (xJ i)), (2, .int (xJ x)), (3, .int (xJ y))]) hx hb dX10_lamp_20 hl (by decide) rfl (fun ls hl => ?_)
    refine x_iload_n hx hb hl 3 rfl dX10_lamp_22 rfl ?_
    refine x_iconst hx hb dX10_lamp_23 ?_
    refine x_icmp_eq (tgt := 35) hx hb rx (by decide) dX10_lamp_24 (by decide) (fun c8 => ?_) (fun c8 => ?_)
    · skip
      refine x_aload_n hx hb hl 1 rfl dX10_lamp_35 rfl ?_
      refine x_get (j := 5) (v := .ref (h0 + 128)) hx hb hown hT hE hW cls_X10 (Or.inl (by decide)) (so_0 h0 g _) (by decide) rfl wq517 dX10_lamp_36 ?_
      refine x_getN (j := 2) (v := .ref (h0 + 129)) hx hb hown hT hE hW cls_X0 (Or.inl (by decide)) (so_128 h0 g _) (by decide) rfl wn356 dX10_lamp_39 ?_
      refine x_iload_n hx hb hl 2 rfl dX10_lamp_42 rfl ?_
      refine x_iload hx hb hl 0 rfl dX10_lamp_43 ?_
      refine x_iast hx hb hE hW (by decide) (fun σ => sa_129 h0 g σ) (by omega) (by decide) rx5 dX10_lamp_45 (fun H locs s9 es9 hW => ?_)
      have q10 : IC s9 := by rw [es9]; exact IC_o (by decide) p0
      have q11 : s9 1 1 = s0 1 1 := (show s9 1 1 = s0 1 1 from by rw [es9, xU_k _ _ _ (by omega)]).trans k1_1
      have hF12 := hF.put es9 (by omega)
      refine x_iconst hx hb dX10_lamp_46 ?_
      rw [eQ]
      exact x_zret hx hb hr hlk hW (by omega) ⟨hF12, ⟨q10, trivial⟩, by omega⟩ dX10_lamp_47
    refine x_iload hx hb hl 0 rfl dX10_lamp_27 ?_
    refine x_iconst hx hb dX10_lamp_29 ?_
    refine x_icmp_ne (tgt := 35) hx hb rx5 (by decide) dX10_lamp_30 (by decide) (fun c13 => ?_) (fun c13 => ?_)
    · skip
      refine x_aload_n hx hb hl 1 rfl dX10_lamp_35 rfl ?_
      refine x_get (j := 5) (v := .ref (h0 + 128)) hx hb hown hT hE hW cls_X10 (Or.inl (by decide)) (so_0 h0 g _) (by decide) rfl wq517 dX10_lamp_36 ?_
      refine x_getN (j := 2) (v := .ref (h0 + 129)) hx hb hown hT hE hW cls_X0 (Or.inl (by decide)) (so_128 h0 g _) (by decide) rfl wn356 dX10_lamp_39 ?_
      refine x_iload_n hx hb hl 2 rfl dX10_lamp_42 rfl ?_
      refine x_iload hx hb hl 0 rfl dX10_lamp_43 ?_
      refine x_iast hx hb hE hW (by decide) (fun σ => sa_129 h0 g σ) (by omega) (by decide) rx5 dX10_lamp_45 (fun H locs s14 es14 hW => ?_)
      have q15 : IC s14 := by rw [es14]; exact IC_o (by decide) p0
      have q16 : s14 1 1 = s0 1 1 := (show s14 1 1 = s0 1 1 from by rw [es14, xU_k _ _ _ (by omega)]).trans k1_1
      have hF17 := hF.put es14 (by omega)
      refine x_iconst hx hb dX10_lamp_46 ?_
      rw [eQ]
      exact x_zret hx hb hr hlk hW (by omega) ⟨hF17, ⟨q15, trivial⟩, by omega⟩ dX10_lamp_47
    refine x_iconst hx hb dX10_lamp_33 ?_
    rw [eQ]
    exact x_zret hx hb hr hlk hW (by omega) ⟨hF, ⟨p0, trivial⟩, by omega⟩ dX10_lamp_34
  refine x_iconst hx hb dX10_lamp_9 ?_
  rw [eQ]
  exact x_zret hx hb hr hlk hW (by omega) ⟨hF, ⟨p0, trivial⟩, by omega⟩ dX10_lamp_10

