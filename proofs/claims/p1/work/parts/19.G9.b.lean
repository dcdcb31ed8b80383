set_option maxHeartbeats 4000000 in
set_option maxRecDepth 100000 in
theorem c_X11_market (l : Launch) (D : va_G) (g : xG) (T : Nat × Nat × Nat) (h0 : Nat) (s0 : xS) (hσ : xRR s0) (n : Int) (rn : xR n) (p0 : s0 268 8 = 0) : Met l yX11_market (xws yX11_market cX11_market 5 (some .int)) { frames := 1, cells := 0, slots := 0, locals := 22 } (xP [.ref (h0 + 268), .int (xJ n)] D g T h0 s0) (xQi D g h0 (fun r τ => s0 = τ ∧ (r = -1))) 0 0 (xA h0) := by
  refine x_met hσ (by decide) (Nat.le_of_ble_eq_true rfl) ?_
  intro p e s m args below meth c hx hb hr hml hown hT hlk hnm hE hW ls hl
  have hl : lv_has ls 5 [(0, .ref (h0 + 268)), (1, .int (xJ n))] := hl
  obtain ⟨Q, eQ⟩ : ∃ Q, Q = MQ below (xQi D g h0 (fun r τ => s0 = τ ∧ (r = -1))) args s 0 0 (xA h0) := ⟨_, rfl⟩
  rw [← eQ]
  generalize hHe : ([] : List Loc) = locs at hW ⊢
  obtain ⟨H, eH⟩ : ∃ H, H = s.heap := ⟨_, rfl⟩
  rw [← eH] at hW ⊢
  refine x_iload_n hx hb hl 1 rfl dX11_market_0 rfl ?_
  refine x_iconst hx hb dX11_market_1 ?_
  refine x_sipush hx hb dX11_market_2 (by decide) ?_
  refine x_goi (x_runS (As := [.int (xJ n), .int (xJ 1), .int (xJ 140)]) hx hb hml hown hT hE hW hl.1 cf_X11_in wq1383 wq1382 (c_X11_in l D g T h0 s0 hW.2.1 n rn 1 (by decide) 140 (by decide)) ⟨rfl, rfl, ⟨by decide, by decide⟩, ⟨by decide, by decide⟩⟩ rfl rfl (Nat.le_of_ble_eq_true rfl) dX11_market_5) hW (fun x1 s2 H locs rx1 hp3 hW => ?_)
  obtain ⟨es2, hp3⟩ := hp3
  subst es2
  have ghp3 := hp3
  refine x_if_eq (tgt := 19) hx hb rx1 dX11_market_8 (by decide) (fun c4 => ?_) (fun c4 => ?_)
  · skip
    refine x_iconst hx hb dX11_market_19 ?_
    rw [eQ]
    exact x_iret hx hb hr hlk hW (by decide) ⟨rfl, by omega⟩ dX11_market_20
  refine x_iload_n hx hb hl 1 rfl dX11_market_11 rfl ?_
  refine x_aload_n hx hb hl 0 rfl dX11_market_12 rfl ?_
  refine x_get (j := 8) (v := .int (xJ (s0 268 8))) hx hb hown hT hE hW cls_X11 (Or.inl (by decide)) (so_268 h0 g _) (by decide) rfl wq1193 dX11_market_13 ?_
  refine x_rd hW (fun x5 ex5 rx5 => ?_)
  have fx5 : x5 = 0 := by rw [ex5, p0]
  refine x_icmp_le (tgt := 21) hx hb rn rx5 dX11_market_16 (by decide) (fun c6 => False.elim (by omega)) (fun c6 => ?_)
  refine x_iconst hx hb dX11_market_19 ?_
  rw [eQ]
  exact x_iret hx hb hr hlk hW (by decide) ⟨rfl, by omega⟩ dX11_market_20
set_option maxHeartbeats 4000000 in
set_option maxRecDepth 100000 in
theorem c_X11_law (l : Launch) (D : va_G) (g : xG) (T : Nat × Nat × Nat) (h0 : Nat) (s0 : xS) (hσ : xRR s0) (n : Int) (rn : xR n) (p0 : s0 268 8 = 0) : Met l yX11_law (xws yX11_law cX11_law 4 (some .int)) { frames := 1, cells := 0, slots := 0, locals := 22 } (xP [.ref (h0 + 268), .int (xJ n)] D g T h0 s0) (xQi D g h0 (fun r τ => s0 = τ ∧ (r = -1))) 0 0 (xA h0) := by
  refine x_met hσ (by decide) (Nat.le_of_ble_eq_true rfl) ?_
  intro p e s m args below meth c hx hb hr hml hown hT hlk hnm hE hW ls hl
  have hl : lv_has ls 4 [(0, .ref (h0 + 268)), (1, .int (xJ n))] := hl
  obtain ⟨Q, eQ⟩ : ∃ Q, Q = MQ below (xQi D g h0 (fun r τ => s0 = τ ∧ (r = -1))) args s 0 0 (xA h0) := ⟨_, rfl⟩
  rw [← eQ]
  generalize hHe : ([] : List Loc) = locs at hW ⊢
  obtain ⟨H, eH⟩ : ∃ H, H = s.heap := ⟨_, rfl⟩
  rw [← eH] at hW ⊢
  refine x_iload_n hx hb hl 1 rfl dX11_law_0 rfl ?_
  refine x_iconst hx hb dX11_law_1 ?_
  refine x_sipush hx hb dX11_law_2 (by decide) ?_
  refine x_goi (x_runS (As := [.int (xJ n), .int (xJ 1), .int (xJ 240)]) hx hb hml hown hT hE hW hl.1 cf_X11_in wq1383 wq1382 (c_X11_in l D g T h0 s0 hW.2.1 n rn 1 (by decide) 240 (by decide)) ⟨rfl, rfl, ⟨by decide, by decide⟩, ⟨by decide, by decide⟩⟩ rfl rfl (Nat.le_of_ble_eq_true rfl) dX11_law_5) hW (fun x1 s2 H locs rx1 hp3 hW => ?_)
  obtain ⟨es2, hp3⟩ := hp3
  subst es2
  have ghp3 := hp3
  refine x_if_eq (tgt := 19) hx hb rx1 dX11_law_8 (by decide) (fun c4 => ?_) (fun c4 => ?_)
  · skip
    refine x_iconst hx hb dX11_law_19 ?_
    rw [eQ]
    exact x_iret hx hb hr hlk hW (by decide) ⟨rfl, by omega⟩ dX11_law_20
  refine x_iload_n hx hb hl 1 rfl dX11_law_11 rfl ?_
  refine x_aload_n hx hb hl 0 rfl dX11_law_12 rfl ?_
  refine x_get (j := 8) (v := .int (xJ (s0 268 8))) hx hb hown hT hE hW cls_X11 (Or.inl (by decide)) (so_268 h0 g _) (by decide) rfl wq1193 dX11_law_13 ?_
  refine x_rd hW (fun x5 ex5 rx5 => ?_)
  have fx5 : x5 = 0 := by rw [ex5, p0]
  refine x_icmp_le (tgt := 21) hx hb rn rx5 dX11_law_16 (by decide) (fun c6 => False.elim (by omega)) (fun c6 => ?_)
  refine x_iconst hx hb dX11_law_19 ?_
  rw [eQ]
  exact x_iret hx hb hr hlk hW (by decide) ⟨rfl, by omega⟩ dX11_law_20
set_option maxHeartbeats 4000000 in
set_option maxRecDepth 100000 in
theorem c_X11_walk (l : Launch) (D : va_G) (g : xG) (T : Nat × Nat × Nat) (h0 : Nat) (s0 : xS) (hσ : xRR s0) (j : Int) (rj : xR j) (n : Int) (rn : xR n) (p0 : s0 268 8 = 0) : Met l yX11_walk (xws yX11_walk cX11_walk 5 (some .int)) { frames := 1, cells := 0, slots := 0, locals := 22 } (xP [.ref (h0 + 268), .int (xJ j), .int (xJ n)] D g T h0 s0) (xQi D g h0 (fun r τ => s0 = τ ∧ (r = -1))) 0 0 (xA h0) := by
  refine x_met hσ (by decide) (Nat.le_of_ble_eq_true rfl) ?_
  intro p e s m args below meth c hx hb hr hml hown hT hlk hnm hE hW ls hl
  have hl : lv_has ls 5 [(0, .ref (h0 + 268)), (1, .int (xJ j)), (2, .int (xJ n))] := hl
  obtain ⟨Q, eQ⟩ : ∃ Q, Q = MQ below (xQi D g h0 (fun r τ => s0 = τ ∧ (r = -1))) args s 0 0 (xA h0) := ⟨_, rfl⟩
  rw [← eQ]
  generalize hHe : ([] : List Loc) = locs at hW ⊢
  obtain ⟨H, eH⟩ : ∃ H, H = s.heap := ⟨_, rfl⟩
  rw [← eH] at hW ⊢
  refine x_iload_n hx hb hl 1 rfl dX11_walk_0 rfl ?_
  refine x_iconst hx hb dX11_walk_1 ?_
  refine x_goi (x_runS (As := [.int (xJ j), .int (xJ 2)]) hx hb hml hown hT hE hW hl.1 cf_X11_isFive wq1412 wq1411 (c_X11_isFive l D g T h0 s0 hW.2.1 j rj 2 (by decide)) ⟨rfl, rfl, ⟨by decide, by decide⟩, ⟨by decide, by decide⟩⟩ rfl rfl (Nat.le_of_ble_eq_true rfl) dX11_walk_2) hW (fun x1 s2 H locs rx1 hp3 hW => ?_)
  obtain ⟨es2, hp3⟩ := hp3
  subst es2
  have ghp3 := hp3
  refine x_if_eq (tgt := 26) hx hb rx1 dX11_walk_5 (by decide) (fun c4 => ?_) (fun c4 => ?_)
  · skip
    refine x_iconst hx hb dX11_walk_26 ?_
    rw [eQ]
    exact x_iret hx hb hr hlk hW (by decide) ⟨rfl, by omega⟩ dX11_walk_27
  refine x_iload_n hx hb hl 2 rfl dX11_walk_8 rfl ?_
  refine x_iconst hx hb dX11_walk_9 ?_
  refine x_bipush hx hb dX11_walk_10 (by decide) ?_
  refine x_goi (x_runS (As := [.int (xJ n), .int (xJ 1), .int (xJ 80)]) hx hb hml hown hT hE hW hl.1 cf_X11_in wq1383 wq1382 (c_X11_in l D g T h0 s0 hW.2.1 n rn 1 (by decide) 80 (by decide)) ⟨rfl, rfl, ⟨by decide, by decide⟩, ⟨by decide, by decide⟩⟩ rfl rfl (Nat.le_of_ble_eq_true rfl) dX11_walk_12) hW (fun x5 s6 H locs rx5 hp7 hW => ?_)
  obtain ⟨es6, hp7⟩ := hp7
  subst es6
  have ghp7 := hp7
  refine x_if_eq (tgt := 26) hx hb rx5 dX11_walk_15 (by decide) (fun c8 => ?_) (fun c8 => ?_)
  · skip
    refine x_iconst hx hb dX11_walk_26 ?_
    rw [eQ]
    exact x_iret hx hb hr hlk hW (by decide) ⟨rfl, by omega⟩ dX11_walk_27
  refine x_iload_n hx hb hl 2 rfl dX11_walk_18 rfl ?_
  refine x_aload_n hx hb hl 0 rfl dX11_walk_19 rfl ?_
  refine x_get (j := 8) (v := .int (xJ (s0 268 8))) hx hb hown hT hE hW cls_X11 (Or.inl (by decide)) (so_268 h0 g _) (by decide) rfl wq1193 dX11_walk_20 ?_
  refine x_rd hW (fun x9 ex9 rx9 => ?_)
  have fx9 : x9 = 0 := by rw [ex9, p0]
  refine x_icmp_le (tgt := 28) hx hb rn rx9 dX11_walk_23 (by decide) (fun c10 => False.elim (by omega)) (fun c10 => ?_)
  refine x_iconst hx hb dX11_walk_26 ?_
  rw [eQ]
  exact x_iret hx hb hr hlk hW (by decide) ⟨rfl, by omega⟩ dX11_walk_27
set_option maxHeartbeats 4000000 in
set_option maxRecDepth 100000 in
theorem c_X11_prints (l : Launch) (D : va_G) (g : xG) (T : Nat × Nat × Nat) (h0 : Nat) (s0 : xS) (hσ : xRR s0) (n : Int) (rn : xR n) (x : Int) (rx : xR x) (p0 : s0 268 8 = 0) : Met l yX11_prints (xws yX11_prints cX11_prints 6 (some .int)) { frames := 1, cells := 0, slots := 0, locals := 22 } (xP [.ref (h0 + 268), .int (xJ n), .int (xJ x)] D g T h0 s0) (xQi D g h0 (fun r τ => s0 = τ ∧ (r = -1))) 0 0 (xA h0) := by
  refine x_met hσ (by decide) (Nat.le_of_ble_eq_true rfl) ?_
  intro p e s m args below meth c hx hb hr hml hown hT hlk hnm hE hW ls hl
  have hl : lv_has ls 6 [(0, .ref (h0 + 268)), (1, .int (xJ n)), (2, .int (xJ x))] := hl
  obtain ⟨Q, eQ⟩ : ∃ Q, Q = MQ below (xQi D g h0 (fun r τ => s0 = τ ∧ (r = -1))) args s 0 0 (xA h0) := ⟨_, rfl⟩
  rw [← eQ]
  generalize hHe : ([] : List Loc) = locs at hW ⊢
  obtain ⟨H, eH⟩ : ∃ H, H = s.heap := ⟨_, rfl⟩
  rw [← eH] at hW ⊢
  refine x_iload_n hx hb hl 1 rfl dX11_prints_0 rfl ?_
  refine x_iconst hx hb dX11_prints_1 ?_
  refine x_bipush hx hb dX11_prints_2 (by decide) ?_
  refine x_goi (x_runS (As := [.int (xJ n), .int (xJ 2), .int (xJ 20)]) hx hb hml hown hT hE hW hl.1 cf_X11_in wq1383 wq1382 (c_X11_in l D g T h0 s0 hW.2.1 n rn 2 (by decide) 20 (by decide)) ⟨rfl, rfl, ⟨by decide, by decide⟩, ⟨by decide, by decide⟩⟩ rfl rfl (Nat.le_of_ble_eq_true rfl) dX11_prints_4) hW (fun x1 s2 H locs rx1 hp3 hW => ?_)
  obtain ⟨es2, hp3⟩ := hp3
  subst es2
  have ghp3 := hp3
  refine x_if_eq (tgt := 27) hx hb rx1 dX11_prints_7 (by decide) (fun c4 => ?_) (fun c4 => ?_)
  · skip
    refine x_iconst hx hb dX11_prints_27 ?_
    rw [eQ]
    exact x_iret hx hb hr hlk hW (by decide) ⟨rfl, by omega⟩ dX11_prints_28
  refine x_iload_n hx hb hl 2 rfl dX11_prints_10 rfl ?_
  refine x_iconst hx hb dX11_prints_11 ?_
  refine x_iconst hx hb dX11_prints_12 ?_
  refine x_goi (x_runS (As := [.int (xJ x), .int (xJ 0), .int (xJ 1)]) hx hb hml hown hT hE hW hl.1 cf_X11_in wq1383 wq1382 (c_X11_in l D g T h0 s0 hW.2.1 x rx 0 (by decide) 1 (by decide)) ⟨rfl, rfl, ⟨by decide, by decide⟩, ⟨by decide, by decide⟩⟩ rfl rfl (Nat.le_of_ble_eq_true rfl) dX11_prints_13) hW (fun x5 s6 H locs rx5 hp7 hW => ?_)
  obtain ⟨es6, hp7⟩ := hp7
  subst es6
  have ghp7 := hp7
  refine x_if_eq (tgt := 27) hx hb rx5 dX11_prints_16 (by decide) (fun c8 => ?_) (fun c8 => ?_)
  · skip
    refine x_iconst hx hb dX11_prints_27 ?_
    rw [eQ]
    exact x_iret hx hb hr hlk hW (by decide) ⟨rfl, by omega⟩ dX11_prints_28
  refine x_iload_n hx hb hl 1 rfl dX11_prints_19 rfl ?_
  refine x_aload_n hx hb hl 0 rfl dX11_prints_20 rfl ?_
  refine x_get (j := 8) (v := .int (xJ (s0 268 8))) hx hb hown hT hE hW cls_X11 (Or.inl (by decide)) (so_268 h0 g _) (by decide) rfl wq1193 dX11_prints_21 ?_
  refine x_rd hW (fun x9 ex9 rx9 => ?_)
  have fx9 : x9 = 0 := by rw [ex9, p0]
  refine x_icmp_le (tgt := 29) hx hb rn rx9 dX11_prints_24 (by decide) (fun c10 => False.elim (by omega)) (fun c10 => ?_)
  refine x_iconst hx hb dX11_prints_27 ?_
  rw [eQ]
  exact x_iret hx hb hr hlk hW (by decide) ⟨rfl, by omega⟩ dX11_prints_28
set_option maxHeartbeats 4000000 in
set_option maxRecDepth 100000 in
theorem c_X11_cloudy (l : Launch) (D : va_G) (g : xG) (T : Nat × Nat × Nat) (h0 : Nat) (s0 : xS) (hσ : xRR s0) (n : Int) (rn : xR n) (w : Int) (rw : xR w) (x : Int) (rx : xR x) (p0 : s0 268 8 = 0) : Met l yX11_cloudy (xws yX11_cloudy cX11_cloudy 10 (some .int)) { frames := 1, cells := 0, slots := 0, locals := 22 } (xP [.ref (h0 + 268), .int (xJ n), .int (xJ w), .int (xJ x)] D g T h0 s0) (xQi D g h0 (fun r τ => s0 = τ ∧ (r = -1))) 0 0 (xA h0) := by
  refine x_met hσ (by decide) (Nat.le_of_ble_eq_true rfl) ?_
  intro p e s m args below meth c hx hb hr hml hown hT hlk hnm hE hW ls hl
  have hl : lv_has ls 10 [(0, .ref (h0 + 268)), (1, .int (xJ n)), (2, .int (xJ w)), (3, .int (xJ x))] := hl
  obtain ⟨Q, eQ⟩ : ∃ Q, Q = MQ below (xQi D g h0 (fun r τ => s0 = τ ∧ (r = -1))) args s 0 0 (xA h0) := ⟨_, rfl⟩
  rw [← eQ]
  generalize hHe : ([] : List Loc) = locs at hW ⊢
  obtain ⟨H, eH⟩ : ∃ H, H = s.heap := ⟨_, rfl⟩
  rw [← eH] at hW ⊢
  refine x_iload_n hx hb hl 1 rfl dX11_cloudy_0 rfl ?_
  refine x_iconst hx hb dX11_cloudy_1 ?_
  refine x_bipush hx hb dX11_cloudy_2 (by decide) ?_
  refine x_goi (x_runS (As := [.int (xJ n), .int (xJ 1), .int (xJ 10)]) hx hb hml hown hT hE hW hl.1 cf_X11_in wq1383 wq1382 (c_X11_in l D g T h0 s0 hW.2.1 n rn 1 (by decide) 10 (by decide)) ⟨rfl, rfl, ⟨by decide, by decide⟩, ⟨by decide, by decide⟩⟩ rfl rfl (Nat.le_of_ble_eq_true rfl) dX11_cloudy_4) hW (fun x1 s2 H locs rx1 hp3 hW => ?_)
  obtain ⟨es2, hp3⟩ := hp3
  subst es2
  have ghp3 := hp3
  refine x_if_eq (tgt := 37) hx hb rx1 dX11_cloudy_7 (by decide) (fun c4 => ?_) (fun c4 => ?_)
  · skip
    refine x_iconst hx hb dX11_cloudy_37 ?_
    rw [eQ]
    exact x_iret hx hb hr hlk hW (by decide) ⟨rfl, by omega⟩ dX11_cloudy_38
  refine x_iload_n hx hb hl 2 rfl dX11_cloudy_10 rfl ?_
  refine x_iconst hx hb dX11_cloudy_11 ?_
  refine x_bipush hx hb dX11_cloudy_12 (by decide) ?_
  refine x_goi (x_runS (As := [.int (xJ w), .int (xJ 0), .int (xJ 90)]) hx hb hml hown hT hE hW hl.1 cf_X11_in wq1383 wq1382 (c_X11_in l D g T h0 s0 hW.2.1 w rw 0 (by decide) 90 (by decide)) ⟨rfl, rfl, ⟨by decide, by decide⟩, ⟨by decide, by decide⟩⟩ rfl rfl (Nat.le_of_ble_eq_true rfl) dX11_cloudy_14) hW (fun x5 s6 H locs rx5 hp7 hW => ?_)
  obtain ⟨es6, hp7⟩ := hp7
  subst es6
  have ghp7 := hp7
  refine x_if_eq (tgt := 37) hx hb rx5 dX11_cloudy_17 (by decide) (fun c8 => ?_) (fun c8 => ?_)
  · skip
    refine x_iconst hx hb dX11_cloudy_37 ?_
    rw [eQ]
    exact x_iret hx hb hr hlk hW (by decide) ⟨rfl, by omega⟩ dX11_cloudy_38
  refine x_iload_n hx hb hl 3 rfl dX11_cloudy_20 rfl ?_
  refine x_iconst hx hb dX11_cloudy_21 ?_
  refine x_iconst hx hb dX11_cloudy_22 ?_
  refine x_goi (x_runS (As := [.int (xJ x), .int (xJ 0), .int (xJ 2)]) hx hb hml hown hT hE hW hl.1 cf_X11_in wq1383 wq1382 (c_X11_in l D g T h0 s0 hW.2.1 x rx 0 (by decide) 2 (by decide)) ⟨rfl, rfl, ⟨by decide, by decide⟩, ⟨by decide, by decide⟩⟩ rfl rfl (Nat.le_of_ble_eq_true rfl) dX11_cloudy_23) hW (fun x9 s10 H locs rx9 hp11 hW => ?_)
  obtain ⟨es10, hp11⟩ := hp11
  subst es10
  have ghp11 := hp11
  refine x_if_eq (tgt := 37) hx hb rx9 dX11_cloudy_26 (by decide) (fun c12 => ?_) (fun c12 => ?_)
  · skip
    refine x_iconst hx hb dX11_cloudy_37 ?_
    rw [eQ]
    exact x_iret hx hb hr hlk hW (by decide) ⟨rfl, by omega⟩ dX11_cloudy_38
  refine x_iload_n hx hb hl 1 rfl dX11_cloudy_29 rfl ?_
  refine x_aload_n hx hb hl 0 rfl dX11_cloudy_30 rfl ?_
  refine x_get (j := 8) (v := .int (xJ (s0 268 8))) hx hb hown hT hE hW cls_X11 (Or.inl (by decide)) (so_268 h0 g _) (by decide) rfl wq1193 dX11_cloudy_31 ?_
  refine x_rd hW (fun x13 ex13 rx13 => ?_)
  have fx13 : x13 = 0 := by rw [ex13, p0]
  refine x_icmp_le (tgt := 39) hx hb rn rx13 dX11_cloudy_34 (by decide) (fun c14 => False.elim (by omega)) (fun c14 => ?_)
  refine x_iconst hx hb dX11_cloudy_37 ?_
  rw [eQ]
  exact x_iret hx hb hr hlk hW (by decide) ⟨rfl, by omega⟩ dX11_cloudy_38
set_option maxHeartbeats 4000000 in
set_option maxRecDepth 100000 in
theorem c_X11_together (l : Launch) (D : va_G) (g : xG) (T : Nat × Nat × Nat) (h0 : Nat) (s0 : xS) (hσ : xRR s0) (n : Int) (rn : xR n) (x : Int) (rx : xR x) (p0 : s0 268 8 = 0) : Met l yX11_together (xws yX11_together cX11_together 8 (some .int)) { frames := 1, cells := 0, slots := 0, locals := 22 } (xP [.ref (h0 + 268), .int (xJ n), .int (xJ x)] D g T h0 s0) (xQi D g h0 (fun r τ => s0 = τ ∧ (r = -1))) 0 0 (xA h0) := by
  refine x_met hσ (by decide) (Nat.le_of_ble_eq_true rfl) ?_
  intro p e s m args below meth c hx hb hr hml hown hT hlk hnm hE hW ls hl
  have hl : lv_has ls 8 [(0, .ref (h0 + 268)), (1, .int (xJ n)), (2, .int (xJ x))] := hl
  obtain ⟨Q, eQ⟩ : ∃ Q, Q = MQ below (xQi D g h0 (fun r τ => s0 = τ ∧ (r = -1))) args s 0 0 (xA h0) := ⟨_, rfl⟩
  rw [← eQ]
  generalize hHe : ([] : List Loc) = locs at hW ⊢
  obtain ⟨H, eH⟩ : ∃ H, H = s.heap := ⟨_, rfl⟩
  rw [← eH] at hW ⊢
  refine x_iload_n hx hb hl 1 rfl dX11_together_0 rfl ?_
  refine x_iconst hx hb dX11_together_1 ?_
  refine x_bipush hx hb dX11_together_2 (by decide) ?_
  refine x_goi (x_runS (As := [.int (xJ n), .int (xJ 1), .int (xJ 8)]) hx hb hml hown hT hE hW hl.1 cf_X11_in wq1383 wq1382 (c_X11_in l D g T h0 s0 hW.2.1 n rn 1 (by decide) 8 (by decide)) ⟨rfl, rfl, ⟨by decide, by decide⟩, ⟨by decide, by decide⟩⟩ rfl rfl (Nat.le_of_ble_eq_true rfl) dX11_together_4) hW (fun x1 s2 H locs rx1 hp3 hW => ?_)
  obtain ⟨es2, hp3⟩ := hp3
  subst es2
  have ghp3 := hp3
  refine x_if_eq (tgt := 31) hx hb rx1 dX11_together_7 (by decide) (fun c4 => ?_) (fun c4 => ?_)
  · skip
    refine x_iconst hx hb dX11_together_31 ?_
    rw [eQ]
    exact x_iret hx hb hr hlk hW (by decide) ⟨rfl, by omega⟩ dX11_together_32
  refine x_iload_n hx hb hl 2 rfl dX11_together_10 rfl ?_
  refine x_iconst hx hb dX11_together_11 ?_
  refine x_iconst hx hb dX11_together_12 ?_
  refine x_goi (x_runS (As := [.int (xJ x), .int (xJ 0), .int (xJ 2)]) hx hb hml hown hT hE hW hl.1 cf_X11_in wq1383 wq1382 (c_X11_in l D g T h0 s0 hW.2.1 x rx 0 (by decide) 2 (by decide)) ⟨rfl, rfl, ⟨by decide, by decide⟩, ⟨by decide, by decide⟩⟩ rfl rfl (Nat.le_of_ble_eq_true rfl) dX11_together_13) hW (fun x5 s6 H locs rx5 hp7 hW => ?_)
  obtain ⟨es6, hp7⟩ := hp7
  subst es6
  have ghp7 := hp7
  refine x_if_eq (tgt := 31) hx hb rx5 dX11_together_16 (by decide) (fun c8 => ?_) (fun c8 => ?_)
  · skip
    refine x_iconst hx hb dX11_together_31 ?_
    rw [eQ]
    exact x_iret hx hb hr hlk hW (by decide) ⟨rfl, by omega⟩ dX11_together_32
  refine x_iconst hx hb dX11_together_19 ?_
  refine x_iload_n hx hb hl 1 rfl dX11_together_20 rfl ?_
  refine x_imul hx hb dX11_together_21 ?_
  refine x_iconst hx hb dX11_together_22 ?_
  refine x_iadd hx hb dX11_together_23 ?_
  refine x_aload_n hx hb hl 0 rfl dX11_together_24 rfl ?_
  refine x_get (j := 8) (v := .int (xJ (s0 268 8))) hx hb hown hT hE hW cls_X11 (Or.inl (by decide)) (so_268 h0 g _) (by decide) rfl wq1193 dX11_together_25 ?_
  refine x_rd hW (fun x9 ex9 rx9 => ?_)
  have fx9 : x9 = 0 := by rw [ex9, p0]
  refine x_icmp_le (tgt := 33) hx hb (by omega) rx9 dX11_together_28 (by decide) (fun c10 => False.elim (by omega)) (fun c10 => ?_)
  refine x_iconst hx hb dX11_together_31 ?_
  rw [eQ]
  exact x_iret hx hb hr hlk hW (by decide) ⟨rfl, by omega⟩ dX11_together_32
set_option maxHeartbeats 4000000 in
set_option maxRecDepth 100000 in
theorem c_X11_servedBy (l : Launch) (D : va_G) (g : xG) (T : Nat × Nat × Nat) (h0 : Nat) (s0 : xS) (hσ : xRR s0) (n : Int) (rn : xR n) (x : Int) (rx : xR x) (p0 : s0 269 34 = 0) : Met l yX11_servedBy (xws yX11_servedBy cX11_servedBy 3 (some .int)) { frames := 2, cells := 0, slots := 0, locals := 42 } (xP [.ref (h0 + 268), .int (xJ n), .int (xJ x)] D g T h0 s0) (xQi D g h0 (fun r τ => s0 = τ ∧ (r = -1))) 0 0 (xA h0) := by
  refine x_met hσ (by decide) (Nat.le_of_ble_eq_true rfl) ?_
  intro p e s m args below meth c hx hb hr hml hown hT hlk hnm hE hW ls hl
  have hl : lv_has ls 3 [(0, .ref (h0 + 268)), (1, .int (xJ n)), (2, .int (xJ x))] := hl
  obtain ⟨Q, eQ⟩ : ∃ Q, Q = MQ below (xQi D g h0 (fun r τ => s0 = τ ∧ (r = -1))) args s 0 0 (xA h0) := ⟨_, rfl⟩
  rw [← eQ]
  generalize hHe : ([] : List Loc) = locs at hW ⊢
  obtain ⟨H, eH⟩ : ∃ H, H = s.heap := ⟨_, rfl⟩
  rw [← eH] at hW ⊢
  refine x_iload_n hx hb hl 1 rfl dX11_servedBy_0 rfl ?_
  refine x_iconst hx hb dX11_servedBy_1 ?_
  refine x_bipush hx hb dX11_servedBy_2 (by decide) ?_
  refine x_goi (x_runS (As := [.int (xJ n), .int (xJ 1), .int (xJ 60)]) hx hb hml hown hT hE hW hl.1 cf_X11_in wq1383 wq1382 (c_X11_in l D g T h0 s0 hW.2.1 n rn 1 (by decide) 60 (by decide)) ⟨rfl, rfl, ⟨by decide, by decide⟩, ⟨by decide, by decide⟩⟩ rfl rfl (Nat.le_of_ble_eq_true rfl) dX11_servedBy_4) hW (fun x1 s2 H locs rx1 hp3 hW => ?_)
  obtain ⟨es2, hp3⟩ := hp3
  subst es2
  have ghp3 := hp3
  refine x_if_eq (tgt := 19) hx hb rx1 dX11_servedBy_7 (by decide) (fun c4 => ?_) (fun c4 => ?_)
  · skip
    refine x_iconst hx hb dX11_servedBy_19 ?_
    rw [eQ]
    exact x_iret hx hb hr hlk hW (by decide) ⟨rfl, by omega⟩ dX11_servedBy_20
  refine x_iload_n hx hb hl 2 rfl dX11_servedBy_10 rfl ?_
  refine x_iconst hx hb dX11_servedBy_11 ?_
  refine x_iconst hx hb dX11_servedBy_12 ?_
  refine x_goi (x_runS (As := [.int (xJ x), .int (xJ 0), .int (xJ 2)]) hx hb hml hown hT hE hW hl.1 cf_X11_in wq1383 wq1382 (c_X11_in l D g T h0 s0 hW.2.1 x rx 0 (by decide) 2 (by decide)) ⟨rfl, rfl, ⟨by decide, by decide⟩, ⟨by decide, by decide⟩⟩ rfl rfl (Nat.le_of_ble_eq_true rfl) dX11_servedBy_13) hW (fun x5 s6 H locs rx5 hp7 hW => ?_)
  obtain ⟨es6, hp7⟩ := hp7
  subst es6
  have ghp7 := hp7
  refine x_if_ne (tgt := 21) hx hb rx5 dX11_servedBy_16 (by decide) (fun c8 => ?_) (fun c8 => ?_)
  · skip
    refine x_iload_n hx hb hl 2 rfl dX11_servedBy_21 rfl ?_
    refine x_iconst hx hb dX11_servedBy_22 ?_
    refine x_icmp_ne (tgt := 40) hx hb rx (by decide) dX11_servedBy_23 (by decide) (fun c9 => ?_) (fun c9 => ?_)
    · skip
      refine x_aload_n hx hb hl 0 rfl dX11_servedBy_40 rfl ?_
      refine x_iload_n hx hb hl 2 rfl dX11_servedBy_41 rfl ?_
      refine x_goi (x_runV (As := [.int (xJ x)]) hx hb hml hown hT hE hW hl.1 (Or.inl (by decide)) (so_268 h0 g _) rfl cf_X11_isJudge wq1409 wq109 wq1407 (c_X11_isJudge l D g T h0 s0 hW.2.1 x rx p0) ⟨rfl, rfl, ⟨by decide, by decide⟩, ⟨by decide, by decide⟩⟩ rfl rfl (Nat.le_of_ble_eq_true rfl) dX11_servedBy_42) hW (fun x10 s11 H locs rx10 hp12 hW => ?_)
      obtain ⟨es11, hp12⟩ := hp12
      subst es11
      have ghp12 := hp12
      refine x_if_ne (tgt := 50) hx hb rx10 dX11_servedBy_45 (by decide) (fun c13 => False.elim (by omega)) (fun c13 => ?_)
      refine x_iconst hx hb dX11_servedBy_48 ?_
      rw [eQ]
      exact x_iret hx hb hr hlk hW (by decide) ⟨rfl, by omega⟩ dX11_servedBy_49
    refine x_aload_n hx hb hl 0 rfl dX11_servedBy_26 rfl ?_
    refine x_get (j := 0) (v := .ref (h0 + 269)) hx hb hown hT hE hW cls_X11 (Or.inl (by decide)) (so_268 h0 g _) (by decide) rfl wq1185 dX11_servedBy_27 ?_
    refine x_bipush hx hb dX11_servedBy_30 (by decide) ?_
    refine x_iald hx hb hE hW (Or.inl (by decide)) (sa_269 h0 g _) ⟨by decide, by decide⟩ (by decide) dX11_servedBy_32 ?_
    refine x_rd hW (fun x14 ex14 rx14 => ?_)
    have fx14 : x14 = 0 := by rw [ex14, p0]
    refine x_iconst hx hb dX11_servedBy_33 ?_
    refine x_icmp_eq (tgt := 50) hx hb rx14 (by decide) dX11_servedBy_34 (by decide) (fun c15 => False.elim (by omega)) (fun c15 => ?_)
    refine lv_goto (tgt := 48) hx hb dX11_servedBy_37 (by decide) ?_
    refine x_iconst hx hb dX11_servedBy_48 ?_
    rw [eQ]
    exact x_iret hx hb hr hlk hW (by decide) ⟨rfl, by omega⟩ dX11_servedBy_49
  refine x_iconst hx hb dX11_servedBy_19 ?_
  rw [eQ]
  exact x_iret hx hb hr hlk hW (by decide) ⟨rfl, by omega⟩ dX11_servedBy_20
set_option maxHeartbeats 4000000 in
set_option maxRecDepth 100000 in
theorem c_X11_seed (l : Launch) (D : va_G) (g : xG) (T : Nat × Nat × Nat) (h0 : Nat) (s0 : xS) (hσ : xRR s0) (x : Int) (rx : xR x) : Met l yX11_seed (xws yX11_seed cX11_seed 2 (some .boolean)) { frames := 1, cells := 0, slots := 0, locals := 22 } (xP [.ref (h0 + 268), .int (xJ x)] D g T h0 s0) (xQi D g h0 (fun r τ => xFr (fun k => k = 269) s0 τ ∧ ((r = 1 ∧ 0 ≤ x ∧ x ≤ 65535) ∨ (r = 0 ∧ (x < 0 ∨ 65535 < x))))) 0 0 (xA h0) := by
  refine x_met hσ (by decide) (Nat.le_of_ble_eq_true rfl) ?_
  intro p e s m args below meth c hx hb hr hml hown hT hlk hnm hE hW ls hl
  have hl : lv_has ls 2 [(0, .ref (h0 + 268)), (1, .int (xJ x))] := hl
  obtain ⟨Q, eQ⟩ : ∃ Q, Q = MQ below (xQi D g h0 (fun r τ => xFr (fun k => k = 269) s0 τ ∧ ((r = 1 ∧ 0 ≤ x ∧ x ≤ 65535) ∨ (r = 0 ∧ (x < 0 ∨ 65535 < x))))) args s 0 0 (xA h0) := ⟨_, rfl⟩
  rw [← eQ]
  generalize hHe : ([] : List Loc) = locs at hW ⊢
  obtain ⟨H, eH⟩ : ∃ H, H = s.heap := ⟨_, rfl⟩
  rw [← eH] at hW ⊢
  have hF : xFr (fun k => k = 269) s0 s0 := xFr.rf
  refine x_iload_n hx hb hl 1 rfl dX11_seed_0 rfl ?_
  refine x_iconst hx hb dX11_seed_1 ?_
  refine lv_ldcw (v := xJ 65535) hx hb hown (hT _ wq1758) dX11_seed_2 ?_
  refine x_goi (x_runS (As := [.int (xJ x), .int (xJ 0), .int (xJ 65535)]) hx hb hml hown hT hE hW hl.1 cf_X11_in wq1383 wq1382 (c_X11_in l D g T h0 s0 hW.2.1 x rx 0 (by decide) 65535 (by decide)) ⟨rfl, rfl, ⟨by decide, by decide⟩, ⟨by decide, by decide⟩⟩ rfl rfl (Nat.le_of_ble_eq_true rfl) dX11_seed_5) hW (fun x1 s2 H locs rx1 hp3 hW => ?_)
  obtain ⟨es2, hp3⟩ := hp3
  subst es2
  have ghp3 := hp3
  refine x_if_ne (tgt := 13) hx hb rx1 dX11_seed_8 (by decide) (fun c4 => ?_) (fun c4 => ?_)
  · skip
    refine x_aload_n hx hb hl 0 rfl dX11_seed_13 rfl ?_
    refine x_get (j := 0) (v := .ref (h0 + 269)) hx hb hown hT hE hW cls_X11 (Or.inl (by decide)) (so_268 h0 g _) (by decide) rfl wq1185 dX11_seed_14 ?_
    refine x_bipush hx hb dX11_seed_17 (by decide) ?_
    refine x_iload_n hx hb hl 1 rfl dX11_seed_19 rfl ?_
    refine x_iast hx hb hE hW (by decide) (fun σ => sa_269 h0 g σ) ⟨by decide, by decide⟩ (by decide) rx dX11_seed_20 (fun H locs s5 es5 hW => ?_)
    have hF6 := hF.put es5 (by omega)
    refine x_iconst hx hb dX11_seed_21 ?_
    rw [eQ]
    exact x_zret hx hb hr hlk hW (by omega) ⟨hF6, by omega⟩ dX11_seed_22
  refine x_iconst hx hb dX11_seed_11 ?_
  rw [eQ]
  exact x_zret hx hb hr hlk hW (by omega) ⟨hF, by omega⟩ dX11_seed_12
set_option maxHeartbeats 4000000 in
set_option maxRecDepth 100000 in
theorem c_X11_keep (l : Launch) (D : va_G) (g : xG) (T : Nat × Nat × Nat) (h0 : Nat) (s0 : xS) (hσ : xRR s0) (p0 : s0 269 37 = 0) : Met l yX11_keep (xws yX11_keep cX11_keep 1 (some .int)) { frames := 1, cells := 0, slots := 0, locals := 24 } (xP [.ref (h0 + 268)] D g T h0 s0) (xQi D g h0 (fun r τ => xFr (fun k => k = 268 ∨ k = 271 ∨ k = 308 ∨ k = 309) s0 τ ∧ (r = 0))) 0 0 (xA h0) := by
  refine x_met hσ (by decide) (Nat.le_of_ble_eq_true rfl) ?_
  intro p e s m args below meth c hx hb hr hml hown hT hlk hnm hE hW ls hl
  have hl : lv_has ls 1 [(0, .ref (h0 + 268))] := hl
  obtain ⟨Q, eQ⟩ : ∃ Q, Q = MQ below (xQi D g h0 (fun r τ => xFr (fun k => k = 268 ∨ k = 271 ∨ k = 308 ∨ k = 309) s0 τ ∧ (r = 0))) args s 0 0 (xA h0) := ⟨_, rfl⟩
  rw [← eQ]
  generalize hHe : ([] : List Loc) = locs at hW ⊢
  obtain ⟨H, eH⟩ : ∃ H, H = s.heap := ⟨_, rfl⟩
  rw [← eH] at hW ⊢
  have hF : xFr (fun k => k = 268 ∨ k = 271 ∨ k = 308 ∨ k = 309) s0 s0 := xFr.rf
  refine x_aload_n hx hb hl 0 rfl dX11_keep_0 rfl ?_
  refine x_iconst hx hb dX11_keep_1 ?_
  refine x_put (j := 58) hx hb hown hT hE hW cls_X11 (by decide) (fun σ => so_268 h0 g σ) (by decide) (st_X11_58 h0 s0 268 1) (ln_X11_58 h0 _ _) wq1243 rfl rfl rfl (by decide) dX11_keep_2 (fun H locs s1 es1 hW => ?_)
  have q2 : s1 269 37 = 0 := by rw [es1, xU_k _ _ _ (by omega)]; exact p0
  have hF3 := hF.put es1 (by omega)
  refine x_aload_n hx hb hl 0 rfl dX11_keep_5 rfl ?_
  refine x_get (j := 0) (v := .ref (h0 + 269)) hx hb hown hT hE hW cls_X11 (Or.inl (by decide)) (so_268 h0 g _) (by decide) rfl wq1185 dX11_keep_6 ?_
  refine x_aload_n hx hb hl 0 rfl dX11_keep_9 rfl ?_
  refine x_get (j := 2) (v := .ref (h0 + 271)) hx hb hown hT hE hW cls_X11 (Or.inl (by decide)) (so_268 h0 g _) (by decide) rfl wq1187 dX11_keep_10 ?_
  refine x_gov (x_runS (As := [.ref (h0 + 269), .ref (h0 + 271)]) hx hb hml hown hT hE hW hl.1 cf_X11_copies wq1647 wq1646 (c_X11_copiesK l D g T h0 s1 hW.2.1) ⟨rfl, rfl, ⟨by decide, by decide⟩, ⟨by decide, by decide⟩⟩ rfl rfl (Nat.le_of_ble_eq_true rfl) dX11_keep_13) hW (fun s5 H locs hp6 hW => ?_)
  obtain ⟨fs5, hp6⟩ := hp6
  have hF7 := hF3.call fs5 (fun k h => by omega)
  have q8 : s5 269 37 = 0 := (congrFun (fs5 _ (by omega)) _).trans q2
  have ghp6 := hp6
  refine x_aload_n hx hb hl 0 rfl dX11_keep_16 rfl ?_
  refine x_get (j := 5) (v := .ref (h0 + 274)) hx hb hown hT hE hW cls_X11 (Or.inl (by decide)) (so_268 h0 g _) (by decide) rfl wq1190 dX11_keep_17 ?_
  refine x_aload_n hx hb hl 0 rfl dX11_keep_20 rfl ?_
  refine x_get (j := 6) (v := .ref (h0 + 275)) hx hb hown hT hE hW cls_X11 (Or.inl (by decide)) (so_268 h0 g _) (by decide) rfl wq1191 dX11_keep_21 ?_
  refine x_aload_n hx hb hl 0 rfl dX11_keep_24 rfl ?_
  refine x_get (j := 59) (v := .ref (h0 + 308)) hx hb hown hT hE hW cls_X11 (Or.inl (by decide)) (so_268 h0 g _) (by decide) rfl wq1244 dX11_keep_25 ?_
  refine x_aload_n hx hb hl 0 rfl dX11_keep_28 rfl ?_
  refine x_get (j := 60) (v := .ref (h0 + 309)) hx hb hown hT hE hW cls_X11 (Or.inl (by decide)) (so_268 h0 g _) (by decide) rfl wq1245 dX11_keep_29 ?_
  refine x_gov (x_runS (As := [.ref (h0 + 274), .ref (h0 + 275), .ref (h0 + 308), .ref (h0 + 309)]) hx hb hml hown hT hE hW hl.1 cf_X11_copiesWalks wq1764 wq1763 (c_X11_copiesWalks l D g T h0 s5 hW.2.1) ⟨rfl, rfl, ⟨by decide, by decide⟩, ⟨by decide, by decide⟩⟩ rfl rfl (Nat.le_of_ble_eq_true rfl) dX11_keep_32) hW (fun s10 H locs hp11 hW => ?_)
  obtain ⟨fs10, hp11⟩ := hp11
  have hF12 := hF7.call fs10 (fun k h => by omega)
  have q13 : s10 269 37 = 0 := (congrFun (fs10 _ (by omega)) _).trans q8
  have ghp11 := hp11
  refine x_aload_n hx hb hl 0 rfl dX11_keep_35 rfl ?_
  refine x_get (j := 0) (v := .ref (h0 + 269)) hx hb hown hT hE hW cls_X11 (Or.inl (by decide)) (so_268 h0 g _) (by decide) rfl wq1185 dX11_keep_36 ?_
  refine x_bipush hx hb dX11_keep_39 (by decide) ?_
  refine x_iald hx hb hE hW (Or.inl (by decide)) (sa_269 h0 g _) ⟨by decide, by decide⟩ (by decide) dX11_keep_41 ?_
  refine x_rd hW (fun x14 ex14 rx14 => ?_)
  have fx14 : x14 = 0 := by rw [ex14, q13]
  rw [eQ]
  exact x_iret hx hb hr hlk hW rx14 ⟨hF12, by omega⟩ dX11_keep_42
set_option maxHeartbeats 4000000 in
set_option maxRecDepth 100000 in
theorem c_X11_undo (l : Launch) (D : va_G) (g : xG) (T : Nat × Nat × Nat) (h0 : Nat) (s0 : xS) (hσ : xRR s0) (p0 : s0 268 58 = 0) : Met l yX11_undo (xws yX11_undo cX11_undo 1 (some .boolean)) { frames := 0, cells := 0, slots := 0, locals := 0 } (xP [.ref (h0 + 268)] D g T h0 s0) (xQi D g h0 (fun r τ => s0 = τ ∧ (r = 0))) 0 0 (xA h0) := by
  refine x_met hσ (by decide) (Nat.le_of_ble_eq_true rfl) ?_
  intro p e s m args below meth c hx hb hr hml hown hT hlk hnm hE hW ls hl
  have hl : lv_has ls 1 [(0, .ref (h0 + 268))] := hl
  obtain ⟨Q, eQ⟩ : ∃ Q, Q = MQ below (xQi D g h0 (fun r τ => s0 = τ ∧ (r = 0))) args s 0 0 (xA h0) := ⟨_, rfl⟩
  rw [← eQ]
  generalize hHe : ([] : List Loc) = locs at hW ⊢
  obtain ⟨H, eH⟩ : ∃ H, H = s.heap := ⟨_, rfl⟩
  rw [← eH] at hW ⊢
  refine x_aload_n hx hb hl 0 rfl dX11_undo_0 rfl ?_
  refine x_get (j := 58) (v := .int (xJ (s0 268 58))) hx hb hown hT hE hW cls_X11 (Or.inl (by decide)) (so_268 h0 g _) (by decide) rfl wq1243 dX11_undo_1 ?_
  refine x_rd hW (fun x1 ex1 rx1 => ?_)
  have fx1 : x1 = 0 := by rw [ex1, p0]
  refine x_if_ne (tgt := 9) hx hb rx1 dX11_undo_4 (by decide) (fun c2 => False.elim (by omega)) (fun c2 => ?_)
  refine x_iconst hx hb dX11_undo_7 ?_
  rw [eQ]
  exact x_zret hx hb hr hlk hW (by omega) ⟨rfl, by omega⟩ dX11_undo_8
set_option maxHeartbeats 4000000 in
set_option maxRecDepth 100000 in
theorem c_X11_check (l : Launch) (D : va_G) (g : xG) (T : Nat × Nat × Nat) (h0 : Nat) (s0 : xS) (hσ : xRR s0) (n : Int) (rn : xR n) (p0 : s0 268 8 = 0) : Met l yX11_check (xws yX11_check cX11_check 3 (some .int)) { frames := 1, cells := 0, slots := 0, locals := 22 } (xP [.ref (h0 + 268), .int (xJ n)] D g T h0 s0) (xQi D g h0 (fun r τ => xFr (fun k => k = 268) s0 τ ∧ ((r = -1 ∧ n = 0) ∨ (r = -2 ∧ n ≠ 0)))) 0 0 (xA h0) := by
  refine x_met hσ (by decide) (Nat.le_of_ble_eq_true rfl) ?_
  intro p e s m args below meth c hx hb hr hml hown hT hlk hnm hE hW ls hl
  have hl : lv_has ls 3 [(0, .ref (h0 + 268)), (1, .int (xJ n))] := hl
  obtain ⟨Q, eQ⟩ : ∃ Q, Q = MQ below (xQi D g h0 (fun r τ => xFr (fun k => k = 268) s0 τ ∧ ((r = -1 ∧ n = 0) ∨ (r = -2 ∧ n ≠ 0)))) args s 0 0 (xA h0) := ⟨_, rfl⟩
  rw [← eQ]
  generalize hHe : ([] : List Loc) = locs at hW ⊢
  obtain ⟨H, eH⟩ : ∃ H, H = s.heap := ⟨_, rfl⟩
  rw [← eH] at hW ⊢
  have hF : xFr (fun k => k = 268) s0 s0 := xFr.rf
  refine x_iload_n hx hb hl 1 rfl dX11_check_0 rfl ?_
  refine x_iconst hx hb dX11_check_1 ?_
  refine x_bipush hx hb dX11_check_2 (by decide) ?_
  refine x_goi (x_runS (As := [.int (xJ n), .int (xJ 0), .int (xJ 10)]) hx hb hml hown hT hE hW hl.1 cf_X11_in wq1383 wq1382 (c_X11_in l D g T h0 s0 hW.2.1 n rn 0 (by decide) 10 (by decide)) ⟨rfl, rfl, ⟨by decide, by decide⟩, ⟨by decide, by decide⟩⟩ rfl rfl (Nat.le_of_ble_eq_true rfl) dX11_check_4) hW (fun x1 s2 H locs rx1 hp3 hW => ?_)
  obtain ⟨es2, hp3⟩ := hp3
  subst es2
  have ghp3 := hp3
  refine x_if_eq (tgt := 20) hx hb rx1 dX11_check_7 (by decide) (fun c4 => ?_) (fun c4 => ?_)
  · skip
    refine x_bipush hx hb dX11_check_20 (by decide) ?_
    rw [eQ]
    exact x_iret hx hb hr hlk hW (by decide) ⟨hF, by omega⟩ dX11_check_22
  refine x_iload_n hx hb hl 1 rfl dX11_check_10 rfl ?_
  refine x_aload_n hx hb hl 0 rfl dX11_check_11 rfl ?_
  refine x_get (j := 8) (v := .int (xJ (s0 268 8))) hx hb hown hT hE hW cls_X11 (Or.inl (by decide)) (so_268 h0 g _) (by decide) rfl wq1193 dX11_check_12 ?_
  refine x_rd hW (fun x5 ex5 rx5 => ?_)
  have fx5 : x5 = 0 := by rw [ex5, p0]
  refine x_iconst hx hb dX11_check_15 ?_
  refine x_idiv hx hb rx5 (by decide) (by omega) (by decide) dX11_check_16 ?_
  refine x_icmp_le (tgt := 23) hx hb rn (by omega) dX11_check_17 (by decide) (fun c6 => ?_) (fun c6 => ?_)
  · skip
    refine x_aload_n hx hb hl 0 rfl dX11_check_23 rfl ?_
    refine x_iconst hx hb dX11_check_24 ?_
    refine x_put (j := 8) hx hb hown hT hE hW cls_X11 (by decide) (fun σ => so_268 h0 g σ) (by decide) (st_X11_8 h0 s0 268 0) (ln_X11_8 h0 _ _) wq1193 rfl rfl rfl (by decide) dX11_check_25 (fun H locs s7 es7 hW => ?_)
    have q8 : s7 268 8 = 0 := by rw [es7, xU_s]
    have hF9 := hF.put es7 (by omega)
    refine x_iconst hx hb dX11_check_28 ?_
    refine lv_istore_n (lv' := [(2, .int (xJ 0)), (0, .ref (h0 + 268)), (1, .int (xJ n))]) hx hb dX11_check_29 rfl hl (by decide) rfl (fun ls hl => ?_)
    refine x_iload_n hx hb hl 0 rfl dX11_check_30 rfl ?_
    refine x_iload_n hx hb hl 2 rfl dX11_check_31 rfl ?_
    refine x_icmp_ge (tgt := 72) hx hb (by decide) rn dX11_check_32 (by decide) (fun c10 => ?_) (fun c10 => False.elim (by omega))
    refine x_iconst hx hb dX11_check_72 ?_
    rw [eQ]
    exact x_iret hx hb hr hlk hW (by decide) ⟨hF9, by omega⟩ dX11_check_73
  refine x_bipush hx hb dX11_check_20 (by decide) ?_
  rw [eQ]
  exact x_iret hx hb hr hlk hW (by decide) ⟨hF, by omega⟩ dX11_check_22
set_option maxHeartbeats 4000000 in
set_option maxRecDepth 100000 in
theorem c_X11_owedAll (l : Launch) (D : va_G) (g : xG) (T : Nat × Nat × Nat) (h0 : Nat) (s0 : xS) (hσ : xRR s0) (p0 : s0 269 35 = 0) : Met l yX11_owedAll (xws yX11_owedAll cX11_owedAll 3 (some .int)) { frames := 2, cells := 0, slots := 0, locals := 42 } (xP [.ref (h0 + 268)] D g T h0 s0) (xQi D g h0 (fun r τ => s0 = τ ∧ (r = 0))) 0 0 (xA h0) := by
  refine x_met hσ (by decide) (Nat.le_of_ble_eq_true rfl) ?_
  intro p e s m args below meth c hx hb hr hml hown hT hlk hnm hE hW ls hl
  have hl : lv_has ls 3 [(0, .ref (h0 + 268))] := hl
  obtain ⟨Q, eQ⟩ : ∃ Q, Q = MQ below (xQi D g h0 (fun r τ => s0 = τ ∧ (r = 0))) args s 0 0 (xA h0) := ⟨_, rfl⟩
  rw [← eQ]
  generalize hHe : ([] : List Loc) = locs at hW ⊢
  obtain ⟨H, eH⟩ : ∃ H, H = s.heap := ⟨_, rfl⟩
  rw [← eH] at hW ⊢
  refine x_iconst hx hb dX11_owedAll_0 ?_
  refine lv_istore_n (lv' := [(1, .int (xJ 0)), (0, .ref (h0 + 268))]) hx hb dX11_owedAll_1 rfl hl (by decide) rfl (fun ls hl => ?_)
  refine x_iconst hx hb dX11_owedAll_2 ?_
  refine lv_istore_n (lv' := [(2, .int (xJ 0)), (1, .int (xJ 0)), (0, .ref (h0 + 268))]) hx hb dX11_owedAll_3 rfl hl (by decide) rfl (fun ls hl => ?_)
  have L4 : ∀ (fu : Nat) (i1_4 : Int) (i2_4 : Int) (H : Heap) (locs : List Loc) (ls : Array Slot), (xR i1_4) → (xR i2_4) → (0 ≤ i2_4) → (i1_4 = 0) → (10 - i2_4).toNat < fu → xW D g h0 s H locs s0 → lv_has ls 3 [(0, .ref (h0 + 268)), (1, .int (xJ i1_4)), (2, .int (xJ i2_4))] → W p l e { frames := 2, cells := 0, slots := 0, locals := 42 } s m args below meth c H locs 0 0 Q (F0 m 4 ls []) := by
    intro fu
    induction fu with
    | zero => intro i1_4 i2_4 H locs ls ri1_4 ri2_4 v4_0 v4_1 hm; exact absurd hm (Nat.not_lt_zero _)
    | succ fu ih4 =>
      intro i1_4 i2_4 H locs ls ri1_4 ri2_4 v4_0 v4_1 hm hW hl
      refine x_iload_n hx hb hl 2 rfl dX11_owedAll_4 rfl ?_
      refine x_bipush hx hb dX11_owedAll_5 (by decide) ?_
      refine x_icmp_ge (tgt := 40) hx hb ri2_4 (by decide) dX11_owedAll_7 (by decide) (fun c1 => ?_) (fun c1 => ?_)
      · skip
        refine x_iload_n hx hb hl 1 rfl dX11_owedAll_40 rfl ?_
        rw [eQ]
        exact x_iret hx hb hr hlk hW ri1_4 ⟨rfl, by omega⟩ dX11_owedAll_41
      refine x_iload_n hx hb hl 1 rfl dX11_owedAll_10 rfl ?_
      refine x_aload_n hx hb hl 0 rfl dX11_owedAll_11 rfl ?_
      refine x_iload_n hx hb hl 2 rfl dX11_owedAll_12 rfl ?_
      refine x_goi (x_runV (As := [.int (xJ i2_4)]) hx hb hml hown hT hE hW hl.1 (Or.inl (by decide)) (so_268 h0 g _) rfl cf_X11_isFelon wq1423 wq111 wq1421 (c_X11_isFelon l D g T h0 s0 hW.2.1 i2_4 ri2_4 p0) ⟨rfl, rfl, ⟨by decide, by decide⟩, ⟨by decide, by decide⟩⟩ rfl rfl (Nat.le_of_ble_eq_true rfl) dX11_owedAll_13) hW (fun x2 s3 H locs rx2 hp4 hW => ?_)
      obtain ⟨es3, hp4⟩ := hp4
      subst es3
      have ghp4 := hp4
      refine x_if_eq (tgt := 31) hx hb rx2 dX11_owedAll_16 (by decide) (fun c5 => ?_) (fun c5 => False.elim (by omega))
      refine x_iconst hx hb dX11_owedAll_31 ?_
      refine x_iadd hx hb dX11_owedAll_32 ?_
      refine x_nm (fun x6 ex6 => ?_)
      refine lv_istore_n (lv' := [(1, .int (xJ x6)), (0, .ref (h0 + 268)), (2, .int (xJ i2_4))]) hx hb dX11_owedAll_33 rfl hl (by decide) rfl (fun ls hl => ?_)
      refine x_iinc (lv' := [(2, .int (xJ (i2_4 + 1))), (1, .int (xJ x6)), (0, .ref (h0 + 268))]) hx hb hl 2 rfl dX11_owedAll_34 (by decide) rfl (fun ls hl => ?_)
      refine lv_goto (tgt := 4) hx hb dX11_owedAll_37 (by decide) ?_
      exact ih4 x6 (i2_4 + 1) H locs ls (by omega) (by omega) (by omega) (by omega) (by omega) hW (lv_sub hl [2, 1, 0] rfl)
  exact L4 ((10 - 0 : Int).toNat + 1) 0 0 H locs ls (by decide) (by decide) (by omega) (by omega) (Nat.lt_succ_self _) hW (lv_sub hl [2, 1, 0] rfl)
set_option maxHeartbeats 4000000 in
set_option maxRecDepth 100000 in
theorem c_X11_lampSet (l : Launch) (D : va_G) (g : xG) (T : Nat × Nat × Nat) (h0 : Nat) (s0 : xS) (hσ : xRR s0) (p0 : s0 273 = fun _ => (-1)) : Met l yX11_lampSet (xws yX11_lampSet cX11_lampSet 3 (some .int)) { frames := 0, cells := 0, slots := 0, locals := 0 } (xP [.ref (h0 + 268)] D g T h0 s0) (xQi D g h0 (fun r τ => s0 = τ ∧ (r = 0))) 0 0 (xA h0) := by
  refine x_met hσ (by decide) (Nat.le_of_ble_eq_true rfl) ?_
  intro p e s m args below meth c hx hb hr hml hown hT hlk hnm hE hW ls hl
  have hl : lv_has ls 3 [(0, .ref (h0 + 268))] := hl
  obtain ⟨Q, eQ⟩ : ∃ Q, Q = MQ below (xQi D g h0 (fun r τ => s0 = τ ∧ (r = 0))) args s 0 0 (xA h0) := ⟨_, rfl⟩
  rw [← eQ]
  generalize hHe : ([] : List Loc) = locs at hW ⊢
  obtain ⟨H, eH⟩ : ∃ H, H = s.heap := ⟨_, rfl⟩
  rw [← eH] at hW ⊢
  refine x_iconst hx hb dX11_lampSet_0 ?_
  refine lv_istore_n (lv' := [(1, .int (xJ 0)), (0, .ref (h0 + 268))]) hx hb dX11_lampSet_1 rfl hl (by decide) rfl (fun ls hl => ?_)
  refine x_iconst hx hb dX11_lampSet_2 ?_
  refine lv_istore_n (lv' := [(2, .int (xJ 0)), (1, .int (xJ 0)), (0, .ref (h0 + 268))]) hx hb dX11_lampSet_3 rfl hl (by decide) rfl (fun ls hl => ?_)
  have L4 : ∀ (fu : Nat) (i1_4 : Int) (i2_4 : Int) (ls : Array Slot), (xR i1_4) → (xR i2_4) → (0 ≤ i2_4) → (i1_4 = 0) → (4 - i2_4).toNat < fu → lv_has ls 3 [(0, .ref (h0 + 268)), (1, .int (xJ i1_4)), (2, .int (xJ i2_4))] → W p l e { frames := 0, cells := 0, slots := 0, locals := 0 } s m args below meth c H locs 0 0 Q (F0 m 4 ls []) := by
    intro fu
    induction fu with
    | zero => intro i1_4 i2_4 ls ri1_4 ri2_4 v4_0 v4_1 hm; exact absurd hm (Nat.not_lt_zero _)
    | succ fu ih4 =>
      intro i1_4 i2_4 ls ri1_4 ri2_4 v4_0 v4_1 hm  hl
      refine x_iload_n hx hb hl 2 rfl dX11_lampSet_4 rfl ?_
      refine x_iconst hx hb dX11_lampSet_5 ?_
      refine x_icmp_ge (tgt := 35) hx hb ri2_4 (by decide) dX11_lampSet_6 (by decide) (fun c1 => ?_) (fun c1 => ?_)
      · skip
        refine x_iload_n hx hb hl 1 rfl dX11_lampSet_35 rfl ?_
        rw [eQ]
        exact x_iret hx hb hr hlk hW ri1_4 ⟨rfl, by omega⟩ dX11_lampSet_36
      refine x_iload_n hx hb hl 1 rfl dX11_lampSet_9 rfl ?_
      refine x_aload_n hx hb hl 0 rfl dX11_lampSet_10 rfl ?_
      refine x_get (j := 4) (v := .ref (h0 + 273)) hx hb hown hT hE hW cls_X11 (Or.inl (by decide)) (so_268 h0 g _) (by decide) rfl wq1189 dX11_lampSet_11 ?_
      refine x_iload_n hx hb hl 2 rfl dX11_lampSet_14 rfl ?_
      refine x_iald hx hb hE hW (Or.inl (by decide)) (sa_273 h0 g _) (by omega) (by decide) dX11_lampSet_15 ?_
      refine x_rd hW (fun x2 ex2 rx2 => ?_)
      have fx2 : x2 = (-1) := by rw [ex2, p0]
      refine x_iconst hx hb dX11_lampSet_16 ?_
      refine x_icmp_ne (tgt := 24) hx hb rx2 (by decide) dX11_lampSet_17 (by decide) (fun c3 => False.elim (by omega)) (fun c3 => ?_)
      refine x_iconst hx hb dX11_lampSet_20 ?_
      refine lv_goto (tgt := 27) hx hb dX11_lampSet_21 (by decide) ?_
      refine x_ior00 hx hb (by omega) (by omega) dX11_lampSet_27 ?_
      refine lv_istore_n (lv' := [(1, .int (xJ 0)), (0, .ref (h0 + 268)), (2, .int (xJ i2_4))]) hx hb dX11_lampSet_28 rfl hl (by decide) rfl (fun ls hl => ?_)
      refine x_iinc (lv' := [(2, .int (xJ (i2_4 + 1))), (1, .int (xJ 0)), (0, .ref (h0 + 268))]) hx hb hl 2 rfl dX11_lampSet_29 (by decide) rfl (fun ls hl => ?_)
      refine lv_goto (tgt := 4) hx hb dX11_lampSet_32 (by decide) ?_
      exact ih4 0 (i2_4 + 1) ls (by decide) (by omega) (by omega) (by omega) (by omega)  (lv_sub hl [2, 1, 0] rfl)
  exact L4 ((4 - 0 : Int).toNat + 1) 0 0 ls (by decide) (by decide) (by omega) (by omega) (Nat.lt_succ_self _)  (lv_sub hl [2, 1, 0] rfl)
set_option maxHeartbeats 4000000 in
set_option maxRecDepth 100000 in
theorem c_X11_count (l : Launch) (D : va_G) (g : xG) (T : Nat × Nat × Nat) (h0 : Nat) (s0 : xS) (hσ : xRR s0) (x : Int) (rx : xR x) (p0 : s0 269 34 = 0) (p1 : s0 269 35 = 0) (p2 : s0 268 17 = 0) (p3 : s0 273 = fun _ => (-1)) (p4 : s0 272 = fun _ => 0) (p5 : s0 268 8 = 0) (p6 : s0 269 37 = 0) (p7 : s0 269 38 = 1) (p8 : s0 274 = fun _ => 0) (p9 : ∀ j : Int, 2 ≤ j → j < 4 → s0 269 j = 0) : Met l yX11_count (xws yX11_count cX11_count 2 (some .int)) { frames := 3, cells := 0, slots := 0, locals := 64 } (xP [.ref (h0 + 268), .int (xJ x)] D g T h0 s0) (xQi D g h0 (fun r τ => xFr (fun k => k = 294) s0 τ ∧ ((r = 1 ∧ x = 7) ∨ (r = 0 ∧ ((0 ≤ x ∧ x ≤ 8 ∧ x ≠ 7) ∨ x = 20 ∨ x = 21 ∨ (100 ≤ x ∧ x ≤ 199))) ∨ (r = -1 ∧ ¬ ((0 ≤ x ∧ x ≤ 8) ∨ x = 20 ∨ x = 21 ∨ (100 ≤ x ∧ x ≤ 199)))))) 0 0 (xA h0) := by
  refine x_met hσ (by decide) (Nat.le_of_ble_eq_true rfl) ?_
  intro p e s m args below meth c hx hb hr hml hown hT hlk hnm hE hW ls hl
  have hl : lv_has ls 2 [(0, .ref (h0 + 268)), (1, .int (xJ x))] := hl
  obtain ⟨Q, eQ⟩ : ∃ Q, Q = MQ below (xQi D g h0 (fun r τ => xFr (fun k => k = 294) s0 τ ∧ ((r = 1 ∧ x = 7) ∨ (r = 0 ∧ ((0 ≤ x ∧ x ≤ 8 ∧ x ≠ 7) ∨ x = 20 ∨ x = 21 ∨ (100 ≤ x ∧ x ≤ 199))) ∨ (r = -1 ∧ ¬ ((0 ≤ x ∧ x ≤ 8) ∨ x = 20 ∨ x = 21 ∨ (100 ≤ x ∧ x ≤ 199)))))) args s 0 0 (xA h0) := ⟨_, rfl⟩
  rw [← eQ]
  generalize hHe : ([] : List Loc) = locs at hW ⊢
  obtain ⟨H, eH⟩ : ∃ H, H = s.heap := ⟨_, rfl⟩
  rw [← eH] at hW ⊢
  have hF : xFr (fun k => k = 294) s0 s0 := xFr.rf
  refine x_iload_n hx hb hl 1 rfl dX11_count_0 rfl ?_
  rcases (show (x < 0 ∨ 8 < x) ∨ x = 0 ∨ x = 1 ∨ x = 2 ∨ x = 3 ∨ x = 4 ∨ x = 5 ∨ x = 6 ∨ x = 7 ∨ x = 8 from by omega) with c1 | c1 | c1 | c1 | c1 | c1 | c1 | c1 | c1 | c1
  · refine x_tabOut (tgt := 124) hx hb rx dX11_count_1 c1 (by decide) ?_
    refine x_iload_n hx hb hl 1 rfl dX11_count_124 rfl ?_
    refine x_bipush hx hb dX11_count_125 (by decide) ?_
    refine x_bipush hx hb dX11_count_127 (by decide) ?_
    refine x_goi (x_runS (As := [.int (xJ x), .int (xJ 10), .int (xJ 11)]) hx hb hml hown hT hE hW hl.1 cf_X11_in wq1383 wq1382 (c_X11_in l D g T h0 s0 hW.2.1 x rx 10 (by decide) 11 (by decide)) ⟨rfl, rfl, ⟨by decide, by decide⟩, ⟨by decide, by decide⟩⟩ rfl rfl (Nat.le_of_ble_eq_true rfl) dX11_count_129) hW (fun x2 s3 H locs rx2 hp4 hW => ?_)
    obtain ⟨es3, hp4⟩ := hp4
    subst es3
    have ghp4 := hp4
    refine x_if_eq (tgt := 158) hx hb rx2 dX11_count_132 (by decide) (fun c5 => ?_) (fun c5 => ?_)
    · skip
      refine x_iload_n hx hb hl 1 rfl dX11_count_158 rfl ?_
      refine x_bipush hx hb dX11_count_159 (by decide) ?_
      refine x_bipush hx hb dX11_count_161 (by decide) ?_
      refine x_goi (x_runS (As := [.int (xJ x), .int (xJ 20), .int (xJ 21)]) hx hb hml hown hT hE hW hl.1 cf_X11_in wq1383 wq1382 (c_X11_in l D g T h0 s0 hW.2.1 x rx 20 (by decide) 21 (by decide)) ⟨rfl, rfl, ⟨by decide, by decide⟩, ⟨by decide, by decide⟩⟩ rfl rfl (Nat.le_of_ble_eq_true rfl) dX11_count_163) hW (fun x6 s7 H locs rx6 hp8 hW => ?_)
      obtain ⟨es7, hp8⟩ := hp8
      subst es7
      have ghp8 := hp8
      refine x_if_eq (tgt := 191) hx hb rx6 dX11_count_166 (by decide) (fun c9 => ?_) (fun c9 => ?_)
      · skip
        refine x_iload_n hx hb hl 1 rfl dX11_count_191 rfl ?_
        refine x_bipush hx hb dX11_count_192 (by decide) ?_
        refine x_bipush hx hb dX11_count_194 (by decide) ?_
        refine x_goi (x_runS (As := [.int (xJ x), .int (xJ 30), .int (xJ 33)]) hx hb hml hown hT hE hW hl.1 cf_X11_in wq1383 wq1382 (c_X11_in l D g T h0 s0 hW.2.1 x rx 30 (by decide) 33 (by decide)) ⟨rfl, rfl, ⟨by decide, by decide⟩, ⟨by decide, by decide⟩⟩ rfl rfl (Nat.le_of_ble_eq_true rfl) dX11_count_196) hW (fun x10 s11 H locs rx10 hp12 hW => ?_)
        obtain ⟨es11, hp12⟩ := hp12
        subst es11
        have ghp12 := hp12
        refine x_if_eq (tgt := 212) hx hb rx10 dX11_count_199 (by decide) (fun c13 => ?_) (fun c13 => ?_)
        · skip
          refine x_iload_n hx hb hl 1 rfl dX11_count_212 rfl ?_
          refine x_bipush hx hb dX11_count_213 (by decide) ?_
          refine x_sipush hx hb dX11_count_215 (by decide) ?_
          refine x_goi (x_runS (As := [.int (xJ x), .int (xJ 100), .int (xJ 199)]) hx hb hml hown hT hE hW hl.1 cf_X11_in wq1383 wq1382 (c_X11_in l D g T h0 s0 hW.2.1 x rx 100 (by decide) 199 (by decide)) ⟨rfl, rfl, ⟨by decide, by decide⟩, ⟨by decide, by decide⟩⟩ rfl rfl (Nat.le_of_ble_eq_true rfl) dX11_count_218) hW (fun x14 s15 H locs rx14 hp16 hW => ?_)
          obtain ⟨es15, hp16⟩ := hp16
          subst es15
          have ghp16 := hp16
          refine x_if_eq (tgt := 236) hx hb rx14 dX11_count_221 (by decide) (fun c17 => ?_) (fun c17 => ?_)
          · skip
            refine x_iconst hx hb dX11_count_236 ?_
            rw [eQ]
            exact x_iret hx hb hr hlk hW (by decide) ⟨hF, by omega⟩ dX11_count_237
          refine x_aload_n hx hb hl 0 rfl dX11_count_224 rfl ?_
          refine x_get (j := 3) (v := .ref (h0 + 272)) hx hb hown hT hE hW cls_X11 (Or.inl (by decide)) (so_268 h0 g _) (by decide) rfl wq1188 dX11_count_225 ?_
          refine x_iload_n hx hb hl 1 rfl dX11_count_228 rfl ?_
          refine x_bipush hx hb dX11_count_229 (by decide) ?_
          refine x_isub hx hb dX11_count_231 ?_
          refine x_iald hx hb hE hW (Or.inl (by decide)) (sa_272 h0 g _) (by omega) (by decide) dX11_count_232 ?_
          refine x_rd hW (fun x18 ex18 rx18 => ?_)
          have fx18 : x18 = 0 := by rw [ex18, p4]
          refine lv_goto (tgt := 237) hx hb dX11_count_233 (by decide) ?_
          rw [eQ]
          exact x_iret hx hb hr hlk hW rx18 ⟨hF, by omega⟩ dX11_count_237
        refine x_aload_n hx hb hl 0 rfl dX11_count_202 rfl ?_
        refine x_get (j := 4) (v := .ref (h0 + 273)) hx hb hown hT hE hW cls_X11 (Or.inl (by decide)) (so_268 h0 g _) (by decide) rfl wq1189 dX11_count_203 ?_
        refine x_iload_n hx hb hl 1 rfl dX11_count_206 rfl ?_
        refine x_bipush hx hb dX11_count_207 (by decide) ?_
        refine x_isub hx hb dX11_count_209 ?_
        refine x_iald hx hb hE hW (Or.inl (by decide)) (sa_273 h0 g _) (by omega) (by decide) dX11_count_210 ?_
        refine x_rd hW (fun x19 ex19 rx19 => ?_)
        have fx19 : x19 = (-1) := by rw [ex19, p3]
        rw [eQ]
        exact x_iret hx hb hr hlk hW rx19 ⟨hF, by omega⟩ dX11_count_211
      refine x_aload_n hx hb hl 0 rfl dX11_count_169 rfl ?_
      refine x_get (j := 5) (v := .ref (h0 + 274)) hx hb hown hT hE hW cls_X11 (Or.inl (by decide)) (so_268 h0 g _) (by decide) rfl wq1190 dX11_count_170 ?_
      refine x_iload_n hx hb hl 1 rfl dX11_count_173 rfl ?_
      refine x_bipush hx hb dX11_count_174 (by decide) ?_
      refine x_isub hx hb dX11_count_176 ?_
      refine x_iald hx hb hE hW (Or.inl (by decide)) (sa_274 h0 g _) (by omega) (by decide) dX11_count_177 ?_
      refine x_rd hW (fun x20 ex20 rx20 => ?_)
      have fx20 : x20 = 0 := by rw [ex20, p8]
      refine x_aload_n hx hb hl 0 rfl dX11_count_178 rfl ?_
      refine x_get (j := 0) (v := .ref (h0 + 269)) hx hb hown hT hE hW cls_X11 (Or.inl (by decide)) (so_268 h0 g _) (by decide) rfl wq1185 dX11_count_179 ?_
      refine x_iconst hx hb dX11_count_182 ?_
      refine x_iload_n hx hb hl 1 rfl dX11_count_183 rfl ?_
      refine x_iadd hx hb dX11_count_184 ?_
      refine x_bipush hx hb dX11_count_185 (by decide) ?_
      refine x_isub hx hb dX11_count_187 ?_
      refine x_iald hx hb hE hW (Or.inl (by decide)) (sa_269 h0 g _) (by omega) (by decide) dX11_count_188 ?_
      refine x_rd hW (fun x21 ex21 rx21 => ?_)
      have fx21 : x21 = 0 := by rw [ex21]; exact p9 _ (by omega) (by omega)
      refine x_isub hx hb dX11_count_189 ?_
      rw [eQ]
      exact x_iret hx hb hr hlk hW (by omega) ⟨hF, by omega⟩ dX11_count_190
    refine x_aload_n hx hb hl 0 rfl dX11_count_135 rfl ?_
    refine x_iload_n hx hb hl 1 rfl dX11_count_136 rfl ?_
    refine x_bipush hx hb dX11_count_137 (by decide) ?_
    refine x_isub hx hb dX11_count_139 ?_
    refine x_goi (x_runV (As := [.int (xJ (x - 10))]) hx hb hml hown hT hE hW hl.1 (Or.inl (by decide)) (so_268 h0 g _) rfl cf_X11_isJudge wq1409 wq109 wq1407 (c_X11_isJudge l D g T h0 s0 hW.2.1 (x - 10) (by omega) p0) ⟨rfl, rfl, ⟨by decide, by decide⟩, ⟨by decide, by decide⟩⟩ rfl rfl (Nat.le_of_ble_eq_true rfl) dX11_count_140) hW (fun x22 s23 H locs rx22 hp24 hW => ?_)
    obtain ⟨es23, hp24⟩ := hp24
    subst es23
    have ghp24 := hp24
    refine x_if_eq (tgt := 158) hx hb rx22 dX11_count_143 (by decide) (fun c25 => ?_) (fun c25 => False.elim (by omega))
    refine x_iload_n hx hb hl 1 rfl dX11_count_158 rfl ?_
    refine x_bipush hx hb dX11_count_159 (by decide) ?_
    refine x_bipush hx hb dX11_count_161 (by decide) ?_
    refine x_goi (x_runS (As := [.int (xJ x), .int (xJ 20), .int (xJ 21)]) hx hb hml hown hT hE hW hl.1 cf_X11_in wq1383 wq1382 (c_X11_in l D g T h0 s0 hW.2.1 x rx 20 (by decide) 21 (by decide)) ⟨rfl, rfl, ⟨by decide, by decide⟩, ⟨by decide, by decide⟩⟩ rfl rfl (Nat.le_of_ble_eq_true rfl) dX11_count_163) hW (fun x26 s27 H locs rx26 hp28 hW => ?_)
    obtain ⟨es27, hp28⟩ := hp28
    subst es27
    have ghp28 := hp28
    refine x_if_eq (tgt := 191) hx hb rx26 dX11_count_166 (by decide) (fun c29 => ?_) (fun c29 => ?_)
    · skip
      refine x_iload_n hx hb hl 1 rfl dX11_count_191 rfl ?_
      refine x_bipush hx hb dX11_count_192 (by decide) ?_
      refine x_bipush hx hb dX11_count_194 (by decide) ?_
      refine x_goi (x_runS (As := [.int (xJ x), .int (xJ 30), .int (xJ 33)]) hx hb hml hown hT hE hW hl.1 cf_X11_in wq1383 wq1382 (c_X11_in l D g T h0 s0 hW.2.1 x rx 30 (by decide) 33 (by decide)) ⟨rfl, rfl, ⟨by decide, by decide⟩, ⟨by decide, by decide⟩⟩ rfl rfl (Nat.le_of_ble_eq_true rfl) dX11_count_196) hW (fun x30 s31 H locs rx30 hp32 hW => ?_)
      obtain ⟨es31, hp32⟩ := hp32
      subst es31
      have ghp32 := hp32
      refine x_if_eq (tgt := 212) hx hb rx30 dX11_count_199 (by decide) (fun c33 => ?_) (fun c33 => ?_)
      · skip
        refine x_iload_n hx hb hl 1 rfl dX11_count_212 rfl ?_
        refine x_bipush hx hb dX11_count_213 (by decide) ?_
        refine x_sipush hx hb dX11_count_215 (by decide) ?_
        refine x_goi (x_runS (As := [.int (xJ x), .int (xJ 100), .int (xJ 199)]) hx hb hml hown hT hE hW hl.1 cf_X11_in wq1383 wq1382 (c_X11_in l D g T h0 s0 hW.2.1 x rx 100 (by decide) 199 (by decide)) ⟨rfl, rfl, ⟨by decide, by decide⟩, ⟨by decide, by decide⟩⟩ rfl rfl (Nat.le_of_ble_eq_true rfl) dX11_count_218) hW (fun x34 s35 H locs rx34 hp36 hW => ?_)
        obtain ⟨es35, hp36⟩ := hp36
        subst es35
        have ghp36 := hp36
        refine x_if_eq (tgt := 236) hx hb rx34 dX11_count_221 (by decide) (fun c37 => ?_) (fun c37 => ?_)
        · skip
          refine x_iconst hx hb dX11_count_236 ?_
          rw [eQ]
          exact x_iret hx hb hr hlk hW (by decide) ⟨hF, by omega⟩ dX11_count_237
        refine x_aload_n hx hb hl 0 rfl dX11_count_224 rfl ?_
        refine x_get (j := 3) (v := .ref (h0 + 272)) hx hb hown hT hE hW cls_X11 (Or.inl (by decide)) (so_268 h0 g _) (by decide) rfl wq1188 dX11_count_225 ?_
        refine x_iload_n hx hb hl 1 rfl dX11_count_228 rfl ?_
        refine x_bipush hx hb dX11_count_229 (by decide) ?_
        refine x_isub hx hb dX11_count_231 ?_
        refine x_iald hx hb hE hW (Or.inl (by decide)) (sa_272 h0 g _) (by omega) (by decide) dX11_count_232 ?_
        refine x_rd hW (fun x38 ex38 rx38 => ?_)
        have fx38 : x38 = 0 := by rw [ex38, p4]
        refine lv_goto (tgt := 237) hx hb dX11_count_233 (by decide) ?_
        rw [eQ]
        exact x_iret hx hb hr hlk hW rx38 ⟨hF, by omega⟩ dX11_count_237
      refine x_aload_n hx hb hl 0 rfl dX11_count_202 rfl ?_
      refine x_get (j := 4) (v := .ref (h0 + 273)) hx hb hown hT hE hW cls_X11 (Or.inl (by decide)) (so_268 h0 g _) (by decide) rfl wq1189 dX11_count_203 ?_
      refine x_iload_n hx hb hl 1 rfl dX11_count_206 rfl ?_
      refine x_bipush hx hb dX11_count_207 (by decide) ?_
      refine x_isub hx hb dX11_count_209 ?_
      refine x_iald hx hb hE hW (Or.inl (by decide)) (sa_273 h0 g _) (by omega) (by decide) dX11_count_210 ?_
      refine x_rd hW (fun x39 ex39 rx39 => ?_)
      have fx39 : x39 = (-1) := by rw [ex39, p3]
      rw [eQ]
      exact x_iret hx hb hr hlk hW rx39 ⟨hF, by omega⟩ dX11_count_211
    refine x_aload_n hx hb hl 0 rfl dX11_count_169 rfl ?_
    refine x_get (j := 5) (v := .ref (h0 + 274)) hx hb hown hT hE hW cls_X11 (Or.inl (by decide)) (so_268 h0 g _) (by decide) rfl wq1190 dX11_count_170 ?_
    refine x_iload_n hx hb hl 1 rfl dX11_count_173 rfl ?_
    refine x_bipush hx hb dX11_count_174 (by decide) ?_
    refine x_isub hx hb dX11_count_176 ?_
    refine x_iald hx hb hE hW (Or.inl (by decide)) (sa_274 h0 g _) (by omega) (by decide) dX11_count_177 ?_
    refine x_rd hW (fun x40 ex40 rx40 => ?_)
    have fx40 : x40 = 0 := by rw [ex40, p8]
    refine x_aload_n hx hb hl 0 rfl dX11_count_178 rfl ?_
    refine x_get (j := 0) (v := .ref (h0 + 269)) hx hb hown hT hE hW cls_X11 (Or.inl (by decide)) (so_268 h0 g _) (by decide) rfl wq1185 dX11_count_179 ?_
    refine x_iconst hx hb dX11_count_182 ?_
    refine x_iload_n hx hb hl 1 rfl dX11_count_183 rfl ?_
    refine x_iadd hx hb dX11_count_184 ?_
    refine x_bipush hx hb dX11_count_185 (by decide) ?_
    refine x_isub hx hb dX11_count_187 ?_
    refine x_iald hx hb hE hW (Or.inl (by decide)) (sa_269 h0 g _) (by omega) (by decide) dX11_count_188 ?_
    refine x_rd hW (fun x41 ex41 rx41 => ?_)
    have fx41 : x41 = 0 := by rw [ex41]; exact p9 _ (by omega) (by omega)
    refine x_isub hx hb dX11_count_189 ?_
    rw [eQ]
    exact x_iret hx hb hr hlk hW (by omega) ⟨hF, by omega⟩ dX11_count_190
  · refine x_tabIn (v := 0) (tgt := 52) hx hb rx c1 dX11_count_1 (by decide) rfl (by decide) ?_
    refine x_aload_n hx hb hl 0 rfl dX11_count_52 rfl ?_
    refine x_get (j := 0) (v := .ref (h0 + 269)) hx hb hown hT hE hW cls_X11 (Or.inl (by decide)) (so_268 h0 g _) (by decide) rfl wq1185 dX11_count_53 ?_
    refine x_bipush hx hb dX11_count_56 (by decide) ?_
    refine x_iald hx hb hE hW (Or.inl (by decide)) (sa_269 h0 g _) ⟨by decide, by decide⟩ (by decide) dX11_count_58 ?_
    refine x_rd hW (fun x42 ex42 rx42 => ?_)
    have fx42 : x42 = 0 := by rw [ex42, p6]
    rw [eQ]
    exact x_iret hx hb hr hlk hW rx42 ⟨hF, by omega⟩ dX11_count_59
  · refine x_tabIn (v := 1) (tgt := 60) hx hb rx c1 dX11_count_1 (by decide) rfl (by decide) ?_
    refine x_aload_n hx hb hl 0 rfl dX11_count_60 rfl ?_
    refine x_get (j := 0) (v := .ref (h0 + 269)) hx hb hown hT hE hW cls_X11 (Or.inl (by decide)) (so_268 h0 g _) (by decide) rfl wq1185 dX11_count_61 ?_
    refine x_bipush hx hb dX11_count_64 (by decide) ?_
    refine x_iald hx hb hE hW (Or.inl (by decide)) (sa_269 h0 g _) ⟨by decide, by decide⟩ (by decide) dX11_count_66 ?_
    refine x_rd hW (fun x43 ex43 rx43 => ?_)
    have fx43 : x43 = 0 := by rw [ex43, p0]
    rw [eQ]
    exact x_iret hx hb hr hlk hW rx43 ⟨hF, by omega⟩ dX11_count_67
  · refine x_tabIn (v := 2) (tgt := 68) hx hb rx c1 dX11_count_1 (by decide) rfl (by decide) ?_
    refine x_aload_n hx hb hl 0 rfl dX11_count_68 rfl ?_
    refine x_get (j := 0) (v := .ref (h0 + 269)) hx hb hown hT hE hW cls_X11 (Or.inl (by decide)) (so_268 h0 g _) (by decide) rfl wq1185 dX11_count_69 ?_
    refine x_bipush hx hb dX11_count_72 (by decide) ?_
    refine x_iald hx hb hE hW (Or.inl (by decide)) (sa_269 h0 g _) ⟨by decide, by decide⟩ (by decide) dX11_count_74 ?_
    refine x_rd hW (fun x44 ex44 rx44 => ?_)
    have fx44 : x44 = 0 := by rw [ex44, p1]
    rw [eQ]
    exact x_iret hx hb hr hlk hW rx44 ⟨hF, by omega⟩ dX11_count_75
  · refine x_tabIn (v := 3) (tgt := 76) hx hb rx c1 dX11_count_1 (by decide) rfl (by decide) ?_
    refine x_aload_n hx hb hl 0 rfl dX11_count_76 rfl ?_
    refine x_goi (x_runV (As := []) hx hb hml hown hT hE hW hl.1 (Or.inl (by decide)) (so_268 h0 g _) rfl cf_X11_lampSet wq1784 wq165 wq1782 (c_X11_lampSet l D g T h0 s0 hW.2.1 p3) ⟨rfl, rfl, ⟨by decide, by decide⟩, ⟨by decide, by decide⟩⟩ rfl rfl (Nat.le_of_ble_eq_true rfl) dX11_count_77) hW (fun x45 s46 H locs rx45 hp47 hW => ?_)
    obtain ⟨es46, hp47⟩ := hp47
    subst es46
    have ghp47 := hp47
    rw [eQ]
    exact x_iret hx hb hr hlk hW rx45 ⟨hF, by omega⟩ dX11_count_80
  · refine x_tabIn (v := 4) (tgt := 81) hx hb rx c1 dX11_count_1 (by decide) rfl (by decide) ?_
    refine x_aload_n hx hb hl 0 rfl dX11_count_81 rfl ?_
    refine x_goi (x_runV (As := []) hx hb hml hown hT hE hW hl.1 (Or.inl (by decide)) (so_268 h0 g _) rfl cf_X11_owedAll wq1788 wq166 wq1786 (c_X11_owedAll l D g T h0 s0 hW.2.1 p1) ⟨rfl, rfl, ⟨by decide, by decide⟩, ⟨by decide, by decide⟩⟩ rfl rfl (Nat.le_of_ble_eq_true rfl) dX11_count_82) hW (fun x48 s49 H locs rx48 hp50 hW => ?_)
    obtain ⟨es49, hp50⟩ := hp50
    subst es49
    have ghp50 := hp50
    rw [eQ]
    exact x_iret hx hb hr hlk hW rx48 ⟨hF, by omega⟩ dX11_count_85
  · refine x_tabIn (v := 5) (tgt := 86) hx hb rx c1 dX11_count_1 (by decide) rfl (by decide) ?_
    refine x_aload_n hx hb hl 0 rfl dX11_count_86 rfl ?_
    refine x_get (j := 17) (v := .int (xJ (s0 268 17))) hx hb hown hT hE hW cls_X11 (Or.inl (by decide)) (so_268 h0 g _) (by decide) rfl wq1202 dX11_count_87 ?_
    refine x_rd hW (fun x51 ex51 rx51 => ?_)
    have fx51 : x51 = 0 := by rw [ex51, p2]
    rw [eQ]
    exact x_iret hx hb hr hlk hW rx51 ⟨hF, by omega⟩ dX11_count_90
  · refine x_tabIn (v := 6) (tgt := 91) hx hb rx c1 dX11_count_1 (by decide) rfl (by decide) ?_
    refine x_aload_n hx hb hl 0 rfl dX11_count_91 rfl ?_
    refine x_get (j := 8) (v := .int (xJ (s0 268 8))) hx hb hown hT hE hW cls_X11 (Or.inl (by decide)) (so_268 h0 g _) (by decide) rfl wq1193 dX11_count_92 ?_
    refine x_rd hW (fun x52 ex52 rx52 => ?_)
    have fx52 : x52 = 0 := by rw [ex52, p5]
    rw [eQ]
    exact x_iret hx hb hr hlk hW rx52 ⟨hF, by omega⟩ dX11_count_95
  · refine x_tabIn (v := 7) (tgt := 96) hx hb rx c1 dX11_count_1 (by decide) rfl (by decide) ?_
    refine x_aload_n hx hb hl 0 rfl dX11_count_96 rfl ?_
    refine x_get (j := 0) (v := .ref (h0 + 269)) hx hb hown hT hE hW cls_X11 (Or.inl (by decide)) (so_268 h0 g _) (by decide) rfl wq1185 dX11_count_97 ?_
    refine x_bipush hx hb dX11_count_100 (by decide) ?_
    refine x_iald hx hb hE hW (Or.inl (by decide)) (sa_269 h0 g _) ⟨by decide, by decide⟩ (by decide) dX11_count_102 ?_
    refine x_rd hW (fun x53 ex53 rx53 => ?_)
    have fx53 : x53 = 1 := by rw [ex53, p7]
    rw [eQ]
    exact x_iret hx hb hr hlk hW rx53 ⟨hF, by omega⟩ dX11_count_103
  · refine x_tabIn (v := 8) (tgt := 104) hx hb rx c1 dX11_count_1 (by decide) rfl (by decide) ?_
    refine x_aload_n hx hb hl 0 rfl dX11_count_104 rfl ?_
    refine x_aload_n hx hb hl 0 rfl dX11_count_105 rfl ?_
    refine x_get (j := 0) (v := .ref (h0 + 269)) hx hb hown hT hE hW cls_X11 (Or.inl (by decide)) (so_268 h0 g _) (by decide) rfl wq1185 dX11_count_106 ?_
    refine x_bipush hx hb dX11_count_109 (by decide) ?_
    refine x_iald hx hb hE hW (Or.inl (by decide)) (sa_269 h0 g _) ⟨by decide, by decide⟩ (by decide) dX11_count_111 ?_
    refine x_rd hW (fun x54 ex54 rx54 => ?_)
    have fx54 : x54 = 0 := by rw [ex54, p6]
    refine x_goi (x_runV (As := [.int (xJ x54)]) hx hb hml hown hT hE hW hl.1 (Or.inl (by decide)) (so_268 h0 g _) rfl cf_X11_isNight wq1604 wq143 wq1602 (c_X11_isNight l D g T h0 s0 hW.2.1 x54 rx54 p2) ⟨rfl, rfl, ⟨by decide, by decide⟩, ⟨by decide, by decide⟩⟩ rfl rfl (Nat.le_of_ble_eq_true rfl) dX11_count_112) hW (fun x55 s56 H locs rx55 hp57 hW => ?_)
    obtain ⟨fs56, hp57⟩ := hp57
    have hF58 := hF.call fs56 (fun k h => by omega)
    have q59 : s56 269 34 = 0 := (congrFun (fs56 _ (by omega)) _).trans p0
    have q60 : s56 269 35 = 0 := (congrFun (fs56 _ (by omega)) _).trans p1
    have q61 : s56 268 17 = 0 := (congrFun (fs56 _ (by omega)) _).trans p2
    have q62 : s56 273 = fun _ => (-1) := (fs56 _ (by omega)).trans p3
    have q63 : s56 272 = fun _ => 0 := (fs56 _ (by omega)).trans p4
    have q64 : s56 268 8 = 0 := (congrFun (fs56 _ (by omega)) _).trans p5
    have q65 : s56 269 37 = 0 := (congrFun (fs56 _ (by omega)) _).trans p6
    have q66 : s56 269 38 = 1 := (congrFun (fs56 _ (by omega)) _).trans p7
    have q67 : s56 274 = fun _ => 0 := (fs56 _ (by omega)).trans p8
    have q68 : ∀ j : Int, 2 ≤ j → j < 4 → s56 269 j = 0 := by rw [fs56 269 (by omega)]; exact p9
    have ghp57 := hp57
    refine x_if_eq (tgt := 122) hx hb rx55 dX11_count_115 (by decide) (fun c69 => ?_) (fun c69 => ?_)
    · skip
      refine x_iconst hx hb dX11_count_122 ?_
      rw [eQ]
      exact x_iret hx hb hr hlk hW (by decide) ⟨hF58, by omega⟩ dX11_count_123
    refine x_iconst hx hb dX11_count_118 ?_
    refine lv_goto (tgt := 123) hx hb dX11_count_119 (by decide) ?_
    rw [eQ]
    exact x_iret hx hb hr hlk hW (by decide) ⟨hF58, by omega⟩ dX11_count_123
