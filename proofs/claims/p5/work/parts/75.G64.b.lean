set_option maxHeartbeats 4000000 in
set_option maxRecDepth 100000 in
theorem c_X11_wayXJ (l : Launch) (D : va_G) (g : xG) (T : Nat × Nat × Nat) (h0 : Nat) (s0 : xS) (hσ : xRR s0) (w : Int) (rw : xR w) : Met l yX11_wayX (xws yX11_wayX cX11_wayX 1 (some .int)) { frames := 0, cells := 0, slots := 0, locals := 0 } (xP [.int (xJ w)] D g T h0 s0) (xQi D g h0 (fun r τ => s0 = τ ∧ (r = zwx w))) 0 0 (xA h0) := by
  refine x_met hσ (by decide) (Nat.le_of_ble_eq_true rfl) ?_
  intro p e s m args below meth c hx hb hr hml hown hT hlk hnm hE hW ls hl
  have hl : lv_has ls 1 [(0, .int (xJ w))] := hl
  obtain ⟨Q, eQ⟩ : ∃ Q, Q = MQ below (xQi D g h0 (fun r τ => s0 = τ ∧ (r = zwx w))) args s 0 0 (xA h0) := ⟨_, rfl⟩
  rw [← eQ]
  generalize hHe : ([] : List Loc) = locs at hW ⊢
  obtain ⟨H, eH⟩ : ∃ H, H = s.heap := ⟨_, rfl⟩
  rw [← eH] at hW ⊢
  refine x_iload_n hx hb hl 0 rfl dX11_wayX_0 rfl ?_
  refine x_if_eq (tgt := 9) hx hb rw dX11_wayX_1 (by decide) (fun c1 => ?_) (fun c1 => ?_)
  · skip
    refine x_iconst hx hb dX11_wayX_9 ?_
    refine lv_goto (tgt := 23) hx hb dX11_wayX_10 (by decide) ?_
    rw [eQ]
    exact x_iret hx hb hr hlk hW (by decide) ⟨rfl, by unfold zwx; (repeat' split) <;> omega⟩ dX11_wayX_23
  refine x_iload_n hx hb hl 0 rfl dX11_wayX_4 rfl ?_
  refine x_iconst hx hb dX11_wayX_5 ?_
  refine x_icmp_ne (tgt := 13) hx hb rw (by decide) dX11_wayX_6 (by decide) (fun c2 => ?_) (fun c2 => ?_)
  · skip
    refine x_iload_n hx hb hl 0 rfl dX11_wayX_13 rfl ?_
    refine x_iconst hx hb dX11_wayX_14 ?_
    refine x_icmp_ge (tgt := 22) hx hb rw (by decide) dX11_wayX_15 (by decide) (fun c3 => ?_) (fun c3 => ?_)
    · skip
      refine x_iconst hx hb dX11_wayX_22 ?_
      rw [eQ]
      exact x_iret hx hb hr hlk hW (by decide) ⟨rfl, by unfold zwx; (repeat' split) <;> omega⟩ dX11_wayX_23
    refine x_iconst hx hb dX11_wayX_18 ?_
    refine lv_goto (tgt := 23) hx hb dX11_wayX_19 (by decide) ?_
    rw [eQ]
    exact x_iret hx hb hr hlk hW (by decide) ⟨rfl, by unfold zwx; (repeat' split) <;> omega⟩ dX11_wayX_23
  refine x_iconst hx hb dX11_wayX_9 ?_
  refine lv_goto (tgt := 23) hx hb dX11_wayX_10 (by decide) ?_
  rw [eQ]
  exact x_iret hx hb hr hlk hW (by decide) ⟨rfl, by unfold zwx; (repeat' split) <;> omega⟩ dX11_wayX_23
set_option maxHeartbeats 4000000 in
set_option maxRecDepth 100000 in
theorem c_X11_wayYJ (l : Launch) (D : va_G) (g : xG) (T : Nat × Nat × Nat) (h0 : Nat) (s0 : xS) (hσ : xRR s0) (w : Int) (rw : xR w) : Met l yX11_wayY (xws yX11_wayY cX11_wayY 1 (some .int)) { frames := 1, cells := 0, slots := 0, locals := 22 } (xP [.int (xJ w)] D g T h0 s0) (xQi D g h0 (fun r τ => s0 = τ ∧ (r = zwy w))) 0 0 (xA h0) := by
  refine x_met hσ (by decide) (Nat.le_of_ble_eq_true rfl) ?_
  intro p e s m args below meth c hx hb hr hml hown hT hlk hnm hE hW ls hl
  have hl : lv_has ls 1 [(0, .int (xJ w))] := hl
  obtain ⟨Q, eQ⟩ : ∃ Q, Q = MQ below (xQi D g h0 (fun r τ => s0 = τ ∧ (r = zwy w))) args s 0 0 (xA h0) := ⟨_, rfl⟩
  rw [← eQ]
  generalize hHe : ([] : List Loc) = locs at hW ⊢
  obtain ⟨H, eH⟩ : ∃ H, H = s.heap := ⟨_, rfl⟩
  rw [← eH] at hW ⊢
  refine x_iload_n hx hb hl 0 rfl dX11_wayY_0 rfl ?_
  refine x_iconst hx hb dX11_wayY_1 ?_
  refine x_icmp_eq (tgt := 11) hx hb rw (by decide) dX11_wayY_2 (by decide) (fun c1 => ?_) (fun c1 => ?_)
  · skip
    refine x_iconst hx hb dX11_wayY_11 ?_
    refine lv_goto (tgt := 29) hx hb dX11_wayY_12 (by decide) ?_
    rw [eQ]
    exact x_iret hx hb hr hlk hW (by decide) ⟨rfl, by unfold zwy; (repeat' split) <;> omega⟩ dX11_wayY_29
  refine x_iload_n hx hb hl 0 rfl dX11_wayY_5 rfl ?_
  refine x_bipush hx hb dX11_wayY_6 (by decide) ?_
  refine x_icmp_ne (tgt := 15) hx hb rw (by decide) dX11_wayY_8 (by decide) (fun c2 => ?_) (fun c2 => ?_)
  · skip
    refine x_iload_n hx hb hl 0 rfl dX11_wayY_15 rfl ?_
    refine x_iconst hx hb dX11_wayY_16 ?_
    refine x_iconst hx hb dX11_wayY_17 ?_
    refine x_goi (x_runS (As := [.int (xJ w), .int (xJ 3), .int (xJ 5)]) hx hb hml hown hT hE hW hl.1 cf_X11_in wq1383 wq1382 (c_X11_in l D g T h0 s0 hW.2.1 w rw 3 (by decide) 5 (by decide)) ⟨rfl, rfl, ⟨by decide, by decide⟩, ⟨by decide, by decide⟩⟩ rfl rfl (Nat.le_of_ble_eq_true rfl) dX11_wayY_18) hW (fun x3 s4 H locs rx3 hp5 hW => ?_)
    obtain ⟨es4, hp5⟩ := hp5
    subst es4
    have ghp5 := hp5
    refine x_if_eq (tgt := 28) hx hb rx3 dX11_wayY_21 (by decide) (fun c6 => ?_) (fun c6 => ?_)
    · skip
      refine x_iconst hx hb dX11_wayY_28 ?_
      rw [eQ]
      exact x_iret hx hb hr hlk hW (by decide) ⟨rfl, by unfold zwy; (repeat' split) <;> omega⟩ dX11_wayY_29
    refine x_iconst hx hb dX11_wayY_24 ?_
    refine lv_goto (tgt := 29) hx hb dX11_wayY_25 (by decide) ?_
    rw [eQ]
    exact x_iret hx hb hr hlk hW (by decide) ⟨rfl, by unfold zwy; (repeat' split) <;> omega⟩ dX11_wayY_29
  refine x_iconst hx hb dX11_wayY_11 ?_
  refine lv_goto (tgt := 29) hx hb dX11_wayY_12 (by decide) ?_
  rw [eQ]
  exact x_iret hx hb hr hlk hW (by decide) ⟨rfl, by unfold zwy; (repeat' split) <;> omega⟩ dX11_wayY_29
set_option maxHeartbeats 4000000 in
set_option maxRecDepth 100000 in
theorem c_X11_besideJ (l : Launch) (D : va_G) (g : xG) (T : Nat × Nat × Nat) (h0 : Nat) (s0 : xS) (hσ : xRR s0) (x : Int) (rx : xR x) (w : Int) (rw : xR w) (hx0 : 0 ≤ x ∧ x ≤ 99) : Met l yX11_beside (xws yX11_beside cX11_beside 4 (some .int)) { frames := 2, cells := 0, slots := 0, locals := 43 } (xP [.int (xJ x), .int (xJ w)] D g T h0 s0) (xQi D g h0 (fun r τ => s0 = τ ∧ (r = zbe x w))) 0 0 (xA h0) := by
  refine x_met hσ (by decide) (Nat.le_of_ble_eq_true rfl) ?_
  intro p e s m args below meth c hx hb hr hml hown hT hlk hnm hE hW ls hl
  have hl : lv_has ls 4 [(0, .int (xJ x)), (1, .int (xJ w))] := hl
  obtain ⟨Q, eQ⟩ : ∃ Q, Q = MQ below (xQi D g h0 (fun r τ => s0 = τ ∧ (r = zbe x w))) args s 0 0 (xA h0) := ⟨_, rfl⟩
  rw [← eQ]
  generalize hHe : ([] : List Loc) = locs at hW ⊢
  obtain ⟨H, eH⟩ : ∃ H, H = s.heap := ⟨_, rfl⟩
  rw [← eH] at hW ⊢
  have hw9 := zw_r w
  refine x_iload_n hx hb hl 0 rfl dX11_beside_0 rfl ?_
  refine x_bipush hx hb dX11_beside_1 (by decide) ?_
  refine x_irem hx hb rx (by decide) (by omega) (by decide) dX11_beside_3 ?_
  refine x_iload_n hx hb hl 1 rfl dX11_beside_4 rfl ?_
  refine x_goi (x_runS (As := [.int (xJ w)]) hx hb hml hown hT hE hW hl.1 cf_X11_wayX wq1557 wq1556 (c_X11_wayXJ l D g T h0 s0 hW.2.1 w rw) ⟨rfl, rfl, ⟨by decide, by decide⟩, ⟨by decide, by decide⟩⟩ rfl rfl (Nat.le_of_ble_eq_true rfl) dX11_beside_5) hW (fun x1 s2 H locs rx1 hp3 hW => ?_)
  obtain ⟨es2, hp3⟩ := hp3
  subst es2
  have ghp3 := hp3
  refine x_iadd hx hb dX11_beside_8 ?_
  refine x_nm (fun x4 ex4 => ?_)
  refine lv_istore_n (lv' := [(2, .int (xJ x4)), (0, .int (xJ x)), (1, .int (xJ w))]) hx hb dX11_beside_9 rfl hl (by decide) rfl (fun ls hl => ?_)
  refine x_iload_n hx hb hl 1 rfl dX11_beside_10 rfl ?_
  refine x_bipush hx hb dX11_beside_11 (by decide) ?_
  refine x_idiv hx hb rx (by decide) (by omega) (by decide) dX11_beside_13 ?_
  refine x_iload_n hx hb hl 2 rfl dX11_beside_14 rfl ?_
  refine x_goi (x_runS (As := [.int (xJ w)]) hx hb hml hown hT hE hW hl.1 cf_X11_wayY wq1560 wq1559 (c_X11_wayYJ l D g T h0 s0 hW.2.1 w rw) ⟨rfl, rfl, ⟨by decide, by decide⟩, ⟨by decide, by decide⟩⟩ rfl rfl (Nat.le_of_ble_eq_true rfl) dX11_beside_15) hW (fun x5 s6 H locs rx5 hp7 hW => ?_)
  obtain ⟨es6, hp7⟩ := hp7
  subst es6
  have ghp7 := hp7
  refine x_iadd hx hb dX11_beside_18 ?_
  refine x_nm (fun x8 ex8 => ?_)
  refine lv_istore_n (lv' := [(3, .int (xJ x8)), (2, .int (xJ x4)), (0, .int (xJ x)), (1, .int (xJ w))]) hx hb dX11_beside_19 rfl hl (by decide) rfl (fun ls hl => ?_)
  refine x_iload_n hx hb hl 1 rfl dX11_beside_20 rfl ?_
  refine x_iload_n hx hb hl 0 rfl dX11_beside_21 rfl ?_
  refine x_goi (x_runS (As := [.int (xJ x4), .int (xJ x8)]) hx hb hml hown hT hE hW hl.1 cf_X11_isOn wq1430 wq1429 (c_X11_isOn l D g T h0 s0 hW.2.1 x4 (by omega) x8 (by omega)) ⟨rfl, rfl, ⟨by decide, by decide⟩, ⟨by decide, by decide⟩⟩ rfl rfl (Nat.le_of_ble_eq_true rfl) dX11_beside_22) hW (fun x9 s10 H locs rx9 hp11 hW => ?_)
  obtain ⟨es10, hp11⟩ := hp11
  subst es10
  have ghp11 := hp11
  refine x_if_eq (tgt := 37) hx hb rx9 dX11_beside_25 (by decide) (fun c12 => ?_) (fun c12 => ?_)
  · skip
    refine x_iconst hx hb dX11_beside_37 ?_
    rw [eQ]
    exact x_iret hx hb hr hlk hW (by decide) ⟨rfl, zbe_i (s := x) (w := w) (x := x4) (y := x8) (by omega) (by omega) (by first | exact Or.inl ⟨by omega, by omega, by omega, by omega, by omega⟩ | exact Or.inr ⟨by omega, by omega⟩)⟩ dX11_beside_38
  refine x_bipush hx hb dX11_beside_28 (by decide) ?_
  refine x_iload_n hx hb hl 0 rfl dX11_beside_30 rfl ?_
  refine x_imul hx hb dX11_beside_31 ?_
  refine x_iload_n hx hb hl 1 rfl dX11_beside_32 rfl ?_
  refine x_iadd hx hb dX11_beside_33 ?_
  refine lv_goto (tgt := 38) hx hb dX11_beside_34 (by decide) ?_
  rw [eQ]
  exact x_iret hx hb hr hlk hW (by omega) ⟨rfl, zbe_i (s := x) (w := w) (x := x4) (y := x8) (by omega) (by omega) (by first | exact Or.inl ⟨by omega, by omega, by omega, by omega, by omega⟩ | exact Or.inr ⟨by omega, by omega⟩)⟩ dX11_beside_38
set_option maxHeartbeats 4000000 in
set_option maxRecDepth 100000 in
theorem c_X11_isJudgeJ (l : Launch) (D : va_G) (g : xG) (T : Nat × Nat × Nat) (h0 : Nat) (s0 : xS) (hσ : xRR s0) (j : Int) (rj : xR j) (p0 : IMn s0) (p1 : IMk s0) (p2 : IMo s0) : Met l yX11_isJudge (xws yX11_isJudge cX11_isJudge 2 (some .boolean)) { frames := 1, cells := 0, slots := 0, locals := 21 } (xP [.ref (h0 + 268), .int (xJ j)] D g T h0 s0) (xQi D g h0 (fun r τ => s0 = τ ∧ ((r = 1 ∧ 0 ≤ j ∧ j < 2 ∧ xsh (s0 269 34) j % 2 = 1) ∨ (r = 0 ∧ ¬ (0 ≤ j ∧ j < 2 ∧ xsh (s0 269 34) j % 2 = 1))))) 0 0 (xA h0) := by
  refine x_met hσ (by decide) (Nat.le_of_ble_eq_true rfl) ?_
  intro p e s m args below meth c hx hb hr hml hown hT hlk hnm hE hW ls hl
  have hl : lv_has ls 2 [(0, .ref (h0 + 268)), (1, .int (xJ j))] := hl
  obtain ⟨Q, eQ⟩ : ∃ Q, Q = MQ below (xQi D g h0 (fun r τ => s0 = τ ∧ ((r = 1 ∧ 0 ≤ j ∧ j < 2 ∧ xsh (s0 269 34) j % 2 = 1) ∨ (r = 0 ∧ ¬ (0 ≤ j ∧ j < 2 ∧ xsh (s0 269 34) j % 2 = 1))))) args s 0 0 (xA h0) := ⟨_, rfl⟩
  rw [← eQ]
  generalize hHe : ([] : List Loc) = locs at hW ⊢
  obtain ⟨H, eH⟩ : ∃ H, H = s.heap := ⟨_, rfl⟩
  rw [← eH] at hW ⊢
  have k268_8 : s0 268 8 = s0 268 8 := rfl
  have k268_58 : s0 268 58 = s0 268 58 := rfl
  refine x_iload_n hx hb hl 1 rfl dX11_isJudge_0 rfl ?_
  refine x_iconst hx hb dX11_isJudge_1 ?_
  refine x_goi (x_runS (As := [.int (xJ j), .int (xJ 2)]) hx hb hml hown hT hE hW hl.1 cf_X11_isFive wq1412 wq1411 (c_X11_isFive l D g T h0 s0 hW.2.1 j rj 2 (by decide)) ⟨rfl, rfl, ⟨by decide, by decide⟩, ⟨by decide, by decide⟩⟩ rfl rfl (Nat.le_of_ble_eq_true rfl) dX11_isJudge_2) hW (fun x1 s2 H locs rx1 hp3 hW => ?_)
  obtain ⟨es2, hp3⟩ := hp3
  subst es2
  have ghp3 := hp3
  refine x_if_eq (tgt := 26) hx hb rx1 dX11_isJudge_5 (by decide) (fun c4 => ?_) (fun c4 => ?_)
  · skip
    refine x_iconst hx hb dX11_isJudge_26 ?_
    rw [eQ]
    exact x_zret hx hb hr hlk hW (by omega) ⟨rfl, by omega⟩ dX11_isJudge_27
  refine x_aload_n hx hb hl 0 rfl dX11_isJudge_8 rfl ?_
  refine x_get (j := 0) (v := .ref (h0 + 269)) hx hb hown hT hE hW cls_X11 (Or.inl (by decide)) (so_268 h0 g _) (by decide) rfl wq1185 dX11_isJudge_9 ?_
  refine x_bipush hx hb dX11_isJudge_12 (by decide) ?_
  refine x_iald hx hb hE hW (Or.inl (by decide)) (sa_269 h0 g _) ⟨by decide, by decide⟩ (by decide) dX11_isJudge_14 ?_
  refine x_rd hW (fun x5 ex5 rx5 => ?_)
  have V14 := ex5
  refine x_iload_n hx hb hl 1 rfl dX11_isJudge_15 rfl ?_
  refine x_goi (x_runS (As := [.int (xJ x5), .int (xJ j)]) hx hb hml hown hT hE hW hl.1 cf_X11_has wq1415 wq1414 (c_X11_has l D g T h0 s0 hW.2.1 x5 rx5 j rj) ⟨rfl, rfl, ⟨by decide, by decide⟩, ⟨by decide, by decide⟩⟩ rfl rfl (Nat.le_of_ble_eq_true rfl) dX11_isJudge_16) hW (fun x6 s7 H locs rx6 hp8 hW => ?_)
  obtain ⟨es7, hp8⟩ := hp8
  subst es7
  have ghp8 := hp8
  have H16 := ghp8.2 (by omega)
  rw [V14] at H16
  refine x_if_eq (tgt := 26) hx hb rx6 dX11_isJudge_19 (by decide) (fun c9 => ?_) (fun c9 => ?_)
  · skip
    refine x_iconst hx hb dX11_isJudge_26 ?_
    rw [eQ]
    exact x_zret hx hb hr hlk hW (by omega) ⟨rfl, by omega⟩ dX11_isJudge_27
  refine x_iconst hx hb dX11_isJudge_22 ?_
  refine lv_goto (tgt := 27) hx hb dX11_isJudge_23 (by decide) ?_
  rw [eQ]
  exact x_zret hx hb hr hlk hW (by omega) ⟨rfl, by omega⟩ dX11_isJudge_27
set_option maxHeartbeats 4000000 in
set_option maxRecDepth 100000 in
theorem c_X11_stepsJ (l : Launch) (D : va_G) (g : xG) (T : Nat × Nat × Nat) (h0 : Nat) (s0 : xS) (hσ : xRR s0) (j : Int) (rj : xR j) (w : Int) (rw : xR w) (K9 : Int → Int) (hj : 0 ≤ j ∧ j < 2) (hK : ∀ t : Int, 0 ≤ t → t < 100 → s0 272 t = K9 t ∧ 0 ≤ K9 t ∧ K9 t ≤ 3) (p0 : IMn s0) (p1 : IMk s0) (p2 : IMo s0) : Met l yX11_steps (xws yX11_steps cX11_steps 4 none) { frames := 3, cells := 0, slots := 0, locals := 66 } (xP [.ref (h0 + 268), .int (xJ j), .int (xJ w)] D g T h0 s0) (xQv D g h0 (fun τ => xFr (fun k => k = 269) s0 τ ∧ (((IMn τ) ∧ (IMk τ) ∧ (IMo τ) ∧ (τ 269 37 = s0 269 37) ∧ (τ 269 34 = s0 269 34) ∧ True) ∧ (τ 269 = xud (s0 269) j (znW K9 (s0 269 j) (zrj (s0 269) (1 - j)) w))))) 0 0 (xA h0) := by
  refine x_met hσ (by decide) (Nat.le_of_ble_eq_true rfl) ?_
  intro p e s m args below meth c hx hb hr hml hown hT hlk hnm hE hW ls hl
  have hl : lv_has ls 4 [(0, .ref (h0 + 268)), (1, .int (xJ j)), (2, .int (xJ w))] := hl
  obtain ⟨Q, eQ⟩ : ∃ Q, Q = MQ below (xQv D g h0 (fun τ => xFr (fun k => k = 269) s0 τ ∧ (((IMn τ) ∧ (IMk τ) ∧ (IMo τ) ∧ (τ 269 37 = s0 269 37) ∧ (τ 269 34 = s0 269 34) ∧ True) ∧ (τ 269 = xud (s0 269) j (znW K9 (s0 269 j) (zrj (s0 269) (1 - j)) w))))) args s 0 0 (xA h0) := ⟨_, rfl⟩
  rw [← eQ]
  generalize hHe : ([] : List Loc) = locs at hW ⊢
  obtain ⟨H, eH⟩ : ∃ H, H = s.heap := ⟨_, rfl⟩
  rw [← eH] at hW ⊢
  have hF : xFr (fun k => k = 269) s0 s0 := xFr.rf
  have k268_8 : s0 268 8 = s0 268 8 := rfl
  have k268_58 : s0 268 58 = s0 268 58 := rfl
  have k269_37 : s0 269 37 = s0 269 37 := rfl
  have k269_34 : s0 269 34 = s0 269 34 := rfl
  have hn1 := (IMn.n1 p0).1 j hj.1 hj.2
  refine x_iload_n hx hb hl 2 rfl dX11_steps_0 rfl ?_
  refine x_bipush hx hb dX11_steps_1 (by decide) ?_
  have J22 : ∀ (t0_22 : Int) (H : Heap) (locs : List Loc) (ls : Array Slot), (xR t0_22) → (t0_22 = -1 ∨ (0 ≤ t0_22 ∧ t0_22 ≤ 99)) → ((w = 8 ∧ t0_22 = -1) ∨ (w ≠ 8 ∧ t0_22 = zbe (s0 269 j) w)) → xW D g h0 s H locs s0 → lv_has ls 4 [(0, .ref (h0 + 268)), (1, .int (xJ j))] → W p l e { frames := 3, cells := 0, slots := 0, locals := 66 } s m args below meth c H locs 0 0 Q (F0 m 22 ls [.int (xJ t0_22)]) := by
    intro t0_22 H locs ls rt0_22 v22_0 v22_1 hW hl
    refine lv_istore_n (lv' := [(3, .int (xJ t0_22)), (0, .ref (h0 + 268)), (1, .int (xJ j))]) hx hb dX11_steps_22 rfl hl (by decide) rfl (fun ls hl => ?_)
    obtain ⟨t9, et9⟩ : ∃ t, t = zbe (s0 269 j) w := ⟨_, rfl⟩
    have T22 : (w = 8 ∧ t0_22 = -1) ∨ (w ≠ 8 ∧ t0_22 = t9) := by rw [et9]; exact v22_1
    have R22 := zbe_r (s0 269 j) w
    rw [← et9] at R22
    refine x_iload_n hx hb hl 0 rfl dX11_steps_23 rfl ?_
    refine x_iconst hx hb dX11_steps_24 ?_
    refine x_icmp_eq (tgt := 58) hx hb rt0_22 (by decide) dX11_steps_25 (by decide) (fun c1 => ?_) (fun c1 => ?_)
    · skip
      rw [eQ]
      exact x_vret hx hb hr hlk hW ⟨hF, ⟨p0, p1, p2, k269_37, k269_34, trivial⟩, (by
          first
            | exact zxud_e (znW_st (by rw [← et9]; omega))
            | exact zxud_e (znW_st (Or.inr (Or.inr (Or.inr (Or.inr (by rw [zrj_p (by omega), ← et9]; omega)))))))⟩ dX11_steps_58
    refine x_aload_n hx hb hl 1 rfl dX11_steps_28 rfl ?_
    refine x_iload_n hx hb hl 0 rfl dX11_steps_29 rfl ?_
    refine x_goi (x_runV (As := [.int (xJ t0_22)]) hx hb hml hown hT hE hW hl.1 (Or.inl (by decide)) (so_268 h0 g _) rfl cf_X11_isGround wq1419 wq110 wq1417 (c_X11_isGroundM l D g T h0 s0 hW.2.1 t0_22 rt0_22 (by omega) p0 p1 p2) ⟨rfl, rfl, ⟨by decide, by decide⟩, ⟨by decide, by decide⟩⟩ rfl rfl (Nat.le_of_ble_eq_true rfl) dX11_steps_30) hW (fun x2 s3 H locs rx2 hp4 hW => ?_)
    obtain ⟨es3, hp4⟩ := hp4
    subst es3
    have ghp4 := hp4
    have H30 := ghp4
    have T30 : t0_22 = t9 := by omega
    rw [T30] at H30
    have K30 := hK t9 (by omega) (by omega)
    refine x_if_eq (tgt := 58) hx hb rx2 dX11_steps_33 (by decide) (fun c5 => ?_) (fun c5 => ?_)
    · skip
      rw [eQ]
      exact x_vret hx hb hr hlk hW ⟨hF, ⟨p0, p1, p2, k269_37, k269_34, trivial⟩, (by
          first
            | exact zxud_e (znW_st (by rw [← et9]; omega))
            | exact zxud_e (znW_st (Or.inr (Or.inr (Or.inr (Or.inr (by rw [zrj_p (by omega), ← et9]; omega)))))))⟩ dX11_steps_58
    refine x_aload_n hx hb hl 1 rfl dX11_steps_36 rfl ?_
    refine x_iconst hx hb dX11_steps_37 ?_
    refine x_iload_n hx hb hl 2 rfl dX11_steps_38 rfl ?_
    refine x_isub hx hb dX11_steps_39 ?_
    refine x_goi (x_runV (As := [.int (xJ (1 - j))]) hx hb hml hown hT hE hW hl.1 (Or.inl (by decide)) (so_268 h0 g _) rfl cf_X11_isJudge wq1409 wq109 wq1407 (c_X11_isJudgeJ l D g T h0 s0 hW.2.1 (1 - j) (by omega) p0 p1 p2) ⟨rfl, rfl, ⟨by decide, by decide⟩, ⟨by decide, by decide⟩⟩ rfl rfl (Nat.le_of_ble_eq_true rfl) dX11_steps_40) hW (fun x6 s7 H locs rx6 hp8 hW => ?_)
    obtain ⟨es7, hp8⟩ := hp8
    subst es7
    have ghp8 := hp8
    have H40 := ghp8
    refine x_if_eq (tgt := 59) hx hb rx6 dX11_steps_43 (by decide) (fun c9 => ?_) (fun c9 => ?_)
    · skip
      refine x_aload_n hx hb hl 1 rfl dX11_steps_59 rfl ?_
      refine x_get (j := 0) (v := .ref (h0 + 269)) hx hb hown hT hE hW cls_X11 (Or.inl (by decide)) (so_268 h0 g _) (by decide) rfl wq1185 dX11_steps_60 ?_
      refine x_iconst hx hb dX11_steps_63 ?_
      refine x_iload_n hx hb hl 2 rfl dX11_steps_64 rfl ?_
      refine x_iadd hx hb dX11_steps_65 ?_
      refine x_iload_n hx hb hl 0 rfl dX11_steps_66 rfl ?_
      refine x_iast hx hb hE hW (by decide) (fun σ => sa_269 h0 g σ) (by omega) (by decide) rt0_22 dX11_steps_67 (fun H locs s10 es10 hW => ?_)
      have q11 : IMn s10 := by rw [es10]; exact IMn_N269 p0 (by omega)
      have q12 : IMk s10 := by rw [es10]; exact IMk_o (by unfold suIMk; first | decide | omega) p1
      have q13 : IMo s10 := by rw [es10]; exact IMo_o (by unfold suIMo; first | decide | omega) p2
      have q14 : s10 268 8 = s0 268 8 := (show s10 268 8 = s0 268 8 from by rw [es10, xU_k _ _ _ (by first | decide | omega)]).trans k268_8
      have q15 : s10 268 58 = s0 268 58 := (show s10 268 58 = s0 268 58 from by rw [es10, xU_k _ _ _ (by first | decide | omega)]).trans k268_58
      have q16 : s10 269 37 = s0 269 37 := (show s10 269 37 = s0 269 37 from by rw [es10, xU_j _ _ (by omega)]).trans k269_37
      have q17 : s10 269 34 = s0 269 34 := (show s10 269 34 = s0 269 34 from by rw [es10, xU_j _ _ (by omega)]).trans k269_34
      have hF18 := hF.put es10 (by omega)
      have E67 := es10
      rw [eQ]
      exact x_vret hx hb hr hlk hW ⟨hF18, ⟨q11, q12, q13, q16, q17, trivial⟩, (by
          have z : zrj (s0 269) (1 - j) ≠ t9 := by
            first
              | (rw [zrj_n (by omega)]; omega)
              | (rw [zrj_p (by omega)]; omega)
          rw [E67, xU_xud, show (0 + j : Int) = j from by omega]
          exact congrArg (xud (s0 269) j) (T30.trans (et9.trans (znW_go (by rw [← et9]; omega)).symm)))⟩ dX11_steps_68
    refine x_aload_n hx hb hl 1 rfl dX11_steps_46 rfl ?_
    refine x_get (j := 0) (v := .ref (h0 + 269)) hx hb hown hT hE hW cls_X11 (Or.inl (by decide)) (so_268 h0 g _) (by decide) rfl wq1185 dX11_steps_47 ?_
    refine x_iconst hx hb dX11_steps_50 ?_
    refine x_iload_n hx hb hl 2 rfl dX11_steps_51 rfl ?_
    refine x_isub hx hb dX11_steps_52 ?_
    refine x_iald hx hb hE hW (Or.inl (by decide)) (sa_269 h0 g _) (by omega) (by decide) dX11_steps_53 ?_
    refine x_rd hW (fun x19 ex19 rx19 => ?_)
    have bx19 : 0 ≤ x19 ∧ x19 ≤ 99 := by rw [ex19]; exact (IMn.n1 p0).1 _ (by omega) (by omega)
    have V53 : x19 = s0 269 (1 - j) := ex19
    refine x_iload_n hx hb hl 0 rfl dX11_steps_54 rfl ?_
    refine x_icmp_ne (tgt := 59) hx hb rx19 rt0_22 dX11_steps_55 (by decide) (fun c20 => ?_) (fun c20 => ?_)
    · skip
      refine x_aload_n hx hb hl 1 rfl dX11_steps_59 rfl ?_
      refine x_get (j := 0) (v := .ref (h0 + 269)) hx hb hown hT hE hW cls_X11 (Or.inl (by decide)) (so_268 h0 g _) (by decide) rfl wq1185 dX11_steps_60 ?_
      refine x_iconst hx hb dX11_steps_63 ?_
      refine x_iload_n hx hb hl 2 rfl dX11_steps_64 rfl ?_
      refine x_iadd hx hb dX11_steps_65 ?_
      refine x_iload_n hx hb hl 0 rfl dX11_steps_66 rfl ?_
      refine x_iast hx hb hE hW (by decide) (fun σ => sa_269 h0 g σ) (by omega) (by decide) rt0_22 dX11_steps_67 (fun H locs s21 es21 hW => ?_)
      have q22 : IMn s21 := by rw [es21]; exact IMn_N269 p0 (by omega)
      have q23 : IMk s21 := by rw [es21]; exact IMk_o (by unfold suIMk; first | decide | omega) p1
      have q24 : IMo s21 := by rw [es21]; exact IMo_o (by unfold suIMo; first | decide | omega) p2
      have q25 : s21 268 8 = s0 268 8 := (show s21 268 8 = s0 268 8 from by rw [es21, xU_k _ _ _ (by first | decide | omega)]).trans k268_8
      have q26 : s21 268 58 = s0 268 58 := (show s21 268 58 = s0 268 58 from by rw [es21, xU_k _ _ _ (by first | decide | omega)]).trans k268_58
      have q27 : s21 269 37 = s0 269 37 := (show s21 269 37 = s0 269 37 from by rw [es21, xU_j _ _ (by omega)]).trans k269_37
      have q28 : s21 269 34 = s0 269 34 := (show s21 269 34 = s0 269 34 from by rw [es21, xU_j _ _ (by omega)]).trans k269_34
      have hF29 := hF.put es21 (by omega)
      have E67 := es21
      rw [eQ]
      exact x_vret hx hb hr hlk hW ⟨hF29, ⟨q22, q23, q24, q27, q28, trivial⟩, (by
          have z : zrj (s0 269) (1 - j) ≠ t9 := by
            first
              | (rw [zrj_n (by omega)]; omega)
              | (rw [zrj_p (by omega)]; omega)
          rw [E67, xU_xud, show (0 + j : Int) = j from by omega]
          exact congrArg (xud (s0 269) j) (T30.trans (et9.trans (znW_go (by rw [← et9]; omega)).symm)))⟩ dX11_steps_68
    rw [eQ]
    exact x_vret hx hb hr hlk hW ⟨hF, ⟨p0, p1, p2, k269_37, k269_34, trivial⟩, (by
        first
          | exact zxud_e (znW_st (by rw [← et9]; omega))
          | exact zxud_e (znW_st (Or.inr (Or.inr (Or.inr (Or.inr (by rw [zrj_p (by omega), ← et9]; omega)))))))⟩ dX11_steps_58
  refine x_icmp_ne (tgt := 10) hx hb rw (by decide) dX11_steps_3 (by decide) (fun c30 => ?_) (fun c30 => ?_)
  · skip
    refine x_aload_n hx hb hl 0 rfl dX11_steps_10 rfl ?_
    refine x_get (j := 0) (v := .ref (h0 + 269)) hx hb hown hT hE hW cls_X11 (Or.inl (by decide)) (so_268 h0 g _) (by decide) rfl wq1185 dX11_steps_11 ?_
    refine x_iconst hx hb dX11_steps_14 ?_
    refine x_iload_n hx hb hl 1 rfl dX11_steps_15 rfl ?_
    refine x_iadd hx hb dX11_steps_16 ?_
    refine x_iald hx hb hE hW (Or.inl (by decide)) (sa_269 h0 g _) (by omega) (by decide) dX11_steps_17 ?_
    refine x_rd hW (fun x31 ex31 rx31 => ?_)
    have bx31 : 0 ≤ x31 ∧ x31 ≤ 99 := by rw [ex31]; exact (IMn.n1 p0).1 _ (by omega) (by omega)
    have V17 : x31 = s0 269 j := ex31.trans (congrArg (s0 269) (by omega))
    refine x_iload_n hx hb hl 2 rfl dX11_steps_18 rfl ?_
    refine x_goi (x_runS (As := [.int (xJ x31), .int (xJ w)]) hx hb hml hown hT hE hW hl.1 cf_X11_beside wq1554 wq1553 (c_X11_besideJ l D g T h0 s0 hW.2.1 x31 rx31 w rw (by omega)) ⟨rfl, rfl, ⟨by decide, by decide⟩, ⟨by decide, by decide⟩⟩ rfl rfl (Nat.le_of_ble_eq_true rfl) dX11_steps_19) hW (fun x32 s33 H locs rx32 hp34 hW => ?_)
    obtain ⟨es33, hp34⟩ := hp34
    subst es33
    have ghp34 := hp34
    have H19 := ghp34
    have R19 := zbe_r (s0 269 j) w
    rw [V17] at H19
    rw [← H19] at R19
    exact J22 x32 H locs ls rx32 (by omega) (by first | exact Or.inl ⟨by omega, rfl⟩ | exact Or.inr ⟨by omega, H19⟩) hW (lv_sub hl [0, 1] rfl)
  refine x_iconst hx hb dX11_steps_6 ?_
  refine lv_goto (tgt := 22) hx hb dX11_steps_7 (by decide) ?_
  exact J22 (-1) H locs ls (by decide) (by omega) (by first | exact Or.inl ⟨by omega, rfl⟩ | exact Or.inr ⟨by omega, H19⟩) hW (lv_sub hl [0, 1] rfl)
set_option maxHeartbeats 4000000 in
set_option maxRecDepth 100000 in
theorem c_X11_walksOnJ (l : Launch) (D : va_G) (g : xG) (T : Nat × Nat × Nat) (h0 : Nat) (s0 : xS) (hσ : xRR s0) (j : Int) (rj : xR j) (K9 : Int → Int) (n9 : Int → Int) (w9 : Int → Int → Int) (hj : 0 ≤ j ∧ j < 2) (hK : ∀ t : Int, 0 ≤ t → t < 100 → s0 272 t = K9 t ∧ 0 ≤ K9 t ∧ K9 t ≤ 3) (hw : ∀ j : Int, 0 ≤ j → j < 2 → s0 274 j = n9 j ∧ ∀ i : Int, 0 ≤ i → i < n9 j → s0 275 (60 * j + i) = w9 j i) (p0 : IMn s0) (p1 : IMk s0) (p2 : IMo s0) : Met l yX11_walksOn (xws yX11_walksOn cX11_walksOn 3 none) { frames := 4, cells := 0, slots := 0, locals := 89 } (xP [.ref (h0 + 268), .int (xJ j)] D g T h0 s0) (xQv D g h0 (fun τ => xFr (fun k => k = 269) s0 τ ∧ (((IMn τ) ∧ (IMk τ) ∧ (IMo τ) ∧ (τ 269 37 = s0 269 37) ∧ (τ 269 34 = s0 269 34) ∧ True) ∧ (zrt (τ 269) = zjk K9 n9 w9 j (zrt (s0 269)) ∧ ∀ i : Int, 4 ≤ i → τ 269 i = s0 269 i)))) 0 0 (xA h0) := by
  refine x_met hσ (by decide) (Nat.le_of_ble_eq_true rfl) ?_
  intro p e s m args below meth c hx hb hr hml hown hT hlk hnm hE hW ls hl
  have hl : lv_has ls 3 [(0, .ref (h0 + 268)), (1, .int (xJ j))] := hl
  obtain ⟨Q, eQ⟩ : ∃ Q, Q = MQ below (xQv D g h0 (fun τ => xFr (fun k => k = 269) s0 τ ∧ (((IMn τ) ∧ (IMk τ) ∧ (IMo τ) ∧ (τ 269 37 = s0 269 37) ∧ (τ 269 34 = s0 269 34) ∧ True) ∧ (zrt (τ 269) = zjk K9 n9 w9 j (zrt (s0 269)) ∧ ∀ i : Int, 4 ≤ i → τ 269 i = s0 269 i)))) args s 0 0 (xA h0) := ⟨_, rfl⟩
  rw [← eQ]
  generalize hHe : ([] : List Loc) = locs at hW ⊢
  obtain ⟨H, eH⟩ : ∃ H, H = s.heap := ⟨_, rfl⟩
  rw [← eH] at hW ⊢
  have hF : xFr (fun k => k = 269) s0 s0 := xFr.rf
  have k268_8 : s0 268 8 = s0 268 8 := rfl
  have k268_58 : s0 268 58 = s0 268 58 := rfl
  have k269_37 : s0 269 37 = s0 269 37 := rfl
  have k269_34 : s0 269 34 = s0 269 34 := rfl
  have hw1 := hw j hj.1 hj.2
  have hn1 := (IMn.n1 p0).1 j hj.1 hj.2
  have hn2 := (IMn.n1 p0).2.1 (2 + j) (by omega) (by omega)
  refine x_aload_n hx hb hl 0 rfl dX11_walksOn_0 rfl ?_
  refine x_iload_n hx hb hl 1 rfl dX11_walksOn_1 rfl ?_
  refine x_goi (x_runV (As := [.int (xJ j)]) hx hb hml hown hT hE hW hl.1 (Or.inl (by decide)) (so_268 h0 g _) rfl cf_X11_isJudge wq1409 wq109 wq1407 (c_X11_isJudgeJ l D g T h0 s0 hW.2.1 j rj p0 p1 p2) ⟨rfl, rfl, ⟨by decide, by decide⟩, ⟨by decide, by decide⟩⟩ rfl rfl (Nat.le_of_ble_eq_true rfl) dX11_walksOn_2) hW (fun x1 s2 H locs rx1 hp3 hW => ?_)
  obtain ⟨es2, hp3⟩ := hp3
  subst es2
  have ghp3 := hp3
  have H2 := ghp3
  refine x_if_eq (tgt := 25) hx hb rx1 dX11_walksOn_5 (by decide) (fun c4 => ?_) (fun c4 => ?_)
  · skip
    rw [eQ]
    exact x_vret hx hb hr hlk hW ⟨hF, ⟨p0, p1, p2, k269_37, k269_34, trivial⟩, ⟨zjk_no hj (by omega), fun _ _ => rfl⟩⟩ dX11_walksOn_25
  refine x_aload_n hx hb hl 0 rfl dX11_walksOn_8 rfl ?_
  refine x_get (j := 0) (v := .ref (h0 + 269)) hx hb hown hT hE hW cls_X11 (Or.inl (by decide)) (so_268 h0 g _) (by decide) rfl wq1185 dX11_walksOn_9 ?_
  refine x_iconst hx hb dX11_walksOn_12 ?_
  refine x_iload_n hx hb hl 1 rfl dX11_walksOn_13 rfl ?_
  refine x_iadd hx hb dX11_walksOn_14 ?_
  refine x_iald hx hb hE hW (Or.inl (by decide)) (sa_269 h0 g _) (by omega) (by decide) dX11_walksOn_15 ?_
  refine x_rd hW (fun x5 ex5 rx5 => ?_)
  have bx5 : 0 ≤ x5 := by rw [ex5]; exact (IMn.n1 p0).2.1 _ (by omega) (by omega)
  have V15 : x5 = s0 269 (2 + j) := ex5
  refine x_aload_n hx hb hl 0 rfl dX11_walksOn_16 rfl ?_
  refine x_get (j := 5) (v := .ref (h0 + 274)) hx hb hown hT hE hW cls_X11 (Or.inl (by decide)) (so_268 h0 g _) (by decide) rfl wq1190 dX11_walksOn_17 ?_
  refine x_iload_n hx hb hl 1 rfl dX11_walksOn_20 rfl ?_
  refine x_iald hx hb hE hW (Or.inl (by decide)) (sa_274 h0 g _) (by omega) (by decide) dX11_walksOn_21 ?_
  refine x_rd hW (fun x6 ex6 rx6 => ?_)
  have bx6 : 0 ≤ x6 ∧ x6 ≤ 60 := by rw [ex6]; exact IMn.w p0 _ (by omega) (by omega)
  have V21 : x6 = n9 j := ex6.trans hw1.1
  refine x_icmp_lt (tgt := 26) hx hb rx5 rx6 dX11_walksOn_22 (by decide) (fun c7 => ?_) (fun c7 => ?_)
  · skip
    refine x_aload_n hx hb hl 0 rfl dX11_walksOn_26 rfl ?_
    refine x_get (j := 6) (v := .ref (h0 + 275)) hx hb hown hT hE hW cls_X11 (Or.inl (by decide)) (so_268 h0 g _) (by decide) rfl wq1191 dX11_walksOn_27 ?_
    refine x_bipush hx hb dX11_walksOn_30 (by decide) ?_
    refine x_iload_n hx hb hl 1 rfl dX11_walksOn_32 rfl ?_
    refine x_imul hx hb dX11_walksOn_33 ?_
    refine x_aload_n hx hb hl 0 rfl dX11_walksOn_34 rfl ?_
    refine x_get (j := 0) (v := .ref (h0 + 269)) hx hb hown hT hE hW cls_X11 (Or.inl (by decide)) (so_268 h0 g _) (by decide) rfl wq1185 dX11_walksOn_35 ?_
    refine x_iconst hx hb dX11_walksOn_38 ?_
    refine x_iload_n hx hb hl 1 rfl dX11_walksOn_39 rfl ?_
    refine x_iadd hx hb dX11_walksOn_40 ?_
    refine x_iald hx hb hE hW (Or.inl (by decide)) (sa_269 h0 g _) (by omega) (by decide) dX11_walksOn_41 ?_
    refine x_rd hW (fun x8 ex8 rx8 => ?_)
    have bx8 : 0 ≤ x8 := by rw [ex8]; exact (IMn.n1 p0).2.1 _ (by omega) (by omega)
    have V41 : x8 = s0 269 (2 + j) := ex8
    refine x_iadd hx hb dX11_walksOn_42 ?_
    refine x_bald hx hb hE hW (Or.inl (by decide)) (sa_275 h0 g _) (by omega) (by decide) dX11_walksOn_43 ?_
    refine x_rd hW (fun x9 ex9 rx9 => ?_)
    have V43 : x9 = w9 j (s0 269 (2 + j)) := ex9.trans ((congrArg (s0 275) (show ((60 * j) + x8) = 60 * j + s0 269 (2 + j) from by omega)).trans (hw1.2 _ (by omega) (by omega)))
    refine lv_istore_n (lv' := [(2, .int (xJ x9)), (0, .ref (h0 + 268)), (1, .int (xJ j))]) hx hb dX11_walksOn_44 rfl hl (by decide) rfl (fun ls hl => ?_)
    refine x_aload_n hx hb hl 1 rfl dX11_walksOn_45 rfl ?_
    refine x_get (j := 0) (v := .ref (h0 + 269)) hx hb hown hT hE hW cls_X11 (Or.inl (by decide)) (so_268 h0 g _) (by decide) rfl wq1185 dX11_walksOn_46 ?_
    refine x_iconst hx hb dX11_walksOn_49 ?_
    refine x_iload_n hx hb hl 2 rfl dX11_walksOn_50 rfl ?_
    refine x_iadd hx hb dX11_walksOn_51 ?_
    refine x_aload_n hx hb hl 1 rfl dX11_walksOn_52 rfl ?_
    refine x_get (j := 0) (v := .ref (h0 + 269)) hx hb hown hT hE hW cls_X11 (Or.inl (by decide)) (so_268 h0 g _) (by decide) rfl wq1185 dX11_walksOn_53 ?_
    refine x_iconst hx hb dX11_walksOn_56 ?_
    refine x_iload_n hx hb hl 2 rfl dX11_walksOn_57 rfl ?_
    refine x_iadd hx hb dX11_walksOn_58 ?_
    refine x_iald hx hb hE hW (Or.inl (by decide)) (sa_269 h0 g _) (by omega) (by decide) dX11_walksOn_59 ?_
    refine x_rd hW (fun x10 ex10 rx10 => ?_)
    have bx10 : 0 ≤ x10 := by rw [ex10]; exact (IMn.n1 p0).2.1 _ (by omega) (by omega)
    have V59 : x10 = s0 269 (2 + j) := ex10
    refine x_iconst hx hb dX11_walksOn_60 ?_
    refine x_iadd hx hb dX11_walksOn_61 ?_
    refine x_iast hx hb hE hW (by decide) (fun σ => sa_269 h0 g σ) (by omega) (by decide) (by omega) dX11_walksOn_62 (fun H locs s11 es11 hW => ?_)
    have q12 : IMn s11 := by rw [es11]; exact IMn_N269 p0 (by omega)
    have q13 : IMk s11 := by rw [es11]; exact IMk_o (by unfold suIMk; first | decide | omega) p1
    have q14 : IMo s11 := by rw [es11]; exact IMo_o (by unfold suIMo; first | decide | omega) p2
    have q15 : s11 268 8 = s0 268 8 := (show s11 268 8 = s0 268 8 from by rw [es11, xU_k _ _ _ (by first | decide | omega)]).trans k268_8
    have q16 : s11 268 58 = s0 268 58 := (show s11 268 58 = s0 268 58 from by rw [es11, xU_k _ _ _ (by first | decide | omega)]).trans k268_58
    have q17 : s11 269 37 = s0 269 37 := (show s11 269 37 = s0 269 37 from by rw [es11, xU_j _ _ (by omega)]).trans k269_37
    have q18 : s11 269 34 = s0 269 34 := (show s11 269 34 = s0 269 34 from by rw [es11, xU_j _ _ (by omega)]).trans k269_34
    have hF19 := hF.put es11 (by omega)
    have E62 : s11 269 = xud (s0 269) (2 + j) (s0 269 (2 + j) + 1) := by rw [es11, xU_xud, V59]
    refine x_aload_n hx hb hl 1 rfl dX11_walksOn_63 rfl ?_
    refine x_iload_n hx hb hl 2 rfl dX11_walksOn_64 rfl ?_
    refine x_iload_n hx hb hl 0 rfl dX11_walksOn_65 rfl ?_
    refine x_gov (x_runV (As := [.int (xJ j), .int (xJ x9)]) hx hb hml hown hT hE hW hl.1 (Or.inl (by decide)) (so_268 h0 g _) rfl cf_X11_steps wq1551 wq133 wq1549 (c_X11_stepsJ l D g T h0 s11 hW.2.1 j rj x9 rx9 K9 (by omega) (by first | exact hK | exact fun t t1 t2 => by rw [hF19 272 (by first | decide | omega)]; exact hK t t1 t2) q12 q13 q14) ⟨rfl, rfl, ⟨by decide, by decide⟩, ⟨by decide, by decide⟩⟩ rfl rfl (Nat.le_of_ble_eq_true rfl) dX11_walksOn_66) hW (fun s21 H locs hp22 hW => ?_)
    obtain ⟨fs21, hp22⟩ := hp22
    have hF23 := hF19.call fs21 (fun k h => by omega)
    have q24 : s21 268 8 = s0 268 8 := (congrFun (fs21 _ (by omega)) _).trans q15
    have q25 : s21 268 58 = s0 268 58 := (congrFun (fs21 _ (by omega)) _).trans q16
    have ghp22 := hp22.2
    have X66 : s21 269 = xud (xud (s0 269) (2 + j) (s0 269 (2 + j) + 1)) j (znW K9 (s0 269 j) (zrj (s0 269) (1 - j)) (w9 j (s0 269 (2 + j)))) := by
      refine ghp22.trans ?_
      rw [E62, V43, xud_o (s0 269) _ (show j ≠ 2 + j from by omega), zrj_o (by omega) (by omega)]
    rw [eQ]
    exact x_vret hx hb hr hlk hW ⟨hF23, ⟨hp22.1.1, hp22.1.2.1, hp22.1.2.2.1, (hp22.1.2.2.2.1.trans q17), (hp22.1.2.2.2.2.1.trans q18), trivial⟩, ⟨zjk_r hj (by omega) (by omega) (by omega) X66, fun i hi => by rw [X66, xud_o _ _ (by omega), xud_o _ _ (by omega)]⟩⟩ dX11_walksOn_69
  rw [eQ]
  exact x_vret hx hb hr hlk hW ⟨hF, ⟨p0, p1, p2, k269_37, k269_34, trivial⟩, ⟨zjk_no hj (by omega), fun _ _ => rfl⟩⟩ dX11_walksOn_25
set_option maxHeartbeats 4000000 in
set_option maxRecDepth 100000 in
theorem c_X11_drawsJ (l : Launch) (D : va_G) (g : xG) (T : Nat × Nat × Nat) (h0 : Nat) (s0 : xS) (hσ : xRR s0) (p0 : IMn s0) (p1 : IMk s0) (p2 : IMo s0) : Met l yX11_draws (xws yX11_draws cX11_draws 1 (some .int)) { frames := 0, cells := 0, slots := 0, locals := 0 } (xP [.ref (h0 + 268)] D g T h0 s0) (xQi D g h0 (fun r τ => xFr (fun k => k = 269) s0 τ ∧ (((IMn τ) ∧ (IMk τ) ∧ (IMo τ) ∧ (τ 269 0 = s0 269 0) ∧ (τ 269 1 = s0 269 1) ∧ (τ 269 2 = s0 269 2) ∧ (τ 269 3 = s0 269 3) ∧ (τ 269 34 = s0 269 34) ∧ (τ 269 37 = s0 269 37) ∧ True) ∧ (0 ≤ r ∧ r < 10)))) 0 0 (xA h0) := by
  refine x_met hσ (by decide) (Nat.le_of_ble_eq_true rfl) ?_
  intro p e s m args below meth c hx hb hr hml hown hT hlk hnm hE hW ls hl
  have hl : lv_has ls 1 [(0, .ref (h0 + 268))] := hl
  obtain ⟨Q, eQ⟩ : ∃ Q, Q = MQ below (xQi D g h0 (fun r τ => xFr (fun k => k = 269) s0 τ ∧ (((IMn τ) ∧ (IMk τ) ∧ (IMo τ) ∧ (τ 269 0 = s0 269 0) ∧ (τ 269 1 = s0 269 1) ∧ (τ 269 2 = s0 269 2) ∧ (τ 269 3 = s0 269 3) ∧ (τ 269 34 = s0 269 34) ∧ (τ 269 37 = s0 269 37) ∧ True) ∧ (0 ≤ r ∧ r < 10)))) args s 0 0 (xA h0) := ⟨_, rfl⟩
  rw [← eQ]
  generalize hHe : ([] : List Loc) = locs at hW ⊢
  obtain ⟨H, eH⟩ : ∃ H, H = s.heap := ⟨_, rfl⟩
  rw [← eH] at hW ⊢
  have hF : xFr (fun k => k = 269) s0 s0 := xFr.rf
  have k268_8 : s0 268 8 = s0 268 8 := rfl
  have k268_58 : s0 268 58 = s0 268 58 := rfl
  have k269_0 : s0 269 0 = s0 269 0 := rfl
  have k269_1 : s0 269 1 = s0 269 1 := rfl
  have k269_2 : s0 269 2 = s0 269 2 := rfl
  have k269_3 : s0 269 3 = s0 269 3 := rfl
  have k269_34 : s0 269 34 = s0 269 34 := rfl
  have k269_37 : s0 269 37 = s0 269 37 := rfl
  refine x_aload_n hx hb hl 0 rfl dX11_draws_0 rfl ?_
  refine x_get (j := 0) (v := .ref (h0 + 269)) hx hb hown hT hE hW cls_X11 (Or.inl (by decide)) (so_268 h0 g _) (by decide) rfl wq1185 dX11_draws_1 ?_
  refine x_bipush hx hb dX11_draws_4 (by decide) ?_
  refine x_sipush hx hb dX11_draws_6 (by decide) ?_
  refine x_aload_n hx hb hl 0 rfl dX11_draws_9 rfl ?_
  refine x_get (j := 0) (v := .ref (h0 + 269)) hx hb hown hT hE hW cls_X11 (Or.inl (by decide)) (so_268 h0 g _) (by decide) rfl wq1185 dX11_draws_10 ?_
  refine x_bipush hx hb dX11_draws_13 (by decide) ?_
  refine x_iald hx hb hE hW (Or.inl (by decide)) (sa_269 h0 g _) ⟨by decide, by decide⟩ (by decide) dX11_draws_15 ?_
  refine x_rd hW (fun x1 ex1 rx1 => ?_)
  have bx1 : 0 ≤ x1 ∧ x1 ≤ 65535 := by rw [ex1]; exact (IMn.n1 p0).2.2.2.2
  refine x_imul hx hb dX11_draws_16 ?_
  refine x_sipush hx hb dX11_draws_17 (by decide) ?_
  refine x_iadd hx hb dX11_draws_20 ?_
  refine lv_ldcw (v := xJ 65536) hx hb hown (hT _ wq1570) dX11_draws_21 ?_
  refine x_irem hx hb (by omega) (by decide) (by omega) (by decide) dX11_draws_24 ?_
  refine x_iast hx hb hE hW (by decide) (fun σ => sa_269 h0 g σ) ⟨by decide, by decide⟩ (by decide) (by omega) dX11_draws_25 (fun H locs s2 es2 hW => ?_)
  have q3 : IMn s2 := by rw [es2]; exact IMn_N269 p0 (by omega)
  have q4 : IMk s2 := by rw [es2]; exact IMk_o (by unfold suIMk; first | decide | omega) p1
  have q5 : IMo s2 := by rw [es2]; exact IMo_o (by unfold suIMo; first | decide | omega) p2
  have q6 : s2 268 8 = s0 268 8 := (show s2 268 8 = s0 268 8 from by rw [es2, xU_k _ _ _ (by first | decide | omega)]).trans k268_8
  have q7 : s2 268 58 = s0 268 58 := (show s2 268 58 = s0 268 58 from by rw [es2, xU_k _ _ _ (by first | decide | omega)]).trans k268_58
  have q8 : s2 269 0 = s0 269 0 := (show s2 269 0 = s0 269 0 from by rw [es2, xU_j _ _ (by decide)]).trans k269_0
  have q9 : s2 269 1 = s0 269 1 := (show s2 269 1 = s0 269 1 from by rw [es2, xU_j _ _ (by decide)]).trans k269_1
  have q10 : s2 269 2 = s0 269 2 := (show s2 269 2 = s0 269 2 from by rw [es2, xU_j _ _ (by decide)]).trans k269_2
  have q11 : s2 269 3 = s0 269 3 := (show s2 269 3 = s0 269 3 from by rw [es2, xU_j _ _ (by decide)]).trans k269_3
  have q12 : s2 269 34 = s0 269 34 := (show s2 269 34 = s0 269 34 from by rw [es2, xU_j _ _ (by decide)]).trans k269_34
  have q13 : s2 269 37 = s0 269 37 := (show s2 269 37 = s0 269 37 from by rw [es2, xU_j _ _ (by decide)]).trans k269_37
  have hF14 := hF.put es2 (by omega)
  refine x_aload_n hx hb hl 0 rfl dX11_draws_26 rfl ?_
  refine x_get (j := 0) (v := .ref (h0 + 269)) hx hb hown hT hE hW cls_X11 (Or.inl (by decide)) (so_268 h0 g _) (by decide) rfl wq1185 dX11_draws_27 ?_
  refine x_bipush hx hb dX11_draws_30 (by decide) ?_
  refine x_iald hx hb hE hW (Or.inl (by decide)) (sa_269 h0 g _) ⟨by decide, by decide⟩ (by decide) dX11_draws_32 ?_
  refine x_rd hW (fun x15 ex15 rx15 => ?_)
  have bx15 : 0 ≤ x15 ∧ x15 ≤ 65535 := by rw [ex15]; exact (IMn.n1 q3).2.2.2.2
  refine x_bipush hx hb dX11_draws_33 (by decide) ?_
  refine x_irem hx hb rx15 (by decide) (by omega) (by decide) dX11_draws_35 ?_
  rw [eQ]
  exact x_iret hx hb hr hlk hW (by omega) ⟨hF14, ⟨q3, q4, q5, q8, q9, q10, q11, q12, q13, trivial⟩, by omega⟩ dX11_draws_36
set_option maxHeartbeats 4000000 in
set_option maxRecDepth 100000 in
theorem c_X11_servesOfJ (l : Launch) (D : va_G) (g : xG) (T : Nat × Nat × Nat) (h0 : Nat) (s0 : xS) (hσ : xRR s0) (f : Int) (rf : xR f) (b : Int) (rb : xR b) (hf : 0 ≤ f ∧ f ≤ 9) (p0 : IMn s0) (p1 : IMk s0) (p2 : IMo s0) : Met l yX11_servesOf (xws yX11_servesOf cX11_servesOf 5 none) { frames := 5, cells := 0, slots := 0, locals := 119 } (xP [.ref (h0 + 268), .int (xJ f), .int (xJ b)] D g T h0 s0) (xQv D g h0 (fun τ => xFr (fun k => k = 268 ∨ k = 269 ∨ k = 293 ∨ k = 294 ∨ k = 296 ∨ k = 299) s0 τ ∧ (((IMn τ) ∧ (IMk τ) ∧ (IMo τ) ∧ (τ 268 8 = s0 268 8) ∧ (τ 268 58 = s0 268 58) ∧ (τ 269 0 = s0 269 0) ∧ (τ 269 1 = s0 269 1) ∧ (τ 269 2 = s0 269 2) ∧ (τ 269 3 = s0 269 3) ∧ (τ 269 34 = s0 269 34) ∧ (τ 269 37 = s0 269 37) ∧ True) ∧ (True)))) 0 0 (xA h0) := by
  refine x_met hσ (by decide) (Nat.le_of_ble_eq_true rfl) ?_
  intro p e s m args below meth c hx hb hr hml hown hT hlk hnm hE hW ls hl
  have hl : lv_has ls 5 [(0, .ref (h0 + 268)), (1, .int (xJ f)), (2, .int (xJ b))] := hl
  obtain ⟨Q, eQ⟩ : ∃ Q, Q = MQ below (xQv D g h0 (fun τ => xFr (fun k => k = 268 ∨ k = 269 ∨ k = 293 ∨ k = 294 ∨ k = 296 ∨ k = 299) s0 τ ∧ (((IMn τ) ∧ (IMk τ) ∧ (IMo τ) ∧ (τ 268 8 = s0 268 8) ∧ (τ 268 58 = s0 268 58) ∧ (τ 269 0 = s0 269 0) ∧ (τ 269 1 = s0 269 1) ∧ (τ 269 2 = s0 269 2) ∧ (τ 269 3 = s0 269 3) ∧ (τ 269 34 = s0 269 34) ∧ (τ 269 37 = s0 269 37) ∧ True) ∧ (True)))) args s 0 0 (xA h0) := ⟨_, rfl⟩
  rw [← eQ]
  generalize hHe : ([] : List Loc) = locs at hW ⊢
  obtain ⟨H, eH⟩ : ∃ H, H = s.heap := ⟨_, rfl⟩
  rw [← eH] at hW ⊢
  have hF : xFr (fun k => k = 268 ∨ k = 269 ∨ k = 293 ∨ k = 294 ∨ k = 296 ∨ k = 299) s0 s0 := xFr.rf
  have k268_8 : s0 268 8 = s0 268 8 := rfl
  have k268_58 : s0 268 58 = s0 268 58 := rfl
  have k269_0 : s0 269 0 = s0 269 0 := rfl
  have k269_1 : s0 269 1 = s0 269 1 := rfl
  have k269_2 : s0 269 2 = s0 269 2 := rfl
  have k269_3 : s0 269 3 = s0 269 3 := rfl
  have k269_34 : s0 269 34 = s0 269 34 := rfl
  have k269_37 : s0 269 37 = s0 269 37 := rfl
  refine x_aload_n hx hb hl 0 rfl dX11_servesOf_0 rfl ?_
  refine x_iload_n hx hb hl 1 rfl dX11_servesOf_1 rfl ?_
  refine x_goi (x_runV (As := [.int (xJ f)]) hx hb hml hown hT hE hW hl.1 (Or.inl (by decide)) (so_268 h0 g _) rfl cf_X11_findsFor wq1633 wq150 wq1631 (c_X11_findsFor l D g T h0 s0 hW.2.1 f rf (by omega) p0 p1 p2) ⟨rfl, rfl, ⟨by decide, by decide⟩, ⟨by decide, by decide⟩⟩ rfl rfl (Nat.le_of_ble_eq_true rfl) dX11_servesOf_2) hW (fun x1 s2 H locs rx1 hp3 hW => ?_)
  obtain ⟨fs2, hp3⟩ := hp3
  have hF4 := hF.call fs2 (fun k h => by omega)
  have q5 : s2 268 8 = s0 268 8 := (congrFun (fs2 _ (by omega)) _).trans k268_8
  have q6 : s2 268 58 = s0 268 58 := (congrFun (fs2 _ (by omega)) _).trans k268_58
  have q7 : s2 269 0 = s0 269 0 := (congrFun (fs2 _ (by omega)) _).trans k269_0
  have q8 : s2 269 1 = s0 269 1 := (congrFun (fs2 _ (by omega)) _).trans k269_1
  have q9 : s2 269 2 = s0 269 2 := (congrFun (fs2 _ (by omega)) _).trans k269_2
  have q10 : s2 269 3 = s0 269 3 := (congrFun (fs2 _ (by omega)) _).trans k269_3
  have q11 : s2 269 34 = s0 269 34 := (congrFun (fs2 _ (by omega)) _).trans k269_34
  have q12 : s2 269 37 = s0 269 37 := (congrFun (fs2 _ (by omega)) _).trans k269_37
  have ghp3 := hp3.2
  refine lv_istore_n (lv' := [(3, .int (xJ x1)), (0, .ref (h0 + 268)), (1, .int (xJ f)), (2, .int (xJ b))]) hx hb dX11_servesOf_5 rfl hl (by decide) rfl (fun ls hl => ?_)
  refine x_iload_n hx hb hl 0 rfl dX11_servesOf_6 rfl ?_
  refine x_iconst hx hb dX11_servesOf_7 ?_
  refine x_icmp_ne (tgt := 48) hx hb rx1 (by decide) dX11_servesOf_8 (by decide) (fun c13 => ?_) (fun c13 => ?_)
  · skip
    refine x_aload_n hx hb hl 1 rfl dX11_servesOf_48 rfl ?_
    refine x_get (j := 49) (v := .ref (h0 + 299)) hx hb hown hT hE hW cls_X11 (Or.inl (by decide)) (so_268 h0 g _) (by decide) rfl wq1234 dX11_servesOf_49 ?_
    refine x_iload_n hx hb hl 0 rfl dX11_servesOf_52 rfl ?_
    refine x_iconst hx hb dX11_servesOf_53 ?_
    refine x_zast hx hb hE hW (by decide) (fun σ => sa_299 h0 g σ) (by omega) (by decide) (by omega) dX11_servesOf_54 (fun H locs s14 es14 hW => ?_)
    have q15 : s14 268 8 = s0 268 8 := (show s14 268 8 = s2 268 8 from by rw [es14, xU_k _ _ _ (by first | decide | omega)]).trans q5
    have q16 : s14 268 58 = s0 268 58 := (show s14 268 58 = s2 268 58 from by rw [es14, xU_k _ _ _ (by first | decide | omega)]).trans q6
    have q17 : s14 269 0 = s0 269 0 := (show s14 269 0 = s2 269 0 from by rw [es14, xU_k _ _ _ (by first | decide | omega)]).trans q7
    have q18 : s14 269 1 = s0 269 1 := (show s14 269 1 = s2 269 1 from by rw [es14, xU_k _ _ _ (by first | decide | omega)]).trans q8
    have q19 : s14 269 2 = s0 269 2 := (show s14 269 2 = s2 269 2 from by rw [es14, xU_k _ _ _ (by first | decide | omega)]).trans q9
    have q20 : s14 269 3 = s0 269 3 := (show s14 269 3 = s2 269 3 from by rw [es14, xU_k _ _ _ (by first | decide | omega)]).trans q10
    have q21 : s14 269 34 = s0 269 34 := (show s14 269 34 = s2 269 34 from by rw [es14, xU_k _ _ _ (by first | decide | omega)]).trans q11
    have q22 : s14 269 37 = s0 269 37 := (show s14 269 37 = s2 269 37 from by rw [es14, xU_k _ _ _ (by first | decide | omega)]).trans q12
    have q23 : IMn s14 := by rw [es14]; exact IMn_o (by unfold suIMn; first | decide | omega) hp3.1.1
    have q24 : IMk s14 := by rw [es14]; exact IMk_o (by unfold suIMk; first | decide | omega) hp3.1.2.1
    have q25 : IMo s14 := by rw [es14]; exact IMo_o (by unfold suIMo; first | decide | omega) hp3.1.2.2.1
    have hF26 := hF4.put es14 (by omega)
    refine x_aload_n hx hb hl 1 rfl dX11_servesOf_55 rfl ?_
    refine x_aload_n hx hb hl 1 rfl dX11_servesOf_56 rfl ?_
    refine x_get (j := 44) (v := .int (xJ (s14 268 44))) hx hb hown hT hE hW cls_X11 (Or.inl (by decide)) (so_268 h0 g _) (by decide) rfl wq1229 dX11_servesOf_57 ?_
    refine x_rd hW (fun x27 ex27 rx27 => ?_)
    refine x_aload_n hx hb hl 1 rfl dX11_servesOf_60 rfl ?_
    refine x_get (j := 45) (v := .ref (h0 + 296)) hx hb hown hT hE hW cls_X11 (Or.inl (by decide)) (so_268 h0 g _) (by decide) rfl wq1230 dX11_servesOf_61 ?_
    refine x_iload_n hx hb hl 0 rfl dX11_servesOf_64 rfl ?_
    refine x_iald hx hb hE hW (Or.inl (by decide)) (sa_296 h0 g _) (by omega) (by decide) dX11_servesOf_65 ?_
    refine x_rd hW (fun x28 ex28 rx28 => ?_)
    refine x_iadd hx hb dX11_servesOf_66 ?_
    refine x_any (fun x29 rx29 => ?_)
    refine x_put (j := 44) hx hb hown hT hE hW cls_X11 (by decide) (fun σ => so_268 h0 g σ) (by decide) (st_X11_44 h0 s14 268 x29) (ln_X11_44 h0 _ _) wq1229 rfl rfl rfl rx29 dX11_servesOf_67 (fun H locs s30 es30 hW => ?_)
    have q31 : s30 268 8 = s0 268 8 := (show s30 268 8 = s14 268 8 from by rw [es30, xU_j _ _ (by decide)]).trans q15
    have q32 : s30 268 58 = s0 268 58 := (show s30 268 58 = s14 268 58 from by rw [es30, xU_j _ _ (by decide)]).trans q16
    have q33 : s30 269 0 = s0 269 0 := (show s30 269 0 = s14 269 0 from by rw [es30, xU_k _ _ _ (by first | decide | omega)]).trans q17
    have q34 : s30 269 1 = s0 269 1 := (show s30 269 1 = s14 269 1 from by rw [es30, xU_k _ _ _ (by first | decide | omega)]).trans q18
    have q35 : s30 269 2 = s0 269 2 := (show s30 269 2 = s14 269 2 from by rw [es30, xU_k _ _ _ (by first | decide | omega)]).trans q19
    have q36 : s30 269 3 = s0 269 3 := (show s30 269 3 = s14 269 3 from by rw [es30, xU_k _ _ _ (by first | decide | omega)]).trans q20
    have q37 : s30 269 34 = s0 269 34 := (show s30 269 34 = s14 269 34 from by rw [es30, xU_k _ _ _ (by first | decide | omega)]).trans q21
    have q38 : s30 269 37 = s0 269 37 := (show s30 269 37 = s14 269 37 from by rw [es30, xU_k _ _ _ (by first | decide | omega)]).trans q22
    have q39 : IMn s30 := by rw [es30]; exact IMn_268 q23 (by omega)
    have q40 : IMk s30 := by rw [es30]; exact IMk_268 q24 (by omega)
    have q41 : IMo s30 := by rw [es30]; exact IMo_o (by unfold suIMo; first | decide | omega) q25
    have hF42 := hF26.put es30 (by omega)
    refine x_aload_n hx hb hl 1 rfl dX11_servesOf_70 rfl ?_
    refine x_get (j := 0) (v := .ref (h0 + 269)) hx hb hown hT hE hW cls_X11 (Or.inl (by decide)) (so_268 h0 g _) (by decide) rfl wq1185 dX11_servesOf_71 ?_
    refine x_iconst hx hb dX11_servesOf_74 ?_
    refine x_iload_n hx hb hl 2 rfl dX11_servesOf_75 rfl ?_
    refine x_iadd hx hb dX11_servesOf_76 ?_
    refine x_iload_n hx hb hl 0 rfl dX11_servesOf_77 rfl ?_
    refine x_iast hx hb hE hW (by decide) (fun σ => sa_269 h0 g σ) (by omega) (by decide) rx1 dX11_servesOf_78 (fun H locs s43 es43 hW => ?_)
    have q44 : s43 268 8 = s0 268 8 := (show s43 268 8 = s30 268 8 from by rw [es43, xU_k _ _ _ (by first | decide | omega)]).trans q31
    have q45 : s43 268 58 = s0 268 58 := (show s43 268 58 = s30 268 58 from by rw [es43, xU_k _ _ _ (by first | decide | omega)]).trans q32
    have q46 : s43 269 0 = s0 269 0 := (show s43 269 0 = s30 269 0 from by rw [es43, xU_j _ _ (by omega)]).trans q33
    have q47 : s43 269 1 = s0 269 1 := (show s43 269 1 = s30 269 1 from by rw [es43, xU_j _ _ (by omega)]).trans q34
    have q48 : s43 269 2 = s0 269 2 := (show s43 269 2 = s30 269 2 from by rw [es43, xU_j _ _ (by omega)]).trans q35
    have q49 : s43 269 3 = s0 269 3 := (show s43 269 3 = s30 269 3 from by rw [es43, xU_j _ _ (by omega)]).trans q36
    have q50 : s43 269 34 = s0 269 34 := (show s43 269 34 = s30 269 34 from by rw [es43, xU_j _ _ (by omega)]).trans q37
    have q51 : s43 269 37 = s0 269 37 := (show s43 269 37 = s30 269 37 from by rw [es43, xU_j _ _ (by omega)]).trans q38
    have q52 : IMn s43 := by rw [es43]; exact IMn_N269 q39 (by omega)
    have q53 : IMk s43 := by rw [es43]; exact IMk_o (by unfold suIMk; first | decide | omega) q40
    have q54 : IMo s43 := by rw [es43]; exact IMo_o (by unfold suIMo; first | decide | omega) q41
    have hF55 := hF42.put es43 (by omega)
    refine x_aload_n hx hb hl 1 rfl dX11_servesOf_79 rfl ?_
    refine x_get (j := 0) (v := .ref (h0 + 269)) hx hb hown hT hE hW cls_X11 (Or.inl (by decide)) (so_268 h0 g _) (by decide) rfl wq1185 dX11_servesOf_80 ?_
    refine x_bipush hx hb dX11_servesOf_83 (by decide) ?_
    refine x_iload_n hx hb hl 2 rfl dX11_servesOf_85 rfl ?_
    refine x_iadd hx hb dX11_servesOf_86 ?_
    refine x_iald hx hb hE hW (Or.inl (by decide)) (sa_269 h0 g _) (by omega) (by decide) dX11_servesOf_87 ?_
    refine x_rd hW (fun x56 ex56 rx56 => ?_)
    refine x_iload_n hx hb hl 3 rfl dX11_servesOf_88 rfl ?_
    have J118 : ∀ (t0_118 : Int) (ls : Array Slot), (xR t0_118) → lv_has ls 5 [(0, .ref (h0 + 268)), (1, .int (xJ f)), (3, .int (xJ x1))] → W p l e { frames := 5, cells := 0, slots := 0, locals := 119 } s m args below meth c H locs 0 0 Q (F0 m 118 ls [.int (xJ t0_118), .int (xJ x56)]) := by
      intro t0_118 ls rt0_118  hl
      refine x_goi (x_runS (As := [.int (xJ x56), .int (xJ t0_118)]) hx hb hml hown hT hE hW hl.1 cf_X11_min wq1640 wq1639 (c_X11_min l D g T h0 s43 hW.2.1 x56 rx56 t0_118 rt0_118) ⟨rfl, rfl, ⟨by decide, by decide⟩, ⟨by decide, by decide⟩⟩ rfl rfl (Nat.le_of_ble_eq_true rfl) dX11_servesOf_118) hW (fun x57 s58 H locs rx57 hp59 hW => ?_)
      obtain ⟨es58, hp59⟩ := hp59
      subst es58
      have ghp59 := hp59
      refine lv_istore (lv' := [(4, .int (xJ x57)), (0, .ref (h0 + 268)), (1, .int (xJ f)), (3, .int (xJ x1))]) hx hb dX11_servesOf_121 hl (by decide) rfl (fun ls hl => ?_)
      refine x_aload_n hx hb hl 1 rfl dX11_servesOf_123 rfl ?_
      refine x_get (j := 0) (v := .ref (h0 + 269)) hx hb hown hT hE hW cls_X11 (Or.inl (by decide)) (so_268 h0 g _) (by decide) rfl wq1185 dX11_servesOf_124 ?_
      refine x_bipush hx hb dX11_servesOf_127 (by decide) ?_
      refine x_iload_n hx hb hl 2 rfl dX11_servesOf_129 rfl ?_
      refine x_iadd hx hb dX11_servesOf_130 ?_
      refine x_aload_n hx hb hl 1 rfl dX11_servesOf_131 rfl ?_
      refine x_get (j := 0) (v := .ref (h0 + 269)) hx hb hown hT hE hW cls_X11 (Or.inl (by decide)) (so_268 h0 g _) (by decide) rfl wq1185 dX11_servesOf_132 ?_
      refine x_bipush hx hb dX11_servesOf_135 (by decide) ?_
      refine x_iload_n hx hb hl 2 rfl dX11_servesOf_137 rfl ?_
      refine x_iadd hx hb dX11_servesOf_138 ?_
      refine x_iald hx hb hE hW (Or.inl (by decide)) (sa_269 h0 g _) (by omega) (by decide) dX11_servesOf_139 ?_
      refine x_rd hW (fun x60 ex60 rx60 => ?_)
      refine x_iload hx hb hl 0 rfl dX11_servesOf_140 ?_
      refine x_isub hx hb dX11_servesOf_142 ?_
      refine x_any (fun x61 rx61 => ?_)
      refine x_iast hx hb hE hW (by decide) (fun σ => sa_269 h0 g σ) (by omega) (by decide) rx61 dX11_servesOf_143 (fun H locs s62 es62 hW => ?_)
      have q63 : s62 268 8 = s0 268 8 := (show s62 268 8 = s43 268 8 from by rw [es62, xU_k _ _ _ (by first | decide | omega)]).trans q44
      have q64 : s62 268 58 = s0 268 58 := (show s62 268 58 = s43 268 58 from by rw [es62, xU_k _ _ _ (by first | decide | omega)]).trans q45
      have q65 : s62 269 0 = s0 269 0 := (show s62 269 0 = s43 269 0 from by rw [es62, xU_j _ _ (by omega)]).trans q46
      have q66 : s62 269 1 = s0 269 1 := (show s62 269 1 = s43 269 1 from by rw [es62, xU_j _ _ (by omega)]).trans q47
      have q67 : s62 269 2 = s0 269 2 := (show s62 269 2 = s43 269 2 from by rw [es62, xU_j _ _ (by omega)]).trans q48
      have q68 : s62 269 3 = s0 269 3 := (show s62 269 3 = s43 269 3 from by rw [es62, xU_j _ _ (by omega)]).trans q49
      have q69 : s62 269 34 = s0 269 34 := (show s62 269 34 = s43 269 34 from by rw [es62, xU_j _ _ (by omega)]).trans q50
      have q70 : s62 269 37 = s0 269 37 := (show s62 269 37 = s43 269 37 from by rw [es62, xU_j _ _ (by omega)]).trans q51
      have q71 : IMn s62 := by rw [es62]; exact IMn_N269 q52 (by omega)
      have q72 : IMk s62 := by rw [es62]; exact IMk_o (by unfold suIMk; first | decide | omega) q53
      have q73 : IMo s62 := by rw [es62]; exact IMo_o (by unfold suIMo; first | decide | omega) q54
      have hF74 := hF55.put es62 (by omega)
      refine x_aload_n hx hb hl 1 rfl dX11_servesOf_144 rfl ?_
      refine x_aload_n hx hb hl 1 rfl dX11_servesOf_145 rfl ?_
      refine x_get (j := 41) (v := .int (xJ (s62 268 41))) hx hb hown hT hE hW cls_X11 (Or.inl (by decide)) (so_268 h0 g _) (by decide) rfl wq1226 dX11_servesOf_146 ?_
      refine x_rd hW (fun x75 ex75 rx75 => ?_)
      refine x_iload hx hb hl 0 rfl dX11_servesOf_149 ?_
      refine x_iadd hx hb dX11_servesOf_151 ?_
      refine x_any (fun x76 rx76 => ?_)
      refine x_put (j := 41) hx hb hown hT hE hW cls_X11 (by decide) (fun σ => so_268 h0 g σ) (by decide) (st_X11_41 h0 s62 268 x76) (ln_X11_41 h0 _ _) wq1226 rfl rfl rfl rx76 dX11_servesOf_152 (fun H locs s77 es77 hW => ?_)
      have q78 : s77 268 8 = s0 268 8 := (show s77 268 8 = s62 268 8 from by rw [es77, xU_j _ _ (by decide)]).trans q63
      have q79 : s77 268 58 = s0 268 58 := (show s77 268 58 = s62 268 58 from by rw [es77, xU_j _ _ (by decide)]).trans q64
      have q80 : s77 269 0 = s0 269 0 := (show s77 269 0 = s62 269 0 from by rw [es77, xU_k _ _ _ (by first | decide | omega)]).trans q65
      have q81 : s77 269 1 = s0 269 1 := (show s77 269 1 = s62 269 1 from by rw [es77, xU_k _ _ _ (by first | decide | omega)]).trans q66
      have q82 : s77 269 2 = s0 269 2 := (show s77 269 2 = s62 269 2 from by rw [es77, xU_k _ _ _ (by first | decide | omega)]).trans q67
      have q83 : s77 269 3 = s0 269 3 := (show s77 269 3 = s62 269 3 from by rw [es77, xU_k _ _ _ (by first | decide | omega)]).trans q68
      have q84 : s77 269 34 = s0 269 34 := (show s77 269 34 = s62 269 34 from by rw [es77, xU_k _ _ _ (by first | decide | omega)]).trans q69
      have q85 : s77 269 37 = s0 269 37 := (show s77 269 37 = s62 269 37 from by rw [es77, xU_k _ _ _ (by first | decide | omega)]).trans q70
      have q86 : IMn s77 := by rw [es77]; exact IMn_268 q71 (by omega)
      have q87 : IMk s77 := by rw [es77]; exact IMk_268 q72 (by omega)
      have q88 : IMo s77 := by rw [es77]; exact IMo_o (by unfold suIMo; first | decide | omega) q73
      have hF89 := hF74.put es77 (by omega)
      refine x_aload_n hx hb hl 1 rfl dX11_servesOf_155 rfl ?_
      refine x_get (j := 3) (v := .ref (h0 + 272)) hx hb hown hT hE hW cls_X11 (Or.inl (by decide)) (so_268 h0 g _) (by decide) rfl wq1188 dX11_servesOf_156 ?_
      refine x_iload_n hx hb hl 3 rfl dX11_servesOf_159 rfl ?_
      refine x_iald hx hb hE hW (Or.inl (by decide)) (sa_272 h0 g _) (by omega) (by decide) dX11_servesOf_160 ?_
      refine x_rd hW (fun x90 ex90 rx90 => ?_)
      refine x_iconst hx hb dX11_servesOf_161 ?_
      refine x_icmp_ne (tgt := 183) hx hb rx90 (by decide) dX11_servesOf_162 (by decide) (fun c91 => ?_) (fun c91 => ?_)
      · skip
        rw [eQ]
        exact x_vret hx hb hr hlk hW ⟨hF89, ⟨q86, q87, q88, q78, q79, q80, q81, q82, q83, q84, q85, trivial⟩, trivial⟩ dX11_servesOf_183
      refine x_aload_n hx hb hl 1 rfl dX11_servesOf_165 rfl ?_
      refine x_get (j := 0) (v := .ref (h0 + 269)) hx hb hown hT hE hW cls_X11 (Or.inl (by decide)) (so_268 h0 g _) (by decide) rfl wq1185 dX11_servesOf_166 ?_
      refine x_bipush hx hb dX11_servesOf_169 (by decide) ?_
      refine x_aload_n hx hb hl 1 rfl dX11_servesOf_171 rfl ?_
      refine x_get (j := 0) (v := .ref (h0 + 269)) hx hb hown hT hE hW cls_X11 (Or.inl (by decide)) (so_268 h0 g _) (by decide) rfl wq1185 dX11_servesOf_172 ?_
      refine x_bipush hx hb dX11_servesOf_175 (by decide) ?_
      refine x_iald hx hb hE hW (Or.inl (by decide)) (sa_269 h0 g _) ⟨by decide, by decide⟩ (by decide) dX11_servesOf_177 ?_
      refine x_rd hW (fun x92 ex92 rx92 => ?_)
      refine x_iconst hx hb dX11_servesOf_178 ?_
      refine x_iload_n hx hb hl 2 rfl dX11_servesOf_179 rfl ?_
      refine lv_ishl hx hb dX11_servesOf_180 ?_
      refine x_any (fun x93 rx93 => ?_)
      refine lv_ior hx hb dX11_servesOf_181 ?_
      refine x_any (fun x94 rx94 => ?_)
      refine x_iast hx hb hE hW (by decide) (fun σ => sa_269 h0 g σ) ⟨by decide, by decide⟩ (by decide) rx94 dX11_servesOf_182 (fun H locs s95 es95 hW => ?_)
      have q96 : s95 268 8 = s0 268 8 := (show s95 268 8 = s77 268 8 from by rw [es95, xU_k _ _ _ (by first | decide | omega)]).trans q78
      have q97 : s95 268 58 = s0 268 58 := (show s95 268 58 = s77 268 58 from by rw [es95, xU_k _ _ _ (by first | decide | omega)]).trans q79
      have q98 : s95 269 0 = s0 269 0 := (show s95 269 0 = s77 269 0 from by rw [es95, xU_j _ _ (by decide)]).trans q80
      have q99 : s95 269 1 = s0 269 1 := (show s95 269 1 = s77 269 1 from by rw [es95, xU_j _ _ (by decide)]).trans q81
      have q100 : s95 269 2 = s0 269 2 := (show s95 269 2 = s77 269 2 from by rw [es95, xU_j _ _ (by decide)]).trans q82
      have q101 : s95 269 3 = s0 269 3 := (show s95 269 3 = s77 269 3 from by rw [es95, xU_j _ _ (by decide)]).trans q83
      have q102 : s95 269 34 = s0 269 34 := (show s95 269 34 = s77 269 34 from by rw [es95, xU_j _ _ (by decide)]).trans q84
      have q103 : s95 269 37 = s0 269 37 := (show s95 269 37 = s77 269 37 from by rw [es95, xU_j _ _ (by decide)]).trans q85
      have q104 : IMn s95 := by rw [es95]; exact IMn_N269 q86 (by omega)
      have q105 : IMk s95 := by rw [es95]; exact IMk_o (by unfold suIMk; first | decide | omega) q87
      have q106 : IMo s95 := by rw [es95]; exact IMo_o (by unfold suIMo; first | decide | omega) q88
      have hF107 := hF89.put es95 (by omega)
      rw [eQ]
      exact x_vret hx hb hr hlk hW ⟨hF107, ⟨q104, q105, q106, q96, q97, q98, q99, q100, q101, q102, q103, trivial⟩, trivial⟩ dX11_servesOf_183
    refine x_if_eq (tgt := 112) hx hb rb dX11_servesOf_89 (by decide) (fun c108 => ?_) (fun c108 => ?_)
    · skip
      refine x_aload_n hx hb hl 1 rfl dX11_servesOf_112 rfl ?_
      refine x_get (j := 40) (v := .ref (h0 + 295)) hx hb hown hT hE hW cls_X11 (Or.inl (by decide)) (so_268 h0 g _) (by decide) rfl wq1225 dX11_servesOf_113 ?_
      refine x_iload_n hx hb hl 0 rfl dX11_servesOf_116 rfl ?_
      refine x_iald hx hb hE hW (Or.inl (by decide)) (sa_295 h0 g _) (by omega) (by decide) dX11_servesOf_117 ?_
      refine x_rd hW (fun x109 ex109 rx109 => ?_)
      exact J118 x109 ls rx109  (lv_sub hl [1, 2, 0] rfl)
    refine x_aload_n hx hb hl 1 rfl dX11_servesOf_92 rfl ?_
    refine x_get (j := 0) (v := .ref (h0 + 269)) hx hb hown hT hE hW cls_X11 (Or.inl (by decide)) (so_268 h0 g _) (by decide) rfl wq1185 dX11_servesOf_93 ?_
    refine x_bipush hx hb dX11_servesOf_96 (by decide) ?_
    refine x_iald hx hb hE hW (Or.inl (by decide)) (sa_269 h0 g _) ⟨by decide, by decide⟩ (by decide) dX11_servesOf_98 ?_
    refine x_rd hW (fun x110 ex110 rx110 => ?_)
    have bx110 : 0 ≤ x110 ∧ x110 ≤ 9999 := by rw [ex110]; exact (IMn.n1 q52).2.2.2.1
    have fx110 : x110 = s0 269 37 := ex110.trans q51
    refine x_iconst hx hb dX11_servesOf_99 ?_
    refine x_irem hx hb rx110 (by decide) (by omega) (by decide) dX11_servesOf_100 ?_
    refine x_if_ne (tgt := 108) hx hb (by omega) dX11_servesOf_101 (by decide) (fun c111 => ?_) (fun c111 => ?_)
    · skip
      refine x_iconst hx hb dX11_servesOf_108 ?_
      refine lv_goto (tgt := 118) hx hb dX11_servesOf_109 (by decide) ?_
      exact J118 0 ls (by decide)  (lv_sub hl [1, 2, 0] rfl)
    refine x_iconst hx hb dX11_servesOf_104 ?_
    refine lv_goto (tgt := 118) hx hb dX11_servesOf_105 (by decide) ?_
    exact J118 1 ls (by decide)  (lv_sub hl [1, 2, 0] rfl)
  refine x_aload_n hx hb hl 1 rfl dX11_servesOf_11 rfl ?_
  refine x_get (j := 0) (v := .ref (h0 + 269)) hx hb hown hT hE hW cls_X11 (Or.inl (by decide)) (so_268 h0 g _) (by decide) rfl wq1185 dX11_servesOf_12 ?_
  refine x_bipush hx hb dX11_servesOf_15 (by decide) ?_
  refine x_iload_n hx hb hl 2 rfl dX11_servesOf_17 rfl ?_
  refine x_iadd hx hb dX11_servesOf_18 ?_
  refine x_sipush hx hb dX11_servesOf_19 (by decide) ?_
  refine x_aload_n hx hb hl 1 rfl dX11_servesOf_22 rfl ?_
  refine x_get (j := 0) (v := .ref (h0 + 269)) hx hb hown hT hE hW cls_X11 (Or.inl (by decide)) (so_268 h0 g _) (by decide) rfl wq1185 dX11_servesOf_23 ?_
  refine x_bipush hx hb dX11_servesOf_26 (by decide) ?_
  refine x_iload_n hx hb hl 2 rfl dX11_servesOf_28 rfl ?_
  refine x_iadd hx hb dX11_servesOf_29 ?_
  refine x_iald hx hb hE hW (Or.inl (by decide)) (sa_269 h0 g _) (by omega) (by decide) dX11_servesOf_30 ?_
  refine x_rd hW (fun x112 ex112 rx112 => ?_)
  refine x_iconst hx hb dX11_servesOf_31 ?_
  refine x_iadd hx hb dX11_servesOf_32 ?_
  refine x_any (fun x113 rx113 => ?_)
  refine x_goi (x_runS (As := [.int (xJ 999), .int (xJ x113)]) hx hb hml hown hT hE hW hl.1 cf_X11_min wq1640 wq1639 (c_X11_min l D g T h0 s2 hW.2.1 999 (by decide) x113 rx113) ⟨rfl, rfl, ⟨by decide, by decide⟩, ⟨by decide, by decide⟩⟩ rfl rfl (Nat.le_of_ble_eq_true rfl) dX11_servesOf_33) hW (fun x114 s115 H locs rx114 hp116 hW => ?_)
  obtain ⟨es115, hp116⟩ := hp116
  subst es115
  have ghp116 := hp116
  refine x_iast hx hb hE hW (by decide) (fun σ => sa_269 h0 g σ) (by omega) (by decide) rx114 dX11_servesOf_36 (fun H locs s117 es117 hW => ?_)
  have q118 : s117 268 8 = s0 268 8 := (show s117 268 8 = s2 268 8 from by rw [es117, xU_k _ _ _ (by first | decide | omega)]).trans q5
  have q119 : s117 268 58 = s0 268 58 := (show s117 268 58 = s2 268 58 from by rw [es117, xU_k _ _ _ (by first | decide | omega)]).trans q6
  have q120 : s117 269 0 = s0 269 0 := (show s117 269 0 = s2 269 0 from by rw [es117, xU_j _ _ (by omega)]).trans q7
  have q121 : s117 269 1 = s0 269 1 := (show s117 269 1 = s2 269 1 from by rw [es117, xU_j _ _ (by omega)]).trans q8
  have q122 : s117 269 2 = s0 269 2 := (show s117 269 2 = s2 269 2 from by rw [es117, xU_j _ _ (by omega)]).trans q9
  have q123 : s117 269 3 = s0 269 3 := (show s117 269 3 = s2 269 3 from by rw [es117, xU_j _ _ (by omega)]).trans q10
  have q124 : s117 269 34 = s0 269 34 := (show s117 269 34 = s2 269 34 from by rw [es117, xU_j _ _ (by omega)]).trans q11
  have q125 : s117 269 37 = s0 269 37 := (show s117 269 37 = s2 269 37 from by rw [es117, xU_j _ _ (by omega)]).trans q12
  have q126 : IMn s117 := by rw [es117]; exact IMn_N269 hp3.1.1 (by omega)
  have q127 : IMk s117 := by rw [es117]; exact IMk_o (by unfold suIMk; first | decide | omega) hp3.1.2.1
  have q128 : IMo s117 := by rw [es117]; exact IMo_o (by unfold suIMo; first | decide | omega) hp3.1.2.2.1
  have hF129 := hF4.put es117 (by omega)
  refine x_aload_n hx hb hl 1 rfl dX11_servesOf_37 rfl ?_
  refine x_aload_n hx hb hl 1 rfl dX11_servesOf_38 rfl ?_
  refine x_get (j := 42) (v := .int (xJ (s117 268 42))) hx hb hown hT hE hW cls_X11 (Or.inl (by decide)) (so_268 h0 g _) (by decide) rfl wq1227 dX11_servesOf_39 ?_
  refine x_rd hW (fun x130 ex130 rx130 => ?_)
  refine x_iconst hx hb dX11_servesOf_42 ?_
  refine x_iadd hx hb dX11_servesOf_43 ?_
  refine x_any (fun x131 rx131 => ?_)
  refine x_put (j := 42) hx hb hown hT hE hW cls_X11 (by decide) (fun σ => so_268 h0 g σ) (by decide) (st_X11_42 h0 s117 268 x131) (ln_X11_42 h0 _ _) wq1227 rfl rfl rfl rx131 dX11_servesOf_44 (fun H locs s132 es132 hW => ?_)
  have q133 : s132 268 8 = s0 268 8 := (show s132 268 8 = s117 268 8 from by rw [es132, xU_j _ _ (by decide)]).trans q118
  have q134 : s132 268 58 = s0 268 58 := (show s132 268 58 = s117 268 58 from by rw [es132, xU_j _ _ (by decide)]).trans q119
  have q135 : s132 269 0 = s0 269 0 := (show s132 269 0 = s117 269 0 from by rw [es132, xU_k _ _ _ (by first | decide | omega)]).trans q120
  have q136 : s132 269 1 = s0 269 1 := (show s132 269 1 = s117 269 1 from by rw [es132, xU_k _ _ _ (by first | decide | omega)]).trans q121
  have q137 : s132 269 2 = s0 269 2 := (show s132 269 2 = s117 269 2 from by rw [es132, xU_k _ _ _ (by first | decide | omega)]).trans q122
  have q138 : s132 269 3 = s0 269 3 := (show s132 269 3 = s117 269 3 from by rw [es132, xU_k _ _ _ (by first | decide | omega)]).trans q123
  have q139 : s132 269 34 = s0 269 34 := (show s132 269 34 = s117 269 34 from by rw [es132, xU_k _ _ _ (by first | decide | omega)]).trans q124
  have q140 : s132 269 37 = s0 269 37 := (show s132 269 37 = s117 269 37 from by rw [es132, xU_k _ _ _ (by first | decide | omega)]).trans q125
  have q141 : IMn s132 := by rw [es132]; exact IMn_268 q126 (by omega)
  have q142 : IMk s132 := by rw [es132]; exact IMk_268 q127 (by omega)
  have q143 : IMo s132 := by rw [es132]; exact IMo_o (by unfold suIMo; first | decide | omega) q128
  have hF144 := hF129.put es132 (by omega)
  rw [eQ]
  exact x_vret hx hb hr hlk hW ⟨hF144, ⟨q141, q142, q143, q133, q134, q135, q136, q137, q138, q139, q140, trivial⟩, trivial⟩ dX11_servesOf_47
set_option maxHeartbeats 4000000 in
set_option maxRecDepth 100000 in
theorem c_X11_shadesGoJ (l : Launch) (D : va_G) (g : xG) (T : Nat × Nat × Nat) (h0 : Nat) (s0 : xS) (hσ : xRR s0) (hz : s0 269 37 < 9999) (p0 : IMn s0) (p1 : IMk s0) (p2 : IMo s0) : Met l yX11_shadesGo (xws yX11_shadesGo cX11_shadesGo 6 none) { frames := 7, cells := 0, slots := 0, locals := 162 } (xP [.ref (h0 + 268)] D g T h0 s0) (xQv D g h0 (fun τ => xFr (fun k => k = 268 ∨ k = 269 ∨ k = 293 ∨ k = 294 ∨ k = 295 ∨ k = 296 ∨ k = 297 ∨ k = 298 ∨ k = 299) s0 τ ∧ (((IMn τ) ∧ (IMk τ) ∧ (IMo τ) ∧ (τ 268 8 = s0 268 8) ∧ (τ 268 58 = s0 268 58) ∧ (τ 269 0 = s0 269 0) ∧ (τ 269 1 = s0 269 1) ∧ (τ 269 2 = s0 269 2) ∧ (τ 269 3 = s0 269 3) ∧ (τ 269 34 = s0 269 34) ∧ True) ∧ (τ 269 37 = s0 269 37 + 1)))) 0 0 (xA h0) := by
  refine x_met hσ (by decide) (Nat.le_of_ble_eq_true rfl) ?_
  intro p e s m args below meth c hx hb hr hml hown hT hlk hnm hE hW ls hl
  have hl : lv_has ls 6 [(0, .ref (h0 + 268))] := hl
  obtain ⟨Q, eQ⟩ : ∃ Q, Q = MQ below (xQv D g h0 (fun τ => xFr (fun k => k = 268 ∨ k = 269 ∨ k = 293 ∨ k = 294 ∨ k = 295 ∨ k = 296 ∨ k = 297 ∨ k = 298 ∨ k = 299) s0 τ ∧ (((IMn τ) ∧ (IMk τ) ∧ (IMo τ) ∧ (τ 268 8 = s0 268 8) ∧ (τ 268 58 = s0 268 58) ∧ (τ 269 0 = s0 269 0) ∧ (τ 269 1 = s0 269 1) ∧ (τ 269 2 = s0 269 2) ∧ (τ 269 3 = s0 269 3) ∧ (τ 269 34 = s0 269 34) ∧ True) ∧ (τ 269 37 = s0 269 37 + 1)))) args s 0 0 (xA h0) := ⟨_, rfl⟩
  rw [← eQ]
  generalize hHe : ([] : List Loc) = locs at hW ⊢
  obtain ⟨H, eH⟩ : ∃ H, H = s.heap := ⟨_, rfl⟩
  rw [← eH] at hW ⊢
  have hF : xFr (fun k => k = 268 ∨ k = 269 ∨ k = 293 ∨ k = 294 ∨ k = 295 ∨ k = 296 ∨ k = 297 ∨ k = 298 ∨ k = 299) s0 s0 := xFr.rf
  have k268_8 : s0 268 8 = s0 268 8 := rfl
  have k268_58 : s0 268 58 = s0 268 58 := rfl
  have k269_0 : s0 269 0 = s0 269 0 := rfl
  have k269_1 : s0 269 1 = s0 269 1 := rfl
  have k269_2 : s0 269 2 = s0 269 2 := rfl
  have k269_3 : s0 269 3 = s0 269 3 := rfl
  have k269_34 : s0 269 34 = s0 269 34 := rfl
  have k269_37 : s0 269 37 = s0 269 37 := rfl
  refine x_aload_n hx hb hl 0 rfl dX11_shadesGo_0 rfl ?_
  refine x_goi (x_runV (As := []) hx hb hml hown hT hE hW hl.1 (Or.inl (by decide)) (so_268 h0 g _) rfl cf_X11_draws wq1568 wq135 wq1566 (c_X11_drawsJ l D g T h0 s0 hW.2.1 p0 p1 p2) ⟨rfl, rfl, ⟨by decide, by decide⟩, ⟨by decide, by decide⟩⟩ rfl rfl (Nat.le_of_ble_eq_true rfl) dX11_shadesGo_1) hW (fun x1 s2 H locs rx1 hp3 hW => ?_)
  obtain ⟨fs2, hp3⟩ := hp3
  have hF4 := hF.call fs2 (fun k h => by omega)
  have q5 : s2 268 8 = s0 268 8 := (congrFun (fs2 _ (by omega)) _).trans k268_8
  have q6 : s2 268 58 = s0 268 58 := (congrFun (fs2 _ (by omega)) _).trans k268_58
  have ghp3 := hp3.2
  refine lv_istore_n (lv' := [(1, .int (xJ x1)), (0, .ref (h0 + 268))]) hx hb dX11_shadesGo_4 rfl hl (by decide) rfl (fun ls hl => ?_)
  refine x_aload_n hx hb hl 1 rfl dX11_shadesGo_5 rfl ?_
  refine x_aload_n hx hb hl 1 rfl dX11_shadesGo_6 rfl ?_
  refine x_get (j := 0) (v := .ref (h0 + 269)) hx hb hown hT hE hW cls_X11 (Or.inl (by decide)) (so_268 h0 g _) (by decide) rfl wq1185 dX11_shadesGo_7 ?_
  refine x_bipush hx hb dX11_shadesGo_10 (by decide) ?_
  refine x_iald hx hb hE hW (Or.inl (by decide)) (sa_269 h0 g _) ⟨by decide, by decide⟩ (by decide) dX11_shadesGo_12 ?_
  refine x_rd hW (fun x7 ex7 rx7 => ?_)
  have bx7 : 0 ≤ x7 ∧ x7 ≤ 9999 := by rw [ex7]; exact (IMn.n1 hp3.1.1).2.2.2.1
  have fx7 : x7 = s0 269 37 := ex7.trans (hp3.1.2.2.2.2.2.2.2.2.1.trans k269_37)
  refine x_gov (x_runV (As := [.int (xJ x7)]) hx hb hml hown hT hE hW hl.1 (Or.inl (by decide)) (so_268 h0 g _) rfl cf_X11_feels wq1573 wq136 wq1571 (c_X11_feels l D g T h0 s2 hW.2.1 x7 rx7 hp3.1.1 hp3.1.2.1 hp3.1.2.2.1) ⟨rfl, rfl, ⟨by decide, by decide⟩, ⟨by decide, by decide⟩⟩ rfl rfl (Nat.le_of_ble_eq_true rfl) dX11_shadesGo_13) hW (fun s9 H locs hp10 hW => ?_)
  obtain ⟨fs9, hp10⟩ := hp10
  have hF11 := hF4.call fs9 (fun k h => by omega)
  have q12 : s9 268 8 = s0 268 8 := (congrFun (fs9 _ (by omega)) _).trans q5
  have q13 : s9 268 58 = s0 268 58 := (congrFun (fs9 _ (by omega)) _).trans q6
  have q14 : s9 269 0 = s0 269 0 := (congrFun (fs9 _ (by omega)) _).trans (hp3.1.2.2.2.1.trans k269_0)
  have q15 : s9 269 1 = s0 269 1 := (congrFun (fs9 _ (by omega)) _).trans (hp3.1.2.2.2.2.1.trans k269_1)
  have q16 : s9 269 2 = s0 269 2 := (congrFun (fs9 _ (by omega)) _).trans (hp3.1.2.2.2.2.2.1.trans k269_2)
  have q17 : s9 269 3 = s0 269 3 := (congrFun (fs9 _ (by omega)) _).trans (hp3.1.2.2.2.2.2.2.1.trans k269_3)
  have q18 : s9 269 34 = s0 269 34 := (congrFun (fs9 _ (by omega)) _).trans (hp3.1.2.2.2.2.2.2.2.1.trans k269_34)
  have q19 : s9 269 37 = s0 269 37 := (congrFun (fs9 _ (by omega)) _).trans (hp3.1.2.2.2.2.2.2.2.2.1.trans k269_37)
  have ghp10 := hp10.2
  refine x_iload_n hx hb hl 0 rfl dX11_shadesGo_16 rfl ?_
  refine x_aload_n hx hb hl 1 rfl dX11_shadesGo_17 rfl ?_
  refine x_bipush hx hb dX11_shadesGo_18 (by decide) ?_
  refine x_bipush hx hb dX11_shadesGo_20 (by decide) ?_
  refine x_goi (x_runV (As := [.int (xJ 99), .int (xJ 10)]) hx hb hml hown hT hE hW hl.1 (Or.inl (by decide)) (so_268 h0 g _) rfl cf_X11_byLaw wq1577 wq137 wq1575 (c_X11_byLaw l D g T h0 s9 hW.2.1 99 (by decide) 10 (by decide) hp10.1.1 hp10.1.2.1 hp10.1.2.2.1) ⟨rfl, rfl, ⟨by decide, by decide⟩, ⟨by decide, by decide⟩⟩ rfl rfl (Nat.le_of_ble_eq_true rfl) dX11_shadesGo_22) hW (fun x20 s21 H locs rx20 hp22 hW => ?_)
  obtain ⟨fs21, hp22⟩ := hp22
  have hF23 := hF11.call fs21 (fun k h => by omega)
  have q24 : s21 268 8 = s0 268 8 := (congrFun (fs21 _ (by omega)) _).trans q12
  have q25 : s21 268 58 = s0 268 58 := (congrFun (fs21 _ (by omega)) _).trans q13
  have q26 : s21 269 0 = s0 269 0 := (congrFun (fs21 _ (by omega)) _).trans q14
  have q27 : s21 269 1 = s0 269 1 := (congrFun (fs21 _ (by omega)) _).trans q15
  have q28 : s21 269 2 = s0 269 2 := (congrFun (fs21 _ (by omega)) _).trans q16
  have q29 : s21 269 3 = s0 269 3 := (congrFun (fs21 _ (by omega)) _).trans q17
  have q30 : s21 269 34 = s0 269 34 := (congrFun (fs21 _ (by omega)) _).trans q18
  have q31 : s21 269 37 = s0 269 37 := (congrFun (fs21 _ (by omega)) _).trans q19
  have ghp22 := hp22.2
  have J33 : ∀ (t0_33 : Int) (ls : Array Slot), (xR t0_33) → (t0_33 = 0 ∨ t0_33 = 1) → lv_has ls 6 [(0, .ref (h0 + 268))] → W p l e { frames := 7, cells := 0, slots := 0, locals := 162 } s m args below meth c H locs 0 0 Q (F0 m 33 ls [.int (xJ t0_33)]) := by
    intro t0_33 ls rt0_33 v33_0  hl
    refine lv_istore_n (lv' := [(2, .int (xJ t0_33)), (0, .ref (h0 + 268))]) hx hb dX11_shadesGo_33 rfl hl (by decide) rfl (fun ls hl => ?_)
    refine x_aload_n hx hb hl 1 rfl dX11_shadesGo_34 rfl ?_
    refine x_aload_n hx hb hl 1 rfl dX11_shadesGo_35 rfl ?_
    refine x_get (j := 43) (v := .int (xJ (s21 268 43))) hx hb hown hT hE hW cls_X11 (Or.inl (by decide)) (so_268 h0 g _) (by decide) rfl wq1228 dX11_shadesGo_36 ?_
    refine x_rd hW (fun x32 ex32 rx32 => ?_)
    refine x_iload_n hx hb hl 0 rfl dX11_shadesGo_39 rfl ?_
    have J48 : ∀ (t0_48 : Int) (ls : Array Slot), (xR t0_48) → lv_has ls 6 [(0, .ref (h0 + 268)), (2, .int (xJ t0_33))] → W p l e { frames := 7, cells := 0, slots := 0, locals := 162 } s m args below meth c H locs 0 0 Q (F0 m 48 ls [.int (xJ t0_48), .int (xJ x32), .ref (h0 + 268)]) := by
      intro t0_48 ls rt0_48  hl
      refine x_iadd hx hb dX11_shadesGo_48 ?_
      refine x_any (fun x33 rx33 => ?_)
      refine x_put (j := 43) hx hb hown hT hE hW cls_X11 (by decide) (fun σ => so_268 h0 g σ) (by decide) (st_X11_43 h0 s21 268 x33) (ln_X11_43 h0 _ _) wq1228 rfl rfl rfl rx33 dX11_shadesGo_49 (fun H locs s34 es34 hW => ?_)
      have q35 : s34 268 8 = s0 268 8 := (show s34 268 8 = s21 268 8 from by rw [es34, xU_j _ _ (by decide)]).trans q24
      have q36 : s34 268 58 = s0 268 58 := (show s34 268 58 = s21 268 58 from by rw [es34, xU_j _ _ (by decide)]).trans q25
      have q37 : s34 269 0 = s0 269 0 := (show s34 269 0 = s21 269 0 from by rw [es34, xU_k _ _ _ (by first | decide | omega)]).trans q26
      have q38 : s34 269 1 = s0 269 1 := (show s34 269 1 = s21 269 1 from by rw [es34, xU_k _ _ _ (by first | decide | omega)]).trans q27
      have q39 : s34 269 2 = s0 269 2 := (show s34 269 2 = s21 269 2 from by rw [es34, xU_k _ _ _ (by first | decide | omega)]).trans q28
      have q40 : s34 269 3 = s0 269 3 := (show s34 269 3 = s21 269 3 from by rw [es34, xU_k _ _ _ (by first | decide | omega)]).trans q29
      have q41 : s34 269 34 = s0 269 34 := (show s34 269 34 = s21 269 34 from by rw [es34, xU_k _ _ _ (by first | decide | omega)]).trans q30
      have q42 : s34 269 37 = s0 269 37 := (show s34 269 37 = s21 269 37 from by rw [es34, xU_k _ _ _ (by first | decide | omega)]).trans q31
      have q43 : IMn s34 := by rw [es34]; exact IMn_268 hp22.1.1 (by omega)
      have q44 : IMk s34 := by rw [es34]; exact IMk_268 hp22.1.2.1 (by omega)
      have q45 : IMo s34 := by rw [es34]; exact IMo_o (by unfold suIMo; first | decide | omega) hp22.1.2.2.1
      have hF46 := hF23.put es34 (by omega)
      refine x_aload_n hx hb hl 0 rfl dX11_shadesGo_52 rfl ?_
      refine x_aload_n hx hb hl 0 rfl dX11_shadesGo_53 rfl ?_
      refine x_get (j := 0) (v := .ref (h0 + 269)) hx hb hown hT hE hW cls_X11 (Or.inl (by decide)) (so_268 h0 g _) (by decide) rfl wq1185 dX11_shadesGo_54 ?_
      refine x_bipush hx hb dX11_shadesGo_57 (by decide) ?_
      refine x_iald hx hb hE hW (Or.inl (by decide)) (sa_269 h0 g _) ⟨by decide, by decide⟩ (by decide) dX11_shadesGo_59 ?_
      refine x_rd hW (fun x47 ex47 rx47 => ?_)
      have bx47 : 0 ≤ x47 ∧ x47 ≤ 9999 := by rw [ex47]; exact (IMn.n1 q43).2.2.2.1
      have fx47 : x47 = s0 269 37 := ex47.trans q42
      refine x_iload_n hx hb hl 1 rfl dX11_shadesGo_60 rfl ?_
      refine x_gov (x_runV (As := [.int (xJ x47), .int (xJ t0_33)]) hx hb hml hown hT hE hW hl.1 (Or.inl (by decide)) (so_268 h0 g _) rfl cf_X11_laysShades wq1588 wq139 wq1586 (c_X11_laysShades l D g T h0 s34 hW.2.1 x47 rx47 t0_33 rt0_33 q43 q44 q45) ⟨rfl, rfl, ⟨by decide, by decide⟩, ⟨by decide, by decide⟩⟩ rfl rfl (Nat.le_of_ble_eq_true rfl) dX11_shadesGo_61) hW (fun s49 H locs hp50 hW => ?_)
      obtain ⟨fs49, hp50⟩ := hp50
      have hF51 := hF46.call fs49 (fun k h => by omega)
      have q52 : s49 268 8 = s0 268 8 := (congrFun (fs49 _ (by omega)) _).trans q35
      have q53 : s49 268 58 = s0 268 58 := (congrFun (fs49 _ (by omega)) _).trans q36
      have q54 : s49 269 0 = s0 269 0 := (congrFun (fs49 _ (by omega)) _).trans q37
      have q55 : s49 269 1 = s0 269 1 := (congrFun (fs49 _ (by omega)) _).trans q38
      have q56 : s49 269 2 = s0 269 2 := (congrFun (fs49 _ (by omega)) _).trans q39
      have q57 : s49 269 3 = s0 269 3 := (congrFun (fs49 _ (by omega)) _).trans q40
      have q58 : s49 269 34 = s0 269 34 := (congrFun (fs49 _ (by omega)) _).trans q41
      have q59 : s49 269 37 = s0 269 37 := (congrFun (fs49 _ (by omega)) _).trans q42
      have ghp50 := hp50.2
      refine x_aload_n hx hb hl 0 rfl dX11_shadesGo_64 rfl ?_
      refine x_aload_n hx hb hl 0 rfl dX11_shadesGo_65 rfl ?_
      refine x_get (j := 0) (v := .ref (h0 + 269)) hx hb hown hT hE hW cls_X11 (Or.inl (by decide)) (so_268 h0 g _) (by decide) rfl wq1185 dX11_shadesGo_66 ?_
      refine x_bipush hx hb dX11_shadesGo_69 (by decide) ?_
      refine x_iald hx hb hE hW (Or.inl (by decide)) (sa_269 h0 g _) ⟨by decide, by decide⟩ (by decide) dX11_shadesGo_71 ?_
      refine x_rd hW (fun x60 ex60 rx60 => ?_)
      have bx60 : 0 ≤ x60 ∧ x60 ≤ 9999 := by rw [ex60]; exact (IMn.n1 hp50.1.1).2.2.2.1
      have fx60 : x60 = s0 269 37 := ex60.trans q59
      refine x_goi (x_runV (As := [.int (xJ x60)]) hx hb hml hown hT hE hW hl.1 (Or.inl (by decide)) (so_268 h0 g _) rfl cf_X11_isNight wq1604 wq143 wq1602 (c_X11_isNight l D g T h0 s49 hW.2.1 x60 rx60 hp50.1.1 hp50.1.2.1 hp50.1.2.2.1) ⟨rfl, rfl, ⟨by decide, by decide⟩, ⟨by decide, by decide⟩⟩ rfl rfl (Nat.le_of_ble_eq_true rfl) dX11_shadesGo_72) hW (fun x61 s62 H locs rx61 hp63 hW => ?_)
      obtain ⟨fs62, hp63⟩ := hp63
      have hF64 := hF51.call fs62 (fun k h => by omega)
      have q65 : s62 268 8 = s0 268 8 := (congrFun (fs62 _ (by omega)) _).trans q52
      have q66 : s62 268 58 = s0 268 58 := (congrFun (fs62 _ (by omega)) _).trans q53
      have q67 : s62 269 0 = s0 269 0 := (congrFun (fs62 _ (by omega)) _).trans q54
      have q68 : s62 269 1 = s0 269 1 := (congrFun (fs62 _ (by omega)) _).trans q55
      have q69 : s62 269 2 = s0 269 2 := (congrFun (fs62 _ (by omega)) _).trans q56
      have q70 : s62 269 3 = s0 269 3 := (congrFun (fs62 _ (by omega)) _).trans q57
      have q71 : s62 269 34 = s0 269 34 := (congrFun (fs62 _ (by omega)) _).trans q58
      have q72 : s62 269 37 = s0 269 37 := (congrFun (fs62 _ (by omega)) _).trans q59
      have ghp63 := hp63.2
      refine lv_istore_n (lv' := [(3, .int (xJ x61)), (0, .ref (h0 + 268)), (2, .int (xJ t0_33))]) hx hb dX11_shadesGo_75 rfl hl (by decide) rfl (fun ls hl => ?_)
      refine x_iconst hx hb dX11_shadesGo_76 ?_
      refine lv_istore (lv' := [(4, .int (xJ 0)), (3, .int (xJ x61)), (0, .ref (h0 + 268)), (2, .int (xJ t0_33))]) hx hb dX11_shadesGo_77 hl (by decide) rfl (fun ls hl => ?_)
      have L79 : ∀ (fu : Nat) (i4_79 : Int) (s_79 : xS) (H : Heap) (locs : List Loc) (ls : Array Slot), (xR i4_79) → (xFr (fun k => k = 268 ∨ k = 269 ∨ k = 293 ∨ k = 294 ∨ k = 295 ∨ k = 296 ∨ k = 297 ∨ k = 298 ∨ k = 299) s0 s_79) → (s_79 268 8 = s0 268 8) → (s_79 268 58 = s0 268 58) → (s_79 269 0 = s0 269 0) → (s_79 269 1 = s0 269 1) → (s_79 269 2 = s0 269 2) → (s_79 269 3 = s0 269 3) → (s_79 269 34 = s0 269 34) → (s_79 269 37 = s0 269 37) → (IMn s_79) → (IMk s_79) → (IMo s_79) → (0 ≤ i4_79) → (i4_79 ≤ 100) → (100 + 1 - i4_79).toNat < fu → xW D g h0 s H locs s_79 → lv_has ls 6 [(0, .ref (h0 + 268)), (3, .int (xJ x61)), (4, .int (xJ i4_79))] → W p l e { frames := 7, cells := 0, slots := 0, locals := 162 } s m args below meth c H locs 0 0 Q (F0 m 79 ls []) := by
        intro fu
        induction fu with
        | zero => intro i4_79 s_79 H locs ls ri4_79 hF_79 q79_0 q79_1 q79_2 q79_3 q79_4 q79_5 q79_6 q79_7 q79_8 q79_9 q79_10 v79_0 v79_1 hm; exact absurd hm (Nat.not_lt_zero _)
        | succ fu ih79 =>
          intro i4_79 s_79 H locs ls ri4_79 hF_79 q79_0 q79_1 q79_2 q79_3 q79_4 q79_5 q79_6 q79_7 q79_8 q79_9 q79_10 v79_0 v79_1 hm hW hl
          have hm_79 := fun (_ : Unit) => hm
          clear hm
          refine x_iload hx hb hl 2 rfl dX11_shadesGo_79 ?_
          refine x_bipush hx hb dX11_shadesGo_81 (by decide) ?_
          refine x_icmp_ge (tgt := 100) hx hb ri4_79 (by decide) dX11_shadesGo_83 (by decide) (fun c73 => ?_) (fun c73 => ?_)
          · skip
            refine x_aload_n hx hb hl 0 rfl dX11_shadesGo_100 rfl ?_
            refine x_goi (x_runV (As := []) hx hb hml hown hT hE hW hl.1 (Or.inl (by decide)) (so_268 h0 g _) rfl cf_X11_laysOrder wq1616 wq146 wq1614 (c_X11_laysOrder l D g T h0 s_79 hW.2.1 q79_8 q79_9 q79_10) ⟨rfl, rfl, ⟨by decide, by decide⟩, ⟨by decide, by decide⟩⟩ rfl rfl (Nat.le_of_ble_eq_true rfl) dX11_shadesGo_101) hW (fun x74 s75 H locs rx74 hp76 hW => ?_)
            obtain ⟨fs75, hp76⟩ := hp76
            have hF77 := hF_79.call fs75 (fun k h => by omega)
            have q78 : s75 268 8 = s0 268 8 := (congrFun (fs75 _ (by omega)) _).trans q79_0
            have q79 : s75 268 58 = s0 268 58 := (congrFun (fs75 _ (by omega)) _).trans q79_1
            have q80 : s75 269 0 = s0 269 0 := (congrFun (fs75 _ (by omega)) _).trans q79_2
            have q81 : s75 269 1 = s0 269 1 := (congrFun (fs75 _ (by omega)) _).trans q79_3
            have q82 : s75 269 2 = s0 269 2 := (congrFun (fs75 _ (by omega)) _).trans q79_4
            have q83 : s75 269 3 = s0 269 3 := (congrFun (fs75 _ (by omega)) _).trans q79_5
            have q84 : s75 269 34 = s0 269 34 := (congrFun (fs75 _ (by omega)) _).trans q79_6
            have q85 : s75 269 37 = s0 269 37 := (congrFun (fs75 _ (by omega)) _).trans q79_7
            have ghp76 := hp76.2
            refine lv_istore (lv' := [(4, .int (xJ x74)), (0, .ref (h0 + 268)), (3, .int (xJ x61))]) hx hb dX11_shadesGo_104 hl (by decide) rfl (fun ls hl => ?_)
            refine x_iconst hx hb dX11_shadesGo_106 ?_
            refine lv_istore (lv' := [(5, .int (xJ 0)), (4, .int (xJ x74)), (0, .ref (h0 + 268)), (3, .int (xJ x61))]) hx hb dX11_shadesGo_107 hl (by decide) rfl (fun ls hl => ?_)
            have L109 : ∀ (fu : Nat) (i5_109 : Int) (s_109 : xS) (H : Heap) (locs : List Loc) (ls : Array Slot), (xR i5_109) → (xFr (fun k => k = 268 ∨ k = 269 ∨ k = 293 ∨ k = 294 ∨ k = 295 ∨ k = 296 ∨ k = 297 ∨ k = 298 ∨ k = 299) s0 s_109) → (s_109 268 8 = s0 268 8) → (s_109 268 58 = s0 268 58) → (s_109 269 0 = s0 269 0) → (s_109 269 1 = s0 269 1) → (s_109 269 2 = s0 269 2) → (s_109 269 3 = s0 269 3) → (s_109 269 34 = s0 269 34) → (s_109 269 37 = s0 269 37) → (IMn s_109) → (IMk s_109) → (IMo s_109) → (0 ≤ i5_109) → (x74 + 1 - i5_109).toNat < fu → xW D g h0 s H locs s_109 → lv_has ls 6 [(0, .ref (h0 + 268)), (3, .int (xJ x61)), (4, .int (xJ x74)), (5, .int (xJ i5_109))] → W p l e { frames := 7, cells := 0, slots := 0, locals := 162 } s m args below meth c H locs 0 0 Q (F0 m 109 ls []) := by
              intro fu
              induction fu with
              | zero => intro i5_109 s_109 H locs ls ri5_109 hF_109 q109_0 q109_1 q109_2 q109_3 q109_4 q109_5 q109_6 q109_7 q109_8 q109_9 q109_10 v109_0 hm; exact absurd hm (Nat.not_lt_zero _)
              | succ fu ih109 =>
                intro i5_109 s_109 H locs ls ri5_109 hF_109 q109_0 q109_1 q109_2 q109_3 q109_4 q109_5 q109_6 q109_7 q109_8 q109_9 q109_10 v109_0 hm hW hl
                have hm_109 := fun (_ : Unit) => hm
                clear hm
                refine x_iload hx hb hl 3 rfl dX11_shadesGo_109 ?_
                refine x_iload hx hb hl 2 rfl dX11_shadesGo_111 ?_
                refine x_icmp_ge (tgt := 134) hx hb ri5_109 rx74 dX11_shadesGo_113 (by decide) (fun c86 => ?_) (fun c86 => ?_)
                · skip
                  refine x_aload_n hx hb hl 0 rfl dX11_shadesGo_134 rfl ?_
                  refine x_get (j := 0) (v := .ref (h0 + 269)) hx hb hown hT hE hW cls_X11 (Or.inl (by decide)) (so_268 h0 g _) (by decide) rfl wq1185 dX11_shadesGo_135 ?_
                  refine x_bipush hx hb dX11_shadesGo_138 (by decide) ?_
                  refine x_aload_n hx hb hl 0 rfl dX11_shadesGo_140 rfl ?_
                  refine x_get (j := 0) (v := .ref (h0 + 269)) hx hb hown hT hE hW cls_X11 (Or.inl (by decide)) (so_268 h0 g _) (by decide) rfl wq1185 dX11_shadesGo_141 ?_
                  refine x_bipush hx hb dX11_shadesGo_144 (by decide) ?_
                  refine x_iald hx hb hE hW (Or.inl (by decide)) (sa_269 h0 g _) ⟨by decide, by decide⟩ (by decide) dX11_shadesGo_146 ?_
                  refine x_rd hW (fun x87 ex87 rx87 => ?_)
                  have bx87 : 0 ≤ x87 ∧ x87 ≤ 9999 := by rw [ex87]; exact (IMn.n1 q109_8).2.2.2.1
                  have fx87 : x87 = s0 269 37 := ex87.trans q109_7
                  refine x_iconst hx hb dX11_shadesGo_147 ?_
                  refine x_iadd hx hb dX11_shadesGo_148 ?_
                  refine x_iast hx hb hE hW (by decide) (fun σ => sa_269 h0 g σ) ⟨by decide, by decide⟩ (by decide) (by omega) dX11_shadesGo_149 (fun H locs s88 es88 hW => ?_)
                  have q89 : s88 268 8 = s0 268 8 := (show s88 268 8 = s_109 268 8 from by rw [es88, xU_k _ _ _ (by first | decide | omega)]).trans q109_0
                  have q90 : s88 268 58 = s0 268 58 := (show s88 268 58 = s_109 268 58 from by rw [es88, xU_k _ _ _ (by first | decide | omega)]).trans q109_1
                  have q91 : s88 269 0 = s0 269 0 := (show s88 269 0 = s_109 269 0 from by rw [es88, xU_j _ _ (by decide)]).trans q109_2
                  have q92 : s88 269 1 = s0 269 1 := (show s88 269 1 = s_109 269 1 from by rw [es88, xU_j _ _ (by decide)]).trans q109_3
                  have q93 : s88 269 2 = s0 269 2 := (show s88 269 2 = s_109 269 2 from by rw [es88, xU_j _ _ (by decide)]).trans q109_4
                  have q94 : s88 269 3 = s0 269 3 := (show s88 269 3 = s_109 269 3 from by rw [es88, xU_j _ _ (by decide)]).trans q109_5
                  have q95 : s88 269 34 = s0 269 34 := (show s88 269 34 = s_109 269 34 from by rw [es88, xU_j _ _ (by decide)]).trans q109_6
                  have q96 : s88 269 37 = (x87 + 1) := by rw [es88, xU_s]
                  have q97 : IMn s88 := by rw [es88]; exact IMn_N269 q109_8 (by omega)
                  have q98 : IMk s88 := by rw [es88]; exact IMk_o (by unfold suIMk; first | decide | omega) q109_9
                  have q99 : IMo s88 := by rw [es88]; exact IMo_o (by unfold suIMo; first | decide | omega) q109_10
                  have hF100 := hF_109.put es88 (by omega)
                  rw [eQ]
                  exact x_vret hx hb hr hlk hW ⟨hF100, ⟨q97, q98, q99, q89, q90, q91, q92, q93, q94, q95, trivial⟩, by omega⟩ dX11_shadesGo_150
                refine x_aload_n hx hb hl 0 rfl dX11_shadesGo_116 rfl ?_
                refine x_aload_n hx hb hl 0 rfl dX11_shadesGo_117 rfl ?_
                refine x_get (j := 46) (v := .ref (h0 + 297)) hx hb hown hT hE hW cls_X11 (Or.inl (by decide)) (so_268 h0 g _) (by decide) rfl wq1231 dX11_shadesGo_118 ?_
                refine x_iload hx hb hl 3 rfl dX11_shadesGo_121 ?_
                refine x_iald hx hb hE hW (Or.inl (by decide)) (sa_297 h0 g _) (by omega) (by decide) dX11_shadesGo_123 ?_
                refine x_rd hW (fun x101 ex101 rx101 => ?_)
                have bx101 : 0 ≤ x101 ∧ x101 ≤ 9 := by rw [ex101]; exact IMo.a q109_10 _ (by omega) (by omega)
                refine x_iload_n hx hb hl 1 rfl dX11_shadesGo_124 rfl ?_
                refine x_gov (x_runV (As := [.int (xJ x101), .int (xJ x61)]) hx hb hml hown hT hE hW hl.1 (Or.inl (by decide)) (so_268 h0 g _) rfl cf_X11_servesOf wq1629 wq149 wq1627 (c_X11_servesOfJ l D g T h0 s_109 hW.2.1 x101 rx101 x61 rx61 (by omega) q109_8 q109_9 q109_10) ⟨rfl, rfl, ⟨by decide, by decide⟩, ⟨by decide, by decide⟩⟩ rfl rfl (Nat.le_of_ble_eq_true rfl) dX11_shadesGo_125) hW (fun s103 H locs hp104 hW => ?_)
                obtain ⟨fs103, hp104⟩ := hp104
                have hF105 := hF_109.call fs103 (fun k h => by omega)
                have ghp104 := hp104.2
                refine x_iinc (lv' := [(5, .int (xJ (i5_109 + 1))), (0, .ref (h0 + 268)), (3, .int (xJ x61)), (4, .int (xJ x74))]) hx hb hl 3 rfl dX11_shadesGo_128 (by decide) rfl (fun ls hl => ?_)
                refine lv_goto (tgt := 109) hx hb dX11_shadesGo_131 (by decide) ?_
                exact ih109 (i5_109 + 1) s103 H locs ls (by omega) hF105 (hp104.1.2.2.2.1.trans q109_0) (hp104.1.2.2.2.2.1.trans q109_1) (hp104.1.2.2.2.2.2.1.trans q109_2) (hp104.1.2.2.2.2.2.2.1.trans q109_3) (hp104.1.2.2.2.2.2.2.2.1.trans q109_4) (hp104.1.2.2.2.2.2.2.2.2.1.trans q109_5) (hp104.1.2.2.2.2.2.2.2.2.2.1.trans q109_6) (hp104.1.2.2.2.2.2.2.2.2.2.2.1.trans q109_7) hp104.1.1 hp104.1.2.1 hp104.1.2.2.1 (by omega) (by have hm := hm_109 (); omega) hW (lv_sub hl [1, 2, 3, 0] rfl)
            exact L109 ((x74 + 1 - 0 : Int).toNat + 1) 0 s75 H locs ls (by decide) hF77 q78 q79 q80 q81 q82 q83 q84 q85 hp76.1.1 hp76.1.2.1 hp76.1.2.2.1 (by omega) (Nat.lt_succ_self _) hW (lv_sub hl [2, 3, 1, 0] rfl)
          refine x_aload_n hx hb hl 0 rfl dX11_shadesGo_86 rfl ?_
          refine x_get (j := 49) (v := .ref (h0 + 299)) hx hb hown hT hE hW cls_X11 (Or.inl (by decide)) (so_268 h0 g _) (by decide) rfl wq1234 dX11_shadesGo_87 ?_
          refine x_iload hx hb hl 2 rfl dX11_shadesGo_90 ?_
          refine x_iconst hx hb dX11_shadesGo_92 ?_
          refine x_zast hx hb hE hW (by decide) (fun σ => sa_299 h0 g σ) (by omega) (by decide) (by omega) dX11_shadesGo_93 (fun H locs s106 es106 hW => ?_)
          have q107 : s106 268 8 = s0 268 8 := (show s106 268 8 = s_79 268 8 from by rw [es106, xU_k _ _ _ (by first | decide | omega)]).trans q79_0
          have q108 : s106 268 58 = s0 268 58 := (show s106 268 58 = s_79 268 58 from by rw [es106, xU_k _ _ _ (by first | decide | omega)]).trans q79_1
          have q109 : s106 269 0 = s0 269 0 := (show s106 269 0 = s_79 269 0 from by rw [es106, xU_k _ _ _ (by first | decide | omega)]).trans q79_2
          have q110 : s106 269 1 = s0 269 1 := (show s106 269 1 = s_79 269 1 from by rw [es106, xU_k _ _ _ (by first | decide | omega)]).trans q79_3
          have q111 : s106 269 2 = s0 269 2 := (show s106 269 2 = s_79 269 2 from by rw [es106, xU_k _ _ _ (by first | decide | omega)]).trans q79_4
          have q112 : s106 269 3 = s0 269 3 := (show s106 269 3 = s_79 269 3 from by rw [es106, xU_k _ _ _ (by first | decide | omega)]).trans q79_5
          have q113 : s106 269 34 = s0 269 34 := (show s106 269 34 = s_79 269 34 from by rw [es106, xU_k _ _ _ (by first | decide | omega)]).trans q79_6
          have q114 : s106 269 37 = s0 269 37 := (show s106 269 37 = s_79 269 37 from by rw [es106, xU_k _ _ _ (by first | decide | omega)]).trans q79_7
          have q115 : IMn s106 := by rw [es106]; exact IMn_o (by unfold suIMn; first | decide | omega) q79_8
          have q116 : IMk s106 := by rw [es106]; exact IMk_o (by unfold suIMk; first | decide | omega) q79_9
          have q117 : IMo s106 := by rw [es106]; exact IMo_o (by unfold suIMo; first | decide | omega) q79_10
          have hF118 := hF_79.put es106 (by omega)
          refine x_iinc (lv' := [(4, .int (xJ (i4_79 + 1))), (0, .ref (h0 + 268)), (3, .int (xJ x61))]) hx hb hl 2 rfl dX11_shadesGo_94 (by decide) rfl (fun ls hl => ?_)
          refine lv_goto (tgt := 79) hx hb dX11_shadesGo_97 (by decide) ?_
          exact ih79 (i4_79 + 1) s106 H locs ls (by omega) hF118 q107 q108 q109 q110 q111 q112 q113 q114 q115 q116 q117 (by omega) (by omega) (by have hm := hm_79 (); omega) hW (lv_sub hl [1, 2, 0] rfl)
      exact L79 ((100 + 1 - 0 : Int).toNat + 1) 0 s62 H locs ls (by decide) hF64 q65 q66 q67 q68 q69 q70 q71 q72 hp63.1.1 hp63.1.2.1 hp63.1.2.2.1 (by omega) (by omega) (Nat.lt_succ_self _) hW (lv_sub hl [2, 1, 0] rfl)
    refine x_if_eq (tgt := 47) hx hb rt0_33 dX11_shadesGo_40 (by decide) (fun c119 => ?_) (fun c119 => ?_)
    · skip
      refine x_iconst hx hb dX11_shadesGo_47 ?_
      exact J48 0 ls (by decide)  (lv_sub hl [1, 0] rfl)
    refine x_iconst hx hb dX11_shadesGo_43 ?_
    refine lv_goto (tgt := 48) hx hb dX11_shadesGo_44 (by decide) ?_
    exact J48 1 ls (by decide)  (lv_sub hl [1, 0] rfl)
  refine x_icmp_ge (tgt := 32) hx hb rx1 rx20 dX11_shadesGo_25 (by decide) (fun c120 => ?_) (fun c120 => ?_)
  · skip
    refine x_iconst hx hb dX11_shadesGo_32 ?_
    exact J33 0 ls (by decide) (by omega)  (lv_sub hl [1] rfl)
  refine x_iconst hx hb dX11_shadesGo_28 ?_
  refine lv_goto (tgt := 33) hx hb dX11_shadesGo_29 (by decide) ?_
  exact J33 1 ls (by decide) (by omega)  (lv_sub hl [1] rfl)
