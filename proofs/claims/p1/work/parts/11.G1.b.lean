set_option maxHeartbeats 4000000 in
set_option maxRecDepth 100000 in
theorem c_X6_spotAt (l : Launch) (D : va_G) (g : xG) (T : Nat × Nat × Nat) (h0 : Nat) (s0 : xS) (hσ : xRR s0) (x : Int) (rx : xR x) (y : Int) (ry : xR y) : Met l yX6_spotAt (xws yX6_spotAt cX6_spotAt 2 (some .int)) { frames := 0, cells := 0, slots := 0, locals := 0 } (xP [.int (xJ x), .int (xJ y)] D g T h0 s0) (xQi D g h0 (fun r τ => s0 = τ ∧ ((0 ≤ x ∧ x < 10 ∧ 0 ≤ y ∧ y < 10 ∧ r = 10 * y + x) ∨ ((x < 0 ∨ 10 ≤ x ∨ y < 0 ∨ 10 ≤ y) ∧ r = -1)))) 0 0 (xA h0) := by
  refine x_met hσ (by decide) (Nat.le_of_ble_eq_true rfl) ?_
  intro p e s m args below meth c hx hb hr hml hown hT hlk hnm hE hW ls hl
  have hl : lv_has ls 2 [(0, .int (xJ x)), (1, .int (xJ y))] := hl
  obtain ⟨Q, eQ⟩ : ∃ Q, Q = MQ below (xQi D g h0 (fun r τ => s0 = τ ∧ ((0 ≤ x ∧ x < 10 ∧ 0 ≤ y ∧ y < 10 ∧ r = 10 * y + x) ∨ ((x < 0 ∨ 10 ≤ x ∨ y < 0 ∨ 10 ≤ y) ∧ r = -1)))) args s 0 0 (xA h0) := ⟨_, rfl⟩
  rw [← eQ]
  generalize hHe : ([] : List Loc) = locs at hW ⊢
  obtain ⟨H, eH⟩ : ∃ H, H = s.heap := ⟨_, rfl⟩
  rw [← eH] at hW ⊢
  refine x_iload_n hx hb hl 0 rfl dX6_spotAt_0 rfl ?_
  refine x_if_lt (tgt := 29) hx hb rx dX6_spotAt_1 (by decide) (fun c1 => ?_) (fun c1 => ?_)
  · skip
    refine x_iconst hx hb dX6_spotAt_29 ?_
    rw [eQ]
    exact x_iret hx hb hr hlk hW (by decide) ⟨rfl, by omega⟩ dX6_spotAt_30
  refine x_iload_n hx hb hl 0 rfl dX6_spotAt_4 rfl ?_
  refine x_bipush hx hb dX6_spotAt_5 (by decide) ?_
  refine x_icmp_ge (tgt := 29) hx hb rx (by decide) dX6_spotAt_7 (by decide) (fun c2 => ?_) (fun c2 => ?_)
  · skip
    refine x_iconst hx hb dX6_spotAt_29 ?_
    rw [eQ]
    exact x_iret hx hb hr hlk hW (by decide) ⟨rfl, by omega⟩ dX6_spotAt_30
  refine x_iload_n hx hb hl 1 rfl dX6_spotAt_10 rfl ?_
  refine x_if_lt (tgt := 29) hx hb ry dX6_spotAt_11 (by decide) (fun c3 => ?_) (fun c3 => ?_)
  · skip
    refine x_iconst hx hb dX6_spotAt_29 ?_
    rw [eQ]
    exact x_iret hx hb hr hlk hW (by decide) ⟨rfl, by omega⟩ dX6_spotAt_30
  refine x_iload_n hx hb hl 1 rfl dX6_spotAt_14 rfl ?_
  refine x_bipush hx hb dX6_spotAt_15 (by decide) ?_
  refine x_icmp_ge (tgt := 29) hx hb ry (by decide) dX6_spotAt_17 (by decide) (fun c4 => ?_) (fun c4 => ?_)
  · skip
    refine x_iconst hx hb dX6_spotAt_29 ?_
    rw [eQ]
    exact x_iret hx hb hr hlk hW (by decide) ⟨rfl, by omega⟩ dX6_spotAt_30
  refine x_bipush hx hb dX6_spotAt_20 (by decide) ?_
  refine x_iload_n hx hb hl 1 rfl dX6_spotAt_22 rfl ?_
  refine x_imul hx hb dX6_spotAt_23 ?_
  refine x_iload_n hx hb hl 0 rfl dX6_spotAt_24 rfl ?_
  refine x_iadd hx hb dX6_spotAt_25 ?_
  refine lv_goto (tgt := 30) hx hb dX6_spotAt_26 (by decide) ?_
  rw [eQ]
  exact x_iret hx hb hr hlk hW (by omega) ⟨rfl, by omega⟩ dX6_spotAt_30
set_option maxHeartbeats 4000000 in
set_option maxRecDepth 100000 in
theorem c_X6_isSpot (l : Launch) (D : va_G) (g : xG) (T : Nat × Nat × Nat) (h0 : Nat) (s0 : xS) (hσ : xRR s0) (x : Int) (rx : xR x) : Met l yX6_isSpot (xws yX6_isSpot cX6_isSpot 1 (some .boolean)) { frames := 0, cells := 0, slots := 0, locals := 0 } (xP [.int (xJ x)] D g T h0 s0) (xQi D g h0 (fun r τ => s0 = τ ∧ ((r = 1 ∧ 0 ≤ x ∧ x < 100) ∨ (r = 0 ∧ (x < 0 ∨ 100 ≤ x))))) 0 0 (xA h0) := by
  refine x_met hσ (by decide) (Nat.le_of_ble_eq_true rfl) ?_
  intro p e s m args below meth c hx hb hr hml hown hT hlk hnm hE hW ls hl
  have hl : lv_has ls 1 [(0, .int (xJ x))] := hl
  obtain ⟨Q, eQ⟩ : ∃ Q, Q = MQ below (xQi D g h0 (fun r τ => s0 = τ ∧ ((r = 1 ∧ 0 ≤ x ∧ x < 100) ∨ (r = 0 ∧ (x < 0 ∨ 100 ≤ x))))) args s 0 0 (xA h0) := ⟨_, rfl⟩
  rw [← eQ]
  generalize hHe : ([] : List Loc) = locs at hW ⊢
  obtain ⟨H, eH⟩ : ∃ H, H = s.heap := ⟨_, rfl⟩
  rw [← eH] at hW ⊢
  refine x_iload_n hx hb hl 0 rfl dX6_isSpot_0 rfl ?_
  refine x_if_lt (tgt := 14) hx hb rx dX6_isSpot_1 (by decide) (fun c1 => ?_) (fun c1 => ?_)
  · skip
    refine x_iconst hx hb dX6_isSpot_14 ?_
    rw [eQ]
    exact x_zret hx hb hr hlk hW (by omega) ⟨rfl, by omega⟩ dX6_isSpot_15
  refine x_iload_n hx hb hl 0 rfl dX6_isSpot_4 rfl ?_
  refine x_bipush hx hb dX6_isSpot_5 (by decide) ?_
  refine x_icmp_ge (tgt := 14) hx hb rx (by decide) dX6_isSpot_7 (by decide) (fun c2 => ?_) (fun c2 => ?_)
  · skip
    refine x_iconst hx hb dX6_isSpot_14 ?_
    rw [eQ]
    exact x_zret hx hb hr hlk hW (by omega) ⟨rfl, by omega⟩ dX6_isSpot_15
  refine x_iconst hx hb dX6_isSpot_10 ?_
  refine lv_goto (tgt := 15) hx hb dX6_isSpot_11 (by decide) ?_
  rw [eQ]
  exact x_zret hx hb hr hlk hW (by omega) ⟨rfl, by omega⟩ dX6_isSpot_15
set_option maxHeartbeats 4000000 in
set_option maxRecDepth 100000 in
theorem c_X6_beside (l : Launch) (D : va_G) (g : xG) (T : Nat × Nat × Nat) (h0 : Nat) (s0 : xS) (hσ : xRR s0) (x : Int) (rx : xR x) (w : Int) (rw : xR w) : Met l yX6_beside (xws yX6_beside cX6_beside 4 (some .int)) { frames := 0, cells := 0, slots := 0, locals := 0 } (xP [.int (xJ x), .int (xJ w)] D g T h0 s0) (xQi D g h0 (fun r τ => s0 = τ ∧ (r = -1 ∨ (0 ≤ r ∧ r < 100)))) 0 0 (xA h0) := by
  refine x_met hσ (by decide) (Nat.le_of_ble_eq_true rfl) ?_
  intro p e s m args below meth c hx hb hr hml hown hT hlk hnm hE hW ls hl
  have hl : lv_has ls 4 [(0, .int (xJ x)), (1, .int (xJ w))] := hl
  obtain ⟨Q, eQ⟩ : ∃ Q, Q = MQ below (xQi D g h0 (fun r τ => s0 = τ ∧ (r = -1 ∨ (0 ≤ r ∧ r < 100)))) args s 0 0 (xA h0) := ⟨_, rfl⟩
  rw [← eQ]
  generalize hHe : ([] : List Loc) = locs at hW ⊢
  obtain ⟨H, eH⟩ : ∃ H, H = s.heap := ⟨_, rfl⟩
  rw [← eH] at hW ⊢
  refine x_iload_n hx hb hl 0 rfl dX6_beside_0 rfl ?_
  refine x_if_lt (tgt := 20) hx hb rx dX6_beside_1 (by decide) (fun c1 => ?_) (fun c1 => ?_)
  · skip
    refine x_iconst hx hb dX6_beside_20 ?_
    rw [eQ]
    exact x_iret hx hb hr hlk hW (by decide) ⟨rfl, by omega⟩ dX6_beside_21
  refine x_iload_n hx hb hl 0 rfl dX6_beside_4 rfl ?_
  refine x_bipush hx hb dX6_beside_5 (by decide) ?_
  refine x_icmp_ge (tgt := 20) hx hb rx (by decide) dX6_beside_7 (by decide) (fun c2 => ?_) (fun c2 => ?_)
  · skip
    refine x_iconst hx hb dX6_beside_20 ?_
    rw [eQ]
    exact x_iret hx hb hr hlk hW (by decide) ⟨rfl, by omega⟩ dX6_beside_21
  refine x_iload_n hx hb hl 1 rfl dX6_beside_10 rfl ?_
  refine x_if_lt (tgt := 20) hx hb rw dX6_beside_11 (by decide) (fun c3 => ?_) (fun c3 => ?_)
  · skip
    refine x_iconst hx hb dX6_beside_20 ?_
    rw [eQ]
    exact x_iret hx hb hr hlk hW (by decide) ⟨rfl, by omega⟩ dX6_beside_21
  refine x_iload_n hx hb hl 1 rfl dX6_beside_14 rfl ?_
  refine x_bipush hx hb dX6_beside_15 (by decide) ?_
  refine x_icmp_lt (tgt := 22) hx hb rw (by decide) dX6_beside_17 (by decide) (fun c4 => ?_) (fun c4 => ?_)
  · skip
    refine x_iload_n hx hb hl 0 rfl dX6_beside_22 rfl ?_
    refine x_bipush hx hb dX6_beside_23 (by decide) ?_
    refine x_irem hx hb rx (by decide) (by omega) (by decide) dX6_beside_25 ?_
    refine va_getsN hx hb hE.2.2.1.1 hW.2.2 hown (xE_N hE wn786 rfl) (fun _ h9 => h9) dX6_beside_26 ?_
    refine x_iload_n hx hb hl 1 rfl dX6_beside_29 rfl ?_
    refine x_wx hx hb hE hW (by omega) dX6_beside_30 ?_
    refine x_nm (fun x5 ex5 => ?_)
    have rx5 : -1 ≤ x5 ∧ x5 ≤ 1 := by rw [ex5]; exact xwx_in _
    refine x_iadd hx hb dX6_beside_31 ?_
    refine x_nm (fun x6 ex6 => ?_)
    refine lv_istore_n (lv' := [(2, .int (xJ x6)), (0, .int (xJ x)), (1, .int (xJ w))]) hx hb dX6_beside_32 rfl hl (by decide) rfl (fun ls hl => ?_)
    refine x_iload_n hx hb hl 1 rfl dX6_beside_33 rfl ?_
    refine x_bipush hx hb dX6_beside_34 (by decide) ?_
    refine x_idiv hx hb rx (by decide) (by omega) (by decide) dX6_beside_36 ?_
    refine va_getsN hx hb hE.2.2.2.1.1 hW.2.2 hown (xE_N hE wn788 rfl) (fun _ h9 => h9) dX6_beside_37 ?_
    refine x_iload_n hx hb hl 2 rfl dX6_beside_40 rfl ?_
    refine x_wy hx hb hE hW (by omega) dX6_beside_41 ?_
    refine x_nm (fun x7 ex7 => ?_)
    have rx7 : -1 ≤ x7 ∧ x7 ≤ 1 := by rw [ex7]; exact xwy_in _
    refine x_iadd hx hb dX6_beside_42 ?_
    refine x_nm (fun x8 ex8 => ?_)
    refine lv_istore_n (lv' := [(3, .int (xJ x8)), (2, .int (xJ x6)), (0, .int (xJ x)), (1, .int (xJ w))]) hx hb dX6_beside_43 rfl hl (by decide) rfl (fun ls hl => ?_)
    refine x_iload_n hx hb hl 1 rfl dX6_beside_44 rfl ?_
    refine x_if_lt (tgt := 73) hx hb (by omega) dX6_beside_45 (by decide) (fun c9 => ?_) (fun c9 => ?_)
    · skip
      refine x_iconst hx hb dX6_beside_73 ?_
      rw [eQ]
      exact x_iret hx hb hr hlk hW (by decide) ⟨rfl, by omega⟩ dX6_beside_74
    refine x_iload_n hx hb hl 1 rfl dX6_beside_48 rfl ?_
    refine x_bipush hx hb dX6_beside_49 (by decide) ?_
    refine x_icmp_ge (tgt := 73) hx hb (by omega) (by decide) dX6_beside_51 (by decide) (fun c10 => ?_) (fun c10 => ?_)
    · skip
      refine x_iconst hx hb dX6_beside_73 ?_
      rw [eQ]
      exact x_iret hx hb hr hlk hW (by decide) ⟨rfl, by omega⟩ dX6_beside_74
    refine x_iload_n hx hb hl 0 rfl dX6_beside_54 rfl ?_
    refine x_if_lt (tgt := 73) hx hb (by omega) dX6_beside_55 (by decide) (fun c11 => ?_) (fun c11 => ?_)
    · skip
      refine x_iconst hx hb dX6_beside_73 ?_
      rw [eQ]
      exact x_iret hx hb hr hlk hW (by decide) ⟨rfl, by omega⟩ dX6_beside_74
    refine x_iload_n hx hb hl 0 rfl dX6_beside_58 rfl ?_
    refine x_bipush hx hb dX6_beside_59 (by decide) ?_
    refine x_icmp_ge (tgt := 73) hx hb (by omega) (by decide) dX6_beside_61 (by decide) (fun c12 => ?_) (fun c12 => ?_)
    · skip
      refine x_iconst hx hb dX6_beside_73 ?_
      rw [eQ]
      exact x_iret hx hb hr hlk hW (by decide) ⟨rfl, by omega⟩ dX6_beside_74
    refine x_bipush hx hb dX6_beside_64 (by decide) ?_
    refine x_iload_n hx hb hl 0 rfl dX6_beside_66 rfl ?_
    refine x_imul hx hb dX6_beside_67 ?_
    refine x_iload_n hx hb hl 1 rfl dX6_beside_68 rfl ?_
    refine x_iadd hx hb dX6_beside_69 ?_
    refine lv_goto (tgt := 74) hx hb dX6_beside_70 (by decide) ?_
    rw [eQ]
    exact x_iret hx hb hr hlk hW (by omega) ⟨rfl, by omega⟩ dX6_beside_74
  refine x_iconst hx hb dX6_beside_20 ?_
  rw [eQ]
  exact x_iret hx hb hr hlk hW (by decide) ⟨rfl, by omega⟩ dX6_beside_21
set_option maxHeartbeats 4000000 in
set_option maxRecDepth 100000 in
theorem c_X6_kindAt (l : Launch) (D : va_G) (g : xG) (T : Nat × Nat × Nat) (h0 : Nat) (s0 : xS) (hσ : xRR s0) (x : Int) (rx : xR x) (p0 : s0 4 = fun _ => 0) : Met l yX6_kindAt (xws yX6_kindAt cX6_kindAt 2 (some .int)) { frames := 0, cells := 0, slots := 0, locals := 0 } (xP [.ref (h0 + 3), .int (xJ x)] D g T h0 s0) (xQi D g h0 (fun r τ => s0 = τ ∧ ((0 ≤ x ∧ x < 100 ∧ r = 0) ∨ ((x < 0 ∨ 100 ≤ x) ∧ r = 1)))) 0 0 (xA h0) := by
  refine x_met hσ (by decide) (Nat.le_of_ble_eq_true rfl) ?_
  intro p e s m args below meth c hx hb hr hml hown hT hlk hnm hE hW ls hl
  have hl : lv_has ls 2 [(0, .ref (h0 + 3)), (1, .int (xJ x))] := hl
  obtain ⟨Q, eQ⟩ : ∃ Q, Q = MQ below (xQi D g h0 (fun r τ => s0 = τ ∧ ((0 ≤ x ∧ x < 100 ∧ r = 0) ∨ ((x < 0 ∨ 100 ≤ x) ∧ r = 1)))) args s 0 0 (xA h0) := ⟨_, rfl⟩
  rw [← eQ]
  generalize hHe : ([] : List Loc) = locs at hW ⊢
  obtain ⟨H, eH⟩ : ∃ H, H = s.heap := ⟨_, rfl⟩
  rw [← eH] at hW ⊢
  refine x_iload_n hx hb hl 1 rfl dX6_kindAt_0 rfl ?_
  refine x_if_lt (tgt := 19) hx hb rx dX6_kindAt_1 (by decide) (fun c1 => ?_) (fun c1 => ?_)
  · skip
    refine x_iconst hx hb dX6_kindAt_19 ?_
    rw [eQ]
    exact x_iret hx hb hr hlk hW (by decide) ⟨rfl, by omega⟩ dX6_kindAt_20
  refine x_iload_n hx hb hl 1 rfl dX6_kindAt_4 rfl ?_
  refine x_bipush hx hb dX6_kindAt_5 (by decide) ?_
  refine x_icmp_ge (tgt := 19) hx hb rx (by decide) dX6_kindAt_7 (by decide) (fun c2 => ?_) (fun c2 => ?_)
  · skip
    refine x_iconst hx hb dX6_kindAt_19 ?_
    rw [eQ]
    exact x_iret hx hb hr hlk hW (by decide) ⟨rfl, by omega⟩ dX6_kindAt_20
  refine x_aload_n hx hb hl 0 rfl dX6_kindAt_10 rfl ?_
  refine x_get (j := 0) (v := .ref (h0 + 4)) hx hb hown hT hE hW cls_X6 (Or.inl (by decide)) (so_3 h0 g _) (by decide) rfl wq226 dX6_kindAt_11 ?_
  refine x_iload_n hx hb hl 1 rfl dX6_kindAt_14 rfl ?_
  refine x_iald hx hb hE hW (Or.inl (by decide)) (sa_4 h0 g _) (by omega) (by decide) dX6_kindAt_15 ?_
  refine x_rd hW (fun x3 ex3 rx3 => ?_)
  have fx3 : x3 = 0 := by rw [ex3, p0]
  refine lv_goto (tgt := 20) hx hb dX6_kindAt_16 (by decide) ?_
  rw [eQ]
  exact x_iret hx hb hr hlk hW rx3 ⟨rfl, by omega⟩ dX6_kindAt_20
set_option maxHeartbeats 4000000 in
set_option maxRecDepth 100000 in
theorem c_X6_isOpen (l : Launch) (D : va_G) (g : xG) (T : Nat × Nat × Nat) (h0 : Nat) (s0 : xS) (hσ : xRR s0) (x : Int) (rx : xR x) (p0 : s0 4 = fun _ => 0) : Met l yX6_isOpen (xws yX6_isOpen cX6_isOpen 3 (some .boolean)) { frames := 1, cells := 0, slots := 0, locals := 21 } (xP [.ref (h0 + 3), .int (xJ x)] D g T h0 s0) (xQi D g h0 (fun r τ => s0 = τ ∧ ((0 ≤ x ∧ x < 100 ∧ r = 1) ∨ ((x < 0 ∨ 100 ≤ x) ∧ r = 0)))) 0 0 (xA h0) := by
  refine x_met hσ (by decide) (Nat.le_of_ble_eq_true rfl) ?_
  intro p e s m args below meth c hx hb hr hml hown hT hlk hnm hE hW ls hl
  have hl : lv_has ls 3 [(0, .ref (h0 + 3)), (1, .int (xJ x))] := hl
  obtain ⟨Q, eQ⟩ : ∃ Q, Q = MQ below (xQi D g h0 (fun r τ => s0 = τ ∧ ((0 ≤ x ∧ x < 100 ∧ r = 1) ∨ ((x < 0 ∨ 100 ≤ x) ∧ r = 0)))) args s 0 0 (xA h0) := ⟨_, rfl⟩
  rw [← eQ]
  generalize hHe : ([] : List Loc) = locs at hW ⊢
  obtain ⟨H, eH⟩ : ∃ H, H = s.heap := ⟨_, rfl⟩
  rw [← eH] at hW ⊢
  refine x_aload_n hx hb hl 0 rfl dX6_isOpen_0 rfl ?_
  refine x_iload_n hx hb hl 1 rfl dX6_isOpen_1 rfl ?_
  refine x_goi (x_runV (As := [.int (xJ x)]) hx hb hml hown hT hE hW hl.1 (Or.inl (by decide)) (so_3 h0 g _) rfl cf_X6_kindAt wq619 wq10 wq617 (c_X6_kindAt l D g T h0 s0 hW.2.1 x rx p0) ⟨rfl, rfl, ⟨by decide, by decide⟩, ⟨by decide, by decide⟩⟩ rfl rfl (Nat.le_of_ble_eq_true rfl) dX6_isOpen_2) hW (fun x1 s2 H locs rx1 hp3 hW => ?_)
  obtain ⟨es2, hp3⟩ := hp3
  subst es2
  have ghp3 := hp3
  refine lv_istore_n (lv' := [(2, .int (xJ x1)), (0, .ref (h0 + 3)), (1, .int (xJ x))]) hx hb dX6_isOpen_5 rfl hl (by decide) rfl (fun ls hl => ?_)
  refine x_iload_n hx hb hl 0 rfl dX6_isOpen_6 rfl ?_
  refine x_iconst hx hb dX6_isOpen_7 ?_
  refine x_icmp_eq (tgt := 20) hx hb rx1 (by decide) dX6_isOpen_8 (by decide) (fun c4 => ?_) (fun c4 => ?_)
  · skip
    refine x_iconst hx hb dX6_isOpen_20 ?_
    rw [eQ]
    exact x_zret hx hb hr hlk hW (by omega) ⟨rfl, by omega⟩ dX6_isOpen_21
  refine x_iload_n hx hb hl 0 rfl dX6_isOpen_11 rfl ?_
  refine x_iconst hx hb dX6_isOpen_12 ?_
  refine x_icmp_eq (tgt := 20) hx hb rx1 (by decide) dX6_isOpen_13 (by decide) (fun c5 => ?_) (fun c5 => ?_)
  · skip
    refine x_iconst hx hb dX6_isOpen_20 ?_
    rw [eQ]
    exact x_zret hx hb hr hlk hW (by omega) ⟨rfl, by omega⟩ dX6_isOpen_21
  refine x_iconst hx hb dX6_isOpen_16 ?_
  refine lv_goto (tgt := 21) hx hb dX6_isOpen_17 (by decide) ?_
  rw [eQ]
  exact x_zret hx hb hr hlk hW (by omega) ⟨rfl, by omega⟩ dX6_isOpen_21
set_option maxHeartbeats 4000000 in
set_option maxRecDepth 100000 in
theorem c_X6_openSpot (l : Launch) (D : va_G) (g : xG) (T : Nat × Nat × Nat) (h0 : Nat) (s0 : xS) (hσ : xRR s0) (x : Int) (rx : xR x) (y : Int) (ry : xR y) (p0 : s0 4 = fun _ => 0) : Met l yX6_openSpot (xws yX6_openSpot cX6_openSpot 4 (some .int)) { frames := 2, cells := 0, slots := 0, locals := 43 } (xP [.ref (h0 + 3), .int (xJ x), .int (xJ y)] D g T h0 s0) (xQi D g h0 (fun r τ => s0 = τ ∧ ((0 ≤ x ∧ x < 10 ∧ 0 ≤ y ∧ y < 10 ∧ r = 10 * y + x) ∨ ((x < 0 ∨ 10 ≤ x ∨ y < 0 ∨ 10 ≤ y) ∧ r = -1)))) 0 0 (xA h0) := by
  refine x_met hσ (by decide) (Nat.le_of_ble_eq_true rfl) ?_
  intro p e s m args below meth c hx hb hr hml hown hT hlk hnm hE hW ls hl
  have hl : lv_has ls 4 [(0, .ref (h0 + 3)), (1, .int (xJ x)), (2, .int (xJ y))] := hl
  obtain ⟨Q, eQ⟩ : ∃ Q, Q = MQ below (xQi D g h0 (fun r τ => s0 = τ ∧ ((0 ≤ x ∧ x < 10 ∧ 0 ≤ y ∧ y < 10 ∧ r = 10 * y + x) ∨ ((x < 0 ∨ 10 ≤ x ∨ y < 0 ∨ 10 ≤ y) ∧ r = -1)))) args s 0 0 (xA h0) := ⟨_, rfl⟩
  rw [← eQ]
  generalize hHe : ([] : List Loc) = locs at hW ⊢
  obtain ⟨H, eH⟩ : ∃ H, H = s.heap := ⟨_, rfl⟩
  rw [← eH] at hW ⊢
  refine x_iload_n hx hb hl 1 rfl dX6_openSpot_0 rfl ?_
  refine x_iload_n hx hb hl 2 rfl dX6_openSpot_1 rfl ?_
  refine x_goi (x_runS (As := [.int (xJ x), .int (xJ y)]) hx hb hml hown hT hE hW hl.1 cf_X6_spotAt wq708 wq707 (c_X6_spotAt l D g T h0 s0 hW.2.1 x rx y ry) ⟨rfl, rfl, ⟨by decide, by decide⟩, ⟨by decide, by decide⟩⟩ rfl rfl (Nat.le_of_ble_eq_true rfl) dX6_openSpot_2) hW (fun x1 s2 H locs rx1 hp3 hW => ?_)
  obtain ⟨es2, hp3⟩ := hp3
  subst es2
  have ghp3 := hp3
  refine lv_istore_n (lv' := [(3, .int (xJ x1)), (0, .ref (h0 + 3)), (1, .int (xJ x)), (2, .int (xJ y))]) hx hb dX6_openSpot_5 rfl hl (by decide) rfl (fun ls hl => ?_)
  refine x_aload_n hx hb hl 1 rfl dX6_openSpot_6 rfl ?_
  refine x_iload_n hx hb hl 0 rfl dX6_openSpot_7 rfl ?_
  refine x_goi (x_runV (As := [.int (xJ x1)]) hx hb hml hown hT hE hW hl.1 (Or.inl (by decide)) (so_3 h0 g _) rfl cf_X6_isOpen wq615 wq9 wq710 (c_X6_isOpen l D g T h0 s0 hW.2.1 x1 rx1 p0) ⟨rfl, rfl, ⟨by decide, by decide⟩, ⟨by decide, by decide⟩⟩ rfl rfl (Nat.le_of_ble_eq_true rfl) dX6_openSpot_8) hW (fun x4 s5 H locs rx4 hp6 hW => ?_)
  obtain ⟨es5, hp6⟩ := hp6
  subst es5
  have ghp6 := hp6
  refine x_if_eq (tgt := 18) hx hb rx4 dX6_openSpot_11 (by decide) (fun c7 => ?_) (fun c7 => ?_)
  · skip
    refine x_iconst hx hb dX6_openSpot_18 ?_
    rw [eQ]
    exact x_iret hx hb hr hlk hW (by decide) ⟨rfl, by omega⟩ dX6_openSpot_19
  refine x_iload_n hx hb hl 0 rfl dX6_openSpot_14 rfl ?_
  refine lv_goto (tgt := 19) hx hb dX6_openSpot_15 (by decide) ?_
  rw [eQ]
  exact x_iret hx hb hr hlk hW rx1 ⟨rfl, by omega⟩ dX6_openSpot_19
set_option maxHeartbeats 4000000 in
set_option maxRecDepth 100000 in
theorem c_X4_tellMinute (l : Launch) (D : va_G) (g : xG) (T : Nat × Nat × Nat) (h0 : Nat) (s0 : xS) (hσ : xRR s0) (t : Int) (rt : xR t) : Met l yX4_tellMinute (xws yX4_tellMinute cX4_tellMinute 3 none) { frames := 0, cells := 0, slots := 0, locals := 0 } (xP [.ref (h0 + 109), .int (xJ t)] D g T h0 s0) (xQv D g h0 (fun τ => xFr (fun k => k = 115) s0 τ ∧ (True))) 0 0 (xA h0) := by
  refine x_met hσ (by decide) (Nat.le_of_ble_eq_true rfl) ?_
  intro p e s m args below meth c hx hb hr hml hown hT hlk hnm hE hW ls hl
  have hl : lv_has ls 3 [(0, .ref (h0 + 109)), (1, .int (xJ t))] := hl
  obtain ⟨Q, eQ⟩ : ∃ Q, Q = MQ below (xQv D g h0 (fun τ => xFr (fun k => k = 115) s0 τ ∧ (True))) args s 0 0 (xA h0) := ⟨_, rfl⟩
  rw [← eQ]
  generalize hHe : ([] : List Loc) = locs at hW ⊢
  obtain ⟨H, eH⟩ : ∃ H, H = s.heap := ⟨_, rfl⟩
  rw [← eH] at hW ⊢
  have hF : xFr (fun k => k = 115) s0 s0 := xFr.rf
  refine x_iconst hx hb dX4_tellMinute_0 ?_
  refine lv_istore_n (lv' := [(2, .int (xJ 2)), (0, .ref (h0 + 109)), (1, .int (xJ t))]) hx hb dX4_tellMinute_1 rfl hl (by decide) rfl (fun ls hl => ?_)
  have L2 : ∀ (fu : Nat) (i2_2 : Int) (s_2 : xS) (H : Heap) (locs : List Loc) (ls : Array Slot), (xR i2_2) → (xFr (fun k => k = 115) s0 s_2) → (0 ≤ i2_2) → (7 - i2_2).toNat < fu → xW D g h0 s H locs s_2 → lv_has ls 3 [(0, .ref (h0 + 109)), (1, .int (xJ t)), (2, .int (xJ i2_2))] → W p l e { frames := 0, cells := 0, slots := 0, locals := 0 } s m args below meth c H locs 0 0 Q (F0 m 2 ls []) := by
    intro fu
    induction fu with
    | zero => intro i2_2 s_2 H locs ls ri2_2 hF_2 v2_0 hm; exact absurd hm (Nat.not_lt_zero _)
    | succ fu ih2 =>
      intro i2_2 s_2 H locs ls ri2_2 hF_2 v2_0 hm hW hl
      refine x_iload_n hx hb hl 2 rfl dX4_tellMinute_2 rfl ?_
      refine x_aload_n hx hb hl 0 rfl dX4_tellMinute_3 rfl ?_
      refine x_get (j := 7) (v := .ref (h0 + 115)) hx hb hown hT hE hW cls_X4 (Or.inl (by decide)) (so_109 h0 g _) (by decide) rfl wq264 dX4_tellMinute_4 ?_
      refine x_alen (n := 7) (t0 := 0) hx hb hE hW (Or.inl (by decide)) (sa_115 h0 g _) rfl rfl dX4_tellMinute_7 ?_
      refine x_icmp_ge (tgt := 24) hx hb ri2_2 (by decide) dX4_tellMinute_8 (by decide) (fun c1 => ?_) (fun c1 => ?_)
      · skip
        refine x_aload_n hx hb hl 0 rfl dX4_tellMinute_24 rfl ?_
        refine x_get (j := 7) (v := .ref (h0 + 115)) hx hb hown hT hE hW cls_X4 (Or.inl (by decide)) (so_109 h0 g _) (by decide) rfl wq264 dX4_tellMinute_25 ?_
        refine x_iconst hx hb dX4_tellMinute_28 ?_
        refine x_iload_n hx hb hl 1 rfl dX4_tellMinute_29 rfl ?_
        refine x_iast hx hb hE hW (by decide) (fun σ => sa_115 h0 g σ) ⟨by decide, by decide⟩ (by decide) rt dX4_tellMinute_30 (fun H locs s2 es2 hW => ?_)
        have hF3 := hF_2.put es2 (by omega)
        refine x_aload_n hx hb hl 0 rfl dX4_tellMinute_31 rfl ?_
        refine x_get (j := 7) (v := .ref (h0 + 115)) hx hb hown hT hE hW cls_X4 (Or.inl (by decide)) (so_109 h0 g _) (by decide) rfl wq264 dX4_tellMinute_32 ?_
        refine x_iconst hx hb dX4_tellMinute_35 ?_
        refine x_iload_n hx hb hl 1 rfl dX4_tellMinute_36 rfl ?_
        refine x_bipush hx hb dX4_tellMinute_37 (by decide) ?_
        refine x_idivQ hx hb (by decide) (by omega) dX4_tellMinute_39 (fun x4 rx4 => ?_)
        refine x_bipush hx hb dX4_tellMinute_40 (by decide) ?_
        refine x_iremQ hx hb (by decide) (by omega) dX4_tellMinute_42 (fun x5 rx5 => ?_)
        refine x_iast hx hb hE hW (by decide) (fun σ => sa_115 h0 g σ) ⟨by decide, by decide⟩ (by decide) rx5 dX4_tellMinute_43 (fun H locs s6 es6 hW => ?_)
        have hF7 := hF3.put es6 (by omega)
        rw [eQ]
        exact x_vret hx hb hr hlk hW ⟨hF7, trivial⟩ dX4_tellMinute_44
      refine x_aload_n hx hb hl 0 rfl dX4_tellMinute_11 rfl ?_
      refine x_get (j := 7) (v := .ref (h0 + 115)) hx hb hown hT hE hW cls_X4 (Or.inl (by decide)) (so_109 h0 g _) (by decide) rfl wq264 dX4_tellMinute_12 ?_
      refine x_iload_n hx hb hl 2 rfl dX4_tellMinute_15 rfl ?_
      refine x_iconst hx hb dX4_tellMinute_16 ?_
      refine x_iast hx hb hE hW (by decide) (fun σ => sa_115 h0 g σ) (by omega) (by decide) (by decide) dX4_tellMinute_17 (fun H locs s8 es8 hW => ?_)
      have hF9 := hF_2.put es8 (by omega)
      refine x_iinc (lv' := [(2, .int (xJ (i2_2 + 1))), (0, .ref (h0 + 109)), (1, .int (xJ t))]) hx hb hl 2 rfl dX4_tellMinute_18 (by decide) rfl (fun ls hl => ?_)
      refine lv_goto (tgt := 2) hx hb dX4_tellMinute_21 (by decide) ?_
      exact ih2 (i2_2 + 1) s8 H locs ls (by omega) hF9 (by omega) (by omega) hW (lv_sub hl [1, 2, 0] rfl)
  exact L2 ((7 - 2 : Int).toNat + 1) 2 s0 H locs ls (by decide) hF (by omega) (Nat.lt_succ_self _) hW (lv_sub hl [1, 2, 0] rfl)
set_option maxHeartbeats 4000000 in
set_option maxRecDepth 100000 in
theorem c_X4_worthOf (l : Launch) (D : va_G) (g : xG) (T : Nat × Nat × Nat) (h0 : Nat) (s0 : xS) (hσ : xRR s0) (q : Int) (rq : xR q) (t : Int) (rt : xR t) (p0 : s0 109 6 = 0) : Met l yX4_worthOf (xws yX4_worthOf cX4_worthOf 4 (some .int)) { frames := 0, cells := 0, slots := 0, locals := 0 } (xP [.ref (h0 + 109), .int (xJ q), .int (xJ t)] D g T h0 s0) (xQi D g h0 (fun r τ => s0 = τ ∧ (r = 0))) 0 0 (xA h0) := by
  refine x_met hσ (by decide) (Nat.le_of_ble_eq_true rfl) ?_
  intro p e s m args below meth c hx hb hr hml hown hT hlk hnm hE hW ls hl
  have hl : lv_has ls 4 [(0, .ref (h0 + 109)), (1, .int (xJ q)), (2, .int (xJ t))] := hl
  obtain ⟨Q, eQ⟩ : ∃ Q, Q = MQ below (xQi D g h0 (fun r τ => s0 = τ ∧ (r = 0))) args s 0 0 (xA h0) := ⟨_, rfl⟩
  rw [← eQ]
  generalize hHe : ([] : List Loc) = locs at hW ⊢
  obtain ⟨H, eH⟩ : ∃ H, H = s.heap := ⟨_, rfl⟩
  rw [← eH] at hW ⊢
  refine x_iconst hx hb dX4_worthOf_0 ?_
  refine lv_istore_n (lv' := [(3, .int (xJ 0)), (0, .ref (h0 + 109)), (1, .int (xJ q)), (2, .int (xJ t))]) hx hb dX4_worthOf_1 rfl hl (by decide) rfl (fun ls hl => ?_)
  refine x_iload_n hx hb hl 0 rfl dX4_worthOf_2 rfl ?_
  refine x_aload_n hx hb hl 1 rfl dX4_worthOf_3 rfl ?_
  refine x_get (j := 6) (v := .int (xJ (s0 109 6))) hx hb hown hT hE hW cls_X4 (Or.inl (by decide)) (so_109 h0 g _) (by decide) rfl wq261 dX4_worthOf_4 ?_
  refine x_rd hW (fun x1 ex1 rx1 => ?_)
  have fx1 : x1 = 0 := by rw [ex1, p0]
  refine x_icmp_ge (tgt := 58) hx hb (by decide) rx1 dX4_worthOf_7 (by decide) (fun c2 => ?_) (fun c2 => False.elim (by omega))
  refine x_iconst hx hb dX4_worthOf_58 ?_
  rw [eQ]
  exact x_iret hx hb hr hlk hW (by decide) ⟨rfl, by omega⟩ dX4_worthOf_59
set_option maxHeartbeats 4000000 in
set_option maxRecDepth 100000 in
theorem c_X4_isNight (l : Launch) (D : va_G) (g : xG) (T : Nat × Nat × Nat) (h0 : Nat) (s0 : xS) (hσ : xRR s0) (t : Int) (rt : xR t) (p0 : s0 109 6 = 0) : Met l yX4_isNight (xws yX4_isNight cX4_isNight 3 (some .boolean)) { frames := 1, cells := 0, slots := 0, locals := 22 } (xP [.ref (h0 + 109), .int (xJ t)] D g T h0 s0) (xQi D g h0 (fun r τ => xFr (fun k => k = 115) s0 τ ∧ (r = 0))) 0 0 (xA h0) := by
  refine x_met hσ (by decide) (Nat.le_of_ble_eq_true rfl) ?_
  intro p e s m args below meth c hx hb hr hml hown hT hlk hnm hE hW ls hl
  have hl : lv_has ls 3 [(0, .ref (h0 + 109)), (1, .int (xJ t))] := hl
  obtain ⟨Q, eQ⟩ : ∃ Q, Q = MQ below (xQi D g h0 (fun r τ => xFr (fun k => k = 115) s0 τ ∧ (r = 0))) args s 0 0 (xA h0) := ⟨_, rfl⟩
  rw [← eQ]
  generalize hHe : ([] : List Loc) = locs at hW ⊢
  obtain ⟨H, eH⟩ : ∃ H, H = s.heap := ⟨_, rfl⟩
  rw [← eH] at hW ⊢
  have hF : xFr (fun k => k = 115) s0 s0 := xFr.rf
  refine x_aload_n hx hb hl 0 rfl dX4_isNight_0 rfl ?_
  refine x_iload_n hx hb hl 1 rfl dX4_isNight_1 rfl ?_
  refine x_gov (x_runV (As := [.int (xJ t)]) hx hb hml hown hT hE hW hl.1 (Or.inl (by decide)) (so_109 h0 g _) rfl cf_X4_tellMinute wq793 wq40 wq821 (c_X4_tellMinute l D g T h0 s0 hW.2.1 t rt) ⟨rfl, rfl, ⟨by decide, by decide⟩, ⟨by decide, by decide⟩⟩ rfl rfl (Nat.le_of_ble_eq_true rfl) dX4_isNight_2) hW (fun s2 H locs hp3 hW => ?_)
  obtain ⟨fs2, hp3⟩ := hp3
  have hF4 := hF.call fs2 (fun k h => by omega)
  have q5 : s2 109 6 = 0 := (congrFun (fs2 _ (by omega)) _).trans p0
  have ghp3 := hp3
  refine x_iconst hx hb dX4_isNight_5 ?_
  refine lv_istore_n (lv' := [(2, .int (xJ 0)), (0, .ref (h0 + 109)), (1, .int (xJ t))]) hx hb dX4_isNight_6 rfl hl (by decide) rfl (fun ls hl => ?_)
  refine x_iload_n hx hb hl 0 rfl dX4_isNight_7 rfl ?_
  refine x_aload_n hx hb hl 1 rfl dX4_isNight_8 rfl ?_
  refine x_get (j := 6) (v := .int (xJ (s2 109 6))) hx hb hown hT hE hW cls_X4 (Or.inl (by decide)) (so_109 h0 g _) (by decide) rfl wq261 dX4_isNight_9 ?_
  refine x_rd hW (fun x6 ex6 rx6 => ?_)
  have fx6 : x6 = 0 := by rw [ex6, q5]
  refine x_icmp_ge (tgt := 47) hx hb (by decide) rx6 dX4_isNight_12 (by decide) (fun c7 => ?_) (fun c7 => False.elim (by omega))
  refine x_iconst hx hb dX4_isNight_47 ?_
  rw [eQ]
  exact x_zret hx hb hr hlk hW (by omega) ⟨hF4, by omega⟩ dX4_isNight_48
