set_option maxHeartbeats 4000000 in
set_option maxRecDepth 100000 in
theorem c_X6_spotAt (l : Launch) (D : va_G) (g : xG) (T : Nat × Nat × Nat) (h0 : Nat) (s0 : xS) (hσ : xRR s0) (x : Int) (rx : xR x) (y : Int) (ry : xR y) : Met l yX6_spotAt (xws yX6_spotAt cX6_spotAt 2 (some .int)) { frames := 0, cells := 0, slots := 0, locals := 0 } (xP [.int (xJ x), .int (xJ y)] D g T h0 s0) (xQi D g h0 (fun r τ => s0 = τ ∧ ((0 ≤ x ∧ x < 10 ∧ 0 ≤ y ∧ y < 10 ∧ r = 10 * y + x) ∨ ((x < 0 ∨ 10 ≤ x ∨ y < 0 ∨ 10 ≤ y) ∧ r = -1)))) 0 0 (xA h0) := by
  refine x_met hσ (by decide) (Nat.le_of_ble_eq_true rfl) ?_
  intro p e s m args below meth c hx hb hr hml hown hT hlk hnm hE hW ls hl
  have hl : lv_has ls 2 [(0, .int (xJ x)), (1, .int (xJ y))] := hl
  obtain ⟨Q, eQ⟩ : ∃ Q, Q = MQ below (xQi D g h0 (fun r τ => s0 = τ ∧ ((0 ≤ x ∧ x < 10 ∧ 0 ≤ y ∧ y < 10 ∧ r = 10 * y + x) ∨ ((x < 0 ∨ 10 ≤ x ∨ y < 0 ∨ 10 ≤ y) ∧ r = -1)))) args s 0 0 (xA h0) := ⟨_, rfl⟩
  rw [← eQ]
  generalize hHe : ([] : List Loc) = locs at hW ⊢
  obtain ⟨H, eH⟩ : ∃ H, H = s.heap := ⟨_, rfl⟩
  rw [← eH] at hW ⊢
  refine x_iload_n hx hb hl 0 rfl dX6_spotAt_0 rfl ?_
  refine x_if_lt (tgt := 29) hx hb rx dX6_spotAt_1 (by decide) (fun c1 => ?_) (fun c1 => ?_)
  · skip
    refine x_iconst hx hb dX6_spotAt_29 ?_
    rw [eQ]
    exact x_iret hx hb hr hlk hW (by decide) ⟨rfl, by omega⟩ dX6_spotAt_30
  refine x_iload_n hx hb hl 0 rfl dX6_spotAt_4 rfl ?_
  refine x_bipush hx hb dX6_spotAt_5 (by decide) ?_
  refine x_icmp_ge (tgt := 29) hx hb rx (by decide) dX6_spotAt_7 (by decide) (fun c2 => ?_) (fun c2 => ?_)
  · skip
    refine x_iconst hx hb dX6_spotAt_29 ?_
    rw [eQ]
    exact x_iret hx hb hr hlk hW (by decide) ⟨rfl, by omega⟩ dX6_spotAt_30
  refine x_iload_n hx hb hl 1 rfl dX6_spotAt_10 rfl ?_
  refine x_if_lt (tgt := 29) hx hb ry dX6_spotAt_11 (by decide) (fun c3 => ?_) (fun c3 => ?_)
  · skip
    refine x_iconst hx hb dX6_spotAt_29 ?_
    rw [eQ]
    exact x_iret hx hb hr hlk hW (by decide) ⟨rfl, by omega⟩ dX6_spotAt_30
  refine x_iload_n hx hb hl 1 rfl dX6_spotAt_14 rfl ?_
  refine x_bipush hx hb dX6_spotAt_15 (by decide) ?_
  refine x_icmp_ge (tgt := 29) hx hb ry (by decide) dX6_spotAt_17 (by decide) (fun c4 => ?_) (fun c4 => ?_)
  · skip
    refine x_iconst hx hb dX6_spotAt_29 ?_
    rw [eQ]
    exact x_iret hx hb hr hlk hW (by decide) ⟨rfl, by omega⟩ dX6_spotAt_30
  refine x_bipush hx hb dX6_spotAt_20 (by decide) ?_
  refine x_iload_n hx hb hl 1 rfl dX6_spotAt_22 rfl ?_
  refine x_imul hx hb dX6_spotAt_23 ?_
  refine x_iload_n hx hb hl 0 rfl dX6_spotAt_24 rfl ?_
  refine x_iadd hx hb dX6_spotAt_25 ?_
  refine lv_goto (tgt := 30) hx hb dX6_spotAt_26 (by decide) ?_
  rw [eQ]
  exact x_iret hx hb hr hlk hW (by omega) ⟨rfl, by omega⟩ dX6_spotAt_30
set_option maxHeartbeats 4000000 in
set_option maxRecDepth 100000 in
theorem c_X6_isSpot (l : Launch) (D : va_G) (g : xG) (T : Nat × Nat × Nat) (h0 : Nat) (s0 : xS) (hσ : xRR s0) (x : Int) (rx : xR x) : Met l yX6_isSpot (xws yX6_isSpot cX6_isSpot 1 (some .boolean)) { frames := 0, cells := 0, slots := 0, locals := 0 } (xP [.int (xJ x)] D g T h0 s0) (xQi D g h0 (fun r τ => s0 = τ ∧ ((r = 1 ∧ 0 ≤ x ∧ x < 100) ∨ (r = 0 ∧ (x < 0 ∨ 100 ≤ x))))) 0 0 (xA h0) := by
  refine x_met hσ (by decide) (Nat.le_of_ble_eq_true rfl) ?_
  intro p e s m args below meth c hx hb hr hml hown hT hlk hnm hE hW ls hl
  have hl : lv_has ls 1 [(0, .int (xJ x))] := hl
  obtain ⟨Q, eQ⟩ : ∃ Q, Q = MQ below (xQi D g h0 (fun r τ => s0 = τ ∧ ((r = 1 ∧ 0 ≤ x ∧ x < 100) ∨ (r = 0 ∧ (x < 0 ∨ 100 ≤ x))))) args s 0 0 (xA h0) := ⟨_, rfl⟩
  rw [← eQ]
  generalize hHe : ([] : List Loc) = locs at hW ⊢
  obtain ⟨H, eH⟩ : ∃ H, H = s.heap := ⟨_, rfl⟩
  rw [← eH] at hW ⊢
  refine x_iload_n hx hb hl 0 rfl dX6_isSpot_0 rfl ?_
  refine x_if_lt (tgt := 14) hx hb rx dX6_isSpot_1 (by decide) (fun c1 => ?_) (fun c1 => ?_)
  · skip
    refine x_iconst hx hb dX6_isSpot_14 ?_
    rw [eQ]
    exact x_zret hx hb hr hlk hW (by omega) ⟨rfl, by omega⟩ dX6_isSpot_15
  refine x_iload_n hx hb hl 0 rfl dX6_isSpot_4 rfl ?_
  refine x_bipush hx hb dX6_isSpot_5 (by decide) ?_
  refine x_icmp_ge (tgt := 14) hx hb rx (by decide) dX6_isSpot_7 (by decide) (fun c2 => ?_) (fun c2 => ?_)
  · skip
    refine x_iconst hx hb dX6_isSpot_14 ?_
    rw [eQ]
    exact x_zret hx hb hr hlk hW (by omega) ⟨rfl, by omega⟩ dX6_isSpot_15
  refine x_iconst hx hb dX6_isSpot_10 ?_
  refine lv_goto (tgt := 15) hx hb dX6_isSpot_11 (by decide) ?_
  rw [eQ]
  exact x_zret hx hb hr hlk hW (by omega) ⟨rfl, by omega⟩ dX6_isSpot_15
set_option maxHeartbeats 4000000 in
set_option maxRecDepth 100000 in
theorem c_X6_beside (l : Launch) (D : va_G) (g : xG) (T : Nat × Nat × Nat) (h0 : Nat) (s0 : xS) (hσ : xRR s0) (x : Int) (rx : xR x) (w : Int) (rw : xR w) : Met l yX6_beside (xws yX6_beside cX6_beside 4 (some .int)) { frames := 0, cells := 0, slots := 0, locals := 0 } (xP [.int (xJ x), .int (xJ w)] D g T h0 s0) (xQi D g h0 (fun r τ => s0 = τ ∧ (r = -1 ∨ (0 ≤ r ∧ r < 100)))) 0 0 (xA h0) := by
  refine x_met hσ (by decide) (Nat.le_of_ble_eq_true rfl) ?_
  intro p e s m args below meth c hx hb hr hml hown hT hlk hnm hE hW ls hl
  have hl : lv_has ls 4 [(0, .int (xJ x)), (1, .int (xJ w))] := hl
  obtain ⟨Q, eQ⟩ : ∃ Q, Q = MQ below (xQi D g h0 (fun r τ => s0 = τ ∧ (r = -1 ∨ (0 ≤ r ∧ r < 100)))) args s 0 0 (xA h0) := ⟨_, rfl⟩
  rw [← eQ]
  generalize hHe : ([] : List Loc) = locs at hW ⊢
  obtain ⟨H, eH⟩ : ∃ H, H = s.heap := ⟨_, rfl⟩
  rw [← eH] at hW ⊢
  refine x_iload_n hx hb hl 0 rfl dX6_beside_0 rfl ?_
  refine x_if_lt (tgt := 20) hx hb rx dX6_beside_1 (by decide) (fun c1 => ?_) (fun c1 => ?_)
  · skip
    refine x_iconst hx hb dX6_beside_20 ?_
    rw [eQ]
    exact x_iret hx hb hr hlk hW (by decide) ⟨rfl, by omega⟩ dX6_beside_21
  refine x_iload_n hx hb hl 0 rfl dX6_beside_4 rfl ?_
  refine x_bipush hx hb dX6_beside_5 (by decide) ?_
  refine x_icmp_ge (tgt := 20) hx hb rx (by decide) dX6_beside_7 (by decide) (fun c2 => ?_) (fun c2 => ?_)
  · skip
    refine x_iconst hx hb dX6_beside_20 ?_
    rw [eQ]
    exact x_iret hx hb hr hlk hW (by decide) ⟨rfl, by omega⟩ dX6_beside_21
  refine x_iload_n hx hb hl 1 rfl dX6_beside_10 rfl ?_
  refine x_if_lt (tgt := 20) hx hb rw dX6_beside_11 (by decide) (fun c3 => ?_) (fun c3 => ?_)
  · skip
    refine x_iconst hx hb dX6_beside_20 ?_
    rw [eQ]
    exact x_iret hx hb hr hlk hW (by decide) ⟨rfl, by omega⟩ dX6_beside_21
  refine x_iload_n hx hb hl 1 rfl dX6_beside_14 rfl ?_
  refine x_bipush hx hb dX6_beside_15 (by decide) ?_
  refine x_icmp_lt (tgt := 22) hx hb rw (by decide) dX6_beside_17 (by decide) (fun c4 => ?_) (fun c4 => ?_)
  · skip
    refine x_iload_n hx hb hl 0 rfl dX6_beside_22 rfl ?_
    refine x_bipush hx hb dX6_beside_23 (by decide) ?_
    refine x_irem hx hb rx (by decide) (by omega) (by decide) dX6_beside_25 ?_
    refine va_getsN hx hb hE.2.2.1.1 hW.2.2 hown (xE_N hE wn786 rfl) (fun _ h9 => h9) dX6_beside_26 ?_
    refine x_iload_n hx hb hl 1 rfl dX6_beside_29 rfl ?_
    refine x_wx hx hb hE hW (by omega) dX6_beside_30 ?_
    refine x_nm (fun x5 ex5 => ?_)
    have rx5 : -1 ≤ x5 ∧ x5 ≤ 1 := by rw [ex5]; exact xwx_in _
    refine x_iadd hx hb dX6_beside_31 ?_
    refine x_nm (fun x6 ex6 => ?_)
    refine lv_istore_n (lv' := [(2, .int (xJ x6)), (0, .int (xJ x)), (1, .int (xJ w))]) hx hb dX6_beside_32 rfl hl (by decide) rfl (fun ls hl => ?_)
    refine x_iload_n hx hb hl 1 rfl dX6_beside_33 rfl ?_
    refine x_bipush hx hb dX6_beside_34 (by decide) ?_
    refine x_idiv hx hb rx (by decide) (by omega) (by decide) dX6_beside_36 ?_
    refine va_getsN hx hb hE.2.2.2.1.1 hW.2.2 hown (xE_N hE wn788 rfl) (fun _ h9 => h9) dX6_beside_37 ?_
    refine x_iload_n hx hb hl 2 rfl dX6_beside_40 rfl ?_
    refine x_wy hx hb hE hW (by omega) dX6_beside_41 ?_
    refine x_nm (fun x7 ex7 => ?_)
    have rx7 : -1 ≤ x7 ∧ x7 ≤ 1 := by rw [ex7]; exact xwy_in _
    refine x_iadd hx hb dX6_beside_42 ?_
    refine x_nm (fun x8 ex8 => ?_)
    refine lv_istore_n (lv' := [(3, .int (xJ x8)), (2, .int (xJ x6)), (0, .int (xJ x)), (1, .int (xJ w))]) hx hb dX6_beside_43 rfl hl (by decide) rfl (fun ls hl => ?_)
    refine x_iload_n hx hb hl 1 rfl dX6_beside_44 rfl ?_
    refine x_if_lt (tgt := 73) hx hb (by omega) dX6_beside_45 (by decide) (fun c9 => ?_) (fun c9 => ?_)
    · skip
      refine x_iconst hx hb dX6_beside_73 ?_
      rw [eQ]
      exact x_iret hx hb hr hlk hW (by decide) ⟨rfl, by omega⟩ dX6_beside_74
    refine x_iload_n hx hb hl 1 rfl dX6_beside_48 rfl ?_
    refine x_bipush hx hb dX6_beside_49 (by decide) ?_
    refine x_icmp_ge (tgt := 73) hx hb (by omega) (by decide) dX6_beside_51 (by decide) (fun c10 => ?_) (fun c10 => ?_)
    · skip
      refine x_iconst hx hb dX6_beside_73 ?_
      rw [eQ]
      exact x_iret hx hb hr hlk hW (by decide) ⟨rfl, by omega⟩ dX6_beside_74
    refine x_iload_n hx hb hl 0 rfl dX6_beside_54 rfl ?_
    refine x_if_lt (tgt := 73) hx hb (by omega) dX6_beside_55 (by decide) (fun c11 => ?_) (fun c11 => ?_)
    · skip
      refine x_iconst hx hb dX6_beside_73 ?_
      rw [eQ]
      exact x_iret hx hb hr hlk hW (by decide) ⟨rfl, by omega⟩ dX6_beside_74
    refine x_iload_n hx hb hl 0 rfl dX6_beside_58 rfl ?_
    refine x_bipush hx hb dX6_beside_59 (by decide) ?_
    refine x_icmp_ge (tgt := 73) hx hb (by omega) (by decide) dX6_beside_61 (by decide) (fun c12 => ?_) (fun c12 => ?_)
    · skip
      refine x_iconst hx hb dX6_beside_73 ?_
      rw [eQ]
      exact x_iret hx hb hr hlk hW (by decide) ⟨rfl, by omega⟩ dX6_beside_74
    refine x_bipush hx hb dX6_beside_64 (by decide) ?_
    refine x_iload_n hx hb hl 0 rfl dX6_beside_66 rfl ?_
    refine x_imul hx hb dX6_beside_67 ?_
    refine x_iload_n hx hb hl 1 rfl dX6_beside_68 rfl ?_
    refine x_iadd hx hb dX6_beside_69 ?_
    refine lv_goto (tgt := 74) hx hb dX6_beside_70 (by decide) ?_
    rw [eQ]
    exact x_iret hx hb hr hlk hW (by omega) ⟨rfl, by omega⟩ dX6_beside_74
  refine x_iconst hx hb dX6_beside_20 ?_
  rw [eQ]
  exact x_iret hx hb hr hlk hW (by decide) ⟨rfl, by omega⟩ dX6_beside_21
set_option maxHeartbeats 4000000 in
set_option maxRecDepth 100000 in
theorem c_X6_kindAt (l : Launch) (D : va_G) (g : xG) (T : Nat × Nat × Nat) (h0 : Nat) (s0 : xS) (hσ : xRR s0) (x : Int) (rx : xR x) (p0 : IC s0) : Met l yX6_kindAt (xws yX6_kindAt cX6_kindAt 2 (some .int)) { frames := 0, cells := 0, slots := 0, locals := 0 } (xP [.ref (h0 + 3), .int (xJ x)] D g T h0 s0) (xQi D g h0 (fun r τ => s0 = τ ∧ ((0 ≤ x ∧ x < 100 ∧ r = s0 4 x) ∨ ((x < 0 ∨ 100 ≤ x) ∧ r = 1)))) 0 0 (xA h0) := by
  refine x_met hσ (by decide) (Nat.le_of_ble_eq_true rfl) ?_
  intro p e s m args below meth c hx hb hr hml hown hT hlk hnm hE hW ls hl
  have hl : lv_has ls 2 [(0, .ref (h0 + 3)), (1, .int (xJ x))] := hl
  obtain ⟨Q, eQ⟩ : ∃ Q, Q = MQ below (xQi D g h0 (fun r τ => s0 = τ ∧ ((0 ≤ x ∧ x < 100 ∧ r = s0 4 x) ∨ ((x < 0 ∨ 100 ≤ x) ∧ r = 1)))) args s 0 0 (xA h0) := ⟨_, rfl⟩
  rw [← eQ]
  generalize hHe : ([] : List Loc) = locs at hW ⊢
  obtain ⟨H, eH⟩ : ∃ H, H = s.heap := ⟨_, rfl⟩
  rw [← eH] at hW ⊢
  have k1_1 : s0 1 1 = s0 1 1 := rfl
  refine x_iload_n hx hb hl 1 rfl dX6_kindAt_0 rfl ?_
  refine x_if_lt (tgt := 19) hx hb rx dX6_kindAt_1 (by decide) (fun c1 => ?_) (fun c1 => ?_)
  · skip
    refine x_iconst hx hb dX6_kindAt_19 ?_
    rw [eQ]
    exact x_iret hx hb hr hlk hW (by decide) ⟨rfl, by omega⟩ dX6_kindAt_20
  refine x_iload_n hx hb hl 1 rfl dX6_kindAt_4 rfl ?_
  refine x_bipush hx hb dX6_kindAt_5 (by decide) ?_
  refine x_icmp_ge (tgt := 19) hx hb rx (by decide) dX6_kindAt_7 (by decide) (fun c2 => ?_) (fun c2 => ?_)
  · skip
    refine x_iconst hx hb dX6_kindAt_19 ?_
    rw [eQ]
    exact x_iret hx hb hr hlk hW (by decide) ⟨rfl, by omega⟩ dX6_kindAt_20
  refine x_aload_n hx hb hl 0 rfl dX6_kindAt_10 rfl ?_
  refine x_get (j := 0) (v := .ref (h0 + 4)) hx hb hown hT hE hW cls_X6 (Or.inl (by decide)) (so_3 h0 g _) (by decide) rfl wq226 dX6_kindAt_11 ?_
  refine x_iload_n hx hb hl 1 rfl dX6_kindAt_14 rfl ?_
  refine x_iald hx hb hE hW (Or.inl (by decide)) (sa_4 h0 g _) (by omega) (by decide) dX6_kindAt_15 ?_
  refine x_rd hW (fun x3 ex3 rx3 => ?_)
  refine lv_goto (tgt := 20) hx hb dX6_kindAt_16 (by decide) ?_
  rw [eQ]
  exact x_iret hx hb hr hlk hW rx3 ⟨rfl, by omega⟩ dX6_kindAt_20
set_option maxHeartbeats 4000000 in
set_option maxRecDepth 100000 in
theorem c_X6_isOpen (l : Launch) (D : va_G) (g : xG) (T : Nat × Nat × Nat) (h0 : Nat) (s0 : xS) (hσ : xRR s0) (x : Int) (rx : xR x) (p0 : IC s0) : Met l yX6_isOpen (xws yX6_isOpen cX6_isOpen 3 (some .boolean)) { frames := 1, cells := 0, slots := 0, locals := 21 } (xP [.ref (h0 + 3), .int (xJ x)] D g T h0 s0) (xQi D g h0 (fun r τ => s0 = τ ∧ (r = 0 ∨ (r = 1 ∧ 0 ≤ x ∧ x < 100)))) 0 0 (xA h0) := by
  refine x_met hσ (by decide) (Nat.le_of_ble_eq_true rfl) ?_
  intro p e s m args below meth c hx hb hr hml hown hT hlk hnm hE hW ls hl
  have hl : lv_has ls 3 [(0, .ref (h0 + 3)), (1, .int (xJ x))] := hl
  obtain ⟨Q, eQ⟩ : ∃ Q, Q = MQ below (xQi D g h0 (fun r τ => s0 = τ ∧ (r = 0 ∨ (r = 1 ∧ 0 ≤ x ∧ x < 100)))) args s 0 0 (xA h0) := ⟨_, rfl⟩
  rw [← eQ]
  generalize hHe : ([] : List Loc) = locs at hW ⊢
  obtain ⟨H, eH⟩ : ∃ H, H = s.heap := ⟨_, rfl⟩
  rw [← eH] at hW ⊢
  have k1_1 : s0 1 1 = s0 1 1 := rfl
  refine x_aload_n hx hb hl 0 rfl dX6_isOpen_0 rfl ?_
  refine x_iload_n hx hb hl 1 rfl dX6_isOpen_1 rfl ?_
  refine x_goi (x_runV (As := [.int (xJ x)]) hx hb hml hown hT hE hW hl.1 (Or.inl (by decide)) (so_3 h0 g _) rfl cf_X6_kindAt wq619 wq10 wq617 (c_X6_kindAt l D g T h0 s0 hW.2.1 x rx p0) ⟨rfl, rfl, ⟨by decide, by decide⟩, ⟨by decide, by decide⟩⟩ rfl rfl (Nat.le_of_ble_eq_true rfl) dX6_isOpen_2) hW (fun x1 s2 H locs rx1 hp3 hW => ?_)
  obtain ⟨es2, hp3⟩ := hp3
  subst es2
  have ghp3 := hp3
  refine lv_istore_n (lv' := [(2, .int (xJ x1)), (0, .ref (h0 + 3)), (1, .int (xJ x))]) hx hb dX6_isOpen_5 rfl hl (by decide) rfl (fun ls hl => ?_)
  refine x_iload_n hx hb hl 0 rfl dX6_isOpen_6 rfl ?_
  refine x_iconst hx hb dX6_isOpen_7 ?_
  refine x_icmp_eq (tgt := 20) hx hb rx1 (by decide) dX6_isOpen_8 (by decide) (fun c4 => ?_) (fun c4 => ?_)
  · skip
    refine x_iconst hx hb dX6_isOpen_20 ?_
    rw [eQ]
    exact x_zret hx hb hr hlk hW (by omega) ⟨rfl, by omega⟩ dX6_isOpen_21
  refine x_iload_n hx hb hl 0 rfl dX6_isOpen_11 rfl ?_
  refine x_iconst hx hb dX6_isOpen_12 ?_
  refine x_icmp_eq (tgt := 20) hx hb rx1 (by decide) dX6_isOpen_13 (by decide) (fun c5 => ?_) (fun c5 => ?_)
  · skip
    refine x_iconst hx hb dX6_isOpen_20 ?_
    rw [eQ]
    exact x_zret hx hb hr hlk hW (by omega) ⟨rfl, by omega⟩ dX6_isOpen_21
  refine x_iconst hx hb dX6_isOpen_16 ?_
  refine lv_goto (tgt := 21) hx hb dX6_isOpen_17 (by decide) ?_
  rw [eQ]
  exact x_zret hx hb hr hlk hW (by omega) ⟨rfl, by omega⟩ dX6_isOpen_21
set_option maxHeartbeats 4000000 in
set_option maxRecDepth 100000 in
theorem c_X6_openSpot (l : Launch) (D : va_G) (g : xG) (T : Nat × Nat × Nat) (h0 : Nat) (s0 : xS) (hσ : xRR s0) (x : Int) (rx : xR x) (y : Int) (ry : xR y) (p0 : IC s0) : Met l yX6_openSpot (xws yX6_openSpot cX6_openSpot 4 (some .int)) { frames := 2, cells := 0, slots := 0, locals := 43 } (xP [.ref (h0 + 3), .int (xJ x), .int (xJ y)] D g T h0 s0) (xQi D g h0 (fun r τ => s0 = τ ∧ (r = -1 ∨ (0 ≤ x ∧ x < 10 ∧ 0 ≤ y ∧ y < 10 ∧ r = 10 * y + x)))) 0 0 (xA h0) := by
  refine x_met hσ (by decide) (Nat.le_of_ble_eq_true rfl) ?_
  intro p e s m args below meth c hx hb hr hml hown hT hlk hnm hE hW ls hl
  have hl : lv_has ls 4 [(0, .ref (h0 + 3)), (1, .int (xJ x)), (2, .int (xJ y))] := hl
  obtain ⟨Q, eQ⟩ : ∃ Q, Q = MQ below (xQi D g h0 (fun r τ => s0 = τ ∧ (r = -1 ∨ (0 ≤ x ∧ x < 10 ∧ 0 ≤ y ∧ y < 10 ∧ r = 10 * y + x)))) args s 0 0 (xA h0) := ⟨_, rfl⟩
  rw [← eQ]
  generalize hHe : ([] : List Loc) = locs at hW ⊢
  obtain ⟨H, eH⟩ : ∃ H, H = s.heap := ⟨_, rfl⟩
  rw [← eH] at hW ⊢
  have k1_1 : s0 1 1 = s0 1 1 := rfl
  refine x_iload_n hx hb hl 1 rfl dX6_openSpot_0 rfl ?_
  refine x_iload_n hx hb hl 2 rfl dX6_openSpot_1 rfl ?_
  refine x_goi (x_runS (As := [.int (xJ x), .int (xJ y)]) hx hb hml hown hT hE hW hl.1 cf_X6_spotAt wq708 wq707 (c_X6_spotAt l D g T h0 s0 hW.2.1 x rx y ry) ⟨rfl, rfl, ⟨by decide, by decide⟩, ⟨by decide, by decide⟩⟩ rfl rfl (Nat.le_of_ble_eq_true rfl) dX6_openSpot_2) hW (fun x1 s2 H locs rx1 hp3 hW => ?_)
  obtain ⟨es2, hp3⟩ := hp3
  subst es2
  have ghp3 := hp3
  refine lv_istore_n (lv' := [(3, .int (xJ x1)), (0, .ref (h0 + 3)), (1, .int (xJ x)), (2, .int (xJ y))]) hx hb dX6_openSpot_5 rfl hl (by decide) rfl (fun ls hl => ?_)
  refine x_aload_n hx hb hl 1 rfl dX6_openSpot_6 rfl ?_
  refine x_iload_n hx hb hl 0 rfl dX6_openSpot_7 rfl ?_
  refine x_goi (x_runV (As := [.int (xJ x1)]) hx hb hml hown hT hE hW hl.1 (Or.inl (by decide)) (so_3 h0 g _) rfl cf_X6_isOpen wq615 wq9 wq710 (c_X6_isOpen l D g T h0 s0 hW.2.1 x1 rx1 p0) ⟨rfl, rfl, ⟨by decide, by decide⟩, ⟨by decide, by decide⟩⟩ rfl rfl (Nat.le_of_ble_eq_true rfl) dX6_openSpot_8) hW (fun x4 s5 H locs rx4 hp6 hW => ?_)
  obtain ⟨es5, hp6⟩ := hp6
  subst es5
  have ghp6 := hp6
  refine x_if_eq (tgt := 18) hx hb rx4 dX6_openSpot_11 (by decide) (fun c7 => ?_) (fun c7 => ?_)
  · skip
    refine x_iconst hx hb dX6_openSpot_18 ?_
    rw [eQ]
    exact x_iret hx hb hr hlk hW (by decide) ⟨rfl, by omega⟩ dX6_openSpot_19
  refine x_iload_n hx hb hl 0 rfl dX6_openSpot_14 rfl ?_
  refine lv_goto (tgt := 19) hx hb dX6_openSpot_15 (by decide) ?_
  rw [eQ]
  exact x_iret hx hb hr hlk hW rx1 ⟨rfl, by omega⟩ dX6_openSpot_19
set_option maxHeartbeats 4000000 in
set_option maxRecDepth 100000 in
theorem c_X6_howMany (l : Launch) (D : va_G) (g : xG) (T : Nat × Nat × Nat) (h0 : Nat) (s0 : xS) (hσ : xRR s0) (x : Int) (rx : xR x) (p0 : IC s0) : Met l yX6_howMany (xws yX6_howMany cX6_howMany 4 (some .int)) { frames := 0, cells := 0, slots := 0, locals := 0 } (xP [.ref (h0 + 3), .int (xJ x)] D g T h0 s0) (xQi D g h0 (fun r τ => s0 = τ ∧ (0 ≤ r ∧ r ≤ 100))) 0 0 (xA h0) := by
  refine x_met hσ (by decide) (Nat.le_of_ble_eq_true rfl) ?_
  intro p e s m args below meth c hx hb hr hml hown hT hlk hnm hE hW ls hl
  have hl : lv_has ls 4 [(0, .ref (h0 + 3)), (1, .int (xJ x))] := hl
  obtain ⟨Q, eQ⟩ : ∃ Q, Q = MQ below (xQi D g h0 (fun r τ => s0 = τ ∧ (0 ≤ r ∧ r ≤ 100))) args s 0 0 (xA h0) := ⟨_, rfl⟩
  rw [← eQ]
  generalize hHe : ([] : List Loc) = locs at hW ⊢
  obtain ⟨H, eH⟩ : ∃ H, H = s.heap := ⟨_, rfl⟩
  rw [← eH] at hW ⊢
  have k1_1 : s0 1 1 = s0 1 1 := rfl
  refine x_iconst hx hb dX6_howMany_0 ?_
  refine lv_istore_n (lv' := [(2, .int (xJ 0)), (0, .ref (h0 + 3)), (1, .int (xJ x))]) hx hb dX6_howMany_1 rfl hl (by decide) rfl (fun ls hl => ?_)
  refine x_iconst hx hb dX6_howMany_2 ?_
  refine lv_istore_n (lv' := [(3, .int (xJ 0)), (2, .int (xJ 0)), (0, .ref (h0 + 3)), (1, .int (xJ x))]) hx hb dX6_howMany_3 rfl hl (by decide) rfl (fun ls hl => ?_)
  have L4 : ∀ (fu : Nat) (i2_4 : Int) (i3_4 : Int) (ls : Array Slot), (xR i2_4) → (xR i3_4) → (0 ≤ i3_4) → (i3_4 ≤ 100) → (0 ≤ i2_4 ∧ i2_4 ≤ i3_4) → (100 + 1 - i3_4).toNat < fu → lv_has ls 4 [(0, .ref (h0 + 3)), (1, .int (xJ x)), (2, .int (xJ i2_4)), (3, .int (xJ i3_4))] → W p l e { frames := 0, cells := 0, slots := 0, locals := 0 } s m args below meth c H locs 0 0 Q (F0 m 4 ls []) := by
    intro fu
    induction fu with
    | zero => intro i2_4 i3_4 ls ri2_4 ri3_4 v4_0 v4_1 v4_2 hm; exact absurd hm (Nat.not_lt_zero _)
    | succ fu ih4 =>
      intro i2_4 i3_4 ls ri2_4 ri3_4 v4_0 v4_1 v4_2 hm  hl
      refine x_iload_n hx hb hl 3 rfl dX6_howMany_4 rfl ?_
      refine x_bipush hx hb dX6_howMany_5 (by decide) ?_
      refine x_icmp_ge (tgt := 29) hx hb ri3_4 (by decide) dX6_howMany_7 (by decide) (fun c1 => ?_) (fun c1 => ?_)
      · skip
        refine x_iload_n hx hb hl 2 rfl dX6_howMany_29 rfl ?_
        rw [eQ]
        exact x_iret hx hb hr hlk hW ri2_4 ⟨rfl, by omega⟩ dX6_howMany_30
      refine x_aload_n hx hb hl 0 rfl dX6_howMany_10 rfl ?_
      refine x_get (j := 0) (v := .ref (h0 + 4)) hx hb hown hT hE hW cls_X6 (Or.inl (by decide)) (so_3 h0 g _) (by decide) rfl wq226 dX6_howMany_11 ?_
      refine x_iload_n hx hb hl 3 rfl dX6_howMany_14 rfl ?_
      refine x_iald hx hb hE hW (Or.inl (by decide)) (sa_4 h0 g _) (by omega) (by decide) dX6_howMany_15 ?_
      refine x_rd hW (fun x2 ex2 rx2 => ?_)
      refine x_iload_n hx hb hl 1 rfl dX6_howMany_16 rfl ?_
      refine x_icmp_ne (tgt := 23) hx hb rx2 rx dX6_howMany_17 (by decide) (fun c3 => ?_) (fun c3 => ?_)
      · skip
        refine x_iinc (lv' := [(3, .int (xJ (i3_4 + 1))), (0, .ref (h0 + 3)), (1, .int (xJ x)), (2, .int (xJ i2_4))]) hx hb hl 3 rfl dX6_howMany_23 (by decide) rfl (fun ls hl => ?_)
        refine lv_goto (tgt := 4) hx hb dX6_howMany_26 (by decide) ?_
        exact ih4 i2_4 (i3_4 + 1) ls ri2_4 (by omega) (by omega) (by omega) (by omega) (by omega)  (lv_sub hl [1, 2, 3, 0] rfl)
      refine x_iinc (lv' := [(2, .int (xJ (i2_4 + 1))), (0, .ref (h0 + 3)), (1, .int (xJ x)), (3, .int (xJ i3_4))]) hx hb hl 2 rfl dX6_howMany_20 (by decide) rfl (fun ls hl => ?_)
      refine x_iinc (lv' := [(3, .int (xJ (i3_4 + 1))), (2, .int (xJ (i2_4 + 1))), (0, .ref (h0 + 3)), (1, .int (xJ x))]) hx hb hl 3 rfl dX6_howMany_23 (by decide) rfl (fun ls hl => ?_)
      refine lv_goto (tgt := 4) hx hb dX6_howMany_26 (by decide) ?_
      exact ih4 (i2_4 + 1) (i3_4 + 1) ls (by omega) (by omega) (by omega) (by omega) (by omega) (by omega)  (lv_sub hl [2, 3, 1, 0] rfl)
  exact L4 ((100 + 1 - 0 : Int).toNat + 1) 0 0 ls (by decide) (by decide) (by omega) (by omega) (by omega) (Nat.lt_succ_self _)  (lv_sub hl [2, 3, 1, 0] rfl)
set_option maxHeartbeats 4000000 in
set_option maxRecDepth 100000 in
theorem c_X6_kindOf (l : Launch) (D : va_G) (g : xG) (T : Nat × Nat × Nat) (h0 : Nat) (s0 : xS) (hσ : xRR s0) (x : Int) (rx : xR x) : Met l yX6_kindOf (xws yX6_kindOf cX6_kindOf 1 (some .int)) { frames := 0, cells := 0, slots := 0, locals := 0 } (xP [.int (xJ x)] D g T h0 s0) (xQi D g h0 (fun r τ => s0 = τ ∧ ((x = 46 ∧ r = 0) ∨ (x = 35 ∧ r = 1) ∨ (x = 115 ∧ r = 2) ∨ (x = 114 ∧ r = 3) ∨ (x ≠ 46 ∧ x ≠ 35 ∧ x ≠ 115 ∧ x ≠ 114 ∧ r = -1)))) 0 0 (xA h0) := by
  refine x_met hσ (by decide) (Nat.le_of_ble_eq_true rfl) ?_
  intro p e s m args below meth c hx hb hr hml hown hT hlk hnm hE hW ls hl
  have hl : lv_has ls 1 [(0, .int (xJ x))] := hl
  obtain ⟨Q, eQ⟩ : ∃ Q, Q = MQ below (xQi D g h0 (fun r τ => s0 = τ ∧ ((x = 46 ∧ r = 0) ∨ (x = 35 ∧ r = 1) ∨ (x = 115 ∧ r = 2) ∨ (x = 114 ∧ r = 3) ∨ (x ≠ 46 ∧ x ≠ 35 ∧ x ≠ 115 ∧ x ≠ 114 ∧ r = -1)))) args s 0 0 (xA h0) := ⟨_, rfl⟩
  rw [← eQ]
  generalize hHe : ([] : List Loc) = locs at hW ⊢
  obtain ⟨H, eH⟩ : ∃ H, H = s.heap := ⟨_, rfl⟩
  rw [← eH] at hW ⊢
  refine x_iload_n hx hb hl 0 rfl dX6_kindOf_0 rfl ?_
  rcases (show (x ≠ 35 ∧ x ≠ 46 ∧ x ≠ 114 ∧ x ≠ 115) ∨ x = 35 ∨ x = 46 ∨ x = 114 ∨ x = 115 from by omega) with c1 | c1 | c1 | c1 | c1
  · refine x_look (tgt := 52) (off := 51) hx hb rx dX6_kindOf_1 rfl (xlk_n (by simp; omega)) (by decide) ?_
    refine x_iconst hx hb dX6_kindOf_52 ?_
    rw [eQ]
    exact x_iret hx hb hr hlk hW (by decide) ⟨rfl, by omega⟩ dX6_kindOf_53
  · refine x_look (tgt := 46) (off := 45) hx hb rx dX6_kindOf_1 rfl (by rw [c1]; rfl) (by decide) ?_
    refine x_iconst hx hb dX6_kindOf_46 ?_
    rw [eQ]
    exact x_iret hx hb hr hlk hW (by decide) ⟨rfl, by omega⟩ dX6_kindOf_47
  · refine x_look (tgt := 44) (off := 43) hx hb rx dX6_kindOf_1 rfl (by rw [c1]; rfl) (by decide) ?_
    refine x_iconst hx hb dX6_kindOf_44 ?_
    rw [eQ]
    exact x_iret hx hb hr hlk hW (by decide) ⟨rfl, by omega⟩ dX6_kindOf_45
  · refine x_look (tgt := 50) (off := 49) hx hb rx dX6_kindOf_1 rfl (by rw [c1]; rfl) (by decide) ?_
    refine x_iconst hx hb dX6_kindOf_50 ?_
    rw [eQ]
    exact x_iret hx hb hr hlk hW (by decide) ⟨rfl, by omega⟩ dX6_kindOf_51
  · refine x_look (tgt := 48) (off := 47) hx hb rx dX6_kindOf_1 rfl (by rw [c1]; rfl) (by decide) ?_
    refine x_iconst hx hb dX6_kindOf_48 ?_
    rw [eQ]
    exact x_iret hx hb hr hlk hW (by decide) ⟨rfl, by omega⟩ dX6_kindOf_49
set_option maxHeartbeats 4000000 in
set_option maxRecDepth 100000 in
theorem c_X6_timesOf (l : Launch) (D : va_G) (g : xG) (T : Nat × Nat × Nat) (h0 : Nat) (s0 : xS) (hσ : xRR s0) (x : Int) (rx : xR x) : Met l yX6_timesOf (xws yX6_timesOf cX6_timesOf 1 (some .int)) { frames := 0, cells := 0, slots := 0, locals := 0 } (xP [.int (xJ x)] D g T h0 s0) (xQi D g h0 (fun r τ => s0 = τ ∧ ((x = 48 ∧ r = 10) ∨ (50 ≤ x ∧ x ≤ 57 ∧ r = x - 48) ∨ (x ≠ 48 ∧ (x < 50 ∨ 57 < x) ∧ r = 0)))) 0 0 (xA h0) := by
  refine x_met hσ (by decide) (Nat.le_of_ble_eq_true rfl) ?_
  intro p e s m args below meth c hx hb hr hml hown hT hlk hnm hE hW ls hl
  have hl : lv_has ls 1 [(0, .int (xJ x))] := hl
  obtain ⟨Q, eQ⟩ : ∃ Q, Q = MQ below (xQi D g h0 (fun r τ => s0 = τ ∧ ((x = 48 ∧ r = 10) ∨ (50 ≤ x ∧ x ≤ 57 ∧ r = x - 48) ∨ (x ≠ 48 ∧ (x < 50 ∨ 57 < x) ∧ r = 0)))) args s 0 0 (xA h0) := ⟨_, rfl⟩
  rw [← eQ]
  generalize hHe : ([] : List Loc) = locs at hW ⊢
  obtain ⟨H, eH⟩ : ∃ H, H = s.heap := ⟨_, rfl⟩
  rw [← eH] at hW ⊢
  refine x_iload_n hx hb hl 0 rfl dX6_timesOf_0 rfl ?_
  refine x_bipush hx hb dX6_timesOf_1 (by decide) ?_
  refine x_icmp_ne (tgt := 9) hx hb rx (by decide) dX6_timesOf_3 (by decide) (fun c1 => ?_) (fun c1 => ?_)
  · skip
    refine x_iload_n hx hb hl 0 rfl dX6_timesOf_9 rfl ?_
    refine x_bipush hx hb dX6_timesOf_10 (by decide) ?_
    refine x_icmp_lt (tgt := 28) hx hb rx (by decide) dX6_timesOf_12 (by decide) (fun c2 => ?_) (fun c2 => ?_)
    · skip
      refine x_iconst hx hb dX6_timesOf_28 ?_
      rw [eQ]
      exact x_iret hx hb hr hlk hW (by decide) ⟨rfl, by omega⟩ dX6_timesOf_29
    refine x_iload_n hx hb hl 0 rfl dX6_timesOf_15 rfl ?_
    refine x_bipush hx hb dX6_timesOf_16 (by decide) ?_
    refine x_icmp_gt (tgt := 28) hx hb rx (by decide) dX6_timesOf_18 (by decide) (fun c3 => ?_) (fun c3 => ?_)
    · skip
      refine x_iconst hx hb dX6_timesOf_28 ?_
      rw [eQ]
      exact x_iret hx hb hr hlk hW (by decide) ⟨rfl, by omega⟩ dX6_timesOf_29
    refine x_iload_n hx hb hl 0 rfl dX6_timesOf_21 rfl ?_
    refine x_bipush hx hb dX6_timesOf_22 (by decide) ?_
    refine x_isub hx hb dX6_timesOf_24 ?_
    refine lv_goto (tgt := 29) hx hb dX6_timesOf_25 (by decide) ?_
    rw [eQ]
    exact x_iret hx hb hr hlk hW (by omega) ⟨rfl, by omega⟩ dX6_timesOf_29
  refine x_bipush hx hb dX6_timesOf_6 (by decide) ?_
  rw [eQ]
  exact x_iret hx hb hr hlk hW (by decide) ⟨rfl, by omega⟩ dX6_timesOf_8
set_option maxHeartbeats 4000000 in
set_option maxRecDepth 100000 in
theorem c_X6_reckonRow (l : Launch) (D : va_G) (g : xG) (T : Nat × Nat × Nat) (h0 : Nat) (s0 : xS) (hσ : xRR s0) (ka : Nat) (hka : ka < 310) (hns : nsC ka) (hca : ∀ σ : xS, xcel h0 g σ ka = .inl (g.1, 100, .inl (fun j => xJ (σ ka j)))) (a : Int) (ra : xR a) (b : Int) (rb : xR b) (p0 : IC s0) : Met l yX6_reckonRow (xws yX6_reckonRow cX6_reckonRow 9 none) { frames := 1, cells := 0, slots := 0, locals := 23 } (xP [.ref (h0 + 3), .ref (h0 + ka), .int (xJ a), .int (xJ b)] D g T h0 s0) (xQv D g h0 (fun τ => xFr (fun k => k = ka) s0 τ ∧ (((IC τ) ∧ True) ∧ (True)))) 0 0 (xA h0) := by
  refine x_met hσ (by decide) (Nat.le_of_ble_eq_true rfl) ?_
  intro p e s m args below meth c hx hb hr hml hown hT hlk hnm hE hW ls hl
  have hl : lv_has ls 9 [(0, .ref (h0 + 3)), (1, .ref (h0 + ka)), (2, .int (xJ a)), (3, .int (xJ b))] := hl
  obtain ⟨Q, eQ⟩ : ∃ Q, Q = MQ below (xQv D g h0 (fun τ => xFr (fun k => k = ka) s0 τ ∧ (((IC τ) ∧ True) ∧ (True)))) args s 0 0 (xA h0) := ⟨_, rfl⟩
  rw [← eQ]
  generalize hHe : ([] : List Loc) = locs at hW ⊢
  obtain ⟨H, eH⟩ : ∃ H, H = s.heap := ⟨_, rfl⟩
  rw [← eH] at hW ⊢
  have hF : xFr (fun k => k = ka) s0 s0 := xFr.rf
  have k1_1 : s0 1 1 = s0 1 1 := rfl
  refine x_iconst hx hb dX6_reckonRow_0 ?_
  refine lv_istore (lv' := [(4, .int (xJ 0)), (0, .ref (h0 + 3)), (1, .ref (h0 + ka)), (2, .int (xJ a)), (3, .int (xJ b))]) hx hb dX6_reckonRow_1 hl (by decide) rfl (fun ls hl => ?_)
  have L3 : ∀ (fu : Nat) (i4_3 : Int) (s_3 : xS) (H : Heap) (locs : List Loc) (ls : Array Slot), (xR i4_3) → (xFr (fun k => k = ka) s0 s_3) → (IC s_3) → (s_3 1 1 = s0 1 1) → (0 ≤ i4_3) → (100 - i4_3).toNat < fu → xW D g h0 s H locs s_3 → lv_has ls 9 [(0, .ref (h0 + 3)), (1, .ref (h0 + ka)), (2, .int (xJ a)), (3, .int (xJ b)), (4, .int (xJ i4_3))] → W p l e { frames := 1, cells := 0, slots := 0, locals := 23 } s m args below meth c H locs 0 0 Q (F0 m 3 ls []) := by
    intro fu
    induction fu with
    | zero => intro i4_3 s_3 H locs ls ri4_3 hF_3 q3_0 q3_1 v3_0 hm; exact absurd hm (Nat.not_lt_zero _)
    | succ fu ih3 =>
      intro i4_3 s_3 H locs ls ri4_3 hF_3 q3_0 q3_1 v3_0 hm hW hl
      refine x_iload hx hb hl 4 rfl dX6_reckonRow_3 ?_
      refine x_aload_n hx hb hl 1 rfl dX6_reckonRow_5 rfl ?_
      refine x_alen (n := 100) (t0 := 0) hx hb hE hW (Or.inl hka) (hca _) rfl rfl dX6_reckonRow_6 ?_
      refine x_icmp_ge (tgt := 32) hx hb ri4_3 (by decide) dX6_reckonRow_7 (by decide) (fun c1 => ?_) (fun c1 => ?_)
      · skip
        refine x_iconst hx hb dX6_reckonRow_32 ?_
        refine lv_istore (lv' := [(4, .int (xJ 0)), (0, .ref (h0 + 3)), (1, .ref (h0 + ka)), (2, .int (xJ a)), (3, .int (xJ b))]) hx hb dX6_reckonRow_33 hl (by decide) rfl (fun ls hl => ?_)
        have L35 : ∀ (fu : Nat) (i4_35 : Int) (s_35 : xS) (H : Heap) (locs : List Loc) (ls : Array Slot), (xR i4_35) → (xFr (fun k => k = ka) s0 s_35) → (IC s_35) → (s_35 1 1 = s0 1 1) → (0 ≤ i4_35) → (i4_35 ≤ 3) → (3 + 1 - i4_35).toNat < fu → xW D g h0 s H locs s_35 → lv_has ls 9 [(0, .ref (h0 + 3)), (1, .ref (h0 + ka)), (3, .int (xJ b)), (4, .int (xJ i4_35))] → W p l e { frames := 1, cells := 0, slots := 0, locals := 23 } s m args below meth c H locs 0 0 Q (F0 m 35 ls []) := by
          intro fu
          induction fu with
          | zero => intro i4_35 s_35 H locs ls ri4_35 hF_35 q35_0 q35_1 v35_0 v35_1 hm; exact absurd hm (Nat.not_lt_zero _)
          | succ fu ih35 =>
            intro i4_35 s_35 H locs ls ri4_35 hF_35 q35_0 q35_1 v35_0 v35_1 hm hW hl
            refine x_iload hx hb hl 3 rfl dX6_reckonRow_35 ?_
            refine x_iconst hx hb dX6_reckonRow_37 ?_
            refine x_icmp_ge (tgt := 153) hx hb ri4_35 (by decide) dX6_reckonRow_38 (by decide) (fun c2 => ?_) (fun c2 => ?_)
            · skip
              rw [eQ]
              exact x_vret hx hb hr hlk hW ⟨hF_35, ⟨q35_0, trivial⟩, trivial⟩ dX6_reckonRow_153
            refine x_iconst hx hb dX6_reckonRow_41 ?_
            refine lv_istore (lv' := [(5, .int (xJ 0)), (0, .ref (h0 + 3)), (1, .ref (h0 + ka)), (3, .int (xJ b)), (4, .int (xJ i4_35))]) hx hb dX6_reckonRow_42 hl (by decide) rfl (fun ls hl => ?_)
            have L44 : ∀ (fu : Nat) (i5_44 : Int) (s_44 : xS) (H : Heap) (locs : List Loc) (ls : Array Slot), (xR i5_44) → (xFr (fun k => k = ka) s0 s_44) → (IC s_44) → (s_44 1 1 = s0 1 1) → (0 ≤ i5_44) → (400 - i5_44).toNat < fu → xW D g h0 s H locs s_44 → lv_has ls 9 [(0, .ref (h0 + 3)), (1, .ref (h0 + ka)), (3, .int (xJ b)), (4, .int (xJ i4_35)), (5, .int (xJ i5_44))] → W p l e { frames := 1, cells := 0, slots := 0, locals := 23 } s m args below meth c H locs 0 0 Q (F0 m 44 ls []) := by
              intro fu
              induction fu with
              | zero => intro i5_44 s_44 H locs ls ri5_44 hF_44 q44_0 q44_1 v44_0 hm; exact absurd hm (Nat.not_lt_zero _)
              | succ fu ih44 =>
                intro i5_44 s_44 H locs ls ri5_44 hF_44 q44_0 q44_1 v44_0 hm hW hl
                refine x_iload hx hb hl 4 rfl dX6_reckonRow_44 ?_
                refine x_iconst hx hb dX6_reckonRow_46 ?_
                refine x_aload_n hx hb hl 1 rfl dX6_reckonRow_47 rfl ?_
                refine x_alen (n := 100) (t0 := 0) hx hb hE hW (Or.inl hka) (hca _) rfl rfl dX6_reckonRow_48 ?_
                refine x_imul hx hb dX6_reckonRow_49 ?_
                refine x_icmp_ge (tgt := 147) hx hb ri5_44 (by omega) dX6_reckonRow_50 (by decide) (fun c3 => ?_) (fun c3 => ?_)
                · skip
                  refine x_iinc (lv' := [(4, .int (xJ (i4_35 + 1))), (0, .ref (h0 + 3)), (1, .ref (h0 + ka)), (3, .int (xJ b)), (5, .int (xJ i5_44))]) hx hb hl 3 rfl dX6_reckonRow_147 (by decide) rfl (fun ls hl => ?_)
                  refine lv_goto (tgt := 35) hx hb dX6_reckonRow_150 (by decide) ?_
                  exact ih35 (i4_35 + 1) s_44 H locs ls (by omega) hF_44 q44_0 q44_1 (by omega) (by omega) (by omega) hW (lv_sub hl [1, 2, 3, 0] rfl)
                refine x_iload hx hb hl 4 rfl dX6_reckonRow_53 ?_
                refine x_iconst hx hb dX6_reckonRow_55 ?_
                refine x_idiv hx hb ri5_44 (by decide) (by omega) (by decide) dX6_reckonRow_56 ?_
                refine x_nm (fun x4 ex4 => ?_)
                refine lv_istore (lv' := [(6, .int (xJ x4)), (0, .ref (h0 + 3)), (1, .ref (h0 + ka)), (3, .int (xJ b)), (4, .int (xJ i4_35)), (5, .int (xJ i5_44))]) hx hb dX6_reckonRow_57 hl (by decide) rfl (fun ls hl => ?_)
                refine x_aload_n hx hb hl 2 rfl dX6_reckonRow_59 rfl ?_
                refine x_iload hx hb hl 0 rfl dX6_reckonRow_60 ?_
                refine x_iald hx hb hE hW (Or.inl hka) (hca _) (by omega) (by decide) dX6_reckonRow_62 ?_
                refine x_rd hW (fun x5 ex5 rx5 => ?_)
                refine x_iload hx hb hl 4 rfl dX6_reckonRow_63 ?_
                have J83 : ∀ (t0_83 : Int) (H : Heap) (locs : List Loc) (ls : Array Slot), (xR t0_83) → xW D g h0 s H locs s_44 → lv_has ls 9 [(0, .ref (h0 + 3)), (1, .ref (h0 + ka)), (3, .int (xJ b)), (4, .int (xJ i4_35)), (5, .int (xJ i5_44))] → W p l e { frames := 1, cells := 0, slots := 0, locals := 23 } s m args below meth c H locs 0 0 Q (F0 m 83 ls [.int (xJ t0_83)]) := by
                  intro t0_83 H locs ls rt0_83 hW hl
                  refine lv_istore (lv' := [(7, .int (xJ t0_83)), (0, .ref (h0 + 3)), (1, .ref (h0 + ka)), (3, .int (xJ b)), (4, .int (xJ i4_35)), (5, .int (xJ i5_44))]) hx hb dX6_reckonRow_83 hl (by decide) rfl (fun ls hl => ?_)
                  refine x_iload hx hb hl 0 rfl dX6_reckonRow_85 ?_
                  refine x_if_lt (tgt := 141) hx hb rt0_83 dX6_reckonRow_87 (by decide) (fun c6 => ?_) (fun c6 => ?_)
                  · skip
                    refine x_iinc (lv' := [(5, .int (xJ (i5_44 + 1))), (7, .int (xJ t0_83)), (0, .ref (h0 + 3)), (1, .ref (h0 + ka)), (3, .int (xJ b)), (4, .int (xJ i4_35))]) hx hb hl 5 rfl dX6_reckonRow_141 (by decide) rfl (fun ls hl => ?_)
                    refine lv_goto (tgt := 44) hx hb dX6_reckonRow_144 (by decide) ?_
                    exact ih44 (i5_44 + 1) s_44 H locs ls (by omega) hF_44 q44_0 q44_1 (by omega) (by omega) hW (lv_sub hl [2, 3, 4, 5, 0] rfl)
                  refine x_iload hx hb hl 0 rfl dX6_reckonRow_90 ?_
                  refine x_aload_n hx hb hl 2 rfl dX6_reckonRow_92 rfl ?_
                  refine x_alen (n := 100) (t0 := 0) hx hb hE hW (Or.inl hka) (hca _) rfl rfl dX6_reckonRow_93 ?_
                  refine x_icmp_ge (tgt := 141) hx hb rt0_83 (by decide) dX6_reckonRow_94 (by decide) (fun c7 => ?_) (fun c7 => ?_)
                  · skip
                    refine x_iinc (lv' := [(5, .int (xJ (i5_44 + 1))), (7, .int (xJ t0_83)), (0, .ref (h0 + 3)), (1, .ref (h0 + ka)), (3, .int (xJ b)), (4, .int (xJ i4_35))]) hx hb hl 5 rfl dX6_reckonRow_141 (by decide) rfl (fun ls hl => ?_)
                    refine lv_goto (tgt := 44) hx hb dX6_reckonRow_144 (by decide) ?_
                    exact ih44 (i5_44 + 1) s_44 H locs ls (by omega) hF_44 q44_0 q44_1 (by omega) (by omega) hW (lv_sub hl [2, 3, 4, 5, 0] rfl)
                  refine x_aload_n hx hb hl 2 rfl dX6_reckonRow_97 rfl ?_
                  refine x_iload hx hb hl 0 rfl dX6_reckonRow_98 ?_
                  refine x_iald hx hb hE hW (Or.inl hka) (hca _) (by omega) (by decide) dX6_reckonRow_100 ?_
                  refine x_rd hW (fun x8 ex8 rx8 => ?_)
                  refine x_bipush hx hb dX6_reckonRow_101 (by decide) ?_
                  refine x_icmp_eq (tgt := 109) hx hb rx8 (by decide) dX6_reckonRow_103 (by decide) (fun c9 => ?_) (fun c9 => ?_)
                  · skip
                    refine x_aload_n hx hb hl 1 rfl dX6_reckonRow_109 rfl ?_
                    refine x_iload hx hb hl 0 rfl dX6_reckonRow_110 ?_
                    refine x_goi (x_runV (As := [.int (xJ t0_83)]) hx hb hml hown hT hE hW hl.1 (Or.inl (by decide)) (so_3 h0 g _) rfl cf_X6_kindAt wq619 wq10 wq617 (c_X6_kindAt l D g T h0 s_44 hW.2.1 t0_83 rt0_83 q44_0) ⟨rfl, rfl, ⟨by decide, by decide⟩, ⟨by decide, by decide⟩⟩ rfl rfl (Nat.le_of_ble_eq_true rfl) dX6_reckonRow_112) hW (fun x10 s11 H locs rx10 hp12 hW => ?_)
                    obtain ⟨es11, hp12⟩ := hp12
                    subst es11
                    have ghp12 := hp12
                    refine lv_istore (lv' := [(8, .int (xJ x10)), (7, .int (xJ t0_83)), (0, .ref (h0 + 3)), (1, .ref (h0 + ka)), (3, .int (xJ b)), (4, .int (xJ i4_35)), (5, .int (xJ i5_44))]) hx hb dX6_reckonRow_115 hl (by decide) rfl (fun ls hl => ?_)
                    refine x_iload hx hb hl 0 rfl dX6_reckonRow_117 ?_
                    refine x_iconst hx hb dX6_reckonRow_119 ?_
                    refine x_icmp_eq (tgt := 141) hx hb rx10 (by decide) dX6_reckonRow_120 (by decide) (fun c13 => ?_) (fun c13 => ?_)
                    · skip
                      refine x_iinc (lv' := [(5, .int (xJ (i5_44 + 1))), (8, .int (xJ x10)), (7, .int (xJ t0_83)), (0, .ref (h0 + 3)), (1, .ref (h0 + ka)), (3, .int (xJ b)), (4, .int (xJ i4_35))]) hx hb hl 6 rfl dX6_reckonRow_141 (by decide) rfl (fun ls hl => ?_)
                      refine lv_goto (tgt := 44) hx hb dX6_reckonRow_144 (by decide) ?_
                      exact ih44 (i5_44 + 1) s_44 H locs ls (by omega) hF_44 q44_0 q44_1 (by omega) (by omega) hW (lv_sub hl [3, 4, 5, 6, 0] rfl)
                    refine x_iload_n hx hb hl 4 rfl dX6_reckonRow_123 rfl ?_
                    refine x_if_eq (tgt := 133) hx hb rb dX6_reckonRow_124 (by decide) (fun c14 => ?_) (fun c14 => ?_)
                    · skip
                      refine x_aload_n hx hb hl 3 rfl dX6_reckonRow_133 rfl ?_
                      refine x_iload hx hb hl 1 rfl dX6_reckonRow_134 ?_
                      refine x_iload hx hb hl 5 rfl dX6_reckonRow_136 ?_
                      refine x_iconst hx hb dX6_reckonRow_138 ?_
                      refine x_iadd hx hb dX6_reckonRow_139 ?_
                      refine x_iast hx hb hE hW hka (fun σ => hca σ) (by omega) (by decide) (by omega) dX6_reckonRow_140 (fun H locs s15 es15 hW => ?_)
                      have q16 : IC s15 := by rw [es15]; exact IC_o hns q44_0
                      have q17 : s15 1 1 = s0 1 1 := (show s15 1 1 = s_44 1 1 from by rw [es15, xU_k _ _ _ (by omega)]).trans q44_1
                      have hF18 := hF_44.put es15 (by omega)
                      refine x_iinc (lv' := [(5, .int (xJ (i5_44 + 1))), (8, .int (xJ x10)), (7, .int (xJ t0_83)), (0, .ref (h0 + 3)), (1, .ref (h0 + ka)), (3, .int (xJ b)), (4, .int (xJ i4_35))]) hx hb hl 6 rfl dX6_reckonRow_141 (by decide) rfl (fun ls hl => ?_)
                      refine lv_goto (tgt := 44) hx hb dX6_reckonRow_144 (by decide) ?_
                      exact ih44 (i5_44 + 1) s15 H locs ls (by omega) hF18 q16 q17 (by omega) (by omega) hW (lv_sub hl [3, 4, 5, 6, 0] rfl)
                    refine x_iload hx hb hl 0 rfl dX6_reckonRow_127 ?_
                    refine x_iconst hx hb dX6_reckonRow_129 ?_
                    refine x_icmp_eq (tgt := 141) hx hb rx10 (by decide) dX6_reckonRow_130 (by decide) (fun c19 => ?_) (fun c19 => ?_)
                    · skip
                      refine x_iinc (lv' := [(5, .int (xJ (i5_44 + 1))), (8, .int (xJ x10)), (7, .int (xJ t0_83)), (0, .ref (h0 + 3)), (1, .ref (h0 + ka)), (3, .int (xJ b)), (4, .int (xJ i4_35))]) hx hb hl 6 rfl dX6_reckonRow_141 (by decide) rfl (fun ls hl => ?_)
                      refine lv_goto (tgt := 44) hx hb dX6_reckonRow_144 (by decide) ?_
                      exact ih44 (i5_44 + 1) s_44 H locs ls (by omega) hF_44 q44_0 q44_1 (by omega) (by omega) hW (lv_sub hl [3, 4, 5, 6, 0] rfl)
                    refine x_aload_n hx hb hl 3 rfl dX6_reckonRow_133 rfl ?_
                    refine x_iload hx hb hl 1 rfl dX6_reckonRow_134 ?_
                    refine x_iload hx hb hl 5 rfl dX6_reckonRow_136 ?_
                    refine x_iconst hx hb dX6_reckonRow_138 ?_
                    refine x_iadd hx hb dX6_reckonRow_139 ?_
                    refine x_iast hx hb hE hW hka (fun σ => hca σ) (by omega) (by decide) (by omega) dX6_reckonRow_140 (fun H locs s20 es20 hW => ?_)
                    have q21 : IC s20 := by rw [es20]; exact IC_o hns q44_0
                    have q22 : s20 1 1 = s0 1 1 := (show s20 1 1 = s_44 1 1 from by rw [es20, xU_k _ _ _ (by omega)]).trans q44_1
                    have hF23 := hF_44.put es20 (by omega)
                    refine x_iinc (lv' := [(5, .int (xJ (i5_44 + 1))), (8, .int (xJ x10)), (7, .int (xJ t0_83)), (0, .ref (h0 + 3)), (1, .ref (h0 + ka)), (3, .int (xJ b)), (4, .int (xJ i4_35))]) hx hb hl 6 rfl dX6_reckonRow_141 (by decide) rfl (fun ls hl => ?_)
                    refine lv_goto (tgt := 44) hx hb dX6_reckonRow_144 (by decide) ?_
                    exact ih44 (i5_44 + 1) s20 H locs ls (by omega) hF23 q21 q22 (by omega) (by omega) hW (lv_sub hl [3, 4, 5, 6, 0] rfl)
                  refine lv_goto (tgt := 141) hx hb dX6_reckonRow_106 (by decide) ?_
                  refine x_iinc (lv' := [(5, .int (xJ (i5_44 + 1))), (7, .int (xJ t0_83)), (0, .ref (h0 + 3)), (1, .ref (h0 + ka)), (3, .int (xJ b)), (4, .int (xJ i4_35))]) hx hb hl 5 rfl dX6_reckonRow_141 (by decide) rfl (fun ls hl => ?_)
                  refine lv_goto (tgt := 44) hx hb dX6_reckonRow_144 (by decide) ?_
                  exact ih44 (i5_44 + 1) s_44 H locs ls (by omega) hF_44 q44_0 q44_1 (by omega) (by omega) hW (lv_sub hl [2, 3, 4, 5, 0] rfl)
                refine x_icmp_ne (tgt := 82) hx hb rx5 ri4_35 dX6_reckonRow_65 (by decide) (fun c24 => ?_) (fun c24 => ?_)
                · skip
                  refine x_iconst hx hb dX6_reckonRow_82 ?_
                  exact J83 (-1) H locs ls (by decide) hW (lv_sub hl [1, 2, 3, 4, 5] rfl)
                refine x_iload hx hb hl 0 rfl dX6_reckonRow_68 ?_
                refine x_iconst hx hb dX6_reckonRow_70 ?_
                refine x_iload hx hb hl 5 rfl dX6_reckonRow_71 ?_
                refine x_iconst hx hb dX6_reckonRow_73 ?_
                refine x_irem hx hb ri5_44 (by decide) (by omega) (by decide) dX6_reckonRow_74 ?_
                refine x_imul hx hb dX6_reckonRow_75 ?_
                refine x_goi (x_runS (As := [.int (xJ x4), .int (xJ (2 * (i5_44 % 4)))]) hx hb hml hown hT hE hW hl.1 cf_X6_beside wq784 wq895 (c_X6_beside l D g T h0 s_44 hW.2.1 x4 (by omega) (2 * (i5_44 % 4)) (by omega)) ⟨rfl, rfl, ⟨by decide, by decide⟩, ⟨by decide, by decide⟩⟩ rfl rfl (Nat.le_of_ble_eq_true rfl) dX6_reckonRow_76) hW (fun x25 s26 H locs rx25 hp27 hW => ?_)
                obtain ⟨es26, hp27⟩ := hp27
                subst es26
                have ghp27 := hp27
                refine lv_goto (tgt := 83) hx hb dX6_reckonRow_79 (by decide) ?_
                exact J83 x25 H locs ls rx25 hW (lv_sub hl [1, 2, 3, 4, 5] rfl)
            exact L44 ((400 - 0 : Int).toNat + 1) 0 s_35 H locs ls (by decide) hF_35 q35_0 q35_1 (by omega) (Nat.lt_succ_self _) hW (lv_sub hl [1, 2, 3, 4, 0] rfl)
        exact L35 ((3 + 1 - 0 : Int).toNat + 1) 0 s_3 H locs ls (by decide) hF_3 q3_0 q3_1 (by omega) (by omega) (Nat.lt_succ_self _) hW (lv_sub hl [1, 2, 4, 0] rfl)
      refine x_aload_n hx hb hl 1 rfl dX6_reckonRow_10 rfl ?_
      refine x_iload hx hb hl 4 rfl dX6_reckonRow_11 ?_
      refine x_iload hx hb hl 4 rfl dX6_reckonRow_13 ?_
      refine x_iload_n hx hb hl 2 rfl dX6_reckonRow_15 rfl ?_
      refine x_icmp_ne (tgt := 23) hx hb ri4_3 ra dX6_reckonRow_16 (by decide) (fun c28 => ?_) (fun c28 => ?_)
      · skip
        refine x_bipush hx hb dX6_reckonRow_23 (by decide) ?_
        refine x_iast hx hb hE hW hka (fun σ => hca σ) (by omega) (by decide) (by decide) dX6_reckonRow_25 (fun H locs s29 es29 hW => ?_)
        have q30 : IC s29 := by rw [es29]; exact IC_o hns q3_0
        have q31 : s29 1 1 = s0 1 1 := (show s29 1 1 = s_3 1 1 from by rw [es29, xU_k _ _ _ (by omega)]).trans q3_1
        have hF32 := hF_3.put es29 (by omega)
        refine x_iinc (lv' := [(4, .int (xJ (i4_3 + 1))), (0, .ref (h0 + 3)), (1, .ref (h0 + ka)), (2, .int (xJ a)), (3, .int (xJ b))]) hx hb hl 4 rfl dX6_reckonRow_26 (by decide) rfl (fun ls hl => ?_)
        refine lv_goto (tgt := 3) hx hb dX6_reckonRow_29 (by decide) ?_
        exact ih3 (i4_3 + 1) s29 H locs ls (by omega) hF32 q30 q31 (by omega) (by omega) hW (lv_sub hl [1, 2, 3, 4, 0] rfl)
      refine x_iconst hx hb dX6_reckonRow_19 ?_
      refine lv_goto (tgt := 25) hx hb dX6_reckonRow_20 (by decide) ?_
      refine x_iast hx hb hE hW hka (fun σ => hca σ) (by omega) (by decide) (by decide) dX6_reckonRow_25 (fun H locs s33 es33 hW => ?_)
      have q34 : IC s33 := by rw [es33]; exact IC_o hns q3_0
      have q35 : s33 1 1 = s0 1 1 := (show s33 1 1 = s_3 1 1 from by rw [es33, xU_k _ _ _ (by omega)]).trans q3_1
      have hF36 := hF_3.put es33 (by omega)
      refine x_iinc (lv' := [(4, .int (xJ (i4_3 + 1))), (0, .ref (h0 + 3)), (1, .ref (h0 + ka)), (2, .int (xJ a)), (3, .int (xJ b))]) hx hb hl 4 rfl dX6_reckonRow_26 (by decide) rfl (fun ls hl => ?_)
      refine lv_goto (tgt := 3) hx hb dX6_reckonRow_29 (by decide) ?_
      exact ih3 (i4_3 + 1) s33 H locs ls (by omega) hF36 q34 q35 (by omega) (by omega) hW (lv_sub hl [1, 2, 3, 4, 0] rfl)
  exact L3 ((100 - 0 : Int).toNat + 1) 0 s0 H locs ls (by decide) hF p0 k1_1 (by omega) (Nat.lt_succ_self _) hW (lv_sub hl [1, 2, 3, 4, 0] rfl)
set_option maxHeartbeats 4000000 in
set_option maxRecDepth 100000 in
theorem c_X6_isDryWalk (l : Launch) (D : va_G) (g : xG) (T : Nat × Nat × Nat) (h0 : Nat) (s0 : xS) (hσ : xRR s0) (a : Int) (ra : xR a) (b : Int) (rb : xR b) (p0 : IC s0) : Met l yX6_isDryWalk (xws yX6_isDryWalk cX6_isDryWalk 3 (some .boolean)) { frames := 2, cells := 0, slots := 0, locals := 51 } (xP [.ref (h0 + 3), .int (xJ a), .int (xJ b)] D g T h0 s0) (xQi D g h0 (fun r τ => xFr (fun k => k = 108) s0 τ ∧ (((IC τ) ∧ True) ∧ (r = 0 ∨ r = 1)))) 0 0 (xA h0) := by
  refine x_met hσ (by decide) (Nat.le_of_ble_eq_true rfl) ?_
  intro p e s m args below meth c hx hb hr hml hown hT hlk hnm hE hW ls hl
  have hl : lv_has ls 3 [(0, .ref (h0 + 3)), (1, .int (xJ a)), (2, .int (xJ b))] := hl
  obtain ⟨Q, eQ⟩ : ∃ Q, Q = MQ below (xQi D g h0 (fun r τ => xFr (fun k => k = 108) s0 τ ∧ (((IC τ) ∧ True) ∧ (r = 0 ∨ r = 1)))) args s 0 0 (xA h0) := ⟨_, rfl⟩
  rw [← eQ]
  generalize hHe : ([] : List Loc) = locs at hW ⊢
  obtain ⟨H, eH⟩ : ∃ H, H = s.heap := ⟨_, rfl⟩
  rw [← eH] at hW ⊢
  have hF : xFr (fun k => k = 108) s0 s0 := xFr.rf
  have k1_1 : s0 1 1 = s0 1 1 := rfl
  refine x_aload_n hx hb hl 0 rfl dX6_isDryWalk_0 rfl ?_
  refine x_aload_n hx hb hl 0 rfl dX6_isDryWalk_1 rfl ?_
  refine x_get (j := 4) (v := .ref (h0 + 108)) hx hb hown hT hE hW cls_X6 (Or.inl (by decide)) (so_3 h0 g _) (by decide) rfl wq230 dX6_isDryWalk_2 ?_
  refine x_iload_n hx hb hl 1 rfl dX6_isDryWalk_5 rfl ?_
  refine x_iconst hx hb dX6_isDryWalk_6 ?_
  refine x_gov (x_runV (As := [.ref (h0 + 108), .int (xJ a), .int (xJ 1)]) hx hb hml hown hT hE hW hl.1 (Or.inl (by decide)) (so_3 h0 g _) rfl cf_X6_reckonRow wq893 wq60 wq891 (c_X6_reckonRow l D g T h0 s0 hW.2.1 108 (by decide) (by decide) (fun σ => sa_108 h0 g σ) a ra 1 (by decide) p0) ⟨rfl, rfl, ⟨by decide, by decide⟩, ⟨by decide, by decide⟩⟩ rfl rfl (Nat.le_of_ble_eq_true rfl) dX6_isDryWalk_7) hW (fun s2 H locs hp3 hW => ?_)
  obtain ⟨fs2, hp3⟩ := hp3
  have hF4 := hF.call fs2 (fun k h => by omega)
  have q5 : s2 1 1 = s0 1 1 := (congrFun (fs2 _ (by omega)) _).trans k1_1
  have ghp3 := hp3.2
  refine x_iload_n hx hb hl 2 rfl dX6_isDryWalk_10 rfl ?_
  refine x_goi (x_runS (As := [.int (xJ b)]) hx hb hml hown hT hE hW hl.1 cf_X6_isSpot wq831 wq890 (c_X6_isSpot l D g T h0 s2 hW.2.1 b rb) ⟨rfl, rfl, ⟨by decide, by decide⟩, ⟨by decide, by decide⟩⟩ rfl rfl (Nat.le_of_ble_eq_true rfl) dX6_isDryWalk_11) hW (fun x6 s7 H locs rx6 hp8 hW => ?_)
  obtain ⟨es7, hp8⟩ := hp8
  subst es7
  have ghp8 := hp8
  refine x_if_eq (tgt := 32) hx hb rx6 dX6_isDryWalk_14 (by decide) (fun c9 => ?_) (fun c9 => ?_)
  · skip
    refine x_iconst hx hb dX6_isDryWalk_32 ?_
    rw [eQ]
    exact x_zret hx hb hr hlk hW (by omega) ⟨hF4, ⟨hp3.1.1, trivial⟩, by omega⟩ dX6_isDryWalk_33
  refine x_aload_n hx hb hl 0 rfl dX6_isDryWalk_17 rfl ?_
  refine x_get (j := 4) (v := .ref (h0 + 108)) hx hb hown hT hE hW cls_X6 (Or.inl (by decide)) (so_3 h0 g _) (by decide) rfl wq230 dX6_isDryWalk_18 ?_
  refine x_iload_n hx hb hl 2 rfl dX6_isDryWalk_21 rfl ?_
  refine x_iald hx hb hE hW (Or.inl (by decide)) (sa_108 h0 g _) (by omega) (by decide) dX6_isDryWalk_22 ?_
  refine x_rd hW (fun x10 ex10 rx10 => ?_)
  refine x_bipush hx hb dX6_isDryWalk_23 (by decide) ?_
  refine x_icmp_ge (tgt := 32) hx hb rx10 (by decide) dX6_isDryWalk_25 (by decide) (fun c11 => ?_) (fun c11 => ?_)
  · skip
    refine x_iconst hx hb dX6_isDryWalk_32 ?_
    rw [eQ]
    exact x_zret hx hb hr hlk hW (by omega) ⟨hF4, ⟨hp3.1.1, trivial⟩, by omega⟩ dX6_isDryWalk_33
  refine x_iconst hx hb dX6_isDryWalk_28 ?_
  refine lv_goto (tgt := 33) hx hb dX6_isDryWalk_29 (by decide) ?_
  rw [eQ]
  exact x_zret hx hb hr hlk hW (by omega) ⟨hF4, ⟨hp3.1.1, trivial⟩, by omega⟩ dX6_isDryWalk_33
set_option maxHeartbeats 4000000 in
set_option maxRecDepth 100000 in
theorem c_X6_stepsBetween (l : Launch) (D : va_G) (g : xG) (T : Nat × Nat × Nat) (h0 : Nat) (s0 : xS) (hσ : xRR s0) (a : Int) (ra : xR a) (b : Int) (rb : xR b) (p0 : IC s0) : Met l yX6_stepsBetween (xws yX6_stepsBetween cX6_stepsBetween 3 (some .int)) { frames := 2, cells := 0, slots := 0, locals := 51 } (xP [.ref (h0 + 3), .int (xJ a), .int (xJ b)] D g T h0 s0) (xQi D g h0 (fun r τ => xFr (fun k => (7 ≤ k ∧ k < 107) ∨ k = 107) s0 τ ∧ (((IC τ) ∧ True) ∧ (True)))) 0 0 (xA h0) := by
  refine x_met hσ (by decide) (Nat.le_of_ble_eq_true rfl) ?_
  intro p e s m args below meth c hx hb hr hml hown hT hlk hnm hE hW ls hl
  have hl : lv_has ls 3 [(0, .ref (h0 + 3)), (1, .int (xJ a)), (2, .int (xJ b))] := hl
  obtain ⟨Q, eQ⟩ : ∃ Q, Q = MQ below (xQi D g h0 (fun r τ => xFr (fun k => (7 ≤ k ∧ k < 107) ∨ k = 107) s0 τ ∧ (((IC τ) ∧ True) ∧ (True)))) args s 0 0 (xA h0) := ⟨_, rfl⟩
  rw [← eQ]
  generalize hHe : ([] : List Loc) = locs at hW ⊢
  obtain ⟨H, eH⟩ : ∃ H, H = s.heap := ⟨_, rfl⟩
  rw [← eH] at hW ⊢
  have hF : xFr (fun k => (7 ≤ k ∧ k < 107) ∨ k = 107) s0 s0 := xFr.rf
  have k1_1 : s0 1 1 = s0 1 1 := rfl
  refine x_iload_n hx hb hl 1 rfl dX6_stepsBetween_0 rfl ?_
  refine x_goi (x_runS (As := [.int (xJ a)]) hx hb hml hown hT hE hW hl.1 cf_X6_isSpot wq831 wq890 (c_X6_isSpot l D g T h0 s0 hW.2.1 a ra) ⟨rfl, rfl, ⟨by decide, by decide⟩, ⟨by decide, by decide⟩⟩ rfl rfl (Nat.le_of_ble_eq_true rfl) dX6_stepsBetween_1) hW (fun x1 s2 H locs rx1 hp3 hW => ?_)
  obtain ⟨es2, hp3⟩ := hp3
  subst es2
  have ghp3 := hp3
  refine x_if_eq (tgt := 14) hx hb rx1 dX6_stepsBetween_4 (by decide) (fun c4 => ?_) (fun c4 => ?_)
  · skip
    refine x_bipush hx hb dX6_stepsBetween_14 (by decide) ?_
    rw [eQ]
    exact x_iret hx hb hr hlk hW (by decide) ⟨hF, ⟨p0, trivial⟩, trivial⟩ dX6_stepsBetween_16
  refine x_iload_n hx hb hl 2 rfl dX6_stepsBetween_7 rfl ?_
  refine x_goi (x_runS (As := [.int (xJ b)]) hx hb hml hown hT hE hW hl.1 cf_X6_isSpot wq831 wq890 (c_X6_isSpot l D g T h0 s0 hW.2.1 b rb) ⟨rfl, rfl, ⟨by decide, by decide⟩, ⟨by decide, by decide⟩⟩ rfl rfl (Nat.le_of_ble_eq_true rfl) dX6_stepsBetween_8) hW (fun x5 s6 H locs rx5 hp7 hW => ?_)
  obtain ⟨es6, hp7⟩ := hp7
  subst es6
  have ghp7 := hp7
  refine x_if_ne (tgt := 17) hx hb rx5 dX6_stepsBetween_11 (by decide) (fun c8 => ?_) (fun c8 => ?_)
  · skip
    refine x_aload_n hx hb hl 0 rfl dX6_stepsBetween_17 rfl ?_
    refine x_get (j := 3) (v := .ref (h0 + 107)) hx hb hown hT hE hW cls_X6 (Or.inl (by decide)) (so_3 h0 g _) (by decide) rfl wq229 dX6_stepsBetween_18 ?_
    refine x_iload_n hx hb hl 1 rfl dX6_stepsBetween_21 rfl ?_
    refine x_zald hx hb hE hW (Or.inl (by decide)) (sa_107 h0 g _) (by omega) (by decide) dX6_stepsBetween_22 ?_
    refine x_rd hW (fun x9 ex9 rx9 => ?_)
    refine x_if_ne (tgt := 45) hx hb rx9 dX6_stepsBetween_23 (by decide) (fun c10 => ?_) (fun c10 => ?_)
    · skip
      refine x_aload_n hx hb hl 0 rfl dX6_stepsBetween_45 rfl ?_
      refine x_get (j := 2) (v := .ref (h0 + 6)) hx hb hown hT hE hW cls_X6 (Or.inl (by decide)) (so_3 h0 g _) (by decide) rfl wq228 dX6_stepsBetween_46 ?_
      refine x_iload_n hx hb hl 1 rfl dX6_stepsBetween_49 rfl ?_
      refine x_aaldR (t0 := 3) (n := 100) (r := 7 + (a).toNat) hx hb hE hW (by decide) rfl rfl (sg_6 h0 g _) (by omega) (by decide) rfl dX6_stepsBetween_50 ?_
      refine x_iload_n hx hb hl 2 rfl dX6_stepsBetween_51 rfl ?_
      refine x_iald hx hb hE hW (Or.inl (by omega)) (sa_steps0 h0 g (by omega) _) (by omega) (by decide) dX6_stepsBetween_52 ?_
      refine x_rd hW (fun x11 ex11 rx11 => ?_)
      rw [eQ]
      exact x_iret hx hb hr hlk hW rx11 ⟨hF, ⟨p0, trivial⟩, trivial⟩ dX6_stepsBetween_53
    refine x_aload_n hx hb hl 0 rfl dX6_stepsBetween_26 rfl ?_
    refine x_aload_n hx hb hl 0 rfl dX6_stepsBetween_27 rfl ?_
    refine x_get (j := 2) (v := .ref (h0 + 6)) hx hb hown hT hE hW cls_X6 (Or.inl (by decide)) (so_3 h0 g _) (by decide) rfl wq228 dX6_stepsBetween_28 ?_
    refine x_iload_n hx hb hl 1 rfl dX6_stepsBetween_31 rfl ?_
    refine x_aaldR (t0 := 3) (n := 100) (r := 7 + (a).toNat) hx hb hE hW (by decide) rfl rfl (sg_6 h0 g _) (by omega) (by decide) rfl dX6_stepsBetween_32 ?_
    refine x_iload_n hx hb hl 1 rfl dX6_stepsBetween_33 rfl ?_
    refine x_iconst hx hb dX6_stepsBetween_34 ?_
    refine x_gov (x_runV (As := [.ref (h0 + (7 + (a).toNat)), .int (xJ a), .int (xJ 0)]) hx hb hml hown hT hE hW hl.1 (Or.inl (by decide)) (so_3 h0 g _) rfl cf_X6_reckonRow wq893 wq60 wq891 (c_X6_reckonRow l D g T h0 s0 hW.2.1 (7 + (a).toNat) (by omega) (by unfold nsC; omega) (fun σ => sa_steps0 h0 g (by omega) σ) a ra 0 (by decide) p0) ⟨rfl, rfl, ⟨by decide, by decide⟩, ⟨by decide, by decide⟩⟩ rfl rfl (Nat.le_of_ble_eq_true rfl) dX6_stepsBetween_35) hW (fun s13 H locs hp14 hW => ?_)
    obtain ⟨fs13, hp14⟩ := hp14
    have hF15 := hF.call fs13 (fun k h => by omega)
    have q16 : s13 1 1 = s0 1 1 := (congrFun (fs13 _ (by omega)) _).trans k1_1
    have ghp14 := hp14.2
    refine x_aload_n hx hb hl 0 rfl dX6_stepsBetween_38 rfl ?_
    refine x_get (j := 3) (v := .ref (h0 + 107)) hx hb hown hT hE hW cls_X6 (Or.inl (by decide)) (so_3 h0 g _) (by decide) rfl wq229 dX6_stepsBetween_39 ?_
    refine x_iload_n hx hb hl 1 rfl dX6_stepsBetween_42 rfl ?_
    refine x_iconst hx hb dX6_stepsBetween_43 ?_
    refine x_zast hx hb hE hW (by decide) (fun σ => sa_107 h0 g σ) (by omega) (by decide) (by omega) dX6_stepsBetween_44 (fun H locs s17 es17 hW => ?_)
    have q18 : s17 1 1 = s0 1 1 := (show s17 1 1 = s13 1 1 from by rw [es17, xU_k _ _ _ (by omega)]).trans q16
    have q19 : IC s17 := by rw [es17]; exact IC_o (by decide) hp14.1.1
    have hF20 := hF15.put es17 (by omega)
    refine x_aload_n hx hb hl 0 rfl dX6_stepsBetween_45 rfl ?_
    refine x_get (j := 2) (v := .ref (h0 + 6)) hx hb hown hT hE hW cls_X6 (Or.inl (by decide)) (so_3 h0 g _) (by decide) rfl wq228 dX6_stepsBetween_46 ?_
    refine x_iload_n hx hb hl 1 rfl dX6_stepsBetween_49 rfl ?_
    refine x_aaldR (t0 := 3) (n := 100) (r := 7 + (a).toNat) hx hb hE hW (by decide) rfl rfl (sg_6 h0 g _) (by omega) (by decide) rfl dX6_stepsBetween_50 ?_
    refine x_iload_n hx hb hl 2 rfl dX6_stepsBetween_51 rfl ?_
    refine x_iald hx hb hE hW (Or.inl (by omega)) (sa_steps0 h0 g (by omega) _) (by omega) (by decide) dX6_stepsBetween_52 ?_
    refine x_rd hW (fun x21 ex21 rx21 => ?_)
    rw [eQ]
    exact x_iret hx hb hr hlk hW rx21 ⟨hF20, ⟨q19, trivial⟩, trivial⟩ dX6_stepsBetween_53
  refine x_bipush hx hb dX6_stepsBetween_14 (by decide) ?_
  rw [eQ]
  exact x_iret hx hb hr hlk hW (by decide) ⟨hF, ⟨p0, trivial⟩, trivial⟩ dX6_stepsBetween_16
