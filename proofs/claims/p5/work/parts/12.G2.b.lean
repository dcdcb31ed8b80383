set_option maxHeartbeats 4000000 in
set_option maxRecDepth 100000 in
theorem c_X8_sign (l : Launch) (D : va_G) (g : xG) (T : Nat × Nat × Nat) (h0 : Nat) (s0 : xS) (hσ : xRR s0) (p0 : IC s0) : Met l yX8_sign (xws yX8_sign cX8_sign 1 (some .int)) { frames := 0, cells := 0, slots := 0, locals := 0 } (xP [.ref (h0 + 1)] D g T h0 s0) (xQi D g h0 (fun r τ => s0 = τ ∧ ((0 ≤ s0 1 3 ∧ s0 1 3 < s0 1 2 ∧ s0 1 3 < 260 ∧ r = s0 2 (s0 1 3)) ∨ (r = -1 ∧ (s0 1 3 < 0 ∨ s0 1 2 ≤ s0 1 3 ∨ 260 ≤ s0 1 3))))) 0 0 (xA h0) := by
  refine x_met hσ (by decide) (Nat.le_of_ble_eq_true rfl) ?_
  intro p e s m args below meth c hx hb hr hml hown hT hlk hnm hE hW ls hl
  have hl : lv_has ls 1 [(0, .ref (h0 + 1))] := hl
  obtain ⟨Q, eQ⟩ : ∃ Q, Q = MQ below (xQi D g h0 (fun r τ => s0 = τ ∧ ((0 ≤ s0 1 3 ∧ s0 1 3 < s0 1 2 ∧ s0 1 3 < 260 ∧ r = s0 2 (s0 1 3)) ∨ (r = -1 ∧ (s0 1 3 < 0 ∨ s0 1 2 ≤ s0 1 3 ∨ 260 ≤ s0 1 3))))) args s 0 0 (xA h0) := ⟨_, rfl⟩
  rw [← eQ]
  generalize hHe : ([] : List Loc) = locs at hW ⊢
  obtain ⟨H, eH⟩ : ∃ H, H = s.heap := ⟨_, rfl⟩
  rw [← eH] at hW ⊢
  have k1_1 : s0 1 1 = s0 1 1 := rfl
  refine x_aload_n hx hb hl 0 rfl dX8_sign_0 rfl ?_
  refine x_get (j := 3) (v := .int (xJ (s0 1 3))) hx hb hown hT hE hW cls_X8 (Or.inl (by decide)) (so_1 h0 g _) (by decide) rfl wq200 dX8_sign_1 ?_
  refine x_rd hW (fun x1 ex1 rx1 => ?_)
  refine x_if_lt (tgt := 40) hx hb rx1 dX8_sign_4 (by decide) (fun c2 => ?_) (fun c2 => ?_)
  · skip
    refine x_iconst hx hb dX8_sign_40 ?_
    rw [eQ]
    exact x_iret hx hb hr hlk hW (by decide) ⟨rfl, by omega⟩ dX8_sign_41
  refine x_aload_n hx hb hl 0 rfl dX8_sign_7 rfl ?_
  refine x_get (j := 3) (v := .int (xJ (s0 1 3))) hx hb hown hT hE hW cls_X8 (Or.inl (by decide)) (so_1 h0 g _) (by decide) rfl wq200 dX8_sign_8 ?_
  refine x_rd hW (fun x3 ex3 rx3 => ?_)
  refine x_aload_n hx hb hl 0 rfl dX8_sign_11 rfl ?_
  refine x_get (j := 2) (v := .int (xJ (s0 1 2))) hx hb hown hT hE hW cls_X8 (Or.inl (by decide)) (so_1 h0 g _) (by decide) rfl wq199 dX8_sign_12 ?_
  refine x_rd hW (fun x4 ex4 rx4 => ?_)
  refine x_icmp_ge (tgt := 40) hx hb rx3 rx4 dX8_sign_15 (by decide) (fun c5 => ?_) (fun c5 => ?_)
  · skip
    refine x_iconst hx hb dX8_sign_40 ?_
    rw [eQ]
    exact x_iret hx hb hr hlk hW (by decide) ⟨rfl, by omega⟩ dX8_sign_41
  refine x_aload_n hx hb hl 0 rfl dX8_sign_18 rfl ?_
  refine x_get (j := 3) (v := .int (xJ (s0 1 3))) hx hb hown hT hE hW cls_X8 (Or.inl (by decide)) (so_1 h0 g _) (by decide) rfl wq200 dX8_sign_19 ?_
  refine x_rd hW (fun x6 ex6 rx6 => ?_)
  refine x_sipush hx hb dX8_sign_22 (by decide) ?_
  refine x_icmp_ge (tgt := 40) hx hb rx6 (by decide) dX8_sign_25 (by decide) (fun c7 => ?_) (fun c7 => ?_)
  · skip
    refine x_iconst hx hb dX8_sign_40 ?_
    rw [eQ]
    exact x_iret hx hb hr hlk hW (by decide) ⟨rfl, by omega⟩ dX8_sign_41
  refine x_aload_n hx hb hl 0 rfl dX8_sign_28 rfl ?_
  refine x_get (j := 0) (v := .ref (h0 + 2)) hx hb hown hT hE hW cls_X8 (Or.inl (by decide)) (so_1 h0 g _) (by decide) rfl wq196 dX8_sign_29 ?_
  refine x_aload_n hx hb hl 0 rfl dX8_sign_32 rfl ?_
  refine x_get (j := 3) (v := .int (xJ (s0 1 3))) hx hb hown hT hE hW cls_X8 (Or.inl (by decide)) (so_1 h0 g _) (by decide) rfl wq200 dX8_sign_33 ?_
  refine x_rd hW (fun x8 ex8 rx8 => ?_)
  refine x_iald hx hb hE hW (Or.inl (by decide)) (sa_2 h0 g _) (by omega) (by decide) dX8_sign_36 ?_
  refine x_rd hW (fun x9 ex9 rx9 => ?_)
  have bx9 : 0 ≤ x9 ∧ x9 ≤ 255 := by rw [ex9]; exact IC.by_ p0 _ (by omega) (by omega)
  have zx9 : s0 2 x8 = s0 2 (s0 1 3) := congrArg (s0 2) ex8
  refine lv_goto (tgt := 41) hx hb dX8_sign_37 (by decide) ?_
  rw [eQ]
  exact x_iret hx hb hr hlk hW rx9 ⟨rfl, by omega⟩ dX8_sign_41
set_option maxHeartbeats 4000000 in
set_option maxRecDepth 100000 in
theorem c_X8_isDigit (l : Launch) (D : va_G) (g : xG) (T : Nat × Nat × Nat) (h0 : Nat) (s0 : xS) (hσ : xRR s0) (p0 : IC s0) : Met l yX8_isDigit (xws yX8_isDigit cX8_isDigit 1 (some .boolean)) { frames := 1, cells := 0, slots := 0, locals := 20 } (xP [.ref (h0 + 1)] D g T h0 s0) (xQi D g h0 (fun r τ => s0 = τ ∧ (r = 0 ∨ (r = 1 ∧ 0 ≤ s0 1 3 ∧ s0 1 3 < 260)))) 0 0 (xA h0) := by
  refine x_met hσ (by decide) (Nat.le_of_ble_eq_true rfl) ?_
  intro p e s m args below meth c hx hb hr hml hown hT hlk hnm hE hW ls hl
  have hl : lv_has ls 1 [(0, .ref (h0 + 1))] := hl
  obtain ⟨Q, eQ⟩ : ∃ Q, Q = MQ below (xQi D g h0 (fun r τ => s0 = τ ∧ (r = 0 ∨ (r = 1 ∧ 0 ≤ s0 1 3 ∧ s0 1 3 < 260)))) args s 0 0 (xA h0) := ⟨_, rfl⟩
  rw [← eQ]
  generalize hHe : ([] : List Loc) = locs at hW ⊢
  obtain ⟨H, eH⟩ : ∃ H, H = s.heap := ⟨_, rfl⟩
  rw [← eH] at hW ⊢
  have k1_1 : s0 1 1 = s0 1 1 := rfl
  refine x_aload_n hx hb hl 0 rfl dX8_isDigit_0 rfl ?_
  refine x_goi (x_runV (As := []) hx hb hml hown hT hE hW hl.1 (Or.inl (by decide)) (so_1 h0 g _) rfl cf_X8_sign wq581 wq4 wq600 (c_X8_sign l D g T h0 s0 hW.2.1 p0) ⟨rfl, rfl, ⟨by decide, by decide⟩, ⟨by decide, by decide⟩⟩ rfl rfl (Nat.le_of_ble_eq_true rfl) dX8_isDigit_1) hW (fun x1 s2 H locs rx1 hp3 hW => ?_)
  obtain ⟨es2, hp3⟩ := hp3
  subst es2
  have ghp3 := hp3
  refine x_bipush hx hb dX8_isDigit_4 (by decide) ?_
  refine x_icmp_lt (tgt := 22) hx hb rx1 (by decide) dX8_isDigit_6 (by decide) (fun c4 => ?_) (fun c4 => ?_)
  · skip
    refine x_iconst hx hb dX8_isDigit_22 ?_
    rw [eQ]
    exact x_zret hx hb hr hlk hW (by omega) ⟨rfl, by omega⟩ dX8_isDigit_23
  refine x_aload_n hx hb hl 0 rfl dX8_isDigit_9 rfl ?_
  refine x_goi (x_runV (As := []) hx hb hml hown hT hE hW hl.1 (Or.inl (by decide)) (so_1 h0 g _) rfl cf_X8_sign wq581 wq4 wq600 (c_X8_sign l D g T h0 s0 hW.2.1 p0) ⟨rfl, rfl, ⟨by decide, by decide⟩, ⟨by decide, by decide⟩⟩ rfl rfl (Nat.le_of_ble_eq_true rfl) dX8_isDigit_10) hW (fun x5 s6 H locs rx5 hp7 hW => ?_)
  obtain ⟨es6, hp7⟩ := hp7
  subst es6
  have ghp7 := hp7
  refine x_bipush hx hb dX8_isDigit_13 (by decide) ?_
  refine x_icmp_gt (tgt := 22) hx hb rx5 (by decide) dX8_isDigit_15 (by decide) (fun c8 => ?_) (fun c8 => ?_)
  · skip
    refine x_iconst hx hb dX8_isDigit_22 ?_
    rw [eQ]
    exact x_zret hx hb hr hlk hW (by omega) ⟨rfl, by omega⟩ dX8_isDigit_23
  refine x_iconst hx hb dX8_isDigit_18 ?_
  refine lv_goto (tgt := 23) hx hb dX8_isDigit_19 (by decide) ?_
  rw [eQ]
  exact x_zret hx hb hr hlk hW (by omega) ⟨rfl, by omega⟩ dX8_isDigit_23
set_option maxHeartbeats 4000000 in
set_option maxRecDepth 100000 in
theorem c_X8_byteAt (l : Launch) (D : va_G) (g : xG) (T : Nat × Nat × Nat) (h0 : Nat) (s0 : xS) (hσ : xRR s0) (x : Int) (rx : xR x) (p0 : IC s0) : Met l yX8_byteAt (xws yX8_byteAt cX8_byteAt 2 (some .int)) { frames := 0, cells := 0, slots := 0, locals := 0 } (xP [.ref (h0 + 1), .int (xJ x)] D g T h0 s0) (xQi D g h0 (fun r τ => s0 = τ ∧ ((0 ≤ x ∧ x < s0 1 1 ∧ r = s0 2 x ∧ 0 ≤ r ∧ r ≤ 255) ∨ ((x < 0 ∨ s0 1 1 ≤ x) ∧ r = -1)))) 0 0 (xA h0) := by
  refine x_met hσ (by decide) (Nat.le_of_ble_eq_true rfl) ?_
  intro p e s m args below meth c hx hb hr hml hown hT hlk hnm hE hW ls hl
  have hl : lv_has ls 2 [(0, .ref (h0 + 1)), (1, .int (xJ x))] := hl
  obtain ⟨Q, eQ⟩ : ∃ Q, Q = MQ below (xQi D g h0 (fun r τ => s0 = τ ∧ ((0 ≤ x ∧ x < s0 1 1 ∧ r = s0 2 x ∧ 0 ≤ r ∧ r ≤ 255) ∨ ((x < 0 ∨ s0 1 1 ≤ x) ∧ r = -1)))) args s 0 0 (xA h0) := ⟨_, rfl⟩
  rw [← eQ]
  generalize hHe : ([] : List Loc) = locs at hW ⊢
  obtain ⟨H, eH⟩ : ∃ H, H = s.heap := ⟨_, rfl⟩
  rw [← eH] at hW ⊢
  have k1_1 : s0 1 1 = s0 1 1 := rfl
  refine x_iload_n hx hb hl 1 rfl dX8_byteAt_0 rfl ?_
  refine x_if_lt (tgt := 21) hx hb rx dX8_byteAt_1 (by decide) (fun c1 => ?_) (fun c1 => ?_)
  · skip
    refine x_iconst hx hb dX8_byteAt_21 ?_
    rw [eQ]
    exact x_iret hx hb hr hlk hW (by decide) ⟨rfl, by omega⟩ dX8_byteAt_22
  refine x_iload_n hx hb hl 1 rfl dX8_byteAt_4 rfl ?_
  refine x_aload_n hx hb hl 0 rfl dX8_byteAt_5 rfl ?_
  refine x_get (j := 1) (v := .int (xJ (s0 1 1))) hx hb hown hT hE hW cls_X8 (Or.inl (by decide)) (so_1 h0 g _) (by decide) rfl wq197 dX8_byteAt_6 ?_
  refine x_rd hW (fun x2 ex2 rx2 => ?_)
  have bx2 : 0 ≤ x2 ∧ x2 ≤ 260 := by rw [ex2]; exact IC.t p0
  have fx2 : x2 = s0 1 1 := ex2.trans k1_1
  refine x_icmp_ge (tgt := 21) hx hb rx rx2 dX8_byteAt_9 (by decide) (fun c3 => ?_) (fun c3 => ?_)
  · skip
    refine x_iconst hx hb dX8_byteAt_21 ?_
    rw [eQ]
    exact x_iret hx hb hr hlk hW (by decide) ⟨rfl, by omega⟩ dX8_byteAt_22
  refine x_aload_n hx hb hl 0 rfl dX8_byteAt_12 rfl ?_
  refine x_get (j := 0) (v := .ref (h0 + 2)) hx hb hown hT hE hW cls_X8 (Or.inl (by decide)) (so_1 h0 g _) (by decide) rfl wq196 dX8_byteAt_13 ?_
  refine x_iload_n hx hb hl 1 rfl dX8_byteAt_16 rfl ?_
  refine x_iald hx hb hE hW (Or.inl (by decide)) (sa_2 h0 g _) (by omega) (by decide) dX8_byteAt_17 ?_
  refine x_rd hW (fun x4 ex4 rx4 => ?_)
  have bx4 : 0 ≤ x4 ∧ x4 ≤ 255 := by rw [ex4]; exact IC.by_ p0 _ (by omega) (by omega)
  refine lv_goto (tgt := 22) hx hb dX8_byteAt_18 (by decide) ?_
  rw [eQ]
  exact x_iret hx hb hr hlk hW rx4 ⟨rfl, by omega⟩ dX8_byteAt_22
set_option maxHeartbeats 4000000 in
set_option maxRecDepth 100000 in
theorem c_X8_numberAt (l : Launch) (D : va_G) (g : xG) (T : Nat × Nat × Nat) (h0 : Nat) (s0 : xS) (hσ : xRR s0) (x : Int) (rx : xR x) (hx0 : -1000 ≤ x ∧ x ≤ 1000) (p0 : IC s0) : Met l yX8_numberAt (xws yX8_numberAt cX8_numberAt 4 (some .int)) { frames := 1, cells := 0, slots := 0, locals := 21 } (xP [.ref (h0 + 1), .int (xJ x)] D g T h0 s0) (xQi D g h0 (fun r τ => s0 = τ ∧ (True))) 0 0 (xA h0) := by
  refine x_met hσ (by decide) (Nat.le_of_ble_eq_true rfl) ?_
  intro p e s m args below meth c hx hb hr hml hown hT hlk hnm hE hW ls hl
  have hl : lv_has ls 4 [(0, .ref (h0 + 1)), (1, .int (xJ x))] := hl
  obtain ⟨Q, eQ⟩ : ∃ Q, Q = MQ below (xQi D g h0 (fun r τ => s0 = τ ∧ (True))) args s 0 0 (xA h0) := ⟨_, rfl⟩
  rw [← eQ]
  generalize hHe : ([] : List Loc) = locs at hW ⊢
  obtain ⟨H, eH⟩ : ∃ H, H = s.heap := ⟨_, rfl⟩
  rw [← eH] at hW ⊢
  have k1_1 : s0 1 1 = s0 1 1 := rfl
  refine x_iconst hx hb dX8_numberAt_0 ?_
  refine lv_istore_n (lv' := [(2, .int (xJ 0)), (0, .ref (h0 + 1)), (1, .int (xJ x))]) hx hb dX8_numberAt_1 rfl hl (by decide) rfl (fun ls hl => ?_)
  refine x_iconst hx hb dX8_numberAt_2 ?_
  refine lv_istore_n (lv' := [(3, .int (xJ 0)), (2, .int (xJ 0)), (0, .ref (h0 + 1)), (1, .int (xJ x))]) hx hb dX8_numberAt_3 rfl hl (by decide) rfl (fun ls hl => ?_)
  have L4 : ∀ (fu : Nat) (i2_4 : Int) (i3_4 : Int) (H : Heap) (locs : List Loc) (ls : Array Slot), (xR i2_4) → (xR i3_4) → (0 ≤ i3_4) → (i3_4 ≤ 4) → (4 + 1 - i3_4).toNat < fu → xW D g h0 s H locs s0 → lv_has ls 4 [(0, .ref (h0 + 1)), (1, .int (xJ x)), (2, .int (xJ i2_4)), (3, .int (xJ i3_4))] → W p l e { frames := 1, cells := 0, slots := 0, locals := 21 } s m args below meth c H locs 0 0 Q (F0 m 4 ls []) := by
    intro fu
    induction fu with
    | zero => intro i2_4 i3_4 H locs ls ri2_4 ri3_4 v4_0 v4_1 hm; exact absurd hm (Nat.not_lt_zero _)
    | succ fu ih4 =>
      intro i2_4 i3_4 H locs ls ri2_4 ri3_4 v4_0 v4_1 hm hW hl
      refine x_iload_n hx hb hl 3 rfl dX8_numberAt_4 rfl ?_
      refine x_iconst hx hb dX8_numberAt_5 ?_
      refine x_icmp_ge (tgt := 32) hx hb ri3_4 (by decide) dX8_numberAt_6 (by decide) (fun c1 => ?_) (fun c1 => ?_)
      · skip
        refine x_iload_n hx hb hl 2 rfl dX8_numberAt_32 rfl ?_
        rw [eQ]
        exact x_iret hx hb hr hlk hW ri2_4 ⟨rfl, trivial⟩ dX8_numberAt_33
      refine x_iload_n hx hb hl 2 rfl dX8_numberAt_9 rfl ?_
      refine x_bipush hx hb dX8_numberAt_10 (by decide) ?_
      refine lv_ishl hx hb dX8_numberAt_12 ?_
      refine x_any (fun x2 rx2 => ?_)
      refine x_aload_n hx hb hl 0 rfl dX8_numberAt_13 rfl ?_
      refine x_iload_n hx hb hl 1 rfl dX8_numberAt_14 rfl ?_
      refine x_iload_n hx hb hl 3 rfl dX8_numberAt_15 rfl ?_
      refine x_iadd hx hb dX8_numberAt_16 ?_
      refine x_goi (x_runV (As := [.int (xJ (x + i3_4))]) hx hb hml hown hT hE hW hl.1 (Or.inl (by decide)) (so_1 h0 g _) rfl cf_X8_byteAt wq1084 wq90 wq1171 (c_X8_byteAt l D g T h0 s0 hW.2.1 (x + i3_4) (by omega) p0) ⟨rfl, rfl, ⟨by decide, by decide⟩, ⟨by decide, by decide⟩⟩ rfl rfl (Nat.le_of_ble_eq_true rfl) dX8_numberAt_17) hW (fun x3 s4 H locs rx3 hp5 hW => ?_)
      obtain ⟨es4, hp5⟩ := hp5
      subst es4
      have ghp5 := hp5
      refine x_sipush hx hb dX8_numberAt_20 (by decide) ?_
      refine lv_iand hx hb dX8_numberAt_23 ?_
      refine x_andM255 (fun x6 rx6 qx6 => ?_)
      refine lv_ior hx hb dX8_numberAt_24 ?_
      refine x_any (fun x7 rx7 => ?_)
      refine lv_istore_n (lv' := [(2, .int (xJ x7)), (0, .ref (h0 + 1)), (1, .int (xJ x)), (3, .int (xJ i3_4))]) hx hb dX8_numberAt_25 rfl hl (by decide) rfl (fun ls hl => ?_)
      refine x_iinc (lv' := [(3, .int (xJ (i3_4 + 1))), (2, .int (xJ x7)), (0, .ref (h0 + 1)), (1, .int (xJ x))]) hx hb hl 3 rfl dX8_numberAt_26 (by decide) rfl (fun ls hl => ?_)
      refine lv_goto (tgt := 4) hx hb dX8_numberAt_29 (by decide) ?_
      exact ih4 x7 (i3_4 + 1) H locs ls rx7 (by omega) (by omega) (by omega) (by omega) hW (lv_sub hl [2, 3, 1, 0] rfl)
  exact L4 ((4 + 1 - 0 : Int).toNat + 1) 0 0 H locs ls (by decide) (by decide) (by omega) (by omega) (Nat.lt_succ_self _) hW (lv_sub hl [2, 3, 1, 0] rfl)
set_option maxHeartbeats 4000000 in
set_option maxRecDepth 100000 in
theorem c_X8_drop (l : Launch) (D : va_G) (g : xG) (T : Nat × Nat × Nat) (h0 : Nat) (s0 : xS) (hσ : xRR s0) (p0 : IC s0) : Met l yX8_drop (xws yX8_drop cX8_drop 1 none) { frames := 0, cells := 0, slots := 0, locals := 0 } (xP [.ref (h0 + 1)] D g T h0 s0) (xQv D g h0 (fun τ => xFr (fun k => k = 1) s0 τ ∧ (((IC τ) ∧ (τ 1 1 = 0) ∧ True) ∧ (True)))) 0 0 (xA h0) := by
  refine x_met hσ (by decide) (Nat.le_of_ble_eq_true rfl) ?_
  intro p e s m args below meth c hx hb hr hml hown hT hlk hnm hE hW ls hl
  have hl : lv_has ls 1 [(0, .ref (h0 + 1))] := hl
  obtain ⟨Q, eQ⟩ : ∃ Q, Q = MQ below (xQv D g h0 (fun τ => xFr (fun k => k = 1) s0 τ ∧ (((IC τ) ∧ (τ 1 1 = 0) ∧ True) ∧ (True)))) args s 0 0 (xA h0) := ⟨_, rfl⟩
  rw [← eQ]
  generalize hHe : ([] : List Loc) = locs at hW ⊢
  obtain ⟨H, eH⟩ : ∃ H, H = s.heap := ⟨_, rfl⟩
  rw [← eH] at hW ⊢
  have hF : xFr (fun k => k = 1) s0 s0 := xFr.rf
  refine x_aload_n hx hb hl 0 rfl dX8_drop_0 rfl ?_
  refine x_iconst hx hb dX8_drop_1 ?_
  refine x_put (j := 1) hx hb hown hT hE hW cls_X8 (by decide) (fun σ => so_1 h0 g σ) (by decide) (st_X8_1 h0 s0 1 0) (ln_X8_1 h0 _ _) wq197 rfl rfl rfl (by decide) dX8_drop_2 (fun H locs s1 es1 hW => ?_)
  have q2 : IC s1 := by rw [es1]; exact IC_1 p0 (by omega)
  have q3 : s1 1 1 = 0 := by rw [es1, xU_s]
  have hF4 := hF.put es1 (by omega)
  rw [eQ]
  exact x_vret hx hb hr hlk hW ⟨hF4, ⟨q2, q3, trivial⟩, trivial⟩ dX8_drop_5
set_option maxHeartbeats 4000000 in
set_option maxRecDepth 100000 in
theorem c_X8_open (l : Launch) (D : va_G) (g : xG) (T : Nat × Nat × Nat) (h0 : Nat) (s0 : xS) (hσ : xRR s0) (n : Int) (rn : xR n) (p0 : IC s0) : Met l yX8_open (xws yX8_open cX8_open 2 none) { frames := 1, cells := 0, slots := 0, locals := 14 } (xP [.ref (h0 + 1), .int (xJ n)] D g T h0 s0) (xQv D g h0 (fun τ => xFr (fun k => k = 1) s0 τ ∧ (((IC τ) ∧ (τ 1 1 = s0 1 1) ∧ True) ∧ (True)))) 0 0 (xA h0) := by
  refine x_met hσ (by decide) (Nat.le_of_ble_eq_true rfl) ?_
  intro p e s m args below meth c hx hb hr hml hown hT hlk hnm hE hW ls hl
  have hl : lv_has ls 2 [(0, .ref (h0 + 1)), (1, .int (xJ n))] := hl
  obtain ⟨Q, eQ⟩ : ∃ Q, Q = MQ below (xQv D g h0 (fun τ => xFr (fun k => k = 1) s0 τ ∧ (((IC τ) ∧ (τ 1 1 = s0 1 1) ∧ True) ∧ (True)))) args s 0 0 (xA h0) := ⟨_, rfl⟩
  rw [← eQ]
  generalize hHe : ([] : List Loc) = locs at hW ⊢
  obtain ⟨H, eH⟩ : ∃ H, H = s.heap := ⟨_, rfl⟩
  rw [← eH] at hW ⊢
  have hF : xFr (fun k => k = 1) s0 s0 := xFr.rf
  have k1_1 : s0 1 1 = s0 1 1 := rfl
  refine x_aload_n hx hb hl 0 rfl dX8_open_0 rfl ?_
  refine x_iload_n hx hb hl 1 rfl dX8_open_1 rfl ?_
  refine x_aload_n hx hb hl 0 rfl dX8_open_2 rfl ?_
  refine x_get (j := 1) (v := .int (xJ (s0 1 1))) hx hb hown hT hE hW cls_X8 (Or.inl (by decide)) (so_1 h0 g _) (by decide) rfl wq197 dX8_open_3 ?_
  refine x_rd hW (fun x1 ex1 rx1 => ?_)
  have bx1 : 0 ≤ x1 ∧ x1 ≤ 260 := by rw [ex1]; exact IC.t p0
  have fx1 : x1 = s0 1 1 := ex1.trans k1_1
  refine x_mmin hx hb hml hl.1 hown hT wq568 wq569 wq180 wq570 ⟨by decide, Nat.le_of_ble_eq_true rfl, by decide, by decide⟩ rn rx1 dX8_open_6 ?_
  refine x_nm (fun x2 ex2 => ?_)
  have fx2 : (x2 = n ∧ n ≤ x1) ∨ (x2 = x1 ∧ x1 ≤ n) := by rw [ex2]; split <;> omega
  refine x_put (j := 2) hx hb hown hT hE hW cls_X8 (by decide) (fun σ => so_1 h0 g σ) (by decide) (st_X8_2 h0 s0 1 x2) (ln_X8_2 h0 _ _) wq199 rfl rfl rfl (by omega) dX8_open_9 (fun H locs s3 es3 hW => ?_)
  have q4 : IC s3 := by rw [es3]; exact IC_1 p0 (by omega)
  have q5 : s3 1 1 = s0 1 1 := (show s3 1 1 = s0 1 1 from by rw [es3, xU_j _ _ (by decide)]).trans k1_1
  have hF6 := hF.put es3 (by omega)
  refine x_aload_n hx hb hl 0 rfl dX8_open_12 rfl ?_
  refine x_iconst hx hb dX8_open_13 ?_
  refine x_put (j := 3) hx hb hown hT hE hW cls_X8 (by decide) (fun σ => so_1 h0 g σ) (by decide) (st_X8_3 h0 s3 1 0) (ln_X8_3 h0 _ _) wq200 rfl rfl rfl (by decide) dX8_open_14 (fun H locs s7 es7 hW => ?_)
  have q8 : IC s7 := by rw [es7]; exact IC_1 q4 (by omega)
  have q9 : s7 1 1 = s0 1 1 := (show s7 1 1 = s3 1 1 from by rw [es7, xU_j _ _ (by decide)]).trans q5
  have hF10 := hF6.put es7 (by omega)
  refine x_aload_n hx hb hl 0 rfl dX8_open_17 rfl ?_
  refine x_iconst hx hb dX8_open_18 ?_
  refine x_put (j := 4) hx hb hown hT hE hW cls_X8 (by decide) (fun σ => so_1 h0 g σ) (by decide) (st_X8_4 h0 s7 1 0) (ln_X8_4 h0 _ _) wq204 rfl rfl rfl (by decide) dX8_open_19 (fun H locs s11 es11 hW => ?_)
  have q12 : IC s11 := by rw [es11]; exact IC_1 q8 (by omega)
  have q13 : s11 1 1 = s0 1 1 := (show s11 1 1 = s7 1 1 from by rw [es11, xU_j _ _ (by decide)]).trans q9
  have hF14 := hF10.put es11 (by omega)
  rw [eQ]
  exact x_vret hx hb hr hlk hW ⟨hF14, ⟨q12, q13, trivial⟩, trivial⟩ dX8_open_22
set_option maxHeartbeats 4000000 in
set_option maxRecDepth 100000 in
theorem c_X8_fails (l : Launch) (D : va_G) (g : xG) (T : Nat × Nat × Nat) (h0 : Nat) (s0 : xS) (hσ : xRR s0) (a : Int) (ra : xR a) (b : Int) (rb : xR b) (p0 : IC s0) : Met l yX8_fails (xws yX8_fails cX8_fails 3 (some .boolean)) { frames := 0, cells := 0, slots := 0, locals := 0 } (xP [.ref (h0 + 1), .int (xJ a), .int (xJ b)] D g T h0 s0) (xQi D g h0 (fun r τ => xFr (fun k => k = 1) s0 τ ∧ (((IC τ) ∧ (τ 1 1 = s0 1 1) ∧ True) ∧ (r = 0)))) 0 0 (xA h0) := by
  refine x_met hσ (by decide) (Nat.le_of_ble_eq_true rfl) ?_
  intro p e s m args below meth c hx hb hr hml hown hT hlk hnm hE hW ls hl
  have hl : lv_has ls 3 [(0, .ref (h0 + 1)), (1, .int (xJ a)), (2, .int (xJ b))] := hl
  obtain ⟨Q, eQ⟩ : ∃ Q, Q = MQ below (xQi D g h0 (fun r τ => xFr (fun k => k = 1) s0 τ ∧ (((IC τ) ∧ (τ 1 1 = s0 1 1) ∧ True) ∧ (r = 0)))) args s 0 0 (xA h0) := ⟨_, rfl⟩
  rw [← eQ]
  generalize hHe : ([] : List Loc) = locs at hW ⊢
  obtain ⟨H, eH⟩ : ∃ H, H = s.heap := ⟨_, rfl⟩
  rw [← eH] at hW ⊢
  have hF : xFr (fun k => k = 1) s0 s0 := xFr.rf
  have k1_1 : s0 1 1 = s0 1 1 := rfl
  refine x_aload_n hx hb hl 0 rfl dX8_fails_0 rfl ?_
  refine x_sipush hx hb dX8_fails_1 (by decide) ?_
  refine x_iload_n hx hb hl 1 rfl dX8_fails_4 rfl ?_
  refine x_imul hx hb dX8_fails_5 ?_
  refine x_iload_n hx hb hl 2 rfl dX8_fails_6 rfl ?_
  refine x_isub hx hb dX8_fails_7 ?_
  refine x_any (fun x1 rx1 => ?_)
  refine x_put (j := 4) hx hb hown hT hE hW cls_X8 (by decide) (fun σ => so_1 h0 g σ) (by decide) (st_X8_4 h0 s0 1 x1) (ln_X8_4 h0 _ _) wq204 rfl rfl rfl rx1 dX8_fails_8 (fun H locs s2 es2 hW => ?_)
  have q3 : IC s2 := by rw [es2]; exact IC_1 p0 (by omega)
  have q4 : s2 1 1 = s0 1 1 := (show s2 1 1 = s0 1 1 from by rw [es2, xU_j _ _ (by decide)]).trans k1_1
  have hF5 := hF.put es2 (by omega)
  refine x_iconst hx hb dX8_fails_11 ?_
  rw [eQ]
  exact x_zret hx hb hr hlk hW (by omega) ⟨hF5, ⟨q3, q4, trivial⟩, by omega⟩ dX8_fails_12
set_option maxHeartbeats 4000000 in
set_option maxRecDepth 100000 in
theorem c_X8_passes (l : Launch) (D : va_G) (g : xG) (T : Nat × Nat × Nat) (h0 : Nat) (s0 : xS) (hσ : xRR s0) (a : Int) (ra : xR a) (p0 : IC s0) : Met l yX8_passes (xws yX8_passes cX8_passes 2 (some .boolean)) { frames := 1, cells := 0, slots := 0, locals := 22 } (xP [.ref (h0 + 1), .int (xJ a)] D g T h0 s0) (xQi D g h0 (fun r τ => xFr (fun k => k = 1) s0 τ ∧ (((IC τ) ∧ (τ 1 1 = s0 1 1) ∧ True) ∧ (r = 0 ∨ r = 1)))) 0 0 (xA h0) := by
  refine x_met hσ (by decide) (Nat.le_of_ble_eq_true rfl) ?_
  intro p e s m args below meth c hx hb hr hml hown hT hlk hnm hE hW ls hl
  have hl : lv_has ls 2 [(0, .ref (h0 + 1)), (1, .int (xJ a))] := hl
  obtain ⟨Q, eQ⟩ : ∃ Q, Q = MQ below (xQi D g h0 (fun r τ => xFr (fun k => k = 1) s0 τ ∧ (((IC τ) ∧ (τ 1 1 = s0 1 1) ∧ True) ∧ (r = 0 ∨ r = 1)))) args s 0 0 (xA h0) := ⟨_, rfl⟩
  rw [← eQ]
  generalize hHe : ([] : List Loc) = locs at hW ⊢
  obtain ⟨H, eH⟩ : ∃ H, H = s.heap := ⟨_, rfl⟩
  rw [← eH] at hW ⊢
  have hF : xFr (fun k => k = 1) s0 s0 := xFr.rf
  have k1_1 : s0 1 1 = s0 1 1 := rfl
  refine x_aload_n hx hb hl 0 rfl dX8_passes_0 rfl ?_
  refine x_goi (x_runV (As := []) hx hb hml hown hT hE hW hl.1 (Or.inl (by decide)) (so_1 h0 g _) rfl cf_X8_sign wq581 wq4 wq600 (c_X8_sign l D g T h0 s0 hW.2.1 p0) ⟨rfl, rfl, ⟨by decide, by decide⟩, ⟨by decide, by decide⟩⟩ rfl rfl (Nat.le_of_ble_eq_true rfl) dX8_passes_1) hW (fun x1 s2 H locs rx1 hp3 hW => ?_)
  obtain ⟨es2, hp3⟩ := hp3
  subst es2
  have ghp3 := hp3
  refine x_iload_n hx hb hl 1 rfl dX8_passes_4 rfl ?_
  refine x_icmp_eq (tgt := 18) hx hb rx1 ra dX8_passes_5 (by decide) (fun c4 => ?_) (fun c4 => ?_)
  · skip
    refine x_aload_n hx hb hl 0 rfl dX8_passes_18 rfl ?_
    refine lv_dup hx hb dX8_passes_19 rfl ?_
    refine x_get (j := 3) (v := .int (xJ (s0 1 3))) hx hb hown hT hE hW cls_X8 (Or.inl (by decide)) (so_1 h0 g _) (by decide) rfl wq200 dX8_passes_20 ?_
    refine x_rd hW (fun x5 ex5 rx5 => ?_)
    refine x_iconst hx hb dX8_passes_23 ?_
    refine x_iadd hx hb dX8_passes_24 ?_
    refine x_any (fun x6 rx6 => ?_)
    refine x_put (j := 3) hx hb hown hT hE hW cls_X8 (by decide) (fun σ => so_1 h0 g σ) (by decide) (st_X8_3 h0 s0 1 x6) (ln_X8_3 h0 _ _) wq200 rfl rfl rfl rx6 dX8_passes_25 (fun H locs s7 es7 hW => ?_)
    have q8 : IC s7 := by rw [es7]; exact IC_1 p0 (by omega)
    have q9 : s7 1 1 = s0 1 1 := (show s7 1 1 = s0 1 1 from by rw [es7, xU_j _ _ (by decide)]).trans k1_1
    have hF10 := hF.put es7 (by omega)
    refine x_iconst hx hb dX8_passes_28 ?_
    rw [eQ]
    exact x_zret hx hb hr hlk hW (by omega) ⟨hF10, ⟨q8, q9, trivial⟩, by omega⟩ dX8_passes_29
  refine x_aload_n hx hb hl 0 rfl dX8_passes_8 rfl ?_
  refine x_iconst hx hb dX8_passes_9 ?_
  refine x_aload_n hx hb hl 0 rfl dX8_passes_10 rfl ?_
  refine x_get (j := 3) (v := .int (xJ (s0 1 3))) hx hb hown hT hE hW cls_X8 (Or.inl (by decide)) (so_1 h0 g _) (by decide) rfl wq200 dX8_passes_11 ?_
  refine x_rd hW (fun x11 ex11 rx11 => ?_)
  refine x_goi (x_runV (As := [.int (xJ 1), .int (xJ x11)]) hx hb hml hown hT hE hW hl.1 (Or.inl (by decide)) (so_1 h0 g _) rfl cf_X8_fails wq588 wq5 wq601 (c_X8_fails l D g T h0 s0 hW.2.1 1 (by decide) x11 rx11 p0) ⟨rfl, rfl, ⟨by decide, by decide⟩, ⟨by decide, by decide⟩⟩ rfl rfl (Nat.le_of_ble_eq_true rfl) dX8_passes_14) hW (fun x12 s13 H locs rx12 hp14 hW => ?_)
  obtain ⟨fs13, hp14⟩ := hp14
  have hF15 := hF.call fs13 (fun k h => by omega)
  have ghp14 := hp14.2
  rw [eQ]
  exact x_zret hx hb hr hlk hW (by omega) ⟨hF15, ⟨hp14.1.1, (hp14.1.2.1.trans k1_1), trivial⟩, by omega⟩ dX8_passes_17
set_option maxHeartbeats 4000000 in
set_option maxRecDepth 100000 in
theorem c_X8_putNumber (l : Launch) (D : va_G) (g : xG) (T : Nat × Nat × Nat) (h0 : Nat) (s0 : xS) (hσ : xRR s0) (v : Int) (rv : xR v) (zl : Int) (hz : 0 ≤ zl ∧ zl ≤ 256) (p0 : IC s0) (p1 : s0 1 1 = zl) : Met l yX8_putNumber (xws yX8_putNumber cX8_putNumber 3 none) { frames := 0, cells := 0, slots := 0, locals := 0 } (xP [.ref (h0 + 1), .int (xJ v)] D g T h0 s0) (xQv D g h0 (fun τ => xFr (fun k => k = 1 ∨ k = 2) s0 τ ∧ (((IC τ) ∧ (τ 1 1 = zl + 4) ∧ True) ∧ (τ 2 = xputn (s0 2) zl v 4)))) 0 0 (xA h0) := by
  refine x_met hσ (by decide) (Nat.le_of_ble_eq_true rfl) ?_
  intro p e s m args below meth c hx hb hr hml hown hT hlk hnm hE hW ls hl
  have hl : lv_has ls 3 [(0, .ref (h0 + 1)), (1, .int (xJ v))] := hl
  obtain ⟨Q, eQ⟩ : ∃ Q, Q = MQ below (xQv D g h0 (fun τ => xFr (fun k => k = 1 ∨ k = 2) s0 τ ∧ (((IC τ) ∧ (τ 1 1 = zl + 4) ∧ True) ∧ (τ 2 = xputn (s0 2) zl v 4)))) args s 0 0 (xA h0) := ⟨_, rfl⟩
  rw [← eQ]
  generalize hHe : ([] : List Loc) = locs at hW ⊢
  obtain ⟨H, eH⟩ : ∃ H, H = s.heap := ⟨_, rfl⟩
  rw [← eH] at hW ⊢
  have hF : xFr (fun k => k = 1 ∨ k = 2) s0 s0 := xFr.rf
  refine x_bipush hx hb dX8_putNumber_0 (by decide) ?_
  refine lv_istore_n (lv' := [(2, .int (xJ 24)), (0, .ref (h0 + 1)), (1, .int (xJ v))]) hx hb dX8_putNumber_2 rfl hl (by decide) rfl (fun ls hl => ?_)
  have L3 : ∀ (fu : Nat) (i2_3 : Int) (s_3 : xS) (H : Heap) (locs : List Loc) (ls : Array Slot), (xR i2_3) → (xFr (fun k => k = 1 ∨ k = 2) s0 s_3) → (IC s_3) → (i2_3 % 8 = 0) → (-8 ≤ i2_3 ∧ i2_3 ≤ 24) → (s_3 1 1 = zl + 3 - i2_3 / 8) → (s_3 2 = xputn (s0 2) zl v (s_3 1 1 - zl)) → (i2_3 + 8).toNat < fu → xW D g h0 s H locs s_3 → lv_has ls 3 [(0, .ref (h0 + 1)), (1, .int (xJ v)), (2, .int (xJ i2_3))] → W p l e { frames := 0, cells := 0, slots := 0, locals := 0 } s m args below meth c H locs 0 0 Q (F0 m 3 ls []) := by
    intro fu
    induction fu with
    | zero => intro i2_3 s_3 H locs ls ri2_3 hF_3 q3_0 v3_0 v3_1 v3_2 v3_3 hm; exact absurd hm (Nat.not_lt_zero _)
    | succ fu ih3 =>
      intro i2_3 s_3 H locs ls ri2_3 hF_3 q3_0 v3_0 v3_1 v3_2 v3_3 hm hW hl
      refine x_iload_n hx hb hl 2 rfl dX8_putNumber_3 rfl ?_
      refine x_if_lt (tgt := 56) hx hb ri2_3 dX8_putNumber_4 (by decide) (fun c1 => ?_) (fun c1 => ?_)
      · skip
        rw [eQ]
        exact x_vret hx hb hr hlk hW ⟨hF_3, ⟨q3_0, (by omega), trivial⟩, v3_3.trans (xputn_c (by omega))⟩ dX8_putNumber_56
      refine x_aload_n hx hb hl 0 rfl dX8_putNumber_7 rfl ?_
      refine x_get (j := 1) (v := .int (xJ (s_3 1 1))) hx hb hown hT hE hW cls_X8 (Or.inl (by decide)) (so_1 h0 g _) (by decide) rfl wq197 dX8_putNumber_8 ?_
      refine x_rd hW (fun x2 ex2 rx2 => ?_)
      have bx2 : 0 ≤ x2 ∧ x2 ≤ 260 := by rw [ex2]; exact IC.t q3_0
      have q3 : s_3 1 1 = x2 := ex2.symm
      refine x_if_lt (tgt := 50) hx hb rx2 dX8_putNumber_11 (by decide) (fun c4 => False.elim (by omega)) (fun c4 => ?_)
      refine x_aload_n hx hb hl 0 rfl dX8_putNumber_14 rfl ?_
      refine x_get (j := 1) (v := .int (xJ (s_3 1 1))) hx hb hown hT hE hW cls_X8 (Or.inl (by decide)) (so_1 h0 g _) (by decide) rfl wq197 dX8_putNumber_15 ?_
      refine x_rd hW (fun x5 ex5 rx5 => ?_)
      have bx5 : 0 ≤ x5 ∧ x5 ≤ 260 := by rw [ex5]; exact IC.t q3_0
      have fx5 : x5 = x2 := ex5.trans q3
      refine x_sipush hx hb dX8_putNumber_18 (by decide) ?_
      refine x_icmp_ge (tgt := 50) hx hb rx5 (by decide) dX8_putNumber_21 (by decide) (fun c6 => False.elim (by omega)) (fun c6 => ?_)
      refine x_aload_n hx hb hl 0 rfl dX8_putNumber_24 rfl ?_
      refine x_get (j := 0) (v := .ref (h0 + 2)) hx hb hown hT hE hW cls_X8 (Or.inl (by decide)) (so_1 h0 g _) (by decide) rfl wq196 dX8_putNumber_25 ?_
      refine x_aload_n hx hb hl 0 rfl dX8_putNumber_28 rfl ?_
      refine x_get (j := 1) (v := .int (xJ (s_3 1 1))) hx hb hown hT hE hW cls_X8 (Or.inl (by decide)) (so_1 h0 g _) (by decide) rfl wq197 dX8_putNumber_29 ?_
      refine x_rd hW (fun x7 ex7 rx7 => ?_)
      have bx7 : 0 ≤ x7 ∧ x7 ≤ 260 := by rw [ex7]; exact IC.t q3_0
      have fx7 : x7 = x2 := ex7.trans q3
      refine x_iload_n hx hb hl 1 rfl dX8_putNumber_32 rfl ?_
      refine x_iload_n hx hb hl 2 rfl dX8_putNumber_33 rfl ?_
      refine x_shr hx hb rv (by omega) dX8_putNumber_34 (fun x8 ex8 rx8 => ?_)
      refine x_sipush hx hb dX8_putNumber_35 (by decide) ?_
      refine x_and8 hx hb rx8 dX8_putNumber_38 ?_
      refine x_nm (fun x9 ex9 => ?_)
      refine x_iast hx hb hE hW (by decide) (fun σ => sa_2 h0 g σ) (by omega) (by decide) (by omega) dX8_putNumber_39 (fun H locs s10 es10 hW => ?_)
      have q11 : IC s10 := by rw [es10]; exact IC_2 q3_0 (by omega)
      have q12 : s10 1 1 = x2 := (show s10 1 1 = s_3 1 1 from by rw [es10, xU_k _ _ _ (by omega)]).trans q3
      have hF13 := hF_3.put es10 (by omega)
      have A39 : s10 2 = xputn (s0 2) zl v (x7 - zl + 1) := by rw [es10, xU_xud]; exact xput_step (l := i2_3) (v3_3.trans (xputn_c (by omega))) (by omega) (by omega) (by omega)
      refine x_aload_n hx hb hl 0 rfl dX8_putNumber_40 rfl ?_
      refine lv_dup hx hb dX8_putNumber_41 rfl ?_
      refine x_get (j := 1) (v := .int (xJ (s10 1 1))) hx hb hown hT hE hW cls_X8 (Or.inl (by decide)) (so_1 h0 g _) (by decide) rfl wq197 dX8_putNumber_42 ?_
      refine x_rd hW (fun x14 ex14 rx14 => ?_)
      have bx14 : 0 ≤ x14 ∧ x14 ≤ 260 := by rw [ex14]; exact IC.t q11
      have fx14 : x14 = x2 := ex14.trans q12
      refine x_iconst hx hb dX8_putNumber_45 ?_
      refine x_iadd hx hb dX8_putNumber_46 ?_
      refine x_put (j := 1) hx hb hown hT hE hW cls_X8 (by decide) (fun σ => so_1 h0 g σ) (by decide) (st_X8_1 h0 s10 1 (x14 + 1)) (ln_X8_1 h0 _ _) wq197 rfl rfl rfl (by omega) dX8_putNumber_47 (fun H locs s15 es15 hW => ?_)
      have q16 : IC s15 := by rw [es15]; exact IC_1 q11 (by omega)
      have q17 : s15 1 1 = (x14 + 1) := by rw [es15, xU_s]
      have hF18 := hF13.put es15 (by omega)
      refine x_iinc (lv' := [(2, .int (xJ (i2_3 + (-8)))), (0, .ref (h0 + 1)), (1, .int (xJ v))]) hx hb hl 2 rfl dX8_putNumber_50 (by decide) rfl (fun ls hl => ?_)
      refine lv_goto (tgt := 3) hx hb dX8_putNumber_53 (by decide) ?_
      exact ih3 (i2_3 + (-8)) s15 H locs ls (by omega) hF18 q16 (by omega) (by omega) (by rw [q17]; omega) (by rw [es15, xU_k _ _ _ (by omega), xU_s, A39]; exact xputn_c (by omega)) (by omega) hW (lv_sub hl [1, 2, 0] rfl)
  exact L3 ((24 + 8 : Int).toNat + 1) 24 s0 H locs ls (by decide) hF p0 (by omega) (by omega) (by rw [p1]; omega) (((xputn_c (by omega)).trans (xputn_0 _ _ _)).symm) (Nat.lt_succ_self _) hW (lv_sub hl [1, 2, 0] rfl)
